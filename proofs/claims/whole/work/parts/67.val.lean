/-! What the small methods answer. -/
theorem nlt_T {a b : Nat} (h : a < b) : (a < b) = True := eq_true h
theorem nlt_F {a b : Nat} (h : b ≤ a) : (a < b) = False := eq_false (Nat.not_lt.mpr h)
theorem nle_T {a b : Nat} (h : a ≤ b) : (a ≤ b) = True := eq_true h
theorem nle_F {a b : Nat} (h : b < a) : (a ≤ b) = False := eq_false (Nat.not_le.mpr h)
theorem neq_T {a b : Nat} (h : a = b) : (a = b) = True := eq_true h
theorem neq_F {a b : Nat} (h : a ≠ b) : (a = b) = False := eq_false h
theorem nI_eqI {a b : Nat} (ha : a < 2 ^ 31) (hb : b < 2 ^ 31) : (nI a = nI b) = (a = b) := propext (nI_eq ha hb)
theorem ng_toInt {k : Nat} (h : k < 2 ^ 31) : (-nI k).toInt = -(k : Int) := sb_negT h
theorem ng_lt {j k : Nat} (h0 : 0 < k) (h : k < 2 ^ 31) (hj : j < 2 ^ 31) : (-nI k < nI j) = True := by
  refine eq_true ?_
  rw [x_lt, ng_toInt h, nI_toInt hj]
  omega
theorem ng_tl {j k : Nat} (h0 : 0 < k) (h : k < 2 ^ 31) (hj : j < 2 ^ 31) : (nI j < -nI k) = False := by
  refine eq_false ?_
  rw [x_lt, ng_toInt h, nI_toInt hj]
  omega
theorem ng_el {j k : Nat} (h0 : 0 < k) (h : k < 2 ^ 31) (hj : j < 2 ^ 31) : (nI j ≤ -nI k) = False := by
  refine eq_false ?_
  rw [x_le, ng_toInt h, nI_toInt hj]
  omega
theorem ng_le {j k : Nat} (h0 : 0 < k) (h : k < 2 ^ 31) (hj : j < 2 ^ 31) : (-nI k ≤ nI j) = True := by
  refine eq_true ?_
  rw [x_le, ng_toInt h, nI_toInt hj]
  omega
theorem ng_eq {j k : Nat} (h0 : 0 < k) (h : k < 2 ^ 31) (hj : j < 2 ^ 31) : (-nI k = nI j) = False := by
  refine eq_false ?_
  rw [x_eq, ng_toInt h, nI_toInt hj]
  omega
theorem ng_qe {j k : Nat} (h0 : 0 < k) (h : k < 2 ^ 31) (hj : j < 2 ^ 31) : (nI j = -nI k) = False := by
  refine eq_false ?_
  rw [x_eq, ng_toInt h, nI_toInt hj]
  omega
theorem x_ix6 (x : Int32) : (∃ j : Nat, j < 6 ∧ x = nI j) ∨ ¬ (0 ≤ x ∧ x < 6) := x_ix x (n := 6) (by decide)
theorem x_ix8 (x : Int32) : (∃ j : Nat, j < 8 ∧ x = nI j) ∨ ¬ (0 ≤ x ∧ x < 8) := x_ix x (n := 8) (by decide)
theorem x_ixN (x : Int32) (n : Nat) (hn : n < 2 ^ 31) : (∃ j : Nat, j < n ∧ x = nI j) ∨ ¬ (0 ≤ x ∧ x < nI n) := x_ix x hn
theorem ev_within {x a b : Int32} {u : qM} {P : Int32 → qM → Prop} : Ev (f_X10_within x a b u) P ↔ P (if a ≤ x ∧ x ≤ b then 1 else 0) u := by
  simp only [eu_X10_within, ev_jn, ev_if, ev_ck, ev_so, q_b0, q_b1, true_and]
  by_cases h1 : x < a
  · rw [if_pos h1, if_neg (fun q => x_nle.mpr h1 q.1)]
  · rw [if_neg h1]
    by_cases h2 : b < x
    · rw [if_pos h2, if_neg (fun q => x_nle.mpr h2 q.2)]
    · rw [if_neg h2, if_pos ⟨x_nlt.mp h1, x_nlt.mp h2⟩]
theorem ev_in {x a b : Int32} {u : qM} {P : Int32 → qM → Prop} : Ev (f_X11_in x a b u) P ↔ P (if a ≤ x ∧ x ≤ b then 1 else 0) u := by
  simp only [eu_X11_in, ev_jn, ev_if, ev_ck, ev_so, q_b0, q_b1, true_and]
  by_cases h1 : x < a
  · rw [if_pos h1, if_neg (fun q => x_nle.mpr h1 q.1)]
  · rw [if_neg h1]
    by_cases h2 : b < x
    · rw [if_pos h2, if_neg (fun q => x_nle.mpr h2 q.2)]
    · rw [if_neg h2, if_pos ⟨x_nlt.mp h1, x_nlt.mp h2⟩]
theorem ev_rng {x n : Int32} {u : qM} {P : Int32 → qM → Prop} : (if x < 0 then P 0 u else if n ≤ x then P 0 u else P 1 u) ↔ P (if 0 ≤ x ∧ x < n then 1 else 0) u := by
  by_cases h1 : x < 0
  · rw [if_pos h1, if_neg (fun q => x_nle.mpr h1 q.1)]
  · rw [if_neg h1]
    by_cases h2 : n ≤ x
    · rw [if_pos h2, if_neg (fun q => x_nlt.mpr h2 q.2)]
    · rw [if_neg h2, if_pos ⟨x_nlt.mp h1, x_nle.mp h2⟩]
theorem ev_isBoard {x : Int32} {u : qM} {P : Int32 → qM → Prop} : Ev (f_X10_isBoard x u) P ↔ P (if 0 ≤ x ∧ x < 6 then 1 else 0) u := by
  simp only [eu_X10_isBoard, ev_jn, ev_if, ev_ck, ev_so, q_b0, q_b1, true_and]
  exact ev_rng
theorem ev_isGauge {x : Int32} {u : qM} {P : Int32 → qM → Prop} : Ev (f_X10_isGauge x u) P ↔ P (if 0 ≤ x ∧ x < 8 then 1 else 0) u := by
  simp only [eu_X10_isGauge, ev_jn, ev_if, ev_ck, ev_so, q_b0, q_b1, true_and]
  exact ev_rng
theorem ev_isNumber {k : Nat} {x : Int32} {u : qM} {P : Int32 → qM → Prop} (hk : k < 2) : Ev (f_X7_isNumber k x u) P ↔ P (if 0 ≤ x ∧ x < 6 then 1 else 0) u := by
  have e : Int32.ofNat (q_slen k) = 6 := by
    unfold q_slen
    rw [if_neg (by omega)]
    rfl
  simp only [eu_X7_isNumber, ev_jn, ev_if, ev_ck, ev_so, q_b0, q_b1, true_and, e]
  exact ev_rng
theorem x_le5 {x : Int32} : (0 ≤ x ∧ x ≤ 5) = (0 ≤ x ∧ x < 6) := by
  have h5 : (5 : Int32).toInt = 5 := by decide +kernel
  have h6 : (6 : Int32).toInt = 6 := by decide +kernel
  rw [x_le x 5, x_lt x 6, h5, h6]
  refine propext ⟨fun h => ⟨h.1, by omega⟩, fun h => ⟨h.1, by omega⟩⟩
theorem x_le7 {x : Int32} : (0 ≤ x ∧ x ≤ 7) = (0 ≤ x ∧ x < 8) := by
  have h5 : (7 : Int32).toInt = 7 := by decide +kernel
  have h6 : (8 : Int32).toInt = 8 := by decide +kernel
  rw [x_le x 7, x_lt x 8, h5, h6]
  refine propext ⟨fun h => ⟨h.1, by omega⟩, fun h => ⟨h.1, by omega⟩⟩
theorem b01 {c : Prop} [Decidable c] : q_b (if c then 1 else 0) = true := by
  by_cases h : c
  · rw [if_pos h]; exact q_b1
  · rw [if_neg h]; exact q_b0
theorem ev_isSix {x : Int32} {u : qM} {P : Int32 → qM → Prop} : Ev (f_X11_isSix x u) P ↔ P (if 0 ≤ x ∧ x < 6 then 1 else 0) u := by
  simp only [eu_X11_isSix, ev_bd, ev_in, ev_ck, ev_so, b01, true_and, x_le5]
theorem ev_isEight {x : Int32} {u : qM} {P : Int32 → qM → Prop} : Ev (f_X11_isEight x u) P ↔ P (if 0 ≤ x ∧ x < 8 then 1 else 0) u := by
  simp only [eu_X11_isEight, ev_bd, ev_in, ev_ck, ev_so, b01, true_and, x_le7]
/-! A finding is noted. -/
def mF (k : Nat) (μ : qM) : qM := q_si (q_si μ 0 0 16 (nI k)) 36 0 k (μ.1 36 0 k + 1)
def mM (k : Nat) (μ : qM) : qM := q_si (q_si μ 11 0 0 (nI k)) 61 0 k (μ.1 61 0 k + 1)
theorem mF_k {k a : Nat} {μ : qM} (h : a ≠ 0) (h2 : a ≠ 36) : (mF k μ).1 a = μ.1 a := (si_k h2).trans (si_k h)
theorem mF_2 {k : Nat} {μ : qM} : (mF k μ).2 = μ.2 := rfl
theorem mM_k {k a : Nat} {μ : qM} (h : a ≠ 11) (h2 : a ≠ 61) : (mM k μ).1 a = μ.1 a := (si_k h2).trans (si_k h)
theorem mM_2 {k : Nat} {μ : qM} : (mM k μ).2 = μ.2 := rfl
theorem mM_11 {k s : Nat} {μ : qM} (h : s ≠ 0) : (mM k μ).1 11 0 s = μ.1 11 0 s := by
  unfold mM
  rw [si_k (by decide), si_s h]
theorem mF_0 {k s : Nat} {μ : qM} (h : s ≠ 16) : (mF k μ).1 0 0 s = μ.1 0 0 s := by
  unfold mF
  rw [si_k (by decide), si_s h]
theorem ev_foundN {k : Nat} {u : qM} {P : Int32 → qM → Prop} (hk : k < 6) : Ev (f_X10_found (nI k) u) P ↔ P (-3) (mF k u) := by
  simp only [eu_X10_found, ev_lt, ev_ck, ev_so, q_inT (j := k) (N := 6) (by omega) (by omega), true_and, nI_clamp (n := k) (by omega), si_k (show (36 : Nat) ≠ 0 by decide)]
  exact Iff.rfl
theorem ev_meetsN {k : Nat} {u : qM} {P : Int32 → qM → Prop} (hk : k < 6) : Ev (f_X11_meets (nI k) u) P ↔ P (-3) (mM k u) := by
  simp only [eu_X11_meets, ev_lt, ev_ck, ev_so, q_inT (j := k) (N := 6) (by omega) (by omega), true_and, nI_clamp (n := k) (by omega), si_k (show (61 : Nat) ≠ 11 by decide)]
  exact Iff.rfl
theorem ev_found_1 {u : qM} {P : Int32 → qM → Prop} : Ev (f_X10_found 1 u) P ↔ P (-3) (mF 1 u) := ev_foundN (k := 1) (by decide)
theorem ev_meets_1 {u : qM} {P : Int32 → qM → Prop} : Ev (f_X11_meets 1 u) P ↔ P (-3) (mM 1 u) := ev_meetsN (k := 1) (by decide)
theorem ev_found_2 {u : qM} {P : Int32 → qM → Prop} : Ev (f_X10_found 2 u) P ↔ P (-3) (mF 2 u) := ev_foundN (k := 2) (by decide)
theorem ev_meets_2 {u : qM} {P : Int32 → qM → Prop} : Ev (f_X11_meets 2 u) P ↔ P (-3) (mM 2 u) := ev_meetsN (k := 2) (by decide)
theorem ev_found_3 {u : qM} {P : Int32 → qM → Prop} : Ev (f_X10_found 3 u) P ↔ P (-3) (mF 3 u) := ev_foundN (k := 3) (by decide)
theorem ev_meets_3 {u : qM} {P : Int32 → qM → Prop} : Ev (f_X11_meets 3 u) P ↔ P (-3) (mM 3 u) := ev_meetsN (k := 3) (by decide)
theorem ev_found_4 {u : qM} {P : Int32 → qM → Prop} : Ev (f_X10_found 4 u) P ↔ P (-3) (mF 4 u) := ev_foundN (k := 4) (by decide)
theorem ev_meets_4 {u : qM} {P : Int32 → qM → Prop} : Ev (f_X11_meets 4 u) P ↔ P (-3) (mM 4 u) := ev_meetsN (k := 4) (by decide)
theorem ev_found_5 {u : qM} {P : Int32 → qM → Prop} : Ev (f_X10_found 5 u) P ↔ P (-3) (mF 5 u) := ev_foundN (k := 5) (by decide)
theorem ev_meets_5 {u : qM} {P : Int32 → qM → Prop} : Ev (f_X11_meets 5 u) P ↔ P (-3) (mM 5 u) := ev_meetsN (k := 5) (by decide)
/-- nothing changed -/
theorem Rel.succ {n : Nat} {μ : qM} (h : Rel n μ) : Rel (n + 1) μ := by
  obtain ⟨h0, h1, h2, h3, h4, h5, h6, h7, h8⟩ := h
  exact ⟨h0, h1, h2, R3_ext (Nat.le_succ n) (fun _ _ => rfl) (fun _ _ => rfl) (fun _ _ => rfl) (fun _ _ => rfl) (fun _ _ => rfl) (fun _ _ => rfl) rfl rfl rfl (fun _ _ => rfl) (fun _ _ => rfl) h3, h4, h5, h6, h7, h8⟩
theorem cB_mF {k b : Nat} {μ : qM} : cB (mF k μ) b = cB μ b := (cB_o (by decide)).trans (cB_o (by decide))
theorem mB_mF {k b : Nat} {μ : qM} : mB (mF k μ) b = mB μ b := (mB_o (by decide)).trans (mB_o (by decide))
theorem cB_mM {k b : Nat} {μ : qM} : cB (mM k μ) b = cB μ b := (cB_o (by decide)).trans (cB_o (by decide))
theorem mB_mM {k b : Nat} {μ : qM} : mB (mM k μ) b = mB μ b := (mB_o (by decide)).trans (mB_o (by decide))
theorem Rel.met {n k : Nat} {μ : qM} (h : Rel n μ) : Rel (n + 1) (mM k (mF k μ)) := by
  obtain ⟨h0, h1, h2, h3, h4, h5, h6, h7, h8⟩ := h.succ
  have e : ∀ a, a ≠ 0 → a ≠ 36 → a ≠ 11 → a ≠ 61 → (mM k (mF k μ)).1 a = μ.1 a := fun a q1 q2 q3 q4 => (mM_k q3 q4).trans (mF_k q1 q2)
  have ec : ∀ b, b < 6 → cB (mM k (mF k μ)) b = cB μ b := fun b _ => cB_mM.trans cB_mF
  have em : ∀ b, b < 6 → mB (mM k (mF k μ)) b = mB μ b := fun b _ => mB_mM.trans mB_mF
  have e11 : ∀ s, s ≠ 0 → (mM k (mF k μ)).1 11 0 s = μ.1 11 0 s := fun s q => (mM_11 q).trans (by rw [mF_k (by decide) (by decide)])
  have e0 : ∀ s, s ≠ 16 → (mM k (mF k μ)).1 0 0 s = μ.1 0 0 s := fun s q => by rw [mM_k (by decide) (by decide)]; exact mF_0 q
  have g : ∀ a, a ≠ 0 → a ≠ 36 → a ≠ 11 → a ≠ 61 → ∀ b, (mM k (mF k μ)).1 a b = μ.1 a b := fun a q1 q2 q3 q4 b => by rw [e a q1 q2 q3 q4]
  refine ⟨?_, R1_ext (g 33 (by decide) (by decide) (by decide) (by decide) 0) (e 66 (by decide) (by decide) (by decide) (by decide)) (e 67 (by decide) (by decide) (by decide) (by decide)) (e 30 (by decide) (by decide) (by decide) (by decide)) h1, R2_ext (g 33 (by decide) (by decide) (by decide) (by decide) 1) (e 69 (by decide) (by decide) (by decide) (by decide)) (e 70 (by decide) (by decide) (by decide) (by decide)) (e 31 (by decide) (by decide) (by decide) (by decide)) h2, ?_, ?_, ?_, ?_, ?_, ?_⟩
  · obtain ⟨a1, a2, a3, a4, a5⟩ := h0
    refine ⟨?_, ?_, a3, a4, fun i hi => ?_⟩
    · rw [e11 2 (by decide), e0 15 (by decide)]
      exact a1
    · unfold mM mF
      rw [si_k (by decide), si_e, si_k (by decide), si_k (by decide), si_k (by decide), si_e]
    · have e1 : (mF k μ).1 61 = μ.1 61 := mF_k (by decide) (by decide)
      have e2 : (mM k (mF k μ)).1 61 0 i = if i = k then μ.1 61 0 k + 1 else μ.1 61 0 i := by
        show (q_si (q_si (mF k μ) 11 0 0 (nI k)) 61 0 k ((mF k μ).1 61 0 k + 1)).1 61 0 i = _
        rw [si_c, si_k (by decide), e1]
      have e3 : (mM k (mF k μ)).1 36 0 i = if i = k then μ.1 36 0 k + 1 else μ.1 36 0 i := by
        rw [mM_k (by decide) (by decide)]
        show (q_si (q_si μ 0 0 16 (nI k)) 36 0 k (μ.1 36 0 k + 1)).1 36 0 i = _
        rw [si_c, si_k (by decide)]
      rw [e2, e3]
      by_cases hik : i = k
      · subst hik
        rw [if_pos rfl, if_pos rfl, a5 i hi]
      · rw [if_neg hik, if_neg hik, a5 i hi]
  · exact R3_ext (Nat.le_refl _) ec em (fun b _ => by rw [e 2 (by decide) (by decide) (by decide) (by decide)]) (fun b _ => by rw [e 5 (by decide) (by decide) (by decide) (by decide)]) (fun b _ => by rw [e 45 (by decide) (by decide) (by decide) (by decide)]) (fun b _ => by rw [e 46 (by decide) (by decide) (by decide) (by decide)]) (e 96 (by decide) (by decide) (by decide) (by decide)) (e 97 (by decide) (by decide) (by decide) (by decide)) (e 98 (by decide) (by decide) (by decide) (by decide)) (fun s _ => by rw [e 99 (by decide) (by decide) (by decide) (by decide)]) (fun s _ => by rw [e 100 (by decide) (by decide) (by decide) (by decide)]) h3
  · exact R4_ext ec (fun b _ => by rw [e 2 (by decide) (by decide) (by decide) (by decide)]) (fun b _ => by rw [e 5 (by decide) (by decide) (by decide) (by decide)]) h4
  · exact R5_ext ec (fun b _ => by rw [e 2 (by decide) (by decide) (by decide) (by decide)]) (e 8 (by decide) (by decide) (by decide) (by decide)) (e 105 (by decide) (by decide) (by decide) (by decide)) (e 106 (by decide) (by decide) (by decide) (by decide)) (e 107 (by decide) (by decide) (by decide) (by decide)) h5
  · exact R6_ext ec (fun b _ => by rw [e 2 (by decide) (by decide) (by decide) (by decide)]) (e 9 (by decide) (by decide) (by decide) (by decide)) (e 52 (by decide) (by decide) (by decide) (by decide)) (e 53 (by decide) (by decide) (by decide) (by decide)) (e 108 (by decide) (by decide) (by decide) (by decide)) (e 109 (by decide) (by decide) (by decide) (by decide)) (e 110 (by decide) (by decide) (by decide) (by decide)) (e 111 (by decide) (by decide) (by decide) (by decide)) (e 112 (by decide) (by decide) (by decide) (by decide)) h6
  · exact R7_ext (e0 14 (by decide)) (e11 61 (by decide)) (g 33 (by decide) (by decide) (by decide) (by decide) 2) (e 122 (by decide) (by decide) (by decide) (by decide)) (e 123 (by decide) (by decide) (by decide) (by decide)) (e 32 (by decide) (by decide) (by decide) (by decide)) (e 34 (by decide) (by decide) (by decide) (by decide)) (e 124 (by decide) (by decide) (by decide) (by decide)) h7
  · exact R8_ext (g 10 (by decide) (by decide) (by decide) (by decide) 0) (e11 55 (by decide)) (e11 56 (by decide)) (e11 57 (by decide)) rfl rfl h8
