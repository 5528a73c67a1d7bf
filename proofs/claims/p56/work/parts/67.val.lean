theorem nlt_T {a b : Nat} (h : a < b) : (a < b) = True := eq_true h
theorem nlt_F {a b : Nat} (h : b ≤ a) : (a < b) = False := eq_false (Nat.not_lt.mpr h)
theorem nle_T {a b : Nat} (h : a ≤ b) : (a ≤ b) = True := eq_true h
theorem nle_F {a b : Nat} (h : b < a) : (a ≤ b) = False := eq_false (Nat.not_le.mpr h)
theorem neq_T {a b : Nat} (h : a = b) : (a = b) = True := eq_true h
theorem neq_F {a b : Nat} (h : a ≠ b) : (a = b) = False := eq_false h
theorem nI_eqI {a b : Nat} (ha : a < 2 ^ 31) (hb : b < 2 ^ 31) : (nI a = nI b) = (a = b) := propext (nI_eq ha hb)
theorem ng_toInt {k : Nat} (h : k < 2 ^ 31) : (-nI k).toInt = -(k : Int) := sb_negT h
theorem ng_lt {j k : Nat} (h0 : 0 < k) (h : k < 2 ^ 31) (hj : j < 2 ^ 31) : (-nI k < nI j) = True := by
  refine eq_true ?_
  rw [x_lt, ng_toInt h, nI_toInt hj]
  omega
theorem ng_tl {j k : Nat} (h0 : 0 < k) (h : k < 2 ^ 31) (hj : j < 2 ^ 31) : (nI j < -nI k) = False := by
  refine eq_false ?_
  rw [x_lt, ng_toInt h, nI_toInt hj]
  omega
theorem ng_el {j k : Nat} (h0 : 0 < k) (h : k < 2 ^ 31) (hj : j < 2 ^ 31) : (nI j ≤ -nI k) = False := by
  refine eq_false ?_
  rw [x_le, ng_toInt h, nI_toInt hj]
  omega
theorem ng_le {j k : Nat} (h0 : 0 < k) (h : k < 2 ^ 31) (hj : j < 2 ^ 31) : (-nI k ≤ nI j) = True := by
  refine eq_true ?_
  rw [x_le, ng_toInt h, nI_toInt hj]
  omega
theorem ng_eq {j k : Nat} (h0 : 0 < k) (h : k < 2 ^ 31) (hj : j < 2 ^ 31) : (-nI k = nI j) = False := by
  refine eq_false ?_
  rw [x_eq, ng_toInt h, nI_toInt hj]
  omega
theorem ng_qe {j k : Nat} (h0 : 0 < k) (h : k < 2 ^ 31) (hj : j < 2 ^ 31) : (nI j = -nI k) = False := by
  refine eq_false ?_
  rw [x_eq, ng_toInt h, nI_toInt hj]
  omega
theorem x_ix6 (x : Int32) : (∃ j : Nat, j < 6 ∧ x = nI j) ∨ ¬ (0 ≤ x ∧ x < 6) := x_ix x (n := 6) (by decide)
theorem ev_within {x a b : Int32} {u : qM} {P : Int32 → qM → Prop} : Ev (f_X10_within x a b u) P ↔ P (if a ≤ x ∧ x ≤ b then 1 else 0) u := by
  simp only [eu_X10_within, ev_jn, ev_if, ev_ck, ev_so, q_b0, q_b1, true_and]
  by_cases h1 : x < a
  · rw [if_pos h1, if_neg (fun q => x_nle.mpr h1 q.1)]
  · rw [if_neg h1]
    by_cases h2 : b < x
    · rw [if_pos h2, if_neg (fun q => x_nle.mpr h2 q.2)]
    · rw [if_neg h2, if_pos ⟨x_nlt.mp h1, x_nlt.mp h2⟩]
theorem ev_rng {x n : Int32} {u : qM} {P : Int32 → qM → Prop} : (if x < 0 then P 0 u else if n ≤ x then P 0 u else P 1 u) ↔ P (if 0 ≤ x ∧ x < n then 1 else 0) u := by
  by_cases h1 : x < 0
  · rw [if_pos h1, if_neg (fun q => x_nle.mpr h1 q.1)]
  · rw [if_neg h1]
    by_cases h2 : n ≤ x
    · rw [if_pos h2, if_neg (fun q => x_nlt.mpr h2 q.2)]
    · rw [if_neg h2, if_pos ⟨x_nlt.mp h1, x_nle.mp h2⟩]
theorem ev_isBoard {x : Int32} {u : qM} {P : Int32 → qM → Prop} : Ev (f_X10_isBoard x u) P ↔ P (if 0 ≤ x ∧ x < 6 then 1 else 0) u := by
  simp only [eu_X10_isBoard, ev_jn, ev_if, ev_ck, ev_so, q_b0, q_b1, true_and]
  exact ev_rng
theorem ev_isNumber {k : Nat} {x : Int32} {u : qM} {P : Int32 → qM → Prop} (hk : k < 2) : Ev (f_X7_isNumber k x u) P ↔ P (if 0 ≤ x ∧ x < 6 then 1 else 0) u := by
  have e : Int32.ofNat (q_slen k) = 6 := by
    unfold q_slen
    rw [if_neg (by omega)]
    rfl
  simp only [eu_X7_isNumber, ev_jn, ev_if, ev_ck, ev_so, q_b0, q_b1, true_and, e]
  exact ev_rng
theorem b01 {c : Prop} [Decidable c] : q_b (if c then 1 else 0) = true := by
  by_cases h : c
  · rw [if_pos h]; exact q_b1
  · rw [if_neg h]; exact q_b0
def mF (k : Nat) (μ : qM) : qM := q_si (q_si μ 0 0 16 (nI k)) 36 0 k (μ.1 36 0 k + 1)
theorem mF_k {k a : Nat} {μ : qM} (h : a ≠ 0) (h2 : a ≠ 36) : (mF k μ).1 a = μ.1 a := (si_k h2).trans (si_k h)
theorem mF_2 {k : Nat} {μ : qM} : (mF k μ).2 = μ.2 := rfl
theorem mF_0 {k s : Nat} {μ : qM} (h : s ≠ 16) : (mF k μ).1 0 0 s = μ.1 0 0 s := by
  unfold mF
  rw [si_k (by decide), si_s h]
theorem ev_foundN {k : Nat} {u : qM} {P : Int32 → qM → Prop} (hk : k < 6) : Ev (f_X10_found (nI k) u) P ↔ P (-3) (mF k u) := by
  simp only [eu_X10_found, ev_lt, ev_ck, ev_so, q_inT (j := k) (N := 6) (by omega) (by omega), true_and, nI_clamp (n := k) (by omega), si_k (show (36 : Nat) ≠ 0 by decide)]
  exact Iff.rfl
theorem ev_found_1 {u : qM} {P : Int32 → qM → Prop} : Ev (f_X10_found 1 u) P ↔ P (-3) (mF 1 u) := ev_foundN (k := 1) (by decide)
theorem ev_found_2 {u : qM} {P : Int32 → qM → Prop} : Ev (f_X10_found 2 u) P ↔ P (-3) (mF 2 u) := ev_foundN (k := 2) (by decide)
theorem ev_found_3 {u : qM} {P : Int32 → qM → Prop} : Ev (f_X10_found 3 u) P ↔ P (-3) (mF 3 u) := ev_foundN (k := 3) (by decide)
theorem ev_found_4 {u : qM} {P : Int32 → qM → Prop} : Ev (f_X10_found 4 u) P ↔ P (-3) (mF 4 u) := ev_foundN (k := 4) (by decide)
theorem ev_found_5 {u : qM} {P : Int32 → qM → Prop} : Ev (f_X10_found 5 u) P ↔ P (-3) (mF 5 u) := ev_foundN (k := 5) (by decide)
