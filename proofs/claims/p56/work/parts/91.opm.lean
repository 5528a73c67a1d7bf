theorem bm64 {z : Int} (h1 : -9223372036854775808 ≤ z) (h2 : z < 9223372036854775808) : z.bmod (2 ^ 64) = z := by
  rw [Int.bmod_def]
  split <;> omega
theorem bm32 {z : Int} (h1 : -2147483648 ≤ z) (h2 : z < 2147483648) : z.bmod (2 ^ 32) = z := by
  rw [Int.bmod_def]
  split <;> omega
theorem x_bd (x : Int32) : -2147483648 ≤ x.toInt ∧ x.toInt < 2147483648 := by
  have h1 := Int32.le_toInt x
  have h2 := Int32.toInt_lt x
  exact ⟨by omega, by omega⟩
theorem mul_bd {a b : Int} (ha : -2147483648 ≤ a ∧ a < 2147483648) (hb : 0 ≤ b ∧ b < 2147483648) : -9223372036854775808 ≤ a * b ∧ a * b < 9223372036854775808 := by
  have h1 : a * b ≤ 2147483648 * b := Int.mul_le_mul_of_nonneg_right (by omega) hb.1
  have h2 : -2147483648 * b ≤ a * b := Int.mul_le_mul_of_nonneg_right ha.1 hb.1
  omega
theorem shr_toInt {f W O : Int32} (h0 : 0 ≤ W.toInt) (h1 : W.toInt < O.toInt) : (shr f W O).toInt = (f.toInt * W.toInt).tdiv O.toInt := by
  have hf := x_bd f
  have hW := x_bd W
  have hO := x_bd O
  have hm := mul_bd hf ⟨h0, hW.2⟩
  have hd : -2147483648 ≤ (f.toInt * W.toInt).tdiv O.toInt ∧ (f.toInt * W.toInt).tdiv O.toInt < 2147483648 := by
    have hOp : 0 < O.toInt := by omega
    have hn : ((f.toInt * W.toInt).tdiv O.toInt).natAbs ≤ f.toInt.natAbs := by
      rw [Int.natAbs_tdiv, Int.natAbs_mul]
      have h3 : W.toInt.natAbs ≤ O.toInt.natAbs := by omega
      calc f.toInt.natAbs * W.toInt.natAbs / O.toInt.natAbs ≤ f.toInt.natAbs * O.toInt.natAbs / O.toInt.natAbs := Nat.div_le_div_right (Nat.mul_le_mul_left _ h3)
        _ = f.toInt.natAbs := Nat.mul_div_cancel _ (by omega)
    have hs : f.toInt = -2147483648 → (f.toInt * W.toInt).tdiv O.toInt ≤ 0 := by
      intro q
      rw [q]
      have e : (-2147483648 * W.toInt).tdiv O.toInt = -((2147483648 * W.toInt).tdiv O.toInt) := by
        rw [Int.neg_mul, Int.neg_tdiv]
      rw [e]
      have := Int.tdiv_nonneg (a := 2147483648 * W.toInt) (b := O.toInt) (by omega) (by omega)
      omega
    omega
  unfold shr
  rw [Int64.toInt_toInt32, Int64.toInt_div, Int64.toInt_mul, Int32.toInt_toInt64, Int32.toInt_toInt64, Int32.toInt_toInt64, bm64 hm.1 hm.2, bm64 (by omega) (by omega), bm32 hd.1 hd.2]
theorem shr_sign {f W O : Int32} (h0 : 0 ≤ W.toInt) (h1 : W.toInt < O.toInt) : (f.toInt ≤ 0 → (shr f W O).toInt ≤ 0) ∧ (0 ≤ f.toInt → 0 ≤ (shr f W O).toInt) := by
  rw [shr_toInt h0 h1]
  constructor
  · intro h
    have e : f.toInt * W.toInt = -((-f.toInt) * W.toInt) := by rw [Int.neg_mul, Int.neg_neg]
    rw [e, Int.neg_tdiv]
    have := Int.tdiv_nonneg (a := (-f.toInt) * W.toInt) (b := O.toInt) (Int.mul_nonneg (by omega) h0) (by omega)
    omega
  · intro h
    exact Int.tdiv_nonneg (Int.mul_nonneg h h0) (by omega)

theorem le0_iff {x : Int32} : x ≤ nI 0 ↔ x.toInt ≤ 0 := by
  rw [x_le, nI_toInt (by decide)]
  exact Iff.rfl
theorem eq0_iff {x : Int32} : x = nI 0 ↔ x.toInt = 0 := by
  rw [x_eq, nI_toInt (by decide)]
  exact Iff.rfl
/-- limiting doesn't turn a flow -/
theorem lfl_src {v : qB} {s : Nat} (hw2 : ∀ c, 0 ≤ (v 2 c).toInt) (h : ¬ lfl v s = nI 0) : srcF v (lfl v s) s = srcF v (pfl v s) s ∧ dstF v (lfl v s) s = dstF v (pfl v s) s := by
  have hp := lfl_pfl h
  have key : (lfl v s ≤ nI 0 ↔ pfl v s ≤ nI 0) := by
    unfold lfl at h ⊢
    rw [if_neg hp] at h ⊢
    by_cases q : outF v (2 * nN v) (srcF v (pfl v s) s) ≤ v 2 (srcF v (pfl v s) s)
    · rw [if_pos q]
    · rw [if_neg q] at h ⊢
      rw [x_le] at q
      have z := shr_sign (f := pfl v s) (hw2 (srcF v (pfl v s) s)) (show (v 2 (srcF v (pfl v s) s)).toInt < (outF v (2 * nN v) (srcF v (pfl v s) s)).toInt by omega)
      rw [le0_iff, le0_iff]
      rw [eq0_iff] at h hp
      omega
  unfold srcF dstF
  by_cases q : pfl v s ≤ nI 0
  · rw [if_pos q, if_pos (key.mpr q), if_pos q, if_pos (key.mpr q)]
    exact ⟨rfl, rfl⟩
  · rw [if_neg q, if_neg (fun z => q (key.mp z)), if_neg q, if_neg (fun z => q (key.mp z))]
    exact ⟨rfl, rfl⟩
theorem pfl_wat {v : qB} {s : Nat} (h : ¬ pfl v s = nI 0) : ¬ v 2 (srcF v (pfl v s) s) = nI 0 := by
  have hz : ∀ x : Int32, ¬ x ≤ nI 0 → ¬ (x ≤ nI 0) := fun _ q => q
  unfold pfl at h ⊢
  by_cases q : sd (nW v) (nN v) s = true ∧ v 5 s = nI 0
  · rw [if_pos q] at h ⊢
    unfold pfv at h ⊢
    by_cases c1 : pf1 v s ≤ nI 0
    · rw [if_pos c1] at h ⊢
      by_cases c2 : v 2 (far (nW v) s) = nI 0
      · rw [if_pos c2] at h
        exact absurd rfl h
      · rw [if_neg c2] at h ⊢
        by_cases c3 : v 1 (s / 2) < lev v (far (nW v) s)
        · rw [if_pos c3] at h ⊢
          unfold srcF
          rw [if_pos c1]
          exact c2
        · rw [if_neg c3] at h
          exact absurd rfl h
    · rw [if_neg c1] at h ⊢
      by_cases c2 : v 2 (s / 2) = nI 0
      · rw [if_pos c2] at h
        exact absurd rfl h
      · rw [if_neg c2] at h ⊢
        by_cases c3 : v 1 (far (nW v) s) < lev v (s / 2)
        · rw [if_pos c3] at h ⊢
          unfold srcF
          rw [if_neg c1]
          exact c2
        · rw [if_neg c3] at h
          exact absurd rfl h
  · rw [if_neg q] at h
    exact absurd rfl h
theorem lfl_wat {v : qB} {s : Nat} (hw2 : ∀ c, 0 ≤ (v 2 c).toInt) (h : ¬ lfl v s = nI 0) : ¬ v 2 (srcF v (lfl v s) s) = nI 0 := by
  rw [(lfl_src hw2 h).1]
  exact pfl_wat (lfl_pfl h)
