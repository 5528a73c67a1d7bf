/-- rivers in the reference's cells -/
def SQ (v : qB) (u : qM) (j rc : Nat) : Prop := rc ≤ 4 ∧ u.1 86 0 j = nI rc ∧ rcN v = rc ∧ ∀ k, k < rc → u.1 87 0 (4 * j + k) = v 7 k ∧ u.1 88 0 (4 * j + k) = v 8 k ∧ ∃ c, c < nN v ∧ v 7 k = nI c
theorem SQ.k {v : qB} {u u' : qM} {j rc : Nat} (h : SQ v u j rc) (e : ∀ k, k < 101 ∨ 104 < k → u'.1 k = u.1 k) : SQ v u' j rc := by
  unfold SQ
  rw [e 86 (by decide), e 87 (by decide), e 88 (by decide)]
  exact h
theorem x100 : (100000 : Int32).toInt = 100000 := by decide +kernel
theorem rim_0 {x : Int32} {v : qB} {y s : Nat} (q : s ≠ 5) : rimF x v y 0 s = v 0 s := by
  induction y with
  | zero => rfl
  | succ y ih =>
    show bset (bset (rimF x v y) 0 5 _) 2 _ _ 0 s = _
    rw [bs_t (by decide), bs_s q, ih]
