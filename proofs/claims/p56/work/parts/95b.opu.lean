theorem x100 : (100000 : Int32).toInt = 100000 := by decide +kernel
theorem rim_0 {x : Int32} {v : qB} {y s : Nat} (q : s ≠ 5) : rimF x v y 0 s = v 0 s := by
  induction y with
  | zero => rfl
  | succ y ih =>
    show bset (bset (rimF x v y) 0 5 _) 2 _ _ 0 s = _
    rw [bs_t (by decide), bs_s q, ih]
