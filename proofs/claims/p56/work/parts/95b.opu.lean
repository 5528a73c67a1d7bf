theorem x100 : (100000 : Int32).toInt = 100000 := by decide +kernel
theorem rim_t {x : Int32} {v : qB} {y t : Nat} (q1 : t ≠ 0) (q2 : t ≠ 2) : rimF x v y t = v t := by
  induction y with
  | zero => rfl
  | succ y ih =>
    show bset (bset (rimF x v y) 0 5 _) 2 _ _ t = _
    rw [bs_t q2, bs_t q1, ih]
theorem rim_0 {x : Int32} {v : qB} {y s : Nat} (q : s ≠ 5) : rimF x v y 0 s = v 0 s := by
  induction y with
  | zero => rfl
  | succ y ih =>
    show bset (bset (rimF x v y) 0 5 _) 2 _ _ 0 s = _
    rw [bs_t (by decide), bs_s q, ih]
