theorem z_neg {x : Int32} (h : -2147483647 ≤ x.toInt) : (-x).toInt = -x.toInt := by
  have h2 : x.toInt < 2147483648 := by have := x.toInt_lt; omega
  rw [show -x = nI 0 - x from (Int32.zero_sub _).symm, z_sub (by rw [nI0]; omega) (by rw [nI0]; omega), nI0]
  omega
