def nxtA (t : Option Int32) (v : qB) : qB := match t with
  | none => st0 v
  | some x => rimF x (st0 v) (nH v)
theorem nxt_A {t : Option Int32} {v : qB} : nxt t v = bset (nxtA t v) 0 3 (v 0 3 + nI 1) := by
  cases t <;> rfl
