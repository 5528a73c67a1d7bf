def mk (a x : Int32) : Int32 := if nI 1 ≤ a then (if x ≤ a then x else a) else nI 0
