/-- a rank anew: one place is above all others -/
def rt (dep : Nat → Nat) (j x y : Nat) : Nat := if y ≠ j ∧ dep y < dep x then 1 else 0
