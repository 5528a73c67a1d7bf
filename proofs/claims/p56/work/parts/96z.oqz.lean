theorem subx1 {W w X : Nat} (hW : W ≤ 8) (hw : w ≤ 8) (hX : X < 2 ^ 31) : (nI W - nI w < nI X) = (W < X + w) := by
  have e1 : (nI W).toInt = W := nI_toInt (by omega)
  have e2 : (nI w).toInt = w := nI_toInt (by omega)
  rw [x_lt, z_sub (by omega) (by omega), e1, e2, nI_toInt hX]
  exact propext ⟨fun _ => by omega, fun _ => by omega⟩
theorem subx2 {H h Y : Nat} (hH : H ≤ 8) (hh : h ≤ 8) (hY : Y < 2 ^ 31) : (nI Y ≤ nI H - nI h) = (Y + h ≤ H) := by
  have e1 : (nI H).toInt = H := nI_toInt (by omega)
  have e2 : (nI h).toInt = h := nI_toInt (by omega)
  rw [x_le, z_sub (by omega) (by omega), e1, e2, nI_toInt hY]
  exact propext ⟨fun _ => by omega, fun _ => by omega⟩
/-- a rank anew: one place is above all others -/
def rt (dep : Nat → Nat) (j x y : Nat) : Nat := if y ≠ j ∧ dep y < dep x then 1 else 0
