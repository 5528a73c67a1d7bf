/-- what the trials leave of the class -/
def CT6 (u t : qM) : Prop := (∀ a i s, a ≠ 35 → ¬ (47 ≤ a ∧ a ≤ 50) → ¬ (i = 6 ∧ (a = 2 ∨ a = 3 ∨ a = 4 ∨ a = 5 ∨ (37 ≤ a ∧ a ≤ 44))) → t.1 a i s = u.1 a i s) ∧ t.2 = u.2
theorem FA.cf {u t : qM} (h : FA 6 u t) : CT6 u t := ⟨fun a i s _ q2 q3 => h.1 a i s (by omega) (by omega), h.2⟩
