def FR (u u' : qM) : Prop := (∀ a j s, ¬ (a = 72 ∨ a = 73 ∨ (a = 11 ∧ j = 0 ∧ s = 11)) → u'.1 a j s = u.1 a j s) ∧ u'.2 = u.2
/-- the source: the first L of f stand from B on in row i1 of kind k1 -/
def SRC (k1 i1 B L : Nat) (f : Nat → Int32) (u : qM) : Prop := L ≤ 40 ∧ B + L ≤ q_al k1 i1 ∧ q_al k1 i1 ≤ 400 ∧ k1 ≠ 72 ∧ k1 ≠ 73 ∧ k1 ≠ 11 ∧ ∀ i, i < L → u.1 k1 i1 (B + i) = f i
theorem SRC.fr {k1 i1 B L : Nat} {f : Nat → Int32} {u u' : qM} (h : SRC k1 i1 B L f u) (g : FR u u') : SRC k1 i1 B L f u' := by
  obtain ⟨a1, a2, a3, a4, a5, a6, a7⟩ := h
  exact ⟨a1, a2, a3, a4, a5, a6, fun i hi => (g.1 k1 i1 _ (by omega)).trans (a7 i hi)⟩
