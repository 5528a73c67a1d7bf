/-- what the class reads from: row i of kind k, the first L of f -/
def SC (k i L : Nat) (f : Nat → Int32) (u : qM) : Prop := u.2.2 = (k, i) ∧ q_ia (k, i) = true ∧ q_al k i = 40 ∧ L ≤ 40 ∧ k ≠ 7 ∧ u.1 k i = f ∧ u.1 7 0 1 = nI L
theorem SC.si {k i L s : Nat} {x : Int32} {f : Nat → Int32} {u : qM} (h : SC k i L f u) (hs : s ≠ 1) : SC k i L f (q_si u 7 0 s x) := by
  obtain ⟨a1, a2, a3, a4, a5, a6, a7⟩ := h
  exact ⟨a1, a2, a3, a4, a5, by rw [si_k a5]; exact a6, by rw [si_s (by omega)]; exact a7⟩
def F7 (u u' : qM) : Prop := (∀ a j s, ¬ (a = 7 ∧ j = 0 ∧ s ≠ 1) → u'.1 a j s = u.1 a j s) ∧ u'.2 = u.2
theorem F7.si {a b : qM} {s : Nat} {x : Int32} (h : F7 a b) (hs : s ≠ 1) : F7 a (q_si b 7 0 s x) := ⟨fun y j t q => by rw [si_n (by omega)]; exact h.1 y j t q, h.2⟩
