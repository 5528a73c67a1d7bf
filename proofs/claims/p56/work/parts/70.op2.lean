def cnt (p : Nat → Bool) : Nat → Nat
  | 0 => 0
  | i + 1 => cnt p i + (if p i = true then 1 else 0)
theorem cnt_t {p : Nat → Bool} {i : Nat} (h : p i = true) : cnt p (i + 1) = cnt p i + 1 := by
  show cnt p i + (if p i = true then 1 else 0) = _
  rw [if_pos h]
theorem cnt_f {p : Nat → Bool} {i : Nat} (h : ¬ p i = true) : cnt p (i + 1) = cnt p i := by
  show cnt p i + (if p i = true then 1 else 0) = _
  rw [if_neg h]
  rfl
theorem cnt_eq {p q : Nat → Bool} : ∀ N, (∀ i, i < N → p i = q i) → cnt p N = cnt q N
  | 0, _ => rfl
  | N + 1, h => by
    show cnt p N + (if p N = true then 1 else 0) = cnt q N + (if q N = true then 1 else 0)
    rw [cnt_eq N (fun i hi => h i (by omega)), h N (by omega)]
