theorem bo_m9 {U : Nat → Bool} : bo U (-9) = -9 := by
  unfold bo
  rw [if_neg (fun q => absurd q.1 (by decide +kernel))]
/-- what the class's clearing leaves as it was -/
theorem ClC.g {μ u : qM} {U : Nat → Bool} (h : ClC μ U u) {a : Nat} (h2 : a ≠ 2) (h8 : a ≠ 8) (h9 : a ≠ 9) : u.1 a = μ.1 a := by
  funext i s
  exact h.1 a i s (fun q => h2 q.1) (fun q => h8 q.1) (fun q => h9 q.1)
theorem ClC_cB {μ u : qM} {U : Nat → Bool} (h : ClC μ U u) (x : Nat) : cB u x = cB μ x := by
  have e2 : ∀ s, s ≠ 10 → u.1 2 x s = μ.1 2 x s := fun s q => h.1 2 x s (by omega) (by omega) (by omega)
  funext t s
  rcases (show t = 0 ∨ t = 1 ∨ t = 2 ∨ t = 3 ∨ t = 4 ∨ t = 5 ∨ t = 6 ∨ t = 7 ∨ t = 8 ∨ 9 ≤ t by omega) with rfl | rfl | rfl | rfl | rfl | rfl | rfl | rfl | rfl | ht
  · rcases (show s = 0 ∨ s = 1 ∨ s = 2 ∨ s = 3 ∨ s = 4 ∨ s = 5 ∨ s = 6 ∨ s = 7 ∨ s = 8 ∨ s = 9 ∨ s = 10 ∨ s = 11 ∨ s = 12 ∨ s = 13 ∨ 14 ≤ s by omega) with rfl | rfl | rfl | rfl | rfl | rfl | rfl | rfl | rfl | rfl | rfl | rfl | rfl | rfl | hs
    · exact e2 11 (by decide)
    · exact e2 12 (by decide)
    · exact e2 13 (by decide)
    · exact e2 14 (by decide)
    · exact e2 15 (by decide)
    · exact e2 16 (by decide)
    · exact e2 17 (by decide)
    · exact e2 18 (by decide)
    · exact congrFun (congrFun (h.g (a := 3) (by decide) (by decide) (by decide)) _) _
    · exact congrFun (congrFun (h.g (a := 3) (by decide) (by decide) (by decide)) _) _
    · exact congrFun (congrFun (h.g (a := 3) (by decide) (by decide) (by decide)) _) _
    · exact congrFun (congrFun (h.g (a := 3) (by decide) (by decide) (by decide)) _) _
    · exact congrFun (congrFun (h.g (a := 4) (by decide) (by decide) (by decide)) _) _
    · exact e2 9 (by decide)
    · obtain ⟨z, rfl⟩ : ∃ z, s = z + 14 := ⟨s - 14, by omega⟩
      rfl
  · show (if s < 48 then u.1 37 x s else 0) = (if s < 48 then μ.1 37 x s else 0)
    rw [h.g (a := 37) (by decide) (by decide) (by decide)]
  · show (if s < 48 then u.1 38 x s else 0) = (if s < 48 then μ.1 38 x s else 0)
    rw [h.g (a := 38) (by decide) (by decide) (by decide)]
  · show (if s < 144 then u.1 39 x s else 0) = (if s < 144 then μ.1 39 x s else 0)
    rw [h.g (a := 39) (by decide) (by decide) (by decide)]
  · show (if s < 96 then u.1 40 x s else 0) = (if s < 96 then μ.1 40 x s else 0)
    rw [h.g (a := 40) (by decide) (by decide) (by decide)]
  · show (if s < 96 then u.1 41 x s else 0) = (if s < 96 then μ.1 41 x s else 0)
    rw [h.g (a := 41) (by decide) (by decide) (by decide)]
  · show (if s < 4 then u.1 42 x s else 0) = (if s < 4 then μ.1 42 x s else 0)
    rw [h.g (a := 42) (by decide) (by decide) (by decide)]
  · show (if s < 4 then u.1 43 x s else 0) = (if s < 4 then μ.1 43 x s else 0)
    rw [h.g (a := 43) (by decide) (by decide) (by decide)]
  · show (if s < 4 then u.1 44 x s else 0) = (if s < 4 then μ.1 44 x s else 0)
    rw [h.g (a := 44) (by decide) (by decide) (by decide)]
  · obtain ⟨z, rfl⟩ : ∃ z, t = z + 9 := ⟨t - 9, by omega⟩
    rfl
theorem ClM.g {μ u : qM} {U : Nat → Bool} (h : ClM μ U u) {a : Nat} (h2 : a ≠ 74) (h8 : a ≠ 105) (h9 : a ≠ 108) : u.1 a = μ.1 a := by
  funext i s
  exact h.1 a i s (fun q => h2 q.1) (fun q => h8 q.1) (fun q => h9 q.1)
