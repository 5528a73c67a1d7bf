theorem rst_WF {n k wd hg : Nat} {v : qB} (hk : k ≤ 3) (h1 : 2 ≤ wd) (h2 : wd ≤ 8) (h3 : 1 ≤ hg) (h4 : hg ≤ 6) : WF n (rstB (nI k) (nI wd) (nI hg) v) := by
  have z0 : (nI 0).toInt = 0 := nI_toInt (by decide)
  refine ⟨⟨k, wd, hg, 0, 4, 10, 0, 0, rfl, hk, rfl, h1, h2, rfl, h3, h4, rfl, Nat.zero_le _, rfl, by decide, by decide, rfl, by decide, by decide, rfl, by decide, rfl, by decide, .inl rfl, ?_, ?_⟩, ⟨fun c => ?_, fun c => ?_, fun c => ?_, fun c => .inl rfl, fun i hi => ?_⟩, ⟨fun i hi => ?_, fun i hi => ?_⟩⟩
  · show -50 ≤ (nI 0).toInt ∧ (nI 0).toInt ≤ 50
    rw [z0]; decide
  · show -50 ≤ (nI 0).toInt ∧ (nI 0).toInt ≤ 50
    rw [z0]; decide
  · show -1000 ≤ (nI 0).toInt ∧ (nI 0).toInt ≤ 1000
    rw [z0]; decide
  · show 0 ≤ (nI 0).toInt ∧ (nI 0).toInt ≤ 100000
    rw [z0]; decide
  · show -100000 ≤ (nI 0).toInt ∧ (nI 0).toInt ≤ 100000
    rw [z0]; decide
  · have q : (nI 0).toNatClampNeg = 0 := nI_clamp (by decide)
    rw [show rstB (nI k) (nI wd) (nI hg) v 0 12 = nI 0 from rfl, q] at hi
    exact absurd hi (Nat.not_lt_zero _)
  · have q : (nI 0).toNatClampNeg = 0 := nI_clamp (by decide)
    rw [show rstB (nI k) (nI wd) (nI hg) v 0 12 = nI 0 from rfl, q] at hi
    exact absurd hi (Nat.not_lt_zero _)
  · have q : (nI 0).toNatClampNeg = 0 := nI_clamp (by decide)
    rw [show rstB (nI k) (nI wd) (nI hg) v 0 13 = nI 0 from rfl, q] at hi
    exact absurd hi (Nat.not_lt_zero _)
/-- the class's side: b's neighbours behind the clearing -/
def CS (μ : qM) (U : Nat → Bool) (j : Nat) (u : qM) : Prop := (∀ a, ¬ (a = 2 ∨ a = 3 ∨ a = 4 ∨ a = 5 ∨ a = 8 ∨ a = 9 ∨ (37 ≤ a ∧ a ≤ 46)) → u.1 a = μ.1 a) ∧ u.2 = μ.2 ∧ (∀ x, x ≠ j → cB u x = cB μ x) ∧ (∀ x, x < 6 → x ≠ j → u.1 2 x 10 = if U x = true then nI 1 else nI 0) ∧ (∀ x, x ≠ j → u.1 5 x = μ.1 5 x ∧ u.1 45 x = μ.1 45 x ∧ u.1 46 x = μ.1 46 x) ∧ (∀ k, k < 8 → u.1 8 k 0 = bo U (μ.1 8 k 0)) ∧ (∀ k s, s ≠ 0 → u.1 8 k s = μ.1 8 k s) ∧ (∀ k, k < 8 → u.1 9 k 2 = bo U (μ.1 9 k 2)) ∧ (∀ k s, s ≠ 2 → u.1 9 k s = μ.1 9 k s)
theorem CS.of {μ u1 u : qM} {U : Nat → Bool} {j : Nat} (h : ClC μ U u1) (r : ∀ k i s, ¬ (i = j ∧ (k = 2 ∨ k = 3 ∨ k = 4 ∨ k = 5 ∨ (37 ≤ k ∧ k ≤ 46))) → u.1 k i s = u1.1 k i s) (r2 : u.2 = u1.2) : CS μ U j u := by
  have sl : ∀ k x, x ≠ j → u.1 k x = u1.1 k x := fun k x q => funext (fun s => r k x s (fun z => q z.1))
  obtain ⟨a1, a2, a3, a4, a5⟩ := h
  have h : ClC μ U u1 := ⟨a1, a2, a3, a4, a5⟩
  refine ⟨fun a q => ?_, r2.trans a2, fun x q => ?_, fun x hx q => ?_, fun x q => ⟨?_, ?_, ?_⟩, fun k hk => ?_, fun k s q => ?_, fun k hk => ?_, fun k s q => ?_⟩
  · rw [← h.g (a := a) (by omega) (by omega) (by omega)]
    funext i s
    exact r a i s (by omega)
  · rw [← ClC_cB h x]
    apply cB_ext <;> exact sl _ _ q
  · rw [sl 2 x q]
    exact a3 x hx
  · rw [sl 5 x q, h.g (a := 5) (by decide) (by decide) (by decide)]
  · rw [sl 45 x q, h.g (a := 45) (by decide) (by decide) (by decide)]
  · rw [sl 46 x q, h.g (a := 46) (by decide) (by decide) (by decide)]
  · rw [r 8 k 0 (by omega)]
    exact a4 k hk
  · rw [r 8 k s (by omega)]
    exact a1 8 k s (by omega) (by omega) (by omega)
  · rw [r 9 k 2 (by omega)]
    exact a5 k hk
  · rw [r 9 k s (by omega)]
    exact a1 9 k s (by omega) (by omega) (by omega)
