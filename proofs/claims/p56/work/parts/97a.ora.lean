def opw (w c : Nat) : Nat := c - c % w + (w - 1 - c % w)
theorem opw_f {w h c : Nat} (h1 : 2 ≤ w) (h2 : w ≤ 8) (hc : c < w * h) : opw w c < w * h ∧ opw w (opw w c) = c ∧ (c % w + 1 < w → 1 ≤ opw w c ∧ (opw w c - 1) % w + 1 < w ∧ opw w (opw w c - 1) = c + 1 ∧ opw w c - 1 < w * h) := by
  unfold opw
  rcases (show w = 2 ∨ w = 3 ∨ w = 4 ∨ w = 5 ∨ w = 6 ∨ w = 7 ∨ w = 8 by omega) with rfl | rfl | rfl | rfl | rfl | rfl | rfl <;> omega
/-- what stands at a place when those up to c have been turned -/
def Gs (D : Nat → Bool) (σ κ : Nat → Nat) (nn : Int32 → Int32) (f : Nat → Int32) (c s : Nat) : Int32 := if D s = true ∧ (κ s < c ∨ κ (σ s) < c) then nn (f (σ s)) else f s
theorem Gs_N {D : Nat → Bool} {σ κ : Nat → Nat} {nn : Int32 → Int32} {f : Nat → Int32} {N : Nat} (hN : ∀ s, D s = true → κ s < N) (s : Nat) : Gs D σ κ nn f N s = if D s = true then nn (f (σ s)) else f s := by
  unfold Gs
  by_cases z : D s = true
  · rw [if_pos ⟨z, .inl (hN s z)⟩, if_pos z]
  · rw [if_neg (fun q => z q.1), if_neg z]
def D1 (N s : Nat) : Bool := decide (s < N)
def D3 (N s : Nat) : Bool := decide (s < 144 ∧ s % 48 < N)
def s3 (w s : Nat) : Nat := 48 * (s / 48) + opw w (s % 48)
def k3 (s : Nat) : Nat := 3 * (s % 48) + s / 48
def Do (N s : Nat) : Bool := decide (s % 2 = 1 ∧ s / 2 < N)
def so (w s : Nat) : Nat := 2 * opw w (s / 2) + 1
def hf2 (s : Nat) : Nat := s / 2
def De (w N s : Nat) : Bool := decide (s % 2 = 0 ∧ s / 2 < N ∧ s / 2 % w + 1 < w)
def se (w s : Nat) : Nat := 2 * opw w (s / 2) - 2
theorem ivo {w h : Nat} (h1 : 2 ≤ w) (h2 : w ≤ 8) : ∀ s, Do (w * h) s = true → Do (w * h) (so w s) = true ∧ so w (so w s) = s := fun s q => by
  obtain ⟨q1, q2⟩ := of_decide_eq_true q
  have g := opw_f h1 h2 q2
  have e1 : (2 * opw w (s / 2) + 1) / 2 = opw w (s / 2) := by omega
  refine ⟨decide_eq_true ⟨?_, ?_⟩, ?_⟩
  · unfold so; omega
  · unfold so; rw [e1]; exact g.1
  · unfold so
    rw [e1, g.2.1]
    omega
theorem ive {w h : Nat} (h1 : 2 ≤ w) (h2 : w ≤ 8) : ∀ s, De w (w * h) s = true → De w (w * h) (se w s) = true ∧ se w (se w s) = s := fun s q => by
  obtain ⟨q1, q2, q3⟩ := of_decide_eq_true q
  have g := opw_f h1 h2 q2
  have g3 := g.2.2 q3
  have e1 : (2 * opw w (s / 2) - 2) / 2 = opw w (s / 2) - 1 := by omega
  refine ⟨decide_eq_true ⟨?_, ?_, ?_⟩, ?_⟩
  · unfold se; omega
  · unfold se; rw [e1]; exact g3.2.2.2
  · unfold se; rw [e1]; exact g3.2.1
  · unfold se
    rw [e1, g3.2.2.1]
    omega
/-- a board in the mirror -/
def mir (v : qB) : qB := fun t s => match t with
  | 0 => if s = 10 then -(v 0 10) else v 0 s
  | 1 => Gs (D1 (nN v)) (opw (nW v)) id id (v 1) (nN v) s
  | 2 => Gs (D1 (nN v)) (opw (nW v)) id id (v 2) (nN v) s
  | 3 => Gs (D3 (nN v)) (s3 (nW v)) k3 id (v 3) (3 * nN v) s
  | 4 => if s % 2 = 1 then Gs (Do (nN v)) (so (nW v)) hf2 id (v 4) (nN v) s else Gs (De (nW v) (nN v)) (se (nW v)) hf2 (fun x => -x) (v 4) (nN v) s
  | 5 => if s % 2 = 1 then Gs (Do (nN v)) (so (nW v)) hf2 id (v 5) (nN v) s else Gs (De (nW v) (nN v)) (se (nW v)) hf2 id (v 5) (nN v) s
  | 7 => if s < rcN v then nI (opw (nW v) (v 7 s).toNatClampNeg) else v 7 s
  | t => v t s
