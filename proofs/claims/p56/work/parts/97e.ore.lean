def Ms (D : Nat → Bool) (σ κ : Nat → Nat) (nn : Int32 → Int32) (f : Nat → Int32) (c s : Nat) : Int32 := if D s = true ∧ κ (σ s) < c then nn (f (σ s)) else f s
theorem Ms_st {D : Nat → Bool} {σ κ : Nat → Nat} {nn : Int32 → Int32} {f : Nat → Int32} {a c : Nat} (hD : D a = true) (hk : κ a = c) (un : ∀ s, D s = true → κ s = c → s = a) (iv : ∀ s, D s = true → D (σ s) = true ∧ σ (σ s) = s) (s : Nat) : (if s = σ a then nn (f a) else Ms D σ κ nn f c s) = Ms D σ κ nn f (c + 1) s := by
  have i1 := iv a hD
  unfold Ms
  by_cases q2 : s = σ a
  · rw [if_pos q2, q2, if_pos ⟨i1.1, by rw [i1.2]; omega⟩, i1.2]
  · rw [if_neg q2]
    by_cases z : D s = true ∧ κ (σ s) < c
    · rw [if_pos z, if_pos ⟨z.1, by omega⟩]
    · rw [if_neg z, if_neg (fun y => z ⟨y.1, ?_⟩)]
      have iy := iv s y.1
      by_cases y3 : κ (σ s) = c
      · exact absurd (by rw [← un (σ s) iy.1 y3, iy.2]) q2
      · omega
def MT (b w h : Nat) (v : qB) (u : qM) (i1 i2 i3 i4 i5 i6 i7 : Nat) (t : qM) : Prop := (∀ a i s, ¬ (i = 0 ∧ (((a = 91 ∨ a = 92) ∧ 48 * b ≤ s ∧ s < 48 * b + 48) ∨ (a = 93 ∧ 144 * b ≤ s ∧ s < 144 * b + 144) ∨ ((a = 94 ∨ a = 95) ∧ 96 * b ≤ s ∧ s < 96 * b + 96))) → t.1 a i s = u.1 a i s) ∧ t.2 = u.2 ∧ (∀ s, s < 48 → t.1 91 0 (48 * b + s) = Ms (D1 (w * h)) (opw w) id id (v 1) i1 s) ∧ (∀ s, s < 48 → t.1 92 0 (48 * b + s) = Ms (D1 (w * h)) (opw w) id id (v 2) i2 s) ∧ (∀ s, s < 144 → t.1 93 0 (144 * b + s) = Ms (D3 (w * h)) (s3 w) k3 id (v 3) i3 s) ∧ (∀ s, s < 96 → s % 2 = 1 → t.1 94 0 (96 * b + s) = Ms (Do (w * h)) (so w) hf2 id (v 4) i4 s) ∧ (∀ s, s < 96 → s % 2 = 0 → t.1 94 0 (96 * b + s) = Ms (De w (w * h)) (se w) hf2 (fun x => -x) (v 4) i5 s) ∧ (∀ s, s < 96 → s % 2 = 1 → t.1 95 0 (96 * b + s) = Ms (Do (w * h)) (so w) hf2 id (v 5) i6 s) ∧ (∀ s, s < 96 → s % 2 = 0 → t.1 95 0 (96 * b + s) = Ms (De w (w * h)) (se w) hf2 id (v 5) i7 s)
theorem MT.w2 {b w h : Nat} {v : qB} {u t : qM} {i1 i2 i3 i4 i5 i6 i7 a sl : Nat} {x : Int32} (h1 : 2 ≤ w) (h2 : w ≤ 8) (hN : w * h ≤ 48) (hb : b < 6) (h0 : MT b w h v u i1 i2 i3 i4 i5 i6 i7 t) (hD : (D1 (w * h)) a = true) (hk : id a = i2) (hu : ∀ s, (D1 (w * h)) s = true → id s = i2 → s = a) (hl : (opw w) a < 48) (hpar : True) (hs : sl = 48 * b + (opw w) a) (hx : x = (id) (v 2 a)) : MT b w h v u i1 (i2 + 1) i3 i4 i5 i6 i7 (q_si t 92 0 sl x) := by
  obtain ⟨f1, f2, g0, g1, g2, g3, g4, g5, g6⟩ := h0
  generalize hsa : (opw w) a = sa at *
  subst hs
  refine ⟨fun a i s q => by rw [si_n (by omega)]; exact f1 a i s q, f2, fun s hs => ?_, fun s hs => ?_, fun s hs => ?_, fun s hs hp => ?_, fun s hs hp => ?_, fun s hs hp => ?_, fun s hs hp => ?_⟩
  · rw [si_k (by decide)]
    exact g0 s hs
  · have e := Ms_st (nn := id) (f := v 2) hD hk hu (iv1 h1 h2) s
    rw [← e, si_c]
    by_cases z : s = (opw w) a
    · rw [if_pos z, if_pos (by omega), hx]
    · rw [if_neg z, if_neg (by omega)]
      exact g1 s hs
  · rw [si_k (by decide)]
    exact g2 s hs
  · rw [si_k (by decide)]
    exact g3 s hs hp
  · rw [si_k (by decide)]
    exact g4 s hs hp
  · rw [si_k (by decide)]
    exact g5 s hs hp
  · rw [si_k (by decide)]
    exact g6 s hs hp
