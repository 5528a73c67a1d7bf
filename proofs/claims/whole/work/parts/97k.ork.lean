/-! What the relation does not look at. -/
def scr (a i s : Nat) : Prop := (a = 11 ∧ s ≠ 0 ∧ s ≠ 2 ∧ s ≠ 55 ∧ s ≠ 56 ∧ s ≠ 57 ∧ s ≠ 61) ∨ (a = 10 ∧ i = 1) ∨ (47 ≤ a ∧ a ≤ 50) ∨ a = 35 ∨ a = 6 ∨ a = 7 ∨ (101 ≤ a ∧ a ≤ 104) ∨ a = 118 ∨ a = 119 ∨ a = 68 ∨ a = 72 ∨ a = 73 ∨ ((a = 2 ∨ a = 3 ∨ a = 4 ∨ a = 5 ∨ (37 ≤ a ∧ a ≤ 46)) ∧ i = 6) ∨ (((74 ≤ a ∧ a ≤ 86) ∨ a = 89) ∧ 6 ≤ s) ∨ ((a = 87 ∨ a = 88 ∨ a = 90) ∧ 24 ≤ s) ∨ ((a = 91 ∨ a = 92 ∨ a = 99 ∨ a = 100) ∧ 288 ≤ s) ∨ (a = 93 ∧ 864 ≤ s) ∨ ((a = 94 ∨ a = 95) ∧ 576 ≤ s)
/-- all that the relation looks at is as it was -/
def Kp (u t : qM) : Prop := (∀ a i s, ¬ scr a i s → t.1 a i s = u.1 a i s) ∧ (∀ a s, a = 0 ∨ a = 10 ∨ (a = 11 ∧ (s = 3 ∨ s = 4 ∨ s = 5)) → t.2.1 a 0 s = u.2.1 a 0 s)
theorem Kp.rf {u : qM} : Kp u u := ⟨fun _ _ _ _ => rfl, fun _ _ _ => rfl⟩
theorem Kp.tr {a b c : qM} (h : Kp a b) (h2 : Kp b c) : Kp a c := ⟨fun x i s q => (h2.1 x i s q).trans (h.1 x i s q), fun x s q => (h2.2 x s q).trans (h.2 x s q)⟩
theorem Kp.of {u t : qM} (h : ∀ a i s, ¬ scr a i s → t.1 a i s = u.1 a i s) (h2 : t.2 = u.2) : Kp u t := ⟨h, fun a s _ => by rw [h2]⟩
theorem Rel_keep {n : Nat} {u t : qM} (hk : Kp u t) (h : Rel n u) : Rel n t := by
  obtain ⟨hI, hL⟩ := hk
  have T : ∀ a, (∀ i s, ¬ scr a i s) → t.1 a = u.1 a := fun a q => funext (fun i => funext (fun s => hI a i s (q i s)))
  have TI : ∀ a i, (∀ s, ¬ scr a i s) → t.1 a i = u.1 a i := fun a i q => funext (fun s => hI a i s (q s))
  obtain ⟨h0, h1, h2, h3, h4, h5, h6, h7, h8⟩ := h
  have hc : ∀ b, b < 6 → cB t b = cB u b := fun b hb => by apply cB_ext <;> exact TI _ b (fun s => by unfold scr; omega)
  have hm : ∀ b, b < 6 → mB t b = mB u b := fun b hb => mB_pt (fun a ha => hI a 0 b (by unfold scr; omega)) (fun a s ha hs => hI a 0 _ (by unfold scr; omega)) (fun a s ha hs => hI a 0 _ (by unfold scr; omega)) (fun s hs => hI 93 0 _ (by unfold scr; omega)) (fun a s ha hs => hI a 0 _ (by unfold scr; omega))
  have t2 : ∀ b, b < 6 → t.1 2 b 10 = u.1 2 b 10 := fun b hb => hI 2 b 10 (by unfold scr; omega)
  have t5 : ∀ b, b < 6 → t.1 5 b = u.1 5 b := fun b hb => TI 5 b (fun s => by unfold scr; omega)
  have t45 : ∀ b, b < 6 → t.1 45 b = u.1 45 b := fun b hb => TI 45 b (fun s => by unfold scr; omega)
  have t46 : ∀ b, b < 6 → t.1 46 b = u.1 46 b := fun b hb => TI 46 b (fun s => by unfold scr; omega)
  have e11 : ∀ s, s = 0 ∨ s = 2 ∨ s = 55 ∨ s = 56 ∨ s = 57 ∨ s = 61 → t.1 11 0 s = u.1 11 0 s := fun s q => hI 11 0 s (by unfold scr; omega)
  refine ⟨?_, R1_ext (TI 33 0 (fun s => by unfold scr; omega)) (T 66 (fun i s => by unfold scr; omega)) (T 67 (fun i s => by unfold scr; omega)) (T 30 (fun i s => by unfold scr; omega)) h1, R2_ext (TI 33 1 (fun s => by unfold scr; omega)) (T 69 (fun i s => by unfold scr; omega)) (T 70 (fun i s => by unfold scr; omega)) (T 31 (fun i s => by unfold scr; omega)) h2, R3_ext (Nat.le_refl _) hc hm t2 t5 t45 t46 (T 96 (fun i s => by unfold scr; omega)) (T 97 (fun i s => by unfold scr; omega)) (T 98 (fun i s => by unfold scr; omega)) (fun s hs => hI 99 0 s (by unfold scr; omega)) (fun s hs => hI 100 0 s (by unfold scr; omega)) h3, R4_ext hc t2 t5 h4, R5_ext hc t2 (T 8 (fun i s => by unfold scr; omega)) (T 105 (fun i s => by unfold scr; omega)) (T 106 (fun i s => by unfold scr; omega)) (T 107 (fun i s => by unfold scr; omega)) h5, R6_ext hc t2 (T 9 (fun i s => by unfold scr; omega)) (T 52 (fun i s => by unfold scr; omega)) (T 53 (fun i s => by unfold scr; omega)) (T 108 (fun i s => by unfold scr; omega)) (T 109 (fun i s => by unfold scr; omega)) (T 110 (fun i s => by unfold scr; omega)) (T 111 (fun i s => by unfold scr; omega)) (T 112 (fun i s => by unfold scr; omega)) h6, R7_ext (hI 0 0 14 (by unfold scr; omega)) (e11 61 (by decide)) (TI 33 2 (fun s => by unfold scr; omega)) (T 122 (fun i s => by unfold scr; omega)) (T 123 (fun i s => by unfold scr; omega)) (T 32 (fun i s => by unfold scr; omega)) (T 34 (fun i s => by unfold scr; omega)) (T 124 (fun i s => by unfold scr; omega)) h7, R8_ext (TI 10 0 (fun s => by unfold scr; omega)) (e11 55 (by decide)) (e11 56 (by decide)) (e11 57 (by decide)) (hL 11 3 (by decide)) (funext (fun s => hL 10 s (.inr (.inl rfl)))) h8⟩
  obtain ⟨a1, a2, a3, a4, a5⟩ := h0
  refine ⟨?_, ?_, ?_, ?_, fun i hi => ?_⟩
  · rw [e11 2 (by decide), hI 0 0 15 (by unfold scr; omega)]; exact a1
  · rw [e11 0 (by decide), hI 0 0 16 (by unfold scr; omega)]; exact a2
  · rw [hL 11 4 (by decide), hL 0 17 (by decide)]; exact a3
  · rw [hL 11 5 (by decide), hL 0 18 (by decide)]; exact a4
  · rw [hI 61 0 i (by unfold scr; omega), hI 36 0 i (by unfold scr; omega)]; exact a5 i hi
theorem Kp_mM {k : Nat} {u t : qM} (h : Kp u t) : Kp (mM k u) (mM k t) := by
  refine ⟨fun a i s q => ?_, fun a s q => h.2 a s q⟩
  have e : t.1 61 0 k = u.1 61 0 k := h.1 61 0 k (by unfold scr; omega)
  unfold mM
  rw [e]
  by_cases z : a = 61 ∧ i = 0 ∧ s = k
  · rw [z.1, z.2.1, z.2.2, si_e, si_e]
  · rw [si_n z, si_n z]
    by_cases z2 : a = 11 ∧ i = 0 ∧ s = 0
    · rw [z2.1, z2.2.1, z2.2.2, si_e, si_e]
    · rw [si_n z2, si_n z2]
      exact h.1 a i s q
