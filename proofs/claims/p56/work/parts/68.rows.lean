theorem b01' {c : Prop} [Decidable c] : q_b (if c then nI 1 else nI 0) = true := b01
theorem q_bn0 : q_b (nI 0) = true := q_b0
theorem q_bn1 : q_b (nI 1) = true := q_b1
theorem nar_n0 : vp_nar .boolean (nI 0) = nI 0 := nar_0
theorem nar_n1 : vp_nar .boolean (nI 1) = nI 1 := nar_1
theorem lp {σ α : Type} {P : α → qM → Prop} (L : Nat → σ → Option (α × qM)) (I : Nat → σ → Prop) (N : Nat) (hs : ∀ n i s, i < N → I i s → (∀ s', I (i + 1) s' → Ev (L n s') P) → Ev (L (n + 1) s) P) (hx : ∀ n s, I N s → Ev (L (n + 1) s) P) : ∀ d n i s, i + d = N → d < n → I i s → Ev (L n s) P := by
  intro d
  induction d with
  | zero =>
    intro n i s h1 h2 h3
    obtain ⟨m, rfl⟩ : ∃ m, n = m + 1 := ⟨n - 1, by omega⟩
    have h4 : i = N := h1
    subst h4
    exact hx m s h3
  | succ d ih =>
    intro n i s h1 h2 h3
    obtain ⟨m, rfl⟩ : ∃ m, n = m + 1 := ⟨n - 1, by omega⟩
    exact hs m i s (by omega) h3 (fun s' h4 => ih m (i + 1) s' (by omega) (by omega) h4)
/-- the same from the start -/
theorem lp0 {σ α : Type} {P : α → qM → Prop} (L : Nat → σ → Option (α × qM)) (I : Nat → σ → Prop) (N : Nat) (hN : N < 4000) (s : σ) (h0 : I 0 s) (hs : ∀ n i s, i < N → I i s → (∀ s', I (i + 1) s' → Ev (L n s') P) → Ev (L (n + 1) s) P) (hx : ∀ n s, I N s → Ev (L (n + 1) s) P) : Ev (L q_fu s) P := lp L I N hs hx N q_fu 0 s (Nat.zero_add _) hN h0
/-- counting, with something carried -/
theorem lpa {α β : Type} {P : α → qM → Prop} (L : Nat → β → Int32 → qM → Option (α × qM)) (I : Nat → β → qM → Prop) (N : Nat) (hN : N < 4000) (b : β) (u : qM) (h0 : I 0 b u) (hs : ∀ f i b u, i < N → I i b u → (∀ b' u', I (i + 1) b' u' → Ev (L f b' (nI (i + 1)) u') P) → Ev (L (f + 1) b (nI i) u) P) (hx : ∀ f b u, I N b u → Ev (L (f + 1) b (nI N) u) P) : Ev (L q_fu b (nI 0) u) P := by
  refine lp0 (fun f (s : (β × Int32) × qM) => L f s.1.1 s.1.2 s.2) (fun i s => s.1.2 = nI i ∧ I i s.1.1 s.2) N hN ((b, nI 0), u) ⟨rfl, h0⟩ ?_ ?_
  · rintro f i ⟨⟨y, x⟩, v⟩ hi ⟨h1, h2⟩ K
    have h3 : x = nI i := h1
    subst h3
    exact hs f i y v hi h2 (fun b' u' h4 => K ((b', nI (i + 1)), u') ⟨rfl, h4⟩)
  · rintro f ⟨⟨y, x⟩, v⟩ ⟨h1, h2⟩
    have h3 : x = nI N := h1
    subst h3
    exact hx f y v h2
