theorem y_ix6 (x : Int32) : (∃ j : Nat, j < 6 ∧ x = nI j) ∨ ¬ (nI 0 ≤ x ∧ x < nI 6) := x_ix6 x
theorem b01' {c : Prop} [Decidable c] : q_b (if c then nI 1 else nI 0) = true := b01
theorem q_bn0 : q_b (nI 0) = true := q_b0
theorem q_bn1 : q_b (nI 1) = true := q_b1
theorem nar_n0 : vp_nar .boolean (nI 0) = nI 0 := nar_0
theorem nar_n1 : vp_nar .boolean (nI 1) = nI 1 := nar_1
theorem lp {σ α : Type} {P : α → qM → Prop} (L : Nat → σ → Option (α × qM)) (I : Nat → σ → Prop) (N : Nat) (hs : ∀ n i s, i < N → I i s → (∀ s', I (i + 1) s' → Ev (L n s') P) → Ev (L (n + 1) s) P) (hx : ∀ n s, I N s → Ev (L (n + 1) s) P) : ∀ d n i s, i + d = N → d < n → I i s → Ev (L n s) P := by
  intro d
  induction d with
  | zero =>
    intro n i s h1 h2 h3
    obtain ⟨m, rfl⟩ : ∃ m, n = m + 1 := ⟨n - 1, by omega⟩
    have h4 : i = N := h1
    subst h4
    exact hx m s h3
  | succ d ih =>
    intro n i s h1 h2 h3
    obtain ⟨m, rfl⟩ : ∃ m, n = m + 1 := ⟨n - 1, by omega⟩
    exact hs m i s (by omega) h3 (fun s' h4 => ih m (i + 1) s' (by omega) (by omega) h4)
/-- the same from the start -/
theorem lp0 {σ α : Type} {P : α → qM → Prop} (L : Nat → σ → Option (α × qM)) (I : Nat → σ → Prop) (N : Nat) (hN : N < 4000) (s : σ) (h0 : I 0 s) (hs : ∀ n i s, i < N → I i s → (∀ s', I (i + 1) s' → Ev (L n s') P) → Ev (L (n + 1) s) P) (hx : ∀ n s, I N s → Ev (L (n + 1) s) P) : Ev (L q_fu s) P := lp L I N hs hx N q_fu 0 s (Nat.zero_add _) hN h0
/-- counting, with the memory alone -/
theorem lpc {α : Type} {P : α → qM → Prop} (L : Nat → Int32 → qM → Option (α × qM)) (I : Nat → qM → Prop) (N : Nat) (hN : N < 4000) (u : qM) (h0 : I 0 u) (hs : ∀ f i u, i < N → I i u → (∀ u', I (i + 1) u' → Ev (L f (nI (i + 1)) u') P) → Ev (L (f + 1) (nI i) u) P) (hx : ∀ f u, I N u → Ev (L (f + 1) (nI N) u) P) : Ev (L q_fu (nI 0) u) P := by
  refine lp0 (fun f (s : Int32 × qM) => L f s.1 s.2) (fun i s => s.1 = nI i ∧ I i s.2) N hN (nI 0, u) ⟨rfl, h0⟩ ?_ ?_
  · rintro f i ⟨x, v⟩ hi ⟨h1, h2⟩ K
    have h3 : x = nI i := h1
    subst h3
    exact hs f i v hi h2 (fun u' h4 => K (nI (i + 1), u') ⟨rfl, h4⟩)
  · rintro f ⟨x, v⟩ ⟨h1, h2⟩
    have h3 : x = nI N := h1
    subst h3
    exact hx f v h2
/-- counting, with something carried -/
theorem lpa {α β : Type} {P : α → qM → Prop} (L : Nat → β → Int32 → qM → Option (α × qM)) (I : Nat → β → qM → Prop) (N : Nat) (hN : N < 4000) (b : β) (u : qM) (h0 : I 0 b u) (hs : ∀ f i b u, i < N → I i b u → (∀ b' u', I (i + 1) b' u' → Ev (L f b' (nI (i + 1)) u') P) → Ev (L (f + 1) b (nI i) u) P) (hx : ∀ f b u, I N b u → Ev (L (f + 1) b (nI N) u) P) : Ev (L q_fu b (nI 0) u) P := by
  refine lp0 (fun f (s : (β × Int32) × qM) => L f s.1.1 s.1.2 s.2) (fun i s => s.1.2 = nI i ∧ I i s.1.1 s.2) N hN ((b, nI 0), u) ⟨rfl, h0⟩ ?_ ?_
  · rintro f i ⟨⟨y, x⟩, v⟩ hi ⟨h1, h2⟩ K
    have h3 : x = nI i := h1
    subst h3
    exact hs f i y v hi h2 (fun b' u' h4 => K ((b', nI (i + 1)), u') ⟨rfl, h4⟩)
  · rintro f ⟨⟨y, x⟩, v⟩ ⟨h1, h2⟩
    have h3 : x = nI N := h1
    subst h3
    exact hx f y v h2
theorem slen_6 {k : Nat} (h : k < 2) : q_slen k = 6 := by
  unfold q_slen
  rw [if_neg (by omega)]
theorem ev_isThere {k j : Nat} {u : qM} {P : Int32 → qM → Prop} (hk : k < 2) (hj : j < 6) : Ev (f_X7_isThere k (nI j) u) P ↔ P (if u.1 33 k j < 0 then 0 else 1) u := by
  simp only [eu_X7_isThere, ev_jn, ev_if, ev_ck, ev_so, q_b0, q_b1, true_and, slen_6 hk, q_inT hj (show 6 < 2 ^ 31 by decide), nI_clamp (show j < 2 ^ 31 by omega)]
  by_cases h : u.1 33 k j < 0
  · rw [if_pos h, if_pos h]
  · rw [if_neg h, if_neg h]
theorem ev_hasPlace {k j : Nat} {x : Int32} {u : qM} {P : Int32 → qM → Prop} (hk : k < 2) (hj : j < 6) : Ev (f_X7_hasPlace k (nI j) x u) P ↔ P (if 0 ≤ x ∧ x < u.1 33 k j then 1 else 0) u := by
  simp only [eu_X7_hasPlace, ev_jn, ev_if, ev_ck, ev_so, q_b0, q_b1, true_and, slen_6 hk, q_inT hj (show 6 < 2 ^ 31 by decide), nI_clamp (show j < 2 ^ 31 by omega)]
  exact ev_rng

theorem lp_make {k j n : Nat} {v : Int32} {u : qM} {e : qM → Option (Unit × qM)} {P : Unit → qM → Prop} (hj : j < q_slen k) (hsl : q_slen k ≤ 8) (hn : n ≤ q_rlen k) (hrl : q_rlen k ≤ 48) (K0 : ∀ u', (∀ a, a ≠ (30 + k) → u'.1 a = u.1 a) ∧ (∀ b, b ≠ j → u'.1 (30 + k) b = u.1 (30 + k) b) ∧ (∀ s, u'.1 (30 + k) j s = if s < n then v else u.1 (30 + k) j s) ∧ u'.2 = u.2 → Ev (e u') P) : Ev (L_X7_make_10 k (nI j) (nI n) v q_fu 0 u e) P := by
  refine lpc (fun f x t => L_X7_make_10 k (nI j) (nI n) v f x t e) (fun i t => (∀ a, a ≠ (30 + k) → t.1 a = u.1 a) ∧ (∀ b, b ≠ j → t.1 (30 + k) b = u.1 (30 + k) b) ∧ (∀ s, t.1 (30 + k) j s = if s < i then v else u.1 (30 + k) j s) ∧ t.2 = u.2) (n) (by omega) u (⟨fun _ _ => rfl, fun _ _ => rfl, fun s => (if_neg (by omega)).symm, rfl⟩) ?_ ?_
  · intro f i w hi h2 K
    show Ev (L_X7_make_10 k (nI j) (nI n) v (f + 1) (nI i) w e) P
    simp (disch := first | omega | decide) only [Nat.reduceAdd, Nat.reduceMul, ↓ev_bd, ↓ev_ck, ↓ev_if, ↓ev_lt, ↓ev_jn, ↓ev_so, ↓reduceIte, ↓ev_within, ↓ev_isBoard, ↓ev_isNumber, ↓ev_foundN, ↓ev_found_1, ↓ev_found_2, ↓ev_found_3, ↓ev_found_4, ↓ev_found_5, true_and, and_true, and_self, eq_self, not_true_eq_false, not_false_eq_true, ite_true, ite_false, true_or, or_true, false_or, or_false, false_and, and_false, ← zi_ni_0, ← zi_ni_1, ← zi_ni_2, ← zi_ni_3, ← zi_ni_4, ← zi_ni_5, ← zi_ni_6, ← zi_ni_7, ← zi_ni_8, ← zi_ni_9, ← zi_ni_10, ← zi_ni_12, ← zi_ni_24, ← zi_ni_25, ← zi_ni_40, ← zi_ni_45, ← zi_ni_47, ← zi_ni_48, ← zi_ni_95, ← zi_ni_96, ← zi_ni_97, ← zi_ni_100, ← zi_ni_144, ← zi_ni_288, nI_ltI, nI_leI, nI_eqI, nlt_T, nlt_F, nle_T, nle_F, neq_T, neq_F, nI_add, pk_mul, nI_clamp, q_inT, ng_lt, ng_tl, ng_le, ng_el, ng_eq, ng_qe, q_b0, q_b1, nar_0, nar_1, b01, b01', q_bn0, q_bn1, nar_n0, nar_n1, si_k, si_i, si_s, si_e, si_2, sl_1, sl_22, sl_k, sl_i, sl_s, sl_e, sp_1, sp_21, sp_22, sc_k, sc_i, sc_e, sc_2, mF_k, mF_2, mF_0, ↓eu_L_X7_make_10]
    obtain ⟨g1, g2, g3, g4⟩ := h2
    refine K _ ⟨fun a ha => ?_, fun b hb => ?_, fun s => ?_, g4⟩
    · rw [si_k ha]
      exact g1 a ha
    · rw [si_i hb]
      exact g2 b hb
    · rw [si_c, g3 s]
      by_cases hs : s = i
      · rw [if_pos hs, if_pos (show s < (i + 1) by omega)] <;> rfl
      · by_cases hs2 : s < i
        · rw [if_neg hs, if_pos hs2, if_pos (show s < (i + 1) by omega)]
        · rw [if_neg hs, if_neg hs2, if_neg (show ¬ (s < (i + 1)) by omega)]
  · intro f w h2
    show Ev (L_X7_make_10 k (nI j) (nI n) v (f + 1) (nI (n)) w e) P
    simp (disch := first | omega | decide) only [Nat.reduceAdd, Nat.reduceMul, ↓ev_bd, ↓ev_ck, ↓ev_if, ↓ev_lt, ↓ev_jn, ↓ev_so, ↓reduceIte, ↓ev_within, ↓ev_isBoard, ↓ev_isNumber, ↓ev_foundN, ↓ev_found_1, ↓ev_found_2, ↓ev_found_3, ↓ev_found_4, ↓ev_found_5, true_and, and_true, and_self, eq_self, not_true_eq_false, not_false_eq_true, ite_true, ite_false, true_or, or_true, false_or, or_false, false_and, and_false, ← zi_ni_0, ← zi_ni_1, ← zi_ni_2, ← zi_ni_3, ← zi_ni_4, ← zi_ni_5, ← zi_ni_6, ← zi_ni_7, ← zi_ni_8, ← zi_ni_9, ← zi_ni_10, ← zi_ni_12, ← zi_ni_24, ← zi_ni_25, ← zi_ni_40, ← zi_ni_45, ← zi_ni_47, ← zi_ni_48, ← zi_ni_95, ← zi_ni_96, ← zi_ni_97, ← zi_ni_100, ← zi_ni_144, ← zi_ni_288, nI_ltI, nI_leI, nI_eqI, nlt_T, nlt_F, nle_T, nle_F, neq_T, neq_F, nI_add, pk_mul, nI_clamp, q_inT, ng_lt, ng_tl, ng_le, ng_el, ng_eq, ng_qe, q_b0, q_b1, nar_0, nar_1, b01, b01', q_bn0, q_bn1, nar_n0, nar_n1, si_k, si_i, si_s, si_e, si_2, sl_1, sl_22, sl_k, sl_i, sl_s, sl_e, sp_1, sp_21, sp_22, sc_k, sc_i, sc_e, sc_2, mF_k, mF_2, mF_0, ↓eu_L_X7_make_10]
    exact K0 _ h2
