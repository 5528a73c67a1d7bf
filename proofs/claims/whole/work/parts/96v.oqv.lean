/-! down: a coarse cell, both sides. -/
theorem Rel.watB {n x s : Nat} {μ : qM} (h : Rel n μ) (hx : x < 6) (ht : μ.1 2 x 10 = nI 1) (hs : s < 48) : 0 ≤ (μ.1 38 x s).toInt ∧ (μ.1 38 x s).toInt ≤ 100000 := by
  have q := (bWF (h.2.2.2.1 x hx) ht).2.1.2.1 s
  rwa [cR_2 hs] at q
theorem Rel.carryB {n b wd hg k : Nat} {μ : qM} (h : Rel n μ) (hb : b < 6) (hw : wd ≤ 4) (hg3 : hg ≤ 3) (e1 : μ.1 2 b 10 = nI 1) (e2 : μ.1 2 b 11 = nI 2) (e3 : μ.1 2 b 12 = nI (2 * wd)) (e4 : μ.1 2 b 13 = nI (2 * hg)) (hk : k < wd * hg) : 0 ≤ (μ.1 45 b k).toInt ∧ (μ.1 45 b k).toInt ≤ 100000 := by
  obtain ⟨-, a2⟩ := h.2.2.2.1 b hb
  rcases a2 with ⟨z, -⟩ | ⟨-, -, -, b4⟩
  · rw [e1] at z
    exact absurd z (by decide)
  · obtain ⟨d, x', y, wd', hg', q1, q2, q3, q4, q5, q6, q7, q8, q9, q10, q11, q12, q13, q14, q15, q16, q17, q18⟩ := b4 e2
    have z1 : nW (cB μ b) = 2 * wd := by
      show (μ.1 2 b 12).toNatClampNeg = _
      rw [e3]; exact nI_clamp (by omega)
    have z2 : nH (cB μ b) = 2 * hg := by
      show (μ.1 2 b 13).toNatClampNeg = _
      rw [e4]; exact nI_clamp (by omega)
    obtain rfl : wd' = wd := by omega
    obtain rfl : hg' = hg := by omega
    exact (q18 k hk).2.2
def dn4 (s : (Nat → Int32) × Int32) : (Nat → Int32) × Int32 := dnS (dnS (dnS (dnS s 0) 1) 2) 3
def cp4 (s : (Nat → Int32) × Int32) : (Nat → Int32) × Int32 := cpS (cpS (cpS (cpS s 0) 1) 2) 3
theorem m132p {q f : Nat} {x1 x3 x4 x7 : Int32} {m0 m : qM} {s : (Nat → Int32) × Int32} {e : Int32 → qM → Option (Int32 × qM)} {P : Int32 → qM → Prop} (hq : q < 4) (h1 : FRW m0 m) (h2 : WC m s.1) (hb : -200000 ≤ (s.1 q).toInt) (K : ∀ m', FRW m0 m' → WC m' (dnS s q).1 → Ev (L_X11_down_132 x1 x3 x4 x7 f (dnS s q).2 (nI (q + 1)) m' e) P) : Ev (L_X11_down_132 x1 x3 x4 x7 (f + 1) s.2 (nI q) m e) P := by
  obtain ⟨v, y⟩ := s
  exact m132 hq h1 h2 hb K
theorem m132_all {x1 x3 x4 x7 y : Int32} {m0 m : qM} {v : Nat → Int32} {e : Int32 → qM → Option (Int32 × qM)} {P : Int32 → qM → Prop} (h1 : FRW m0 m) (h2 : WC m v) (hB : Bd v) (K : ∀ m', FRW m0 m' → WC m' (dn4 (v, y)).1 → Ev (e (dn4 (v, y)).2 m') P) : Ev (L_X11_down_132 x1 x3 x4 x7 q_fu y (nI 0) m e) P := by
  obtain ⟨f, hf⟩ : ∃ f, q_fu = f + 1 + 1 + 1 + 1 + 1 := ⟨3995, rfl⟩
  obtain ⟨b1, b2, b3, -⟩ := dn4_bd (y := y) hB
  rw [hf]
  refine m132 (v := v) (y := y) (by decide) h1 h2 (hB 0 (by decide)).1 (fun t1 p1 q1 => ?_)
  refine m132p (s := dnS (v, y) 0) (by decide) p1 q1 (b1 1 (by decide)).1 (fun t2 p2 q2 => ?_)
  refine m132p (s := dnS (dnS (v, y) 0) 1) (by decide) p2 q2 (b2 2 (by decide)).1 (fun t3 p3 q3 => ?_)
  refine m132p (s := dnS (dnS (dnS (v, y) 0) 1) 2) (by decide) p3 q3 (b3 3 (by decide)).1 (fun t4 p4 q4 => ?_)
  have K1 := K t4 p4 q4
  unfold dn4 at K1
  generalize (dnS (dnS (dnS (dnS (v, y) 0) 1) 2) 3).2 = yy at *
  simp (disch := first | omega | decide) only [Nat.reduceAdd, Nat.reduceMul, ↓ev_bd, ↓ev_ck, ↓ev_if, ↓ev_lt, ↓ev_jn, ↓ev_so, ↓reduceIte, ↓ev_within, ↓ev_in, ↓ev_isBoard, ↓ev_isGauge, ↓ev_isNumber, ↓ev_isSix, ↓ev_isEight, ↓ev_foundN, ↓ev_meetsN, ↓ev_found_1, ↓ev_meets_1, ↓ev_found_2, ↓ev_meets_2, ↓ev_found_3, ↓ev_meets_3, ↓ev_found_4, ↓ev_meets_4, ↓ev_found_5, ↓ev_meets_5, true_and, and_true, and_self, eq_self, not_true_eq_false, not_false_eq_true, ite_true, ite_false, true_or, or_true, false_or, or_false, false_and, and_false, ← zi_ni_0, ← zi_ni_1, ← zi_ni_2, ← zi_ni_3, ← zi_ni_4, ← zi_ni_5, ← zi_ni_6, ← zi_ni_7, ← zi_ni_8, ← zi_ni_9, ← zi_ni_10, ← zi_ni_12, ← zi_ni_24, ← zi_ni_25, ← zi_ni_40, ← zi_ni_45, ← zi_ni_47, ← zi_ni_48, ← zi_ni_95, ← zi_ni_96, ← zi_ni_97, ← zi_ni_100, ← zi_ni_144, ← zi_ni_288, nI_ltI, nI_leI, nI_eqI, nlt_T, nlt_F, nle_T, nle_F, neq_T, neq_F, nI_add, pk_mul, nI_clamp, q_inT, ng_lt, ng_tl, ng_le, ng_el, ng_eq, ng_qe, q_b0, q_b1, nar_0, nar_1, b01, b01', q_bn0, q_bn1, nar_n0, nar_n1, si_k, si_i, si_s, si_e, si_2, sl_1, sl_22, sl_k, sl_i, sl_s, sl_e, sp_1, sp_21, sp_22, sc_k, sc_i, sc_e, sc_2, mF_k, mM_k, mF_2, mM_2, mF_0, mM_11, ↓eu_L_X11_down_132]
  exact K1
theorem cp4_1 {s : (Nat → Int32) × Int32} (t : Nat) (ht : t < 4) : (cp4 s).1 t = s.1 t - cp (s.1 t) := by
  have c : t = 0 ∨ t = 1 ∨ t = 2 ∨ t = 3 := by omega
  rcases c with c | c | c | c <;> subst c <;> rfl
theorem m269_all {b wd hg k : Nat} {x3 x7 : Int32} {m : qM} {s : (Nat → Int32) × Int32} {e : Int32 → qM → Option (Int32 × qM)} {P : Int32 → qM → Prop} (hb : b < 6) (hw : 1 ≤ wd) (hw4 : wd ≤ 4) (hg3 : hg ≤ 3) (hk : k < wd * hg) (e2 : m.1 75 0 b = nI (2 * wd)) (h2 : WC m s.1) (hB : ∀ t, t < 4 → -200000 ≤ (s.1 t).toInt) (K : ∀ m', FRX b wd k m m' → (∀ t, t < 4 → m'.1 92 0 (48 * b + fineN wd k t) = (cp4 s).1 t) → Ev (e (cp4 s).2 m') P) : Ev (L_X11_down_269 (nI b) x3 (nI k) x7 q_fu s.2 (nI 0) m e) P := by
  obtain ⟨f, hf⟩ : ∃ f, q_fu = f + 1 + 1 + 1 + 1 + 1 := ⟨3995, rfl⟩
  rw [hf]
  refine m269 (m0 := m) (s := s) hb hw hw4 hg3 hk (by decide) e2 ⟨fun _ _ _ _ => rfl, rfl⟩ ⟨fun t ht => absurd ht (Nat.not_lt_zero t), fun t _ ht => h2 t ht⟩ (hB 0 (by decide)) (fun t1 p1 q1 => ?_)
  refine m269 (m0 := m) (s := cpS s 0) hb hw hw4 hg3 hk (by decide) e2 p1 q1 (hB 1 (by decide)) (fun t2 p2 q2 => ?_)
  refine m269 (m0 := m) (s := cpS (cpS s 0) 1) hb hw hw4 hg3 hk (by decide) e2 p2 q2 (hB 2 (by decide)) (fun t3 p3 q3 => ?_)
  refine m269 (m0 := m) (s := cpS (cpS (cpS s 0) 1) 2) hb hw hw4 hg3 hk (by decide) e2 p3 q3 (hB 3 (by decide)) (fun t4 p4 q4 => ?_)
  have K1 := K t4 p4 q4.1
  unfold cp4 at K1
  generalize (cpS (cpS (cpS (cpS s 0) 1) 2) 3).2 = yy at *
  simp (disch := first | omega | decide) only [Nat.reduceAdd, Nat.reduceMul, ↓ev_bd, ↓ev_ck, ↓ev_if, ↓ev_lt, ↓ev_jn, ↓ev_so, ↓reduceIte, ↓ev_within, ↓ev_in, ↓ev_isBoard, ↓ev_isGauge, ↓ev_isNumber, ↓ev_isSix, ↓ev_isEight, ↓ev_foundN, ↓ev_meetsN, ↓ev_found_1, ↓ev_meets_1, ↓ev_found_2, ↓ev_meets_2, ↓ev_found_3, ↓ev_meets_3, ↓ev_found_4, ↓ev_meets_4, ↓ev_found_5, ↓ev_meets_5, true_and, and_true, and_self, eq_self, not_true_eq_false, not_false_eq_true, ite_true, ite_false, true_or, or_true, false_or, or_false, false_and, and_false, ← zi_ni_0, ← zi_ni_1, ← zi_ni_2, ← zi_ni_3, ← zi_ni_4, ← zi_ni_5, ← zi_ni_6, ← zi_ni_7, ← zi_ni_8, ← zi_ni_9, ← zi_ni_10, ← zi_ni_12, ← zi_ni_24, ← zi_ni_25, ← zi_ni_40, ← zi_ni_45, ← zi_ni_47, ← zi_ni_48, ← zi_ni_95, ← zi_ni_96, ← zi_ni_97, ← zi_ni_100, ← zi_ni_144, ← zi_ni_288, nI_ltI, nI_leI, nI_eqI, nlt_T, nlt_F, nle_T, nle_F, neq_T, neq_F, nI_add, pk_mul, nI_clamp, q_inT, ng_lt, ng_tl, ng_le, ng_el, ng_eq, ng_qe, q_b0, q_b1, nar_0, nar_1, b01, b01', q_bn0, q_bn1, nar_n0, nar_n1, si_k, si_i, si_s, si_e, si_2, sl_1, sl_22, sl_k, sl_i, sl_s, sl_e, sp_1, sp_21, sp_22, sc_k, sc_i, sc_e, sc_2, mF_k, mM_k, mF_2, mM_2, mF_0, mM_11, ↓eu_L_X11_down_269]
  exact K1
/-- the reference behind a coarse cell -/
def DM (b wd k : Nat) (V : Int32) (s : (Nat → Int32) × Int32) (m m2 : qM) : Prop := (∀ a i j, a ≠ 118 → ¬ (a = 92 ∧ i = 0 ∧ ∃ t, t < 4 ∧ j = 48 * b + fineN wd k t) → ¬ (a = 100 ∧ i = 0 ∧ j = 48 * b + k) → ¬ (a = 99 ∧ i = 0 ∧ j = 48 * b + k) → m2.1 a i j = m.1 a i j) ∧ m2.2 = m.2 ∧ (∀ t, t < 4 → m2.1 92 0 (48 * b + fineN wd k t) = s.1 t) ∧ m2.1 100 0 (48 * b + k) = s.2 ∧ m2.1 99 0 (48 * b + k) = V
theorem DM.ex {b wd k : Nat} {V : Int32} {s : (Nat → Int32) × Int32} {m : qM} (hw : 1 ≤ wd) : ∃ m2, DM b wd k V s m m2 := by
  refine ⟨q_si (q_si (q_si (q_si (q_si (q_si m 92 0 (48 * b + fineN wd k 0) (s.1 0)) 92 0 (48 * b + fineN wd k 1) (s.1 1)) 92 0 (48 * b + fineN wd k 2) (s.1 2)) 92 0 (48 * b + fineN wd k 3) (s.1 3)) 100 0 (48 * b + k) s.2) 99 0 (48 * b + k) V, fun a i j q1 q2 q3 q4 => ?_, rfl, fun t ht => ?_, ?_, si_e⟩
  · rw [si_n q4, si_n q3, si_n (fun z => q2 ⟨z.1, z.2.1, 3, by decide, z.2.2⟩), si_n (fun z => q2 ⟨z.1, z.2.1, 2, by decide, z.2.2⟩), si_n (fun z => q2 ⟨z.1, z.2.1, 1, by decide, z.2.2⟩), si_n (fun z => q2 ⟨z.1, z.2.1, 0, by decide, z.2.2⟩)]
  · rw [si_k (by decide), si_k (by decide)]
    have c : t = 0 ∨ t = 1 ∨ t = 2 ∨ t = 3 := by omega
    have ne : ∀ a b' : Nat, a < 4 → b' < 4 → a ≠ b' → 48 * b + fineN wd k a ≠ 48 * b + fineN wd k b' := fun a b' h1 h2 h3 h4 => h3 (fineN_inj (k := k) hw h1 h2 (by omega))
    rcases c with c | c | c | c <;> subst c
    · rw [si_s (ne 0 3 (by decide) (by decide) (by decide)), si_s (ne 0 2 (by decide) (by decide) (by decide)), si_s (ne 0 1 (by decide) (by decide) (by decide)), si_e]
    · rw [si_s (ne 1 3 (by decide) (by decide) (by decide)), si_s (ne 1 2 (by decide) (by decide) (by decide)), si_e]
    · rw [si_s (ne 2 3 (by decide) (by decide) (by decide)), si_e]
    · rw [si_e]
  · rw [si_k (by decide), si_e]
theorem dn_rel {n b wd k : Nat} {V : Int32} {s : (Nat → Int32) × Int32} {c t2 m m2 : qM} (hb : b < 6) (hk : k < 12) (hlt : ∀ q, q < 4 → fineN wd k q < 48) (hB : ∀ t, t < 4 → 0 ≤ (s.1 t).toInt ∧ (s.1 t).toInt ≤ 100000) (hV : 0 ≤ V.toInt ∧ V.toInt ≤ 100000) (h : Rel n (mix c m)) (h1 : VY b wd k c t2 s) (h2 : DM b wd k V s m m2) : Rel n (mix (q_si t2 45 b k V) m2) := by
  obtain ⟨⟨a1, a2⟩, a3, a4⟩ := h1
  obtain ⟨b1, b2, b3, b4, b5⟩ := h2
  have m38 : ∀ c m : qM, (mix c m).1 38 = c.1 38 := fun c m => mix_c rfl
  have m45 : ∀ c m : qM, (mix c m).1 45 = c.1 45 := fun c m => mix_c rfl
  have m46 : ∀ c m : qM, (mix c m).1 46 = c.1 46 := fun c m => mix_c rfl
  have m92 : ∀ c m : qM, (mix c m).1 92 = m.1 92 := fun c m => mix_m rfl
  have m99 : ∀ c m : qM, (mix c m).1 99 = m.1 99 := fun c m => mix_m rfl
  have m100 : ∀ c m : qM, (mix c m).1 100 = m.1 100 := fun c m => mix_m rfl
  refine Rel_WN (μ := mix c m) (fun a q1 q2 q3 q4 q5 q6 q7 => ?_) ?_ (fun x j hx hj => ?_) (fun x k' hx hk' => ?_) h
  · cases z : isM a
    · rw [mix_c z, mix_c z, si_k q2]
      exact funext (fun i => funext (fun j => a1 a i j (by omega) (by omega)))
    · rw [mix_m z, mix_m z]
      exact funext (fun i => funext (fun j => b1 a i j q7 (by omega) (by omega) (by omega)))
  · unfold mix
    dsimp only
    rw [b2, show (q_si t2 45 b k V).2 = t2.2 from rfl, a2]
  · rw [m38, m38, m92, m92, si_k (by decide)]
    by_cases q : x = b ∧ ∃ t, t < 4 ∧ j = fineN wd k t
    · obtain ⟨rfl, t, ht, rfl⟩ := q
      rw [b3 t ht, a3 t ht]
      exact .inr ⟨rfl, hB t ht⟩
    · refine .inl ⟨a1 38 x j (fun z => q z.2) (by omega), b1 92 0 _ (by decide) (fun z => q ?_) (by omega) (by omega)⟩
      obtain ⟨-, -, t, ht, z⟩ := z
      have := hlt t ht
      exact ⟨by omega, t, ht, by omega⟩
  · rw [m45, m45, m46, m46, m99, m99, m100, m100, si_k (show (46 : Nat) ≠ 45 by decide)]
    by_cases q : x = b ∧ k' = k
    · obtain ⟨rfl, rfl⟩ := q
      rw [b4, b5, a4, si_e]
      exact .inr ⟨rfl, rfl, hV⟩
    · refine .inl ⟨(si_n (by omega)).trans (a1 45 x k' (by omega) (by omega)), a1 46 x k' (by omega) (by omega), b1 99 0 _ (by decide) (by omega) (by omega) (by omega), b1 100 0 _ (by decide) (by omega) (by omega) (by omega)⟩
