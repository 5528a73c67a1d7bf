/-! The calls that clear a place: board, drop, keep. -/
theorem bo_m9 {U : Nat → Bool} : bo U (-9) = -9 := by
  unfold bo
  rw [if_neg (fun q => absurd q.1 (by decide +kernel))]
theorem bo_nI {U : Nat → Bool} {x : Nat} (hx : x < 6) : bo U (nI x) = if U x = true then nI x else -nI 9 := by
  unfold bo
  rw [nI_clamp (by omega)]
  have h1 : nI 0 ≤ nI x := nI_pos' (by omega)
  have h2 : nI x < nI 6 := nI_lt hx (by decide)
  cases hu : U x
  · rw [if_pos ⟨h1, h2, rfl⟩, if_neg (by decide)]
  · rw [if_neg (fun q => by cases q.2.2), if_pos rfl]
theorem bo_eq {U V : Nat → Bool} (h : ∀ x, x < 6 → U x = V x) (x : Int32) : bo U x = bo V x := by
  rcases y_ix6 x with ⟨j, hj, rfl⟩ | q
  · rw [bo_nI hj, bo_nI hj, h j hj]
  · unfold bo
    rw [if_neg (fun z => q ⟨z.1, z.2.1⟩), if_neg (fun z => q ⟨z.1, z.2.1⟩)]
/-- what clearing needs to know, from the relation -/
theorem Rel.facts {n : Nat} {μ : qM} (h : Rel n μ) : ∃ (th ne : Nat → Bool) (on dep : Nat → Nat), CF μ th ne on ∧ MF μ th ne on ∧ NF th ne on dep ∧ (∀ k, k < 8 → bo th (μ.1 8 k 0) = μ.1 8 k 0) ∧ (∀ k, k < 8 → bo th (μ.1 9 k 2) = μ.1 9 k 2) ∧ (∀ k, k < 8 → bo th (μ.1 105 0 k) = μ.1 105 0 k) ∧ (∀ k, k < 8 → bo th (μ.1 108 0 k) = μ.1 108 0 k) := by
  obtain ⟨-, -, -, h3, ⟨dep, h4⟩, h5, h6, -, -⟩ := h
  have ht : ∀ x, decide (μ.1 2 x 10 = nI 1) = true ↔ μ.1 2 x 10 = nI 1 := fun x => decide_eq_true_iff
  refine ⟨fun x => decide (μ.1 2 x 10 = nI 1), fun x => decide (μ.1 2 x 11 = nI 2), fun x => (μ.1 5 x 2).toNatClampNeg, dep, ⟨?_, ?_, ?_⟩, ⟨?_, ?_, ?_⟩, ?_, ?_, ?_, ?_, ?_⟩
  · intro x hx
    rcases (h3 x hx).2 with ⟨e1, -⟩ | ⟨e1, -⟩
    · rw [if_neg (fun q => absurd ((ht x).mp q) (by rw [e1]; decide +kernel))]
      exact e1
    · rw [if_pos ((ht x).mpr e1)]
      exact e1
  · intro x hx h1
    exact decide_eq_true_iff.symm
  · intro x hx h1 h2
    rcases (h3 x hx).2 with ⟨e1, -⟩ | ⟨e1, e2, e3, e4⟩
    · exact absurd ((ht x).mp h1) (by rw [e1]; decide +kernel)
    · obtain ⟨d, x', y, wd, hg, q1, q2, q3, -⟩ := e4 (decide_eq_true_iff.mp h2)
      dsimp only
      rw [q3, nI_clamp (by omega)]
  · intro x hx h1
    rcases (h3 x hx).2 with ⟨e1, e2⟩ | ⟨e1, -⟩
    · exact e2
    · have h1' : decide (μ.1 2 x 10 = nI 1) = false := h1
      rw [(ht x).mpr e1] at h1'
      cases h1'
  · intro x hx h1
    have hz := (ht x).mp h1
    obtain ⟨⟨k, wd, hg, st, p, d, rc, pc, a0, a1, -⟩, -⟩ := bWF (h3 x hx) hz
    have e0 : μ.1 2 x 11 = nI k := a0
    refine ⟨k, a1, (bZ_0 (h3 x hx) hz).trans a0, ?_⟩
    rw [decide_eq_true_iff, e0]
    exact (nI_eq (by omega) (by decide)).symm
  · intro x hx h1 h2
    rcases (h3 x hx).2 with ⟨e1, -⟩ | ⟨e1, e2, e3, e4⟩
    · exact absurd ((ht x).mp h1) (by rw [e1]; decide +kernel)
    · obtain ⟨d, x', y, wd, hg, q1, q2, q3, q4, -⟩ := e4 (decide_eq_true_iff.mp h2)
      dsimp only
      rw [q3, q4, nI_clamp (by omega)]
  · intro x hx h1 h2
    rcases (h3 x hx).2 with ⟨e1, -⟩ | ⟨e1, e2, e3, e4⟩
    · exact absurd ((ht x).mp h1) (by rw [e1]; decide +kernel)
    · obtain ⟨d, x', y, wd, hg, q1, q2, q3, q4, q5, -⟩ := e4 (decide_eq_true_iff.mp h2)
      dsimp only
      rw [q3, nI_clamp (by omega)]
      have := h4 x d hx q1 e1 (decide_eq_true_iff.mp h2) q3
      exact ⟨q1, q2, (ht d).mpr q5, this.1, this.2⟩
  · intro k hk
    rcases h5 k hk with ⟨e1, -⟩ | ⟨b, c, d, hb, e1, e2, -⟩
    · rw [e1]; exact bo_m9
    · rw [e2, bo_nI hb, if_pos ((ht b).mpr e1)]
  · intro k hk
    rcases h6 k hk with ⟨e1, -⟩ | ⟨b, c, d, m, hb, e1, e2, -⟩
    · rw [e1]; exact bo_m9
    · rw [e2, bo_nI hb, if_pos ((ht b).mpr e1)]
  · intro k hk
    rcases h5 k hk with ⟨-, e1⟩ | ⟨b, c, d, hb, e1, -, e2, -⟩
    · rw [e1]; exact bo_m9
    · rw [e2, bo_nI hb, if_pos ((ht b).mpr e1)]
  · intro k hk
    rcases h6 k hk with ⟨-, e1⟩ | ⟨b, c, d, m, hb, e1, -, e2, -⟩
    · rw [e1]; exact bo_m9
    · rw [e2, bo_nI hb, if_pos ((ht b).mpr e1)]
/-- kinds that no clearing nor making of a board touches -/
def ga (a : Nat) : Bool := !(isCK a || isMK a || a == 5 || a == 8 || a == 9 || a == 99 || a == 100 || a == 105 || a == 108 || a == 45 || a == 46 || a == 96 || a == 97 || a == 98)
/-- the relation behind a clearing, the cleared place made anew or not -/
theorem Rel_new {n b : Nat} {μ μ' : qM} {th ne U : Nat → Bool} {on : Nat → Nat} (h : Rel n μ) (hb : b < 6) (hf : CF μ th ne on) (hO : ∀ x, x < 6 → th x = true → ne x = true → on x < 6) (hU : EU th ne on b U) (hg : ∀ a, ga a = true → μ'.1 a = μ.1 a) (hl : μ'.2 = μ.2)
    (c1 : ∀ x, x < 6 → x ≠ b → cB μ' x = cB μ x) (c2 : ∀ x, x < 6 → x ≠ b → U x = true → mB μ' x = mB μ x) (c3 : ∀ x, x < 6 → x ≠ b → ∀ t, t ≠ 0 → mB μ' x t = mB μ x t) (c4 : ∀ x, x < 6 → x ≠ b → μ'.1 2 x 10 = if U x = true then nI 1 else nI 0) (c5 : ∀ x, x < 6 → x ≠ b → U x = false → μ'.1 74 0 x = -nI 9)
    (d5 : ∀ x, x < 6 → x ≠ b → μ'.1 5 x = μ.1 5 x) (d45 : ∀ x, x < 6 → x ≠ b → μ'.1 45 x = μ.1 45 x) (d46 : ∀ x, x < 6 → x ≠ b → μ'.1 46 x = μ.1 46 x) (d96 : ∀ x, x < 6 → x ≠ b → μ'.1 96 0 x = μ.1 96 0 x) (d97 : ∀ x, x < 6 → x ≠ b → μ'.1 97 0 x = μ.1 97 0 x) (d98 : ∀ x, x < 6 → x ≠ b → μ'.1 98 0 x = μ.1 98 0 x) (d99 : ∀ x, x < 6 → x ≠ b → ∀ s, s < 48 → μ'.1 99 0 (48 * x + s) = μ.1 99 0 (48 * x + s)) (d100 : ∀ x, x < 6 → x ≠ b → ∀ s, s < 48 → μ'.1 100 0 (48 * x + s) = μ.1 100 0 (48 * x + s))
    (e8 : ∀ k, k < 8 → μ'.1 8 k 0 = bo U (μ.1 8 k 0)) (e81 : ∀ k, k < 8 → ∀ s, s ≠ 0 → μ'.1 8 k s = μ.1 8 k s) (e9 : ∀ k, k < 8 → μ'.1 9 k 2 = bo U (μ.1 9 k 2)) (e91 : ∀ k, k < 8 → ∀ s, s ≠ 2 → μ'.1 9 k s = μ.1 9 k s) (e105 : ∀ k, k < 8 → μ'.1 105 0 k = bo U (μ.1 105 0 k)) (e108 : ∀ k, k < 8 → μ'.1 108 0 k = bo U (μ.1 108 0 k))
    (hB : R3b (n + 1) μ' b) (h4 : R4 μ') : Rel (n + 1) μ' := by
  have hUb : U b = false := nf (fun q => ((hU b hb).mp q).2.1 rfl)
  have hne : ∀ x, x < 6 → U x = true → x ≠ b := fun x hx h1 q => by rw [q, hUb] at h1; cases h1
  have hth : ∀ x, x < 6 → U x = true → μ.1 2 x 10 = nI 1 := fun x hx h1 => by rw [hf.1 x hx, ((hU x hx).mp h1).1, if_pos rfl]
  have hN : ∀ x, x < 6 → U x = true → nN (cB μ' x) = nN (cB μ x) := fun x hx h1 => by rw [c1 x hx (hne x hx h1)]
  obtain ⟨h0, h1, h2, h3, -, h5, h6, h7, h8⟩ := h.succ
  refine ⟨R0_ext (hg 0 rfl) (hg 11 rfl) (by rw [hl]) (by rw [hl]) (hg 36 rfl) (hg 61 rfl) h0, R1_ext (by rw [hg 33 rfl]) (hg 66 rfl) (hg 67 rfl) (hg 30 rfl) h1, R2_ext (by rw [hg 33 rfl]) (hg 69 rfl) (hg 70 rfl) (hg 31 rfl) h2, ?_, h4, ?_, ?_, R7_ext (by rw [hg 0 rfl]) (by rw [hg 11 rfl]) (by rw [hg 33 rfl]) (hg 122 rfl) (hg 123 rfl) (hg 32 rfl) (hg 34 rfl) (hg 124 rfl) h7, R8_ext (by rw [hg 10 rfl]) (by rw [hg 11 rfl]) (by rw [hg 11 rfl]) (by rw [hg 11 rfl]) (by rw [hl]) (by rw [hl]) h8⟩
  · intro x hx
    by_cases q : x = b
    · subst q
      exact hB
    · refine ⟨fun t ht => by rw [c1 x hx q, c3 x hx q t ht]; exact (h3 x hx).1 t ht, ?_⟩
      cases hu : U x
      · left
        exact ⟨by rw [c4 x hx q, hu, if_neg (by decide)]; rfl, c5 x hx q hu⟩
      · right
        have hz := hth x hx hu
        refine ⟨by rw [c4 x hx q, hu, if_pos rfl]; rfl, ?_, by rw [c1 x hx q]; exact bWF (h3 x hx) hz, fun hk => ?_⟩
        · rw [c1 x hx q, c2 x hx q hu, bEq (h3 x hx) hz]
        · rw [c1 x hx q] at hk
          rcases (h3 x hx).2 with ⟨z1, -⟩ | ⟨-, -, -, z4⟩
          · rw [hz] at z1
            exact absurd z1 (by decide +kernel)
          obtain ⟨d, x', y, wd, hg', q1, q2, q3, q4, q5, q6, q7, q8, q9, q10, q11, q12, q13, q14, q15, q16, q17, q18⟩ := z4 hk
          have hu' := (hU x hx).mp hu
          have hnx : ne x = true := (hf.2.1 x hx hu'.1).mp hk
          have hon : on x = d := by
            have e := hf.2.2 x hx hu'.1 hnx
            rw [q3] at e
            have hlt := hO x hx hu'.1 hnx
            exact ((nI_eq (by omega) (by omega)).mp e).symm
          have hUd : U d = true := by rw [← hon]; exact hu'.2.2 hnx
          have hdb := hne d q1 hUd
          refine ⟨d, x', y, wd, hg', q1, q2, ?_, ?_, ?_, ?_, ?_, ?_, ?_, ?_, ?_, q12, q13, q14, q15, ?_, ?_, ?_⟩
          · rw [d5 x hx q]; exact q3
          · rw [d96 x hx q]; exact q4
          · rw [c4 d q1 hdb, hUd, if_pos rfl]; rfl
          · rw [d5 x hx q]; exact q6
          · rw [d97 x hx q]; exact q7
          · rw [d5 x hx q]; exact q8
          · rw [d98 x hx q]; exact q9
          · rw [c1 x hx q]; exact q10
          · rw [c1 x hx q]; exact q11
          · rw [c1 d q1 hdb]; exact q16
          · rw [c1 d q1 hdb]; exact q17
          · intro k hk
            have hk2 : k < 12 := Nat.lt_of_lt_of_le hk (Nat.mul_le_mul q13 q15)
            rw [d45 x hx q, d46 x hx q, d99 x hx q k (by omega), d100 x hx q k (by omega)]
            exact q18 k hk
  · intro k hk
    rw [e8 k hk, e105 k hk, hg 106 rfl, hg 107 rfl, e81 k hk 1 (by decide), e81 k hk 2 (by decide)]
    rcases h5 k hk with ⟨z1, z2⟩ | ⟨x, c, d, hx, z1, z2, z3, z4, zr⟩
    · rw [z1, z2, bo_m9]
      exact .inl ⟨rfl, rfl⟩
    · rw [z2, z3, bo_nI hx]
      cases hu : U x
      · rw [if_neg (by decide)]
        exact .inl ⟨rfl, rfl⟩
      · rw [if_pos rfl]
        exact .inr ⟨x, c, d, hx, by rw [c4 x hx (hne x hx hu), hu, if_pos rfl]; rfl, rfl, rfl, by rw [hN x hx hu]; exact z4, zr⟩
  · intro k hk
    rw [e9 k hk, e108 k hk, hg 109 rfl, hg 110 rfl, hg 111 rfl, hg 112 rfl, hg 52 rfl, hg 53 rfl, e91 k hk 3 (by decide), e91 k hk 4 (by decide), e91 k hk 5 (by decide)]
    rcases h6 k hk with ⟨z1, z2⟩ | ⟨x, c, d, m, hx, z1, z2, z3, z4, zr⟩
    · rw [z1, z2, bo_m9]
      exact .inl ⟨rfl, rfl⟩
    · rw [z2, z3, bo_nI hx]
      cases hu : U x
      · rw [if_neg (by decide)]
        exact .inl ⟨rfl, rfl⟩
      · rw [if_pos rfl]
        exact .inr ⟨x, c, d, m, hx, by rw [c4 x hx (hne x hx hu), hu, if_pos rfl]; rfl, rfl, rfl, by rw [hN x hx hu]; exact z4, zr⟩

theorem R4_sub {μ μ' : qM} {b : Nat} (h : R4 μ) (hb : ∀ x, x < 6 → μ'.1 2 x 10 = 1 → μ'.1 2 x 11 = 2 → x ≠ b ∧ μ.1 2 x 10 = 1) (h11 : ∀ x, x < 6 → x ≠ b → μ'.1 2 x 11 = μ.1 2 x 11) (h5 : ∀ x, x < 6 → x ≠ b → μ'.1 5 x = μ.1 5 x) : R4 μ' := by
  obtain ⟨dep, h⟩ := h
  refine ⟨dep, fun x d hx hd e1 e2 e3 => ?_⟩
  obtain ⟨q1, q2⟩ := hb x hx e1 e2
  exact h x d hx hd q2 (by rw [← h11 x hx q1]; exact e2) (by rw [← h5 x hx q1]; exact e3)
/-- what the class's clearing leaves as it was -/
theorem ClC.g {μ u : qM} {U : Nat → Bool} (h : ClC μ U u) {a : Nat} (h2 : a ≠ 2) (h8 : a ≠ 8) (h9 : a ≠ 9) : u.1 a = μ.1 a := by
  funext i s
  exact h.1 a i s (fun q => h2 q.1) (fun q => h8 q.1) (fun q => h9 q.1)
theorem ClC_cB {μ u : qM} {U : Nat → Bool} (h : ClC μ U u) (x : Nat) : cB u x = cB μ x := by
  have e2 : ∀ s, s ≠ 10 → u.1 2 x s = μ.1 2 x s := fun s q => h.1 2 x s (by omega) (by omega) (by omega)
  funext t s
  rcases (show t = 0 ∨ t = 1 ∨ t = 2 ∨ t = 3 ∨ t = 4 ∨ t = 5 ∨ t = 6 ∨ t = 7 ∨ t = 8 ∨ 9 ≤ t by omega) with rfl | rfl | rfl | rfl | rfl | rfl | rfl | rfl | rfl | ht
  · rcases (show s = 0 ∨ s = 1 ∨ s = 2 ∨ s = 3 ∨ s = 4 ∨ s = 5 ∨ s = 6 ∨ s = 7 ∨ s = 8 ∨ s = 9 ∨ s = 10 ∨ s = 11 ∨ s = 12 ∨ s = 13 ∨ 14 ≤ s by omega) with rfl | rfl | rfl | rfl | rfl | rfl | rfl | rfl | rfl | rfl | rfl | rfl | rfl | rfl | hs
    · exact e2 11 (by decide)
    · exact e2 12 (by decide)
    · exact e2 13 (by decide)
    · exact e2 14 (by decide)
    · exact e2 15 (by decide)
    · exact e2 16 (by decide)
    · exact e2 17 (by decide)
    · exact e2 18 (by decide)
    · exact congrFun (congrFun (h.g (a := 3) (by decide) (by decide) (by decide)) _) _
    · exact congrFun (congrFun (h.g (a := 3) (by decide) (by decide) (by decide)) _) _
    · exact congrFun (congrFun (h.g (a := 3) (by decide) (by decide) (by decide)) _) _
    · exact congrFun (congrFun (h.g (a := 3) (by decide) (by decide) (by decide)) _) _
    · exact congrFun (congrFun (h.g (a := 4) (by decide) (by decide) (by decide)) _) _
    · exact e2 9 (by decide)
    · obtain ⟨z, rfl⟩ : ∃ z, s = z + 14 := ⟨s - 14, by omega⟩
      rfl
  · show (if s < 48 then u.1 37 x s else 0) = (if s < 48 then μ.1 37 x s else 0)
    rw [h.g (a := 37) (by decide) (by decide) (by decide)]
  · show (if s < 48 then u.1 38 x s else 0) = (if s < 48 then μ.1 38 x s else 0)
    rw [h.g (a := 38) (by decide) (by decide) (by decide)]
  · show (if s < 144 then u.1 39 x s else 0) = (if s < 144 then μ.1 39 x s else 0)
    rw [h.g (a := 39) (by decide) (by decide) (by decide)]
  · show (if s < 96 then u.1 40 x s else 0) = (if s < 96 then μ.1 40 x s else 0)
    rw [h.g (a := 40) (by decide) (by decide) (by decide)]
  · show (if s < 96 then u.1 41 x s else 0) = (if s < 96 then μ.1 41 x s else 0)
    rw [h.g (a := 41) (by decide) (by decide) (by decide)]
  · show (if s < 4 then u.1 42 x s else 0) = (if s < 4 then μ.1 42 x s else 0)
    rw [h.g (a := 42) (by decide) (by decide) (by decide)]
  · show (if s < 4 then u.1 43 x s else 0) = (if s < 4 then μ.1 43 x s else 0)
    rw [h.g (a := 43) (by decide) (by decide) (by decide)]
  · show (if s < 4 then u.1 44 x s else 0) = (if s < 4 then μ.1 44 x s else 0)
    rw [h.g (a := 44) (by decide) (by decide) (by decide)]
  · obtain ⟨z, rfl⟩ : ∃ z, t = z + 9 := ⟨t - 9, by omega⟩
    rfl
theorem ClM.g {μ u : qM} {U : Nat → Bool} (h : ClM μ U u) {a : Nat} (h2 : a ≠ 74) (h8 : a ≠ 105) (h9 : a ≠ 108) : u.1 a = μ.1 a := by
  funext i s
  exact h.1 a i s (fun q => h2 q.1) (fun q => h8 q.1) (fun q => h9 q.1)
theorem ClM_mB {μ u : qM} {U : Nat → Bool} (h : ClM μ U u) (x t : Nat) (ht : t ≠ 0) : mB u x t = mB μ x t := by
  funext s
  rcases (show t = 1 ∨ t = 2 ∨ t = 3 ∨ t = 4 ∨ t = 5 ∨ t = 6 ∨ t = 7 ∨ t = 8 ∨ 9 ≤ t by omega) with rfl | rfl | rfl | rfl | rfl | rfl | rfl | rfl | ht9
  · show (if s < 48 then u.1 91 0 (48 * x + s) else 0) = (if s < 48 then μ.1 91 0 (48 * x + s) else 0)
    rw [h.g (a := 91) (by decide) (by decide) (by decide)]
  · show (if s < 48 then u.1 92 0 (48 * x + s) else 0) = (if s < 48 then μ.1 92 0 (48 * x + s) else 0)
    rw [h.g (a := 92) (by decide) (by decide) (by decide)]
  · show (if s < 144 then u.1 93 0 (144 * x + s) else 0) = (if s < 144 then μ.1 93 0 (144 * x + s) else 0)
    rw [h.g (a := 93) (by decide) (by decide) (by decide)]
  · show (if s < 96 then u.1 94 0 (96 * x + s) else 0) = (if s < 96 then μ.1 94 0 (96 * x + s) else 0)
    rw [h.g (a := 94) (by decide) (by decide) (by decide)]
  · show (if s < 96 then u.1 95 0 (96 * x + s) else 0) = (if s < 96 then μ.1 95 0 (96 * x + s) else 0)
    rw [h.g (a := 95) (by decide) (by decide) (by decide)]
  · show (if s < 4 then u.1 90 0 (4 * x + s) else 0) = (if s < 4 then μ.1 90 0 (4 * x + s) else 0)
    rw [h.g (a := 90) (by decide) (by decide) (by decide)]
  · show (if s < 4 then u.1 87 0 (4 * x + s) else 0) = (if s < 4 then μ.1 87 0 (4 * x + s) else 0)
    rw [h.g (a := 87) (by decide) (by decide) (by decide)]
  · show (if s < 4 then u.1 88 0 (4 * x + s) else 0) = (if s < 4 then μ.1 88 0 (4 * x + s) else 0)
    rw [h.g (a := 88) (by decide) (by decide) (by decide)]
  · obtain ⟨z, rfl⟩ : ∃ z, t = z + 9 := ⟨t - 9, by omega⟩
    rfl
theorem ClM_mBU {μ u : qM} {U : Nat → Bool} (h : ClM μ U u) {x : Nat} (hx : x < 6) (hu : U x = true) : mB u x = mB μ x := by
  funext t
  by_cases ht : t = 0
  · subst ht
    funext s
    rcases (show s = 0 ∨ s ≠ 0 by omega) with rfl | hs
    · have e := h.2.2.1 x hx
      rw [hu, if_pos rfl] at e
      exact e
    · rcases (show s = 1 ∨ s = 2 ∨ s = 3 ∨ s = 4 ∨ s = 5 ∨ s = 6 ∨ s = 7 ∨ s = 8 ∨ s = 9 ∨ s = 10 ∨ s = 11 ∨ s = 12 ∨ s = 13 ∨ 14 ≤ s by omega) with rfl | rfl | rfl | rfl | rfl | rfl | rfl | rfl | rfl | rfl | rfl | rfl | rfl | hs
      · exact congrFun (congrFun (h.g (a := 75) (by decide) (by decide) (by decide)) _) _
      · exact congrFun (congrFun (h.g (a := 76) (by decide) (by decide) (by decide)) _) _
      · exact congrFun (congrFun (h.g (a := 81) (by decide) (by decide) (by decide)) _) _
      · exact congrFun (congrFun (h.g (a := 82) (by decide) (by decide) (by decide)) _) _
      · exact congrFun (congrFun (h.g (a := 83) (by decide) (by decide) (by decide)) _) _
      · exact congrFun (congrFun (h.g (a := 84) (by decide) (by decide) (by decide)) _) _
      · exact congrFun (congrFun (h.g (a := 85) (by decide) (by decide) (by decide)) _) _
      · exact congrFun (congrFun (h.g (a := 77) (by decide) (by decide) (by decide)) _) _
      · exact congrFun (congrFun (h.g (a := 78) (by decide) (by decide) (by decide)) _) _
      · exact congrFun (congrFun (h.g (a := 79) (by decide) (by decide) (by decide)) _) _
      · exact congrFun (congrFun (h.g (a := 80) (by decide) (by decide) (by decide)) _) _
      · exact congrFun (congrFun (h.g (a := 86) (by decide) (by decide) (by decide)) _) _
      · exact congrFun (congrFun (h.g (a := 89) (by decide) (by decide) (by decide)) _) _
      · obtain ⟨z, rfl⟩ : ∃ z, s = z + 14 := ⟨s - 14, by omega⟩
        rfl
  · exact ClM_mB h x t ht
/-- the class's clearing with a new board behind it -/
theorem MF.of {μ u : qM} {th ne : Nat → Bool} {on : Nat → Nat} (h : MF μ th ne on) (e74 : u.1 74 = μ.1 74) (e96 : u.1 96 = μ.1 96) : MF u th ne on := by
  unfold MF
  rw [e74, e96]
  exact h
