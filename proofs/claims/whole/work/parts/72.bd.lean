/-! Boards: what is known of one that is there. -/
theorem pk_rem' {a d : Nat} : nI a - nI (a / d * d) = nI (a % d) := by
  rw [pk_sub (Nat.div_mul_le_self a d)]
  refine congrArg nI ?_
  have h := Nat.div_add_mod a d
  rw [Nat.mul_comm] at h
  omega
theorem n_rem {a d : Nat} : a - a / d * d = a % d := by
  have h := Nat.div_add_mod a d
  rw [Nat.mul_comm] at h
  omega
theorem R4_ext' {μ μ' : qM} (hk : ∀ b, b < 6 → μ'.1 2 b 11 = μ.1 2 b 11) (h10 : ∀ b, b < 6 → μ'.1 2 b 10 = μ.1 2 b 10) (h5 : ∀ b, b < 6 → μ'.1 5 b = μ.1 5 b) (h : R4 μ) : R4 μ' := by
  obtain ⟨dep, h⟩ := h
  refine ⟨dep, fun b d hb hd e1 e2 e3 => h b d hb hd ?_ ?_ ?_⟩
  · rw [← h10 b hb]; exact e1
  · rw [← hk b hb]; exact e2
  · rw [← h5 b hb]; exact e3
theorem R5_ext' {μ μ' : qM} (hN : ∀ b, b < 6 → nN (cB μ' b) = nN (cB μ b)) (h10 : ∀ b, b < 6 → μ'.1 2 b 10 = μ.1 2 b 10) (h8 : μ'.1 8 = μ.1 8) (h105 : μ'.1 105 = μ.1 105) (h106 : μ'.1 106 = μ.1 106) (h107 : μ'.1 107 = μ.1 107) (h : R5 μ) : R5 μ' := by
  intro k hk
  rw [h8, h105, h106, h107]
  rcases h k hk with h1 | ⟨b, c, d, hb, e1, e2, e3, e4, er⟩
  · exact .inl h1
  · exact .inr ⟨b, c, d, hb, by rw [h10 b hb]; exact e1, e2, e3, by rw [hN b hb]; exact e4, er⟩
theorem R6_ext' {μ μ' : qM} (hN : ∀ b, b < 6 → nN (cB μ' b) = nN (cB μ b)) (h10 : ∀ b, b < 6 → μ'.1 2 b 10 = μ.1 2 b 10) (h9 : μ'.1 9 = μ.1 9) (h52 : μ'.1 52 = μ.1 52) (h53 : μ'.1 53 = μ.1 53) (h108 : μ'.1 108 = μ.1 108) (h109 : μ'.1 109 = μ.1 109) (h110 : μ'.1 110 = μ.1 110) (h111 : μ'.1 111 = μ.1 111) (h112 : μ'.1 112 = μ.1 112) (h : R6 μ) : R6 μ' := by
  intro k hk
  rw [h9, h52, h53, h108, h109, h110, h111, h112]
  rcases h k hk with h1 | ⟨b, c, f, n, hb, e1, e2, e3, e4, er⟩
  · exact .inl h1
  · exact .inr ⟨b, c, f, n, hb, by rw [h10 b hb]; exact e1, e2, e3, by rw [hN b hb]; exact e4, er⟩
/-- boards that keep kind, place and size, and go on alike -/
theorem R3_upd {n n' : Nat} {μ μ' : qM} (h : R3 n μ) (hnn : n ≤ n') (hv : ∀ b, b < 6 → (∀ t, t ≠ 0 → mB μ' b t = cB μ' b t)) (hv0 : ∀ b, b < 6 → μ.1 2 b 10 = 1 → mB μ' b 0 = cB μ' b 0 ∧ WF n' (cB μ' b)) (hz : ∀ b, b < 6 → μ.1 2 b 10 = 0 → μ'.1 74 0 b = μ.1 74 0 b) (hk : ∀ b, b < 6 → cB μ' b 0 0 = cB μ b 0 0) (hW : ∀ b, b < 6 → nW (cB μ' b) = nW (cB μ b)) (hH : ∀ b, b < 6 → nH (cB μ' b) = nH (cB μ b)) (h10 : ∀ b, b < 6 → μ'.1 2 b 10 = μ.1 2 b 10) (h5 : ∀ b, b < 6 → μ'.1 5 b = μ.1 5 b) (h45 : ∀ b, b < 6 → μ'.1 45 b = μ.1 45 b) (h46 : ∀ b, b < 6 → μ'.1 46 b = μ.1 46 b) (h96 : μ'.1 96 = μ.1 96) (h97 : μ'.1 97 = μ.1 97) (h98 : μ'.1 98 = μ.1 98) (h99 : ∀ s, s < 288 → μ'.1 99 0 s = μ.1 99 0 s) (h100 : ∀ s, s < 288 → μ'.1 100 0 s = μ.1 100 0 s) : R3 n' μ' := by
  intro b hb
  obtain ⟨e1, e2⟩ := h b hb
  refine ⟨hv b hb, ?_⟩
  rcases e2 with ⟨e3, e4⟩ | ⟨e3, e4, e5, e6⟩
  · left
    exact ⟨by rw [h10 b hb]; exact e3, by rw [hz b hb e3]; exact e4⟩
  · right
    refine ⟨by rw [h10 b hb]; exact e3, (hv0 b hb e3).1, (hv0 b hb e3).2, fun hq => ?_⟩
    rw [hk b hb] at hq
    obtain ⟨d, x, y, wd, hg, q1, q2, q3, q4, q5, q6, q7, q8, q9, q10, q11, q12, q13, q14, q15, q16, q17, q18⟩ := e6 hq
    refine ⟨d, x, y, wd, hg, q1, q2, ?_, ?_, ?_, ?_, ?_, ?_, ?_, ?_, ?_, q12, q13, q14, q15, ?_, ?_, ?_⟩
    · rw [h5 b hb]; exact q3
    · rw [h96]; exact q4
    · rw [h10 d q1]; exact q5
    · rw [h5 b hb]; exact q6
    · rw [h97]; exact q7
    · rw [h5 b hb]; exact q8
    · rw [h98]; exact q9
    · rw [hW b hb]; exact q10
    · rw [hH b hb]; exact q11
    · rw [hW d q1]; exact q16
    · rw [hH d q1]; exact q17
    · intro k hk
      have hk2 : k < 12 := Nat.lt_of_lt_of_le hk (Nat.mul_le_mul q13 q15)
      rw [h45 b hb, h46 b hb, h99 _ (by omega), h100 _ (by omega)]
      exact q18 k hk
theorem WF0_t {n : Nat} {v v' : qB} (e : v' 0 = v 0) (h : WF0 n v) : WF0 n v' := by
  unfold WF0
  rw [e]
  exact h
theorem nN_t {v v' : qB} (e : v' 0 = v 0) : nN v' = nN v := by
  unfold nN nW nH
  rw [e]
theorem nN_s {v v' : qB} (e1 : v' 0 1 = v 0 1) (e2 : v' 0 2 = v 0 2) : nN v' = nN v := by
  unfold nN nW nH
  rw [e1, e2]
theorem nW_s {v v' : qB} (e1 : v' 0 1 = v 0 1) : nW v' = nW v := by
  unfold nW
  rw [e1]
theorem nH_s {v v' : qB} (e1 : v' 0 2 = v 0 2) : nH v' = nH v := by
  unfold nH
  rw [e1]
theorem WF1_t {v v' : qB} (e12 : v' 0 12 = v 0 12) (e1 : v' 1 = v 1) (e2 : v' 2 = v 2) (e4 : v' 4 = v 4) (e5 : v' 5 = v 5) (e8 : v' 8 = v 8) (h : WF1 v) : WF1 v' := by
  unfold WF1
  rw [e12, e1, e2, e4, e5, e8]
  exact h
theorem WF2_t {v v' : qB} (e0 : v' 0 = v 0) (e6 : v' 6 = v 6) (e7 : v' 7 = v 7) (h : WF2 v) : WF2 v' := by
  unfold WF2
  rw [e0, e6, e7, nN_t e0]
  exact h
theorem WF_stuff {n c : Nat} {x : Int32} {v : qB} (h : WF n v) : WF n (bset v 3 c x) := ⟨WF0_t (bs_t (by decide)) h.1, WF1_t (by rw [bs_t (by decide)]) (bs_t (by decide)) (bs_t (by decide)) (bs_t (by decide)) (bs_t (by decide)) (bs_t (by decide)) h.2.1, WF2_t (bs_t (by decide)) (bs_t (by decide)) (bs_t (by decide)) h.2.2⟩
theorem WF_bottom {n c : Nat} {x : Int32} {v : qB} (h : WF n v) (hx : -1000 ≤ x.toInt ∧ x.toInt ≤ 1000) : WF n (bset v 1 c x) := by
  refine ⟨WF0_t (bs_t (by decide)) h.1, ⟨fun s => ?_, fun s => ?_, fun s => ?_, fun s => ?_, fun s hs => ?_⟩, WF2_t (bs_t (by decide)) (bs_t (by decide)) (bs_t (by decide)) h.2.2⟩
  · rw [bs_c]
    by_cases q : s = c
    · rw [if_pos q]; exact hx
    · rw [if_neg q]; exact h.2.1.1 s
  · rw [bs_t (by decide)]; exact h.2.1.2.1 s
  · rw [bs_t (by decide)]; exact h.2.1.2.2.1 s
  · rw [bs_t (by decide)]; exact h.2.1.2.2.2.1 s
  · rw [bs_t (by decide)] at hs ⊢
    exact h.2.1.2.2.2.2 s hs
theorem WF_water {n c : Nat} {x : Int32} {v : qB} (h : WF n v) (hx : 0 ≤ x.toInt ∧ x.toInt ≤ 100000) : WF n (bset v 2 c x) := by
  refine ⟨WF0_t (bs_t (by decide)) h.1, ⟨fun s => ?_, fun s => ?_, fun s => ?_, fun s => ?_, fun s hs => ?_⟩, WF2_t (bs_t (by decide)) (bs_t (by decide)) (bs_t (by decide)) h.2.2⟩
  · rw [bs_t (by decide)]; exact h.2.1.1 s
  · rw [bs_c]
    by_cases q : s = c
    · rw [if_pos q]; exact hx
    · rw [if_neg q]; exact h.2.1.2.1 s
  · rw [bs_t (by decide)]; exact h.2.1.2.2.1 s
  · rw [bs_t (by decide)]; exact h.2.1.2.2.2.1 s
  · rw [bs_t (by decide)] at hs ⊢
    exact h.2.1.2.2.2.2 s hs
theorem WF_shut {n c : Nat} {x : Int32} {v : qB} (h : WF n v) (hx : x = 0 ∨ x = 1) : WF n (bset v 5 c x) := by
  refine ⟨WF0_t (bs_t (by decide)) h.1, ⟨fun s => ?_, fun s => ?_, fun s => ?_, fun s => ?_, fun s hs => ?_⟩, WF2_t (bs_t (by decide)) (bs_t (by decide)) (bs_t (by decide)) h.2.2⟩
  · rw [bs_t (by decide)]; exact h.2.1.1 s
  · rw [bs_t (by decide)]; exact h.2.1.2.1 s
  · rw [bs_t (by decide)]; exact h.2.1.2.2.1 s
  · rw [bs_c]
    by_cases q : s = c
    · rw [if_pos q]; exact hx
    · rw [if_neg q]; exact h.2.1.2.2.2.1 s
  · rw [bs_t (by decide)] at hs ⊢
    exact h.2.1.2.2.2.2 s hs
/-- a number of the board that isn't bound -/
theorem WF_any {n s : Nat} {x : Int32} {v : qB} (h : WF n v) (hs : s = 4 ∨ s = 5 ∨ s = 7) : WF n (bset v 0 s x) := by
  have e : ∀ i, i ≠ s → bset v 0 s x 0 i = v 0 i := fun i q => bs_s q
  refine ⟨?_, WF1_t (e 12 (by omega)) (bs_t (by decide)) (bs_t (by decide)) (bs_t (by decide)) (bs_t (by decide)) (bs_t (by decide)) h.2.1, ?_⟩
  · unfold WF0
    rw [e 0 (by omega), e 1 (by omega), e 2 (by omega), e 3 (by omega), e 8 (by omega), e 9 (by omega), e 12 (by omega), e 13 (by omega), e 6 (by omega), e 10 (by omega), e 11 (by omega)]
    exact h.1
  · unfold WF2
    rw [e 12 (by omega), e 13 (by omega), nN_s (e 1 (by omega)) (e 2 (by omega)), bs_t (by decide), bs_t (by decide)]
    exact h.2.2
theorem WF_num {n s : Nat} {x : Int32} {v : qB} (h : WF n v) (hs : s = 6 ∨ s = 8 ∨ s = 9 ∨ s = 10 ∨ s = 11) (hx : (s = 6 → x = -9 ∨ ∃ r, r < 6 ∧ x = nI r) ∧ (s = 8 → ∃ p : Nat, x = nI p ∧ 1 ≤ p ∧ p ≤ 8) ∧ (s = 9 → ∃ d : Nat, x = nI d ∧ 2 ≤ d ∧ d ≤ 1000) ∧ (s = 10 ∨ s = 11 → -50 ≤ x.toInt ∧ x.toInt ≤ 50)) : WF n (bset v 0 s x) := by
  have e : ∀ i, i ≠ s → bset v 0 s x 0 i = v 0 i := fun i q => bs_s q
  have n0 : 0 ≠ s ∧ 1 ≠ s ∧ 2 ≠ s ∧ 3 ≠ s ∧ 12 ≠ s ∧ 13 ≠ s := by clear hx; omega
  obtain ⟨n0, n1, n2, n3, n12, n13⟩ := n0
  refine ⟨?_, WF1_t (bs_s (by clear hx; omega)) (bs_t (by decide)) (bs_t (by decide)) (bs_t (by decide)) (bs_t (by decide)) (bs_t (by decide)) h.2.1, ?_⟩
  · obtain ⟨k, wd, hg, st, p, d, rc, pc, a0, a1, a2, a3, a4, a5, a6, a7, a8, a9, b0, b1, b2, b3, b4, b5, b6, b7, b8, b9, c0, c1, c2⟩ := h.1
    obtain ⟨x6, x8, x9, x1⟩ := hx
    have f6 : bset v 0 s x 0 6 = -9 ∨ ∃ r, r < 6 ∧ bset v 0 s x 0 6 = nI r := by
      by_cases q : s = 6
      · subst q; rw [bs_e]; exact x6 rfl
      · rw [e 6 (fun z => q z.symm)]; exact c0
    have f8 : ∃ p : Nat, bset v 0 s x 0 8 = nI p ∧ 1 ≤ p ∧ p ≤ 8 := by
      by_cases q : s = 8
      · subst q; rw [bs_e]; exact x8 rfl
      · rw [e 8 (fun z => q z.symm)]; exact ⟨p, b0, b1, b2⟩
    have f9 : ∃ p : Nat, bset v 0 s x 0 9 = nI p ∧ 2 ≤ p ∧ p ≤ 1000 := by
      by_cases q : s = 9
      · subst q; rw [bs_e]; exact x9 rfl
      · rw [e 9 (fun z => q z.symm)]; exact ⟨d, b3, b4, b5⟩
    have f10 : -50 ≤ (bset v 0 s x 0 10).toInt ∧ (bset v 0 s x 0 10).toInt ≤ 50 := by
      by_cases q : s = 10
      · subst q; rw [bs_e]; exact x1 (.inl rfl)
      · rw [e 10 (fun z => q z.symm)]; exact c1
    have f11 : -50 ≤ (bset v 0 s x 0 11).toInt ∧ (bset v 0 s x 0 11).toInt ≤ 50 := by
      by_cases q : s = 11
      · subst q; rw [bs_e]; exact x1 (.inr rfl)
      · rw [e 11 (fun z => q z.symm)]; exact c2
    obtain ⟨p', g1, g2, g3⟩ := f8
    obtain ⟨d', g4, g5, g6⟩ := f9
    refine ⟨k, wd, hg, st, p', d', rc, pc, ?_, a1, ?_, a3, a4, ?_, a6, a7, ?_, a9, g1, g2, g3, g4, g5, g6, ?_, b7, ?_, b9, f6, f10, f11⟩
    · rw [e 0 n0]; exact a0
    · rw [e 1 n1]; exact a2
    · rw [e 2 n2]; exact a5
    · rw [e 3 n3]; exact a8
    · rw [e 12 n12]; exact b6
    · rw [e 13 n13]; exact b8
  · unfold WF2
    rw [e 12 n12, e 13 n13, nN_s (e 1 n1) (e 2 n2), bs_t (by decide), bs_t (by decide)]
    exact h.2.2
/-- raw reads of a board that is there -/
def BD (μ : qM) (b k w h st p d rc pc : Nat) : Prop := μ.1 2 b 10 = nI 1 ∧ (μ.1 2 b 11 = nI k ∧ μ.1 74 0 b = nI k) ∧ (μ.1 2 b 12 = nI w ∧ μ.1 75 0 b = nI w) ∧ (μ.1 2 b 13 = nI h ∧ μ.1 76 0 b = nI h) ∧ (μ.1 2 b 14 = nI st ∧ μ.1 81 0 b = nI st) ∧ (μ.1 3 b 0 = nI p ∧ μ.1 77 0 b = nI p) ∧ (μ.1 3 b 1 = nI d ∧ μ.1 78 0 b = nI d) ∧ (μ.1 4 b 2 = nI rc ∧ μ.1 86 0 b = nI rc) ∧ (μ.1 2 b 9 = nI pc ∧ μ.1 89 0 b = nI pc)
def BN (n k w h st p d rc pc : Nat) : Prop := k ≤ 3 ∧ 2 ≤ w ∧ w ≤ 8 ∧ 1 ≤ h ∧ h ≤ 6 ∧ w * h ≤ 48 ∧ 1 ≤ w * h ∧ st ≤ n ∧ 1 ≤ p ∧ p ≤ 8 ∧ 2 ≤ d ∧ d ≤ 1000 ∧ rc ≤ 4 ∧ pc ≤ 4
theorem BD_of {n : Nat} {μ : qM} {b : Nat} (h : R3b n μ b) : (μ.1 2 b 10 = nI 0 ∧ μ.1 74 0 b = -nI 9) ∨ ∃ k w h st p d rc pc, BD μ b k w h st p d rc pc ∧ BN n k w h st p d rc pc := by
  rcases h.2 with h1 | ⟨e1, e2, ⟨⟨k, wd, hg, st, p, d, rc, pc, a0, a1, a2, a3, a4, a5, a6, a7, a8, a9, b0, b1, b2, b3, b4, b5, b6, b7, b8, b9, -⟩, -⟩, -⟩
  · exact .inl h1
  · right
    have q : ∀ s, mB μ b 0 s = cB μ b 0 s := fun s => by rw [e2]
    refine ⟨k, wd, hg, st, p, d, rc, pc, ⟨e1, ⟨a0, (q 0).trans a0⟩, ⟨a2, (q 1).trans a2⟩, ⟨a5, (q 2).trans a5⟩, ⟨a8, (q 3).trans a8⟩, ⟨b0, (q 8).trans b0⟩, ⟨b3, (q 9).trans b3⟩, ⟨b6, (q 12).trans b6⟩, ⟨b8, (q 13).trans b8⟩⟩, a1, a3, a4, a6, a7, Nat.mul_le_mul a4 a7, Nat.mul_pos (by omega) a6, a9, b1, b2, b4, b5, b7, b9⟩
theorem ev_hasCell {b : Nat} {x : Int32} {u : qM} {P : Int32 → qM → Prop} : Ev (f_X0_hasCell b x u) P ↔ P (if 0 ≤ x ∧ x < u.1 2 b 12 * u.1 2 b 13 then 1 else 0) u := by
  simp only [eu_X0_hasCell, ev_jn, ev_if, ev_ck, ev_so, q_b0, q_b1, true_and]
  exact ev_rng

theorem bE_1 {n b s : Nat} {μ : qM} (h : R3b n μ b) (hs : s < 48) : μ.1 91 0 (48 * b + s) = μ.1 37 b s := by
  have q : mB μ b 1 s = cB μ b 1 s := by rw [h.1 1 (by decide)]
  rwa [mR_1 hs, cR_1 hs] at q
theorem bE_2 {n b s : Nat} {μ : qM} (h : R3b n μ b) (hs : s < 48) : μ.1 92 0 (48 * b + s) = μ.1 38 b s := by
  have q : mB μ b 2 s = cB μ b 2 s := by rw [h.1 2 (by decide)]
  rwa [mR_2 hs, cR_2 hs] at q
theorem bE_3 {n b s : Nat} {μ : qM} (h : R3b n μ b) (hs : s < 144) : μ.1 93 0 (144 * b + s) = μ.1 39 b s := by
  have q : mB μ b 3 s = cB μ b 3 s := by rw [h.1 3 (by decide)]
  rwa [mR_3 hs, cR_3 hs] at q
theorem bE_4 {n b s : Nat} {μ : qM} (h : R3b n μ b) (hs : s < 96) : μ.1 94 0 (96 * b + s) = μ.1 40 b s := by
  have q : mB μ b 4 s = cB μ b 4 s := by rw [h.1 4 (by decide)]
  rwa [mR_4 hs, cR_4 hs] at q
theorem bE_5 {n b s : Nat} {μ : qM} (h : R3b n μ b) (hs : s < 96) : μ.1 95 0 (96 * b + s) = μ.1 41 b s := by
  have q : mB μ b 5 s = cB μ b 5 s := by rw [h.1 5 (by decide)]
  rwa [mR_5 hs, cR_5 hs] at q
theorem bE_6 {n b s : Nat} {μ : qM} (h : R3b n μ b) (hs : s < 4) : μ.1 90 0 (4 * b + s) = μ.1 42 b s := by
  have q : mB μ b 6 s = cB μ b 6 s := by rw [h.1 6 (by decide)]
  rwa [mR_6 hs, cR_6 hs] at q
theorem bE_7 {n b s : Nat} {μ : qM} (h : R3b n μ b) (hs : s < 4) : μ.1 87 0 (4 * b + s) = μ.1 43 b s := by
  have q : mB μ b 7 s = cB μ b 7 s := by rw [h.1 7 (by decide)]
  rwa [mR_7 hs, cR_7 hs] at q
theorem bE_8 {n b s : Nat} {μ : qM} (h : R3b n μ b) (hs : s < 4) : μ.1 88 0 (4 * b + s) = μ.1 44 b s := by
  have q : mB μ b 8 s = cB μ b 8 s := by rw [h.1 8 (by decide)]
  rwa [mR_8 hs, cR_8 hs] at q
theorem bZ_0 {n b : Nat} {μ : qM} (h : R3b n μ b) (h1 : μ.1 2 b 10 = nI 1) : μ.1 74 0 b = μ.1 2 b 11 := by
  rcases h.2 with ⟨e1, -⟩ | ⟨-, e2, -⟩
  · rw [h1] at e1
    exact absurd e1 (by decide +kernel)
  · have q : mB μ b 0 0 = cB μ b 0 0 := by rw [e2]
    exact q
theorem bZ_1 {n b : Nat} {μ : qM} (h : R3b n μ b) (h1 : μ.1 2 b 10 = nI 1) : μ.1 75 0 b = μ.1 2 b 12 := by
  rcases h.2 with ⟨e1, -⟩ | ⟨-, e2, -⟩
  · rw [h1] at e1
    exact absurd e1 (by decide +kernel)
  · have q : mB μ b 0 1 = cB μ b 0 1 := by rw [e2]
    exact q
theorem bZ_2 {n b : Nat} {μ : qM} (h : R3b n μ b) (h1 : μ.1 2 b 10 = nI 1) : μ.1 76 0 b = μ.1 2 b 13 := by
  rcases h.2 with ⟨e1, -⟩ | ⟨-, e2, -⟩
  · rw [h1] at e1
    exact absurd e1 (by decide +kernel)
  · have q : mB μ b 0 2 = cB μ b 0 2 := by rw [e2]
    exact q
theorem bZ_3 {n b : Nat} {μ : qM} (h : R3b n μ b) (h1 : μ.1 2 b 10 = nI 1) : μ.1 81 0 b = μ.1 2 b 14 := by
  rcases h.2 with ⟨e1, -⟩ | ⟨-, e2, -⟩
  · rw [h1] at e1
    exact absurd e1 (by decide +kernel)
  · have q : mB μ b 0 3 = cB μ b 0 3 := by rw [e2]
    exact q
theorem bZ_4 {n b : Nat} {μ : qM} (h : R3b n μ b) (h1 : μ.1 2 b 10 = nI 1) : μ.1 82 0 b = μ.1 2 b 15 := by
  rcases h.2 with ⟨e1, -⟩ | ⟨-, e2, -⟩
  · rw [h1] at e1
    exact absurd e1 (by decide +kernel)
  · have q : mB μ b 0 4 = cB μ b 0 4 := by rw [e2]
    exact q
theorem bZ_5 {n b : Nat} {μ : qM} (h : R3b n μ b) (h1 : μ.1 2 b 10 = nI 1) : μ.1 83 0 b = μ.1 2 b 16 := by
  rcases h.2 with ⟨e1, -⟩ | ⟨-, e2, -⟩
  · rw [h1] at e1
    exact absurd e1 (by decide +kernel)
  · have q : mB μ b 0 5 = cB μ b 0 5 := by rw [e2]
    exact q
theorem bZ_6 {n b : Nat} {μ : qM} (h : R3b n μ b) (h1 : μ.1 2 b 10 = nI 1) : μ.1 84 0 b = μ.1 2 b 17 := by
  rcases h.2 with ⟨e1, -⟩ | ⟨-, e2, -⟩
  · rw [h1] at e1
    exact absurd e1 (by decide +kernel)
  · have q : mB μ b 0 6 = cB μ b 0 6 := by rw [e2]
    exact q
theorem bZ_7 {n b : Nat} {μ : qM} (h : R3b n μ b) (h1 : μ.1 2 b 10 = nI 1) : μ.1 85 0 b = μ.1 2 b 18 := by
  rcases h.2 with ⟨e1, -⟩ | ⟨-, e2, -⟩
  · rw [h1] at e1
    exact absurd e1 (by decide +kernel)
  · have q : mB μ b 0 7 = cB μ b 0 7 := by rw [e2]
    exact q
theorem bZ_8 {n b : Nat} {μ : qM} (h : R3b n μ b) (h1 : μ.1 2 b 10 = nI 1) : μ.1 77 0 b = μ.1 3 b 0 := by
  rcases h.2 with ⟨e1, -⟩ | ⟨-, e2, -⟩
  · rw [h1] at e1
    exact absurd e1 (by decide +kernel)
  · have q : mB μ b 0 8 = cB μ b 0 8 := by rw [e2]
    exact q
theorem bZ_9 {n b : Nat} {μ : qM} (h : R3b n μ b) (h1 : μ.1 2 b 10 = nI 1) : μ.1 78 0 b = μ.1 3 b 1 := by
  rcases h.2 with ⟨e1, -⟩ | ⟨-, e2, -⟩
  · rw [h1] at e1
    exact absurd e1 (by decide +kernel)
  · have q : mB μ b 0 9 = cB μ b 0 9 := by rw [e2]
    exact q
theorem bZ_10 {n b : Nat} {μ : qM} (h : R3b n μ b) (h1 : μ.1 2 b 10 = nI 1) : μ.1 79 0 b = μ.1 3 b 2 := by
  rcases h.2 with ⟨e1, -⟩ | ⟨-, e2, -⟩
  · rw [h1] at e1
    exact absurd e1 (by decide +kernel)
  · have q : mB μ b 0 10 = cB μ b 0 10 := by rw [e2]
    exact q
theorem bZ_11 {n b : Nat} {μ : qM} (h : R3b n μ b) (h1 : μ.1 2 b 10 = nI 1) : μ.1 80 0 b = μ.1 3 b 3 := by
  rcases h.2 with ⟨e1, -⟩ | ⟨-, e2, -⟩
  · rw [h1] at e1
    exact absurd e1 (by decide +kernel)
  · have q : mB μ b 0 11 = cB μ b 0 11 := by rw [e2]
    exact q
theorem bZ_12 {n b : Nat} {μ : qM} (h : R3b n μ b) (h1 : μ.1 2 b 10 = nI 1) : μ.1 86 0 b = μ.1 4 b 2 := by
  rcases h.2 with ⟨e1, -⟩ | ⟨-, e2, -⟩
  · rw [h1] at e1
    exact absurd e1 (by decide +kernel)
  · have q : mB μ b 0 12 = cB μ b 0 12 := by rw [e2]
    exact q
theorem bZ_13 {n b : Nat} {μ : qM} (h : R3b n μ b) (h1 : μ.1 2 b 10 = nI 1) : μ.1 89 0 b = μ.1 2 b 9 := by
  rcases h.2 with ⟨e1, -⟩ | ⟨-, e2, -⟩
  · rw [h1] at e1
    exact absurd e1 (by decide +kernel)
  · have q : mB μ b 0 13 = cB μ b 0 13 := by rw [e2]
    exact q
theorem bEq {n b : Nat} {μ : qM} (h : R3b n μ b) (h1 : μ.1 2 b 10 = nI 1) : mB μ b = cB μ b := by
  rcases h.2 with ⟨e1, -⟩ | ⟨-, e2, -⟩
  · rw [h1] at e1
    exact absurd e1 (by decide +kernel)
  · funext t
    by_cases ht : t = 0
    · subst ht
      exact e2
    · exact h.1 t ht
theorem bWF {n b : Nat} {μ : qM} (h : R3b n μ b) (h1 : μ.1 2 b 10 = nI 1) : WF n (cB μ b) := by
  rcases h.2 with ⟨e1, -⟩ | ⟨-, -, e2, -⟩
  · rw [h1] at e1
    exact absurd e1 (by decide +kernel)
  · exact e2
theorem mW_3s {μ : qM} {b s c : Nat} {v : Int32} (h : 48 * s + c < 144) : mB (q_si μ 93 0 (144 * b + 48 * s + c) v) b = bset (mB μ b) 3 (s * 48 + c) v := by
  rw [Nat.add_assoc, Nat.mul_comm s 48]
  exact mW_3 h
theorem mV_3s {μ : qM} {b b' s c : Nat} {v : Int32} (h : 48 * s + c < 144) (hb : b' ≠ b) : mB (q_si μ 93 0 (144 * b + 48 * s + c) v) b' = mB μ b' := by
  rw [Nat.add_assoc]
  exact mV_3 h hb
theorem cW_3s {μ : qM} {b s c : Nat} {v : Int32} (h : 48 * s + c < 144) : cB (q_si μ 39 b (s * 48 + c) v) b = bset (cB μ b) 3 (48 * s + c) v := by
  rw [Nat.mul_comm s 48]
  exact cW_3 h
/-- one board is changed, not its kind nor its size -/
theorem R36 {n : Nat} {μ μ' : qM} {j : Nat} (X : qB) (h : Rel n μ) (h1 : μ.1 2 j 10 = nI 1) (hcO : ∀ b, b < 6 → b ≠ j → cB μ' b = cB μ b) (hmO : ∀ b, b < 6 → b ≠ j → mB μ' b = mB μ b) (hc : cB μ' j = X) (hm : mB μ' j = X) (hX0 : X 0 0 = cB μ j 0 0) (hX1 : X 0 1 = cB μ j 0 1) (hX2 : X 0 2 = cB μ j 0 2) (hW : WF (n + 1) X) (h10 : ∀ b, b < 6 → μ'.1 2 b 10 = μ.1 2 b 10) (h5 : ∀ b, b < 6 → μ'.1 5 b = μ.1 5 b) (h45 : ∀ b, b < 6 → μ'.1 45 b = μ.1 45 b) (h46 : ∀ b, b < 6 → μ'.1 46 b = μ.1 46 b) (h96 : μ'.1 96 = μ.1 96) (h97 : μ'.1 97 = μ.1 97) (h98 : μ'.1 98 = μ.1 98) (h99 : ∀ s, s < 288 → μ'.1 99 0 s = μ.1 99 0 s) (h100 : ∀ s, s < 288 → μ'.1 100 0 s = μ.1 100 0 s) (h8 : μ'.1 8 = μ.1 8) (h105 : μ'.1 105 = μ.1 105) (h106 : μ'.1 106 = μ.1 106) (h107 : μ'.1 107 = μ.1 107) (h9 : μ'.1 9 = μ.1 9) (h52 : μ'.1 52 = μ.1 52) (h53 : μ'.1 53 = μ.1 53) (h108 : μ'.1 108 = μ.1 108) (h109 : μ'.1 109 = μ.1 109) (h110 : μ'.1 110 = μ.1 110) (h111 : μ'.1 111 = μ.1 111) (h112 : μ'.1 112 = μ.1 112) : R3 (n + 1) μ' ∧ R4 μ' ∧ R5 μ' ∧ R6 μ' := by
  obtain ⟨-, -, -, r3, r4, r5, r6, -, -⟩ := h.succ
  have hN : ∀ b, b < 6 → nN (cB μ' b) = nN (cB μ b) := by
    intro b hb
    by_cases q : b = j
    · subst q
      rw [hc]
      exact nN_s hX1 hX2
    · rw [hcO b hb q]
  refine ⟨R3_upd r3 (Nat.le_refl _) ?_ ?_ ?_ ?_ ?_ ?_ h10 h5 h45 h46 h96 h97 h98 h99 h100, R4_ext' ?_ h10 h5 r4, R5_ext' hN h10 h8 h105 h106 h107 r5, R6_ext' hN h10 h9 h52 h53 h108 h109 h110 h111 h112 r6⟩
  · intro b hb t ht
    by_cases q : b = j
    · subst q
      rw [hc, hm]
    · rw [hcO b hb q, hmO b hb q]
      exact (r3 b hb).1 t ht
  · intro b hb hz
    by_cases q : b = j
    · subst q
      rw [hc, hm]
      exact ⟨rfl, hW⟩
    · rw [hcO b hb q, hmO b hb q]
      have e := bEq (r3 b hb) hz
      exact ⟨by rw [e], bWF (r3 b hb) hz⟩
  · intro b hb hz
    by_cases q : b = j
    · subst q
      rw [h1] at hz
      exact absurd hz (by decide +kernel)
    · have e : mB μ' b 0 0 = mB μ b 0 0 := by rw [hmO b hb q]
      exact e
  · intro b hb
    by_cases q : b = j
    · subst q
      rw [hc, hX0]
    · rw [hcO b hb q]
  · intro b hb
    by_cases q : b = j
    · subst q
      rw [hc]
      exact nW_s hX1
    · rw [hcO b hb q]
  · intro b hb
    by_cases q : b = j
    · subst q
      rw [hc]
      exact nH_s hX2
    · rw [hcO b hb q]
  · intro b hb
    have e : cB μ' b 0 0 = cB μ b 0 0 := by
      by_cases q : b = j
      · subst q
        rw [hc, hX0]
      · rw [hcO b hb q]
    exact e

