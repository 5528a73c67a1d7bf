/-! p56: what the law's run looks at in the memory, and the small calls. -/
theorem and_31 (x : Int32) : ∃ m : Nat, m < 2 ^ 31 ∧ x &&& 2147483647 = nI m := by
  refine nI_of (fun h => ?_)
  have h1 := (x_lt _ _).mp h
  have h0 : (0 : Int32).toInt = 0 := by decide +kernel
  rw [h0] at h1
  have h2 : (x &&& 2147483647 : Int32).toBitVec.msb = false := by
    rw [Int32.toBitVec_and, BitVec.msb_and]
    have : (2147483647 : Int32).toBitVec.msb = false := by decide +kernel
    rw [this, Bool.and_false]
  rw [BitVec.msb_eq_toInt] at h2
  exact of_decide_eq_false h2 h1
theorem ev_low {n : Nat} {x : Int32} {u : qM} {P : Int32 → qM → Prop} (hn : 0 < n) (hn2 : n < 2 ^ 31) (K : ∀ j, j < n → P (nI j) u) : Ev (f_L_low x (nI n) u) P := by
  obtain ⟨m, h1, h2⟩ := and_31 x
  refine eu_L_low.mpr (ev_ck.mpr ⟨q_nzI hn hn2, ev_so.mpr ?_⟩)
  rw [h2, pk_rem h1 hn hn2]
  exact K _ (Nat.mod_lt _ hn)
theorem ev_lcell {b0 l0 k : Nat} {f0 : Nat → Int32} {u : qM} {P : Int32 → qM → Prop} (hl : l0 ≤ 260) (hk : k < 2 ^ 31) (K : ∀ x, P x u) : Ev (f_L_cell b0 l0 f0 (nI k) u) P := by
  refine eu_L_cell.mpr (ev_jn.mpr (ev_if.mpr ?_))
  have e : Int32.ofNat l0 = nI l0 := rfl
  by_cases h : l0 ≤ k
  · rw [if_pos (by rw [e, nI_leI (by omega) hk]; exact h)]
    exact ev_so.mpr (K _)
  · rw [if_neg (by rw [e, nI_leI (by omega) hk]; exact h)]
    exact ev_ck.mpr ⟨q_inT (by omega) (by omega), ev_so.mpr (K _)⟩
/-- what of the memory the run of the law looks at: no boats, no gauges; rows; which boards are there, their tables; the nests' grounds, marks and rests -/
def St (μ : qM) (sz : Nat → Int32) (rw : Nat → Nat → Int32) (th : Nat → Bool) (V : Nat → qB) (L mk rs : Nat → Nat → Int32) : Prop :=
  (∀ k, k < 8 → μ.1 8 k 0 = -nI 9) ∧ (∀ g, g < 8 → μ.1 9 g 2 = -nI 9) ∧ μ.1 33 0 = sz ∧ μ.1 30 = rw ∧ (∀ b, b < 6 → μ.1 2 b 10 = if th b = true then nI 1 else nI 0) ∧ (∀ b, b < 6 → cB μ b = V b) ∧ μ.1 5 = L ∧ μ.1 45 = mk ∧ μ.1 46 = rs
def vset (V : Nat → qB) (b : Nat) (v : qB) : Nat → qB := fun x => if x = b then v else V x
theorem vs_e {V : Nat → qB} {b : Nat} {v : qB} : vset V b v b = v := if_pos rfl
theorem vs_n {V : Nat → qB} {b x : Nat} {v : qB} (h : x ≠ b) : vset V b v x = V x := if_neg h
/-- scratch: what is told, findings, the stepper's rows -/
def sck (k : Nat) : Bool := decide (k = 0 ∨ k = 36 ∨ (47 ≤ k ∧ k ≤ 50))
theorem isCK_k {a : Nat} (h : isCK a = true) : a = 2 ∨ a = 3 ∨ a = 4 ∨ (37 ≤ a ∧ a ≤ 44) := by
  unfold isCK at h
  simp only [Bool.or_eq_true, beq_iff_eq] at h
  omega
theorem St.bd {μ μ' : qM} {sz : Nat → Int32} {rw : Nat → Nat → Int32} {th : Nat → Bool} {V : Nat → qB} {L mk rs : Nat → Nat → Int32} {b : Nat} {v : qB} (h : St μ sz rw th V L mk rs) (e : ∀ k i s, sck k = false → ¬ (i = b ∧ isCK k = true) → μ'.1 k i s = μ.1 k i s) (h10 : μ'.1 2 b 10 = μ.1 2 b 10) (hv : cB μ' b = v) : St μ' sz rw th (vset V b v) L mk rs := by
  obtain ⟨h1, h2, h3, h4, h5, h6, h7, h8, h9⟩ := h
  have e' : ∀ k i, sck k = false → isCK k = false → μ'.1 k i = μ.1 k i := fun k i q q2 => funext (fun s => e k i s q (fun z => by rw [q2] at z; cases z.2))
  have e2 : ∀ k x, sck k = false → x ≠ b → μ'.1 k x = μ.1 k x := fun k x q q2 => funext (fun s => e k x s q (fun z => q2 z.1))
  refine ⟨fun k hk => ?_, fun g hg => ?_, ?_, ?_, fun x hx => ?_, fun x hx => ?_, ?_, ?_, ?_⟩
  · rw [e' 8 k rfl rfl]
    exact h1 k hk
  · rw [e' 9 g rfl rfl]
    exact h2 g hg
  · rw [e' 33 0 rfl rfl, h3]
  · rw [← h4]
    exact funext (fun i => e' 30 i rfl rfl)
  · by_cases z : x = b
    · subst z
      rw [h10]
      exact h5 x hx
    · rw [e2 2 x rfl z]
      exact h5 x hx
  · by_cases z : x = b
    · subst z
      rw [vs_e]
      exact hv
    · rw [vs_n z, ← h6 x hx]
      exact cB_ext (e2 2 x rfl z) (e2 3 x rfl z) (e2 4 x rfl z) (e2 37 x rfl z) (e2 38 x rfl z) (e2 39 x rfl z) (e2 40 x rfl z) (e2 41 x rfl z) (e2 42 x rfl z) (e2 43 x rfl z) (e2 44 x rfl z)
  · rw [← h7]
    exact funext (fun i => e' 5 i rfl rfl)
  · rw [← h8]
    exact funext (fun i => e' 45 i rfl rfl)
  · rw [← h9]
    exact funext (fun i => e' 46 i rfl rfl)
theorem St.fr {μ μ' : qM} {sz : Nat → Int32} {rw : Nat → Nat → Int32} {th : Nat → Bool} {V : Nat → qB} {L mk rs : Nat → Nat → Int32} (h : St μ sz rw th V L mk rs) (e : ∀ k, sck k = false → μ'.1 k = μ.1 k) : St μ' sz rw th V L mk rs := by
  have h0 := St.bd (μ' := μ') (b := 0) (v := cB μ' 0) h (fun k i s q _ => by rw [e k q]) (by rw [e 2 rfl]) rfl
  have e0 : vset V 0 (cB μ' 0) = V := by
    funext x
    by_cases z : x = 0
    · subst z
      rw [vs_e, ← h.2.2.2.2.2.1 0 (by decide)]
      exact cB_ext (by rw [e 2 rfl]) (by rw [e 3 rfl]) (by rw [e 4 rfl]) (by rw [e 37 rfl]) (by rw [e 38 rfl]) (by rw [e 39 rfl]) (by rw [e 40 rfl]) (by rw [e 41 rfl]) (by rw [e 42 rfl]) (by rw [e 43 rfl]) (by rw [e 44 rfl])
    · exact vs_n z
  rw [e0] at h0
  exact h0
theorem vs_vs {V : Nat → qB} {b : Nat} {v v' : qB} : vset (vset V b v) b v' = vset V b v' := by
  funext x
  by_cases z : x = b
  · subst z
    rw [vs_e, vs_e]
  · rw [vs_n z, vs_n z, vs_n z]
theorem vs_self {V : Nat → qB} {b : Nat} : vset V b (V b) = V := by
  funext x
  by_cases z : x = b
  · subst z
    exact vs_e
  · exact vs_n z
section CALLS
variable {μ : qM} {sz : Nat → Int32} {rw : Nat → Nat → Int32} {th : Nat → Bool} {V : Nat → qB} {L mk rs : Nat → Nat → Int32} {b : Nat}
theorem St.there (h : St μ sz rw th V L mk rs) (hb : b < 6) (ht : th b = true) : μ.1 2 b 10 = nI 1 := by
  rw [h.2.2.2.2.1 b hb, if_pos ht]
theorem St.tab (h : St μ sz rw th V L mk rs) (hb : b < 6) : cB μ b = V b := h.2.2.2.2.2.1 b hb
theorem St.num (h : St μ sz rw th V L mk rs) (hb : b < 6) {w hg : Nat} (hd : DW (V b) w hg) : μ.1 2 b 12 = nI w ∧ μ.1 2 b 13 = nI hg := by
  have e := h.tab hb
  have e1 : μ.1 2 b 12 = cB μ b 0 1 := rfl
  have e2 : μ.1 2 b 13 = cB μ b 0 2 := rfl
  rw [e1, e2, e]
  exact ⟨hd.1, hd.2.1⟩
theorem ev_bref {u : qM} {P : Int32 → qM → Prop} (hb : b < 6) (h10 : u.1 2 b 10 = nI 1) (K : P (nI 0) u) : Ev (f_X10_boardRefused (nI 1) (nI b) u) P := by
  simp (disch := first | omega | decide) only [Nat.reduceAdd, Nat.reduceMul, ↓ev_bd, ↓ev_ck, ↓ev_if, ↓ev_lt, ↓ev_jn, ↓ev_so, ↓reduceIte, ↓ev_within, ↓ev_isBoard, ↓ev_isNumber, ↓ev_foundN, ↓ev_found_1, ↓ev_found_2, ↓ev_found_3, ↓ev_found_4, ↓ev_found_5, true_and, and_true, and_self, eq_self, not_true_eq_false, not_false_eq_true, ite_true, ite_false, true_or, or_true, false_or, or_false, false_and, and_false, ← zi_ni_0, ← zi_ni_1, ← zi_ni_2, ← zi_ni_3, ← zi_ni_4, ← zi_ni_5, ← zi_ni_6, ← zi_ni_7, ← zi_ni_8, ← zi_ni_9, ← zi_ni_10, ← zi_ni_12, ← zi_ni_24, ← zi_ni_25, ← zi_ni_40, ← zi_ni_45, ← zi_ni_47, ← zi_ni_48, ← zi_ni_95, ← zi_ni_96, ← zi_ni_97, ← zi_ni_100, ← zi_ni_144, ← zi_ni_288, nI_ltI, nI_leI, nI_eqI, nlt_T, nlt_F, nle_T, nle_F, neq_T, neq_F, nI_add, pk_mul, nI_clamp, q_inT, ng_lt, ng_tl, ng_le, ng_el, ng_eq, ng_qe, q_b0, q_b1, nar_0, nar_1, b01, b01', q_bn0, q_bn1, nar_n0, nar_n1, si_k, si_i, si_s, si_e, si_2, sl_1, sl_22, sl_k, sl_i, sl_s, sl_e, sp_1, sp_21, sp_22, sc_k, sc_i, sc_e, sc_2, mF_k, mF_2, mF_0, ↓eu_X10_boardRefused, h10]
  exact K
theorem ev_cref {c w h : Nat} {u : qM} {P : Int32 → qM → Prop} (hb : b < 6) (h10 : u.1 2 b 10 = nI 1) (h12 : u.1 2 b 12 = nI w) (h13 : u.1 2 b 13 = nI h) (hc : c < w * h) (hN : w * h ≤ 48) (K : P (nI 0) u) : Ev (f_X10_cellRefused (nI 1) (nI b) (nI c) u) P := by
  refine eu_X10_cellRefused.mpr (ev_bd.mpr (ev_bref hb h10 ?_))
  simp (disch := first | omega | decide) only [Nat.reduceAdd, Nat.reduceMul, ↓ev_bd, ↓ev_ck, ↓ev_if, ↓ev_lt, ↓ev_jn, ↓ev_so, ↓reduceIte, ↓ev_within, ↓ev_isBoard, ↓ev_isNumber, ↓ev_foundN, ↓ev_found_1, ↓ev_found_2, ↓ev_found_3, ↓ev_found_4, ↓ev_found_5, true_and, and_true, and_self, eq_self, not_true_eq_false, not_false_eq_true, ite_true, ite_false, true_or, or_true, false_or, or_false, false_and, and_false, ← zi_ni_0, ← zi_ni_1, ← zi_ni_2, ← zi_ni_3, ← zi_ni_4, ← zi_ni_5, ← zi_ni_6, ← zi_ni_7, ← zi_ni_8, ← zi_ni_9, ← zi_ni_10, ← zi_ni_12, ← zi_ni_24, ← zi_ni_25, ← zi_ni_40, ← zi_ni_45, ← zi_ni_47, ← zi_ni_48, ← zi_ni_95, ← zi_ni_96, ← zi_ni_97, ← zi_ni_100, ← zi_ni_144, ← zi_ni_288, nI_ltI, nI_leI, nI_eqI, nlt_T, nlt_F, nle_T, nle_F, neq_T, neq_F, nI_add, pk_mul, nI_clamp, q_inT, ng_lt, ng_tl, ng_le, ng_el, ng_eq, ng_qe, q_b0, q_b1, nar_0, nar_1, b01, b01', q_bn0, q_bn1, nar_n0, nar_n1, si_k, si_i, si_s, si_e, si_2, sl_1, sl_22, sl_k, sl_i, sl_s, sl_e, sp_1, sp_21, sp_22, sc_k, sc_i, sc_e, sc_2, mF_k, mF_2, mF_0, ↓ev_hasCell, h12, h13]
  exact K
/-- a place of the board and what is told changed -/
theorem fr_1 {μ : qM} {b k0 s0 : Nat} {x : Int32} (hk : isCK k0 = true) : ∀ k i s, sck k = false → ¬ (i = b ∧ isCK k = true) → (q_si μ k0 b s0 x).1 k i s = μ.1 k i s := fun _ _ _ _ z => si_n (fun e => z ⟨e.2.1, by rw [e.1]; exact hk⟩)
theorem fr_0 {μ : qM} {k0 i0 s0 : Nat} {x : Int32} (hk : sck k0 = true) : ∀ k i s, sck k = false → (q_si μ k0 i0 s0 x).1 k i s = μ.1 k i s := fun _ _ _ q => si_n (fun e => by rw [e.1, hk] at q; cases q)
theorem St.ask {x : Int32} (h : St μ sz rw th V L mk rs) : St (q_si μ 0 0 15 x) sz rw th V L mk rs := h.fr (fun _ q => si_k (fun e => by rw [e] at q; exact absurd q (by decide)))
theorem St.w {k0 s0 : Nat} {x : Int32} {v : qB} (h : St μ sz rw th V L mk rs) (hk : isCK k0 = true) (h10 : ¬ (k0 = 2 ∧ s0 = 10)) (hv : cB (q_si μ k0 b s0 x) b = v) : St (q_si μ k0 b s0 x) sz rw th (vset V b v) L mk rs := h.bd (fun k i s q z => fr_1 hk k i s q z) (si_n (fun e => h10 ⟨e.1.symm, e.2.2.symm⟩)) hv
end CALLS
