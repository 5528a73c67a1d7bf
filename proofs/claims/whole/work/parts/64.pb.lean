/-! The pure level: how a method's function is evaluated. -/
def Ev {α : Type} (o : Option (α × qM)) (P : α → qM → Prop) : Prop := ∃ v u, o = some (v, u) ∧ P v u
theorem ev_so {α : Type} {v : α} {u : qM} {P : α → qM → Prop} : Ev (some (v, u)) P ↔ P v u := by
  constructor
  · rintro ⟨v', u', h, hp⟩
    cases h
    exact hp
  · intro h
    exact ⟨v, u, rfl, h⟩
theorem ev_bd {α β : Type} {o : Option (α × qM)} {k : α → qM → Option (β × qM)} {P : β → qM → Prop} : Ev (q_bd o k) P ↔ Ev o (fun v u => Ev (k v u) P) := by
  constructor
  · rintro ⟨v, u, h, hp⟩
    cases o with
    | none => exact absurd h (fun q => by cases q)
    | some q => exact ⟨q.1, q.2, rfl, v, u, h, hp⟩
  · rintro ⟨v, u, rfl, h⟩
    exact h
theorem ev_ck {α : Type} {b : Bool} {r : Option (α × qM)} {P : α → qM → Prop} : Ev (q_ck b r) P ↔ b = true ∧ Ev r P := by
  cases b
  · constructor
    · rintro ⟨v, u, h, -⟩
      cases h
    · rintro ⟨h, -⟩
      cases h
  · exact ⟨fun h => ⟨rfl, h⟩, fun h => h.2⟩
theorem ev_if {α : Type} {c : Prop} [Decidable c] {a b : Option (α × qM)} {P : α → qM → Prop} : Ev (if c then a else b) P ↔ (if c then Ev a P else Ev b P) := by
  by_cases h : c
  · rw [if_pos h, if_pos h]
  · rw [if_neg h, if_neg h]
theorem ev_lt {α β : Type} {e : β} {k : β → Option (α × qM)} {P : α → qM → Prop} : Ev (q_lt e k) P ↔ Ev (k e) P := Iff.rfl
theorem ev_jn {α β : Type} {k : β} {f : β → Option (α × qM)} {P : α → qM → Prop} : Ev (q_jn k f) P ↔ Ev (f k) P := Iff.rfl
theorem Ev.mono {α : Type} {o : Option (α × qM)} {P Q : α → qM → Prop} (h : Ev o P) (k : ∀ v u, P v u → Q v u) : Ev o Q := by
  obtain ⟨v, u, e, p⟩ := h
  exact ⟨v, u, e, k v u p⟩
theorem Ev.eq {α : Type} {o o' : Option (α × qM)} {P : α → qM → Prop} (e : o = o') (h : Ev o' P) : Ev o P := e ▸ h
/-! The memory: reads behind writes. -/
theorem si_k {μ : qM} {k i s a : Nat} {v : Int32} (h : a ≠ k) : (q_si μ k i s v).1 a = μ.1 a := by
  funext b c
  exact if_neg (fun q => h q.1)
theorem si_i {μ : qM} {k i s a b : Nat} {v : Int32} (h : b ≠ i) : (q_si μ k i s v).1 a b = μ.1 a b := by
  funext c
  exact if_neg (fun q => h q.2.1)
theorem si_s {μ : qM} {k i s a b c : Nat} {v : Int32} (h : c ≠ s) : (q_si μ k i s v).1 a b c = μ.1 a b c := if_neg (fun q => h q.2.2)
theorem si_e {μ : qM} {k i s : Nat} {v : Int32} : (q_si μ k i s v).1 k i s = v := if_pos ⟨rfl, rfl, rfl⟩
theorem si_c {μ : qM} {k i s c : Nat} {v : Int32} : (q_si μ k i s v).1 k i c = if c = s then v else μ.1 k i c := by
  by_cases h : c = s
  · subst h
    rw [si_e, if_pos rfl]
  · rw [si_s h, if_neg h]
theorem si_b {μ : qM} {k i s b c : Nat} {v : Int32} : (q_si μ k i s v).1 k b c = if b = i ∧ c = s then v else μ.1 k b c := by
  by_cases h : b = i ∧ c = s
  · obtain ⟨rfl, rfl⟩ := h
    rw [si_e, if_pos ⟨rfl, rfl⟩]
  · rw [if_neg h]
    exact if_neg (fun q => h q.2)
theorem si_2 {μ : qM} {k i s : Nat} {v : Int32} : (q_si μ k i s v).2 = μ.2 := rfl
theorem sl_1 {μ : qM} {k i s : Nat} {v : Int64} : (q_sl μ k i s v).1 = μ.1 := rfl
theorem sl_22 {μ : qM} {k i s : Nat} {v : Int64} : (q_sl μ k i s v).2.2 = μ.2.2 := rfl
theorem sl_k {μ : qM} {k i s a : Nat} {v : Int64} (h : a ≠ k) : (q_sl μ k i s v).2.1 a = μ.2.1 a := by
  funext b c
  exact if_neg (fun q => h q.1)
theorem sl_i {μ : qM} {k i s a b : Nat} {v : Int64} (h : b ≠ i) : (q_sl μ k i s v).2.1 a b = μ.2.1 a b := by
  funext c
  exact if_neg (fun q => h q.2.1)
theorem sl_s {μ : qM} {k i s a b c : Nat} {v : Int64} (h : c ≠ s) : (q_sl μ k i s v).2.1 a b c = μ.2.1 a b c := if_neg (fun q => h q.2.2)
theorem sl_e {μ : qM} {k i s : Nat} {v : Int64} : (q_sl μ k i s v).2.1 k i s = v := if_pos ⟨rfl, rfl, rfl⟩
theorem sp_1 {μ : qM} {q : Nat × Nat} : (q_sp μ q).1 = μ.1 := rfl
theorem sp_21 {μ : qM} {q : Nat × Nat} : (q_sp μ q).2.1 = μ.2.1 := rfl
theorem sp_22 {μ : qM} {q : Nat × Nat} : (q_sp μ q).2.2 = q := rfl
theorem sc_k {μ : qM} {k0 i0 k i sp dp n a : Nat} (h : a ≠ k) : (q_sc μ k0 i0 k i sp dp n).1 a = μ.1 a := by
  funext b c
  exact if_neg (fun q => h q.1)
theorem sc_i {μ : qM} {k0 i0 k i sp dp n a b : Nat} (h : b ≠ i) : (q_sc μ k0 i0 k i sp dp n).1 a b = μ.1 a b := by
  funext c
  exact if_neg (fun q => h q.2)
theorem sc_e {μ : qM} {k0 i0 k i sp dp n : Nat} : (q_sc μ k0 i0 k i sp dp n).1 k i = va_cpy (μ.1 k0 i0) (μ.1 k i) sp dp n := by
  funext c
  exact if_pos ⟨rfl, rfl⟩
theorem sc_2 {μ : qM} {k0 i0 k i sp dp n : Nat} : (q_sc μ k0 i0 k i sp dp n).2 = μ.2 := rfl
/-- nothing but what T names is another -/
def Fr (T : Nat → Nat → Bool) (μ μ' : qM) : Prop := ∀ k i, T k i = false → μ'.1 k i = μ.1 k i
theorem Fr.rfl' {T : Nat → Nat → Bool} {μ : qM} : Fr T μ μ := fun _ _ _ => rfl
theorem Fr.tr {T : Nat → Nat → Bool} {a b c : qM} (h : Fr T a b) (h2 : Fr T b c) : Fr T a c := fun k i q => (h2 k i q).trans (h k i q)
theorem Fr.si {T : Nat → Nat → Bool} {μ μ' : qM} {k i s : Nat} {v : Int32} (h : Fr T μ μ') (ht : T k i = true) : Fr T μ (q_si μ' k i s v) := by
  intro a b q
  rw [← h a b q]
  funext c
  refine if_neg (fun e => ?_)
  rw [e.1, e.2.1, ht] at q
  cases q
theorem Fr.sc {T : Nat → Nat → Bool} {μ μ' : qM} {k0 i0 k i sp dp n : Nat} (h : Fr T μ μ') (ht : T k i = true) : Fr T μ (q_sc μ' k0 i0 k i sp dp n) := by
  intro a b q
  rw [← h a b q]
  funext c
  refine if_neg (fun e => ?_)
  rw [e.1, e.2, ht] at q
  cases q
theorem Fr.mono {T T' : Nat → Nat → Bool} {μ μ' : qM} (h : Fr T μ μ') (k : ∀ a b, T' a b = false → T a b = false) : Fr T' μ μ' := fun a b q => h a b (k a b q)
/-! Numbers. -/
theorem q_inI {j N : Nat} (h : j < 2 ^ 31) : q_in (nI j) N = true ↔ j < N := by
  unfold q_in
  rw [decide_eq_true_iff, nI_toInt h]
  omega
theorem q_inT {j N : Nat} (h : j < N) (hN : N < 2 ^ 31) : q_in (nI j) N = true := (q_inI (by omega)).mpr h
theorem q_in_iff {x : Int32} {N : Nat} : q_in x N = true ↔ 0 ≤ x.toInt ∧ x.toInt < N := by
  unfold q_in
  rw [decide_eq_true_iff]
theorem x_lt (a b : Int32) : a < b ↔ a.toInt < b.toInt := Int32.lt_iff_toInt_lt
theorem x_le (a b : Int32) : a ≤ b ↔ a.toInt ≤ b.toInt := Int32.le_iff_toInt_le
theorem x_eq (a b : Int32) : a = b ↔ a.toInt = b.toInt := Int32.toInt_inj.symm
theorem x_nle {a b : Int32} : ¬ a ≤ b ↔ b < a := by
  rw [x_le, x_lt]
  omega
theorem x_nlt {a b : Int32} : ¬ a < b ↔ b ≤ a := by
  rw [x_le, x_lt]
  omega
/-- an index is in its range, or it isn't -/
theorem x_ix (x : Int32) {n : Nat} (hn : n < 2 ^ 31) : (∃ j : Nat, j < n ∧ x = nI j) ∨ ¬ (0 ≤ x ∧ x < nI n) := by
  by_cases h : 0 ≤ x ∧ x < nI n
  · left
    obtain ⟨h1, h2⟩ := h
    obtain ⟨j, h3, rfl⟩ := nI_of (x := x) (x_nlt.mpr h1)
    exact ⟨j, (nI_ltI h3 hn).mp h2, rfl⟩
  · exact .inr h
theorem nar_b {x : Int32} (h : x = 0 ∨ x = 1) : vp_nar .boolean x = x := by
  rcases h with rfl | rfl <;> decide +kernel
theorem nar_0 : vp_nar .boolean 0 = 0 := by decide +kernel
theorem nar_1 : vp_nar .boolean 1 = 1 := by decide +kernel
theorem q_b0 : q_b 0 = true := by decide +kernel
theorem q_b1 : q_b 1 = true := by decide +kernel
theorem q_bT {x : Int32} (h : x = 0 ∨ x = 1) : q_b x = true := decide_eq_true h
theorem q_nzT {x : Int32} (h : ¬ x = 0) : q_nz x = true := decide_eq_true h
theorem q_nzI {n : Nat} (h : 0 < n) (h2 : n < 2 ^ 31) : q_nz (nI n) = true := decide_eq_true (nI_ne0 h h2)
theorem zi_cl_0 : Int32.toNatClampNeg 0 = 0 := by decide +kernel
theorem q_crI {sp dp n a b : Nat} (h1 : sp < 2 ^ 31) (h2 : dp < 2 ^ 31) (h3 : n < 2 ^ 31) (ha : sp + n ≤ a) (hb : dp + n ≤ b) : q_cr (nI sp) (nI dp) (nI n) a b = true := by
  unfold q_cr
  rw [decide_eq_true_iff, nI_clamp h1, nI_clamp h2, nI_clamp h3]
  exact ⟨nI_pos h1, nI_pos h2, nI_pos h3, ha, hb⟩
/-! Numbers told by the law's text beside those of places. -/

theorem zi_lt_0 {j : Nat} (h : j < 2 ^ 31) : nI j < (0 : Int32) ↔ j < 0 := nI_ltI (b := 0) h (by decide)
theorem zi_le_0 {j : Nat} (h : j < 2 ^ 31) : nI j ≤ (0 : Int32) ↔ j ≤ 0 := nI_leI (b := 0) h (by decide)
theorem zi_tl_0 {j : Nat} (h : j < 2 ^ 31) : (0 : Int32) < nI j ↔ 0 < j := nI_ltI (a := 0) (by decide) h
theorem zi_el_0 {j : Nat} (h : j < 2 ^ 31) : (0 : Int32) ≤ nI j ↔ 0 ≤ j := nI_leI (a := 0) (by decide) h
theorem zi_eq_0 {j : Nat} (h : j < 2 ^ 31) : nI j = (0 : Int32) ↔ j = 0 := nI_eq (b := 0) h (by decide)
theorem zi_ad_0 {j : Nat} : nI j + (0 : Int32) = nI (j + 0) := nI_add j 0
theorem zi_da_0 {j : Nat} : (0 : Int32) + nI j = nI (0 + j) := nI_add 0 j
theorem zi_ml_0 {j : Nat} : nI j * (0 : Int32) = nI (j * 0) := pk_mul j 0
theorem zi_lm_0 {j : Nat} : (0 : Int32) * nI j = nI (0 * j) := pk_mul 0 j
theorem zi_sb_0' {j : Nat} (h : 0 ≤ j) : nI j - (0 : Int32) = nI (j - 0) := pk_sub (b := 0) h
theorem zi_in_0 {N : Nat} (h : 0 < N) (hN : N < 2 ^ 31) : q_in (0 : Int32) N = true := q_inT (j := 0) h hN
theorem zi_ni_0 : nI 0 = (0 : Int32) := rfl
theorem zi_lt_1 {j : Nat} (h : j < 2 ^ 31) : nI j < (1 : Int32) ↔ j < 1 := nI_ltI (b := 1) h (by decide)
theorem zi_le_1 {j : Nat} (h : j < 2 ^ 31) : nI j ≤ (1 : Int32) ↔ j ≤ 1 := nI_leI (b := 1) h (by decide)
theorem zi_tl_1 {j : Nat} (h : j < 2 ^ 31) : (1 : Int32) < nI j ↔ 1 < j := nI_ltI (a := 1) (by decide) h
theorem zi_el_1 {j : Nat} (h : j < 2 ^ 31) : (1 : Int32) ≤ nI j ↔ 1 ≤ j := nI_leI (a := 1) (by decide) h
theorem zi_eq_1 {j : Nat} (h : j < 2 ^ 31) : nI j = (1 : Int32) ↔ j = 1 := nI_eq (b := 1) h (by decide)
theorem zi_ad_1 {j : Nat} : nI j + (1 : Int32) = nI (j + 1) := nI_add j 1
theorem zi_da_1 {j : Nat} : (1 : Int32) + nI j = nI (1 + j) := nI_add 1 j
theorem zi_ml_1 {j : Nat} : nI j * (1 : Int32) = nI (j * 1) := pk_mul j 1
theorem zi_lm_1 {j : Nat} : (1 : Int32) * nI j = nI (1 * j) := pk_mul 1 j
theorem zi_sb_1' {j : Nat} (h : 1 ≤ j) : nI j - (1 : Int32) = nI (j - 1) := pk_sub (b := 1) h
theorem zi_dv_1 {j : Nat} (h : j < 2 ^ 31) : nI j / (1 : Int32) = nI (j / 1) := pk_div (d := 1) h (by decide) (by decide)
theorem zi_rm_1 {j : Nat} (h : j < 2 ^ 31) : nI j - nI j / (1 : Int32) * (1 : Int32) = nI (j % 1) := pk_rem (d := 1) h (by decide) (by decide)
theorem zi_cl_1 : Int32.toNatClampNeg (1 : Int32) = 1 := nI_clamp (n := 1) (by decide)
theorem zi_in_1 {N : Nat} (h : 1 < N) (hN : N < 2 ^ 31) : q_in (1 : Int32) N = true := q_inT (j := 1) h hN
theorem zi_ni_1 : nI 1 = (1 : Int32) := rfl
theorem zi_lt_2 {j : Nat} (h : j < 2 ^ 31) : nI j < (2 : Int32) ↔ j < 2 := nI_ltI (b := 2) h (by decide)
theorem zi_le_2 {j : Nat} (h : j < 2 ^ 31) : nI j ≤ (2 : Int32) ↔ j ≤ 2 := nI_leI (b := 2) h (by decide)
theorem zi_tl_2 {j : Nat} (h : j < 2 ^ 31) : (2 : Int32) < nI j ↔ 2 < j := nI_ltI (a := 2) (by decide) h
theorem zi_el_2 {j : Nat} (h : j < 2 ^ 31) : (2 : Int32) ≤ nI j ↔ 2 ≤ j := nI_leI (a := 2) (by decide) h
theorem zi_eq_2 {j : Nat} (h : j < 2 ^ 31) : nI j = (2 : Int32) ↔ j = 2 := nI_eq (b := 2) h (by decide)
theorem zi_ad_2 {j : Nat} : nI j + (2 : Int32) = nI (j + 2) := nI_add j 2
theorem zi_da_2 {j : Nat} : (2 : Int32) + nI j = nI (2 + j) := nI_add 2 j
theorem zi_ml_2 {j : Nat} : nI j * (2 : Int32) = nI (j * 2) := pk_mul j 2
theorem zi_lm_2 {j : Nat} : (2 : Int32) * nI j = nI (2 * j) := pk_mul 2 j
theorem zi_sb_2 {j : Nat} (h : 2 ≤ j) : nI j - (2 : Int32) = nI (j - 2) := pk_sub (b := 2) h
theorem zi_dv_2 {j : Nat} (h : j < 2 ^ 31) : nI j / (2 : Int32) = nI (j / 2) := pk_div (d := 2) h (by decide) (by decide)
theorem zi_rm_2 {j : Nat} (h : j < 2 ^ 31) : nI j - nI j / (2 : Int32) * (2 : Int32) = nI (j % 2) := pk_rem (d := 2) h (by decide) (by decide)
theorem zi_cl_2 : Int32.toNatClampNeg (2 : Int32) = 2 := nI_clamp (n := 2) (by decide)
theorem zi_in_2 {N : Nat} (h : 2 < N) (hN : N < 2 ^ 31) : q_in (2 : Int32) N = true := q_inT (j := 2) h hN
theorem zi_ni_2 : nI 2 = (2 : Int32) := rfl
theorem zi_lt_3 {j : Nat} (h : j < 2 ^ 31) : nI j < (3 : Int32) ↔ j < 3 := nI_ltI (b := 3) h (by decide)
theorem zi_le_3 {j : Nat} (h : j < 2 ^ 31) : nI j ≤ (3 : Int32) ↔ j ≤ 3 := nI_leI (b := 3) h (by decide)
theorem zi_tl_3 {j : Nat} (h : j < 2 ^ 31) : (3 : Int32) < nI j ↔ 3 < j := nI_ltI (a := 3) (by decide) h
theorem zi_el_3 {j : Nat} (h : j < 2 ^ 31) : (3 : Int32) ≤ nI j ↔ 3 ≤ j := nI_leI (a := 3) (by decide) h
theorem zi_eq_3 {j : Nat} (h : j < 2 ^ 31) : nI j = (3 : Int32) ↔ j = 3 := nI_eq (b := 3) h (by decide)
theorem zi_ad_3 {j : Nat} : nI j + (3 : Int32) = nI (j + 3) := nI_add j 3
theorem zi_da_3 {j : Nat} : (3 : Int32) + nI j = nI (3 + j) := nI_add 3 j
theorem zi_ml_3 {j : Nat} : nI j * (3 : Int32) = nI (j * 3) := pk_mul j 3
theorem zi_lm_3 {j : Nat} : (3 : Int32) * nI j = nI (3 * j) := pk_mul 3 j
theorem zi_sb_3 {j : Nat} (h : 3 ≤ j) : nI j - (3 : Int32) = nI (j - 3) := pk_sub (b := 3) h
theorem zi_dv_3 {j : Nat} (h : j < 2 ^ 31) : nI j / (3 : Int32) = nI (j / 3) := pk_div (d := 3) h (by decide) (by decide)
theorem zi_rm_3 {j : Nat} (h : j < 2 ^ 31) : nI j - nI j / (3 : Int32) * (3 : Int32) = nI (j % 3) := pk_rem (d := 3) h (by decide) (by decide)
theorem zi_cl_3 : Int32.toNatClampNeg (3 : Int32) = 3 := nI_clamp (n := 3) (by decide)
theorem zi_in_3 {N : Nat} (h : 3 < N) (hN : N < 2 ^ 31) : q_in (3 : Int32) N = true := q_inT (j := 3) h hN
theorem zi_ni_3 : nI 3 = (3 : Int32) := rfl
theorem zi_lt_4 {j : Nat} (h : j < 2 ^ 31) : nI j < (4 : Int32) ↔ j < 4 := nI_ltI (b := 4) h (by decide)
theorem zi_le_4 {j : Nat} (h : j < 2 ^ 31) : nI j ≤ (4 : Int32) ↔ j ≤ 4 := nI_leI (b := 4) h (by decide)
theorem zi_tl_4 {j : Nat} (h : j < 2 ^ 31) : (4 : Int32) < nI j ↔ 4 < j := nI_ltI (a := 4) (by decide) h
theorem zi_el_4 {j : Nat} (h : j < 2 ^ 31) : (4 : Int32) ≤ nI j ↔ 4 ≤ j := nI_leI (a := 4) (by decide) h
theorem zi_eq_4 {j : Nat} (h : j < 2 ^ 31) : nI j = (4 : Int32) ↔ j = 4 := nI_eq (b := 4) h (by decide)
theorem zi_ad_4 {j : Nat} : nI j + (4 : Int32) = nI (j + 4) := nI_add j 4
theorem zi_da_4 {j : Nat} : (4 : Int32) + nI j = nI (4 + j) := nI_add 4 j
theorem zi_ml_4 {j : Nat} : nI j * (4 : Int32) = nI (j * 4) := pk_mul j 4
theorem zi_lm_4 {j : Nat} : (4 : Int32) * nI j = nI (4 * j) := pk_mul 4 j
theorem zi_sb_4 {j : Nat} (h : 4 ≤ j) : nI j - (4 : Int32) = nI (j - 4) := pk_sub (b := 4) h
theorem zi_dv_4 {j : Nat} (h : j < 2 ^ 31) : nI j / (4 : Int32) = nI (j / 4) := pk_div (d := 4) h (by decide) (by decide)
theorem zi_rm_4 {j : Nat} (h : j < 2 ^ 31) : nI j - nI j / (4 : Int32) * (4 : Int32) = nI (j % 4) := pk_rem (d := 4) h (by decide) (by decide)
theorem zi_cl_4 : Int32.toNatClampNeg (4 : Int32) = 4 := nI_clamp (n := 4) (by decide)
theorem zi_in_4 {N : Nat} (h : 4 < N) (hN : N < 2 ^ 31) : q_in (4 : Int32) N = true := q_inT (j := 4) h hN
theorem zi_ni_4 : nI 4 = (4 : Int32) := rfl
theorem zi_lt_5 {j : Nat} (h : j < 2 ^ 31) : nI j < (5 : Int32) ↔ j < 5 := nI_ltI (b := 5) h (by decide)
theorem zi_le_5 {j : Nat} (h : j < 2 ^ 31) : nI j ≤ (5 : Int32) ↔ j ≤ 5 := nI_leI (b := 5) h (by decide)
theorem zi_tl_5 {j : Nat} (h : j < 2 ^ 31) : (5 : Int32) < nI j ↔ 5 < j := nI_ltI (a := 5) (by decide) h
theorem zi_el_5 {j : Nat} (h : j < 2 ^ 31) : (5 : Int32) ≤ nI j ↔ 5 ≤ j := nI_leI (a := 5) (by decide) h
theorem zi_eq_5 {j : Nat} (h : j < 2 ^ 31) : nI j = (5 : Int32) ↔ j = 5 := nI_eq (b := 5) h (by decide)
theorem zi_ad_5 {j : Nat} : nI j + (5 : Int32) = nI (j + 5) := nI_add j 5
theorem zi_da_5 {j : Nat} : (5 : Int32) + nI j = nI (5 + j) := nI_add 5 j
theorem zi_ml_5 {j : Nat} : nI j * (5 : Int32) = nI (j * 5) := pk_mul j 5
theorem zi_lm_5 {j : Nat} : (5 : Int32) * nI j = nI (5 * j) := pk_mul 5 j
theorem zi_sb_5 {j : Nat} (h : 5 ≤ j) : nI j - (5 : Int32) = nI (j - 5) := pk_sub (b := 5) h
theorem zi_dv_5 {j : Nat} (h : j < 2 ^ 31) : nI j / (5 : Int32) = nI (j / 5) := pk_div (d := 5) h (by decide) (by decide)
theorem zi_rm_5 {j : Nat} (h : j < 2 ^ 31) : nI j - nI j / (5 : Int32) * (5 : Int32) = nI (j % 5) := pk_rem (d := 5) h (by decide) (by decide)
theorem zi_cl_5 : Int32.toNatClampNeg (5 : Int32) = 5 := nI_clamp (n := 5) (by decide)
theorem zi_in_5 {N : Nat} (h : 5 < N) (hN : N < 2 ^ 31) : q_in (5 : Int32) N = true := q_inT (j := 5) h hN
theorem zi_ni_5 : nI 5 = (5 : Int32) := rfl
theorem zi_lt_6 {j : Nat} (h : j < 2 ^ 31) : nI j < (6 : Int32) ↔ j < 6 := nI_ltI (b := 6) h (by decide)
theorem zi_le_6 {j : Nat} (h : j < 2 ^ 31) : nI j ≤ (6 : Int32) ↔ j ≤ 6 := nI_leI (b := 6) h (by decide)
theorem zi_tl_6 {j : Nat} (h : j < 2 ^ 31) : (6 : Int32) < nI j ↔ 6 < j := nI_ltI (a := 6) (by decide) h
theorem zi_el_6 {j : Nat} (h : j < 2 ^ 31) : (6 : Int32) ≤ nI j ↔ 6 ≤ j := nI_leI (a := 6) (by decide) h
theorem zi_eq_6 {j : Nat} (h : j < 2 ^ 31) : nI j = (6 : Int32) ↔ j = 6 := nI_eq (b := 6) h (by decide)
theorem zi_ad_6 {j : Nat} : nI j + (6 : Int32) = nI (j + 6) := nI_add j 6
theorem zi_da_6 {j : Nat} : (6 : Int32) + nI j = nI (6 + j) := nI_add 6 j
theorem zi_ml_6 {j : Nat} : nI j * (6 : Int32) = nI (j * 6) := pk_mul j 6
theorem zi_lm_6 {j : Nat} : (6 : Int32) * nI j = nI (6 * j) := pk_mul 6 j
theorem zi_sb_6 {j : Nat} (h : 6 ≤ j) : nI j - (6 : Int32) = nI (j - 6) := pk_sub (b := 6) h
theorem zi_dv_6 {j : Nat} (h : j < 2 ^ 31) : nI j / (6 : Int32) = nI (j / 6) := pk_div (d := 6) h (by decide) (by decide)
theorem zi_rm_6 {j : Nat} (h : j < 2 ^ 31) : nI j - nI j / (6 : Int32) * (6 : Int32) = nI (j % 6) := pk_rem (d := 6) h (by decide) (by decide)
theorem zi_cl_6 : Int32.toNatClampNeg (6 : Int32) = 6 := nI_clamp (n := 6) (by decide)
theorem zi_in_6 {N : Nat} (h : 6 < N) (hN : N < 2 ^ 31) : q_in (6 : Int32) N = true := q_inT (j := 6) h hN
theorem zi_ni_6 : nI 6 = (6 : Int32) := rfl
theorem zi_lt_7 {j : Nat} (h : j < 2 ^ 31) : nI j < (7 : Int32) ↔ j < 7 := nI_ltI (b := 7) h (by decide)
theorem zi_le_7 {j : Nat} (h : j < 2 ^ 31) : nI j ≤ (7 : Int32) ↔ j ≤ 7 := nI_leI (b := 7) h (by decide)
theorem zi_tl_7 {j : Nat} (h : j < 2 ^ 31) : (7 : Int32) < nI j ↔ 7 < j := nI_ltI (a := 7) (by decide) h
theorem zi_el_7 {j : Nat} (h : j < 2 ^ 31) : (7 : Int32) ≤ nI j ↔ 7 ≤ j := nI_leI (a := 7) (by decide) h
theorem zi_eq_7 {j : Nat} (h : j < 2 ^ 31) : nI j = (7 : Int32) ↔ j = 7 := nI_eq (b := 7) h (by decide)
theorem zi_ad_7 {j : Nat} : nI j + (7 : Int32) = nI (j + 7) := nI_add j 7
theorem zi_da_7 {j : Nat} : (7 : Int32) + nI j = nI (7 + j) := nI_add 7 j
theorem zi_ml_7 {j : Nat} : nI j * (7 : Int32) = nI (j * 7) := pk_mul j 7
theorem zi_lm_7 {j : Nat} : (7 : Int32) * nI j = nI (7 * j) := pk_mul 7 j
theorem zi_sb_7 {j : Nat} (h : 7 ≤ j) : nI j - (7 : Int32) = nI (j - 7) := pk_sub (b := 7) h
theorem zi_dv_7 {j : Nat} (h : j < 2 ^ 31) : nI j / (7 : Int32) = nI (j / 7) := pk_div (d := 7) h (by decide) (by decide)
theorem zi_rm_7 {j : Nat} (h : j < 2 ^ 31) : nI j - nI j / (7 : Int32) * (7 : Int32) = nI (j % 7) := pk_rem (d := 7) h (by decide) (by decide)
theorem zi_cl_7 : Int32.toNatClampNeg (7 : Int32) = 7 := nI_clamp (n := 7) (by decide)
theorem zi_in_7 {N : Nat} (h : 7 < N) (hN : N < 2 ^ 31) : q_in (7 : Int32) N = true := q_inT (j := 7) h hN
theorem zi_ni_7 : nI 7 = (7 : Int32) := rfl
theorem zi_lt_8 {j : Nat} (h : j < 2 ^ 31) : nI j < (8 : Int32) ↔ j < 8 := nI_ltI (b := 8) h (by decide)
theorem zi_le_8 {j : Nat} (h : j < 2 ^ 31) : nI j ≤ (8 : Int32) ↔ j ≤ 8 := nI_leI (b := 8) h (by decide)
theorem zi_tl_8 {j : Nat} (h : j < 2 ^ 31) : (8 : Int32) < nI j ↔ 8 < j := nI_ltI (a := 8) (by decide) h
theorem zi_el_8 {j : Nat} (h : j < 2 ^ 31) : (8 : Int32) ≤ nI j ↔ 8 ≤ j := nI_leI (a := 8) (by decide) h
theorem zi_eq_8 {j : Nat} (h : j < 2 ^ 31) : nI j = (8 : Int32) ↔ j = 8 := nI_eq (b := 8) h (by decide)
theorem zi_ad_8 {j : Nat} : nI j + (8 : Int32) = nI (j + 8) := nI_add j 8
theorem zi_da_8 {j : Nat} : (8 : Int32) + nI j = nI (8 + j) := nI_add 8 j
theorem zi_ml_8 {j : Nat} : nI j * (8 : Int32) = nI (j * 8) := pk_mul j 8
theorem zi_lm_8 {j : Nat} : (8 : Int32) * nI j = nI (8 * j) := pk_mul 8 j
theorem zi_sb_8 {j : Nat} (h : 8 ≤ j) : nI j - (8 : Int32) = nI (j - 8) := pk_sub (b := 8) h
theorem zi_dv_8 {j : Nat} (h : j < 2 ^ 31) : nI j / (8 : Int32) = nI (j / 8) := pk_div (d := 8) h (by decide) (by decide)
theorem zi_rm_8 {j : Nat} (h : j < 2 ^ 31) : nI j - nI j / (8 : Int32) * (8 : Int32) = nI (j % 8) := pk_rem (d := 8) h (by decide) (by decide)
theorem zi_cl_8 : Int32.toNatClampNeg (8 : Int32) = 8 := nI_clamp (n := 8) (by decide)
theorem zi_in_8 {N : Nat} (h : 8 < N) (hN : N < 2 ^ 31) : q_in (8 : Int32) N = true := q_inT (j := 8) h hN
theorem zi_ni_8 : nI 8 = (8 : Int32) := rfl
theorem zi_lt_9 {j : Nat} (h : j < 2 ^ 31) : nI j < (9 : Int32) ↔ j < 9 := nI_ltI (b := 9) h (by decide)
theorem zi_le_9 {j : Nat} (h : j < 2 ^ 31) : nI j ≤ (9 : Int32) ↔ j ≤ 9 := nI_leI (b := 9) h (by decide)
theorem zi_tl_9 {j : Nat} (h : j < 2 ^ 31) : (9 : Int32) < nI j ↔ 9 < j := nI_ltI (a := 9) (by decide) h
theorem zi_el_9 {j : Nat} (h : j < 2 ^ 31) : (9 : Int32) ≤ nI j ↔ 9 ≤ j := nI_leI (a := 9) (by decide) h
theorem zi_eq_9 {j : Nat} (h : j < 2 ^ 31) : nI j = (9 : Int32) ↔ j = 9 := nI_eq (b := 9) h (by decide)
theorem zi_ad_9 {j : Nat} : nI j + (9 : Int32) = nI (j + 9) := nI_add j 9
theorem zi_da_9 {j : Nat} : (9 : Int32) + nI j = nI (9 + j) := nI_add 9 j
theorem zi_ml_9 {j : Nat} : nI j * (9 : Int32) = nI (j * 9) := pk_mul j 9
theorem zi_lm_9 {j : Nat} : (9 : Int32) * nI j = nI (9 * j) := pk_mul 9 j
theorem zi_sb_9 {j : Nat} (h : 9 ≤ j) : nI j - (9 : Int32) = nI (j - 9) := pk_sub (b := 9) h
theorem zi_dv_9 {j : Nat} (h : j < 2 ^ 31) : nI j / (9 : Int32) = nI (j / 9) := pk_div (d := 9) h (by decide) (by decide)
theorem zi_rm_9 {j : Nat} (h : j < 2 ^ 31) : nI j - nI j / (9 : Int32) * (9 : Int32) = nI (j % 9) := pk_rem (d := 9) h (by decide) (by decide)
theorem zi_cl_9 : Int32.toNatClampNeg (9 : Int32) = 9 := nI_clamp (n := 9) (by decide)
theorem zi_in_9 {N : Nat} (h : 9 < N) (hN : N < 2 ^ 31) : q_in (9 : Int32) N = true := q_inT (j := 9) h hN
theorem zi_ni_9 : nI 9 = (9 : Int32) := rfl
theorem zi_lt_10 {j : Nat} (h : j < 2 ^ 31) : nI j < (10 : Int32) ↔ j < 10 := nI_ltI (b := 10) h (by decide)
theorem zi_le_10 {j : Nat} (h : j < 2 ^ 31) : nI j ≤ (10 : Int32) ↔ j ≤ 10 := nI_leI (b := 10) h (by decide)
theorem zi_tl_10 {j : Nat} (h : j < 2 ^ 31) : (10 : Int32) < nI j ↔ 10 < j := nI_ltI (a := 10) (by decide) h
theorem zi_el_10 {j : Nat} (h : j < 2 ^ 31) : (10 : Int32) ≤ nI j ↔ 10 ≤ j := nI_leI (a := 10) (by decide) h
theorem zi_eq_10 {j : Nat} (h : j < 2 ^ 31) : nI j = (10 : Int32) ↔ j = 10 := nI_eq (b := 10) h (by decide)
theorem zi_ad_10 {j : Nat} : nI j + (10 : Int32) = nI (j + 10) := nI_add j 10
theorem zi_da_10 {j : Nat} : (10 : Int32) + nI j = nI (10 + j) := nI_add 10 j
theorem zi_ml_10 {j : Nat} : nI j * (10 : Int32) = nI (j * 10) := pk_mul j 10
theorem zi_lm_10 {j : Nat} : (10 : Int32) * nI j = nI (10 * j) := pk_mul 10 j
theorem zi_sb_10 {j : Nat} (h : 10 ≤ j) : nI j - (10 : Int32) = nI (j - 10) := pk_sub (b := 10) h
theorem zi_dv_10 {j : Nat} (h : j < 2 ^ 31) : nI j / (10 : Int32) = nI (j / 10) := pk_div (d := 10) h (by decide) (by decide)
theorem zi_rm_10 {j : Nat} (h : j < 2 ^ 31) : nI j - nI j / (10 : Int32) * (10 : Int32) = nI (j % 10) := pk_rem (d := 10) h (by decide) (by decide)
theorem zi_cl_10 : Int32.toNatClampNeg (10 : Int32) = 10 := nI_clamp (n := 10) (by decide)
theorem zi_in_10 {N : Nat} (h : 10 < N) (hN : N < 2 ^ 31) : q_in (10 : Int32) N = true := q_inT (j := 10) h hN
theorem zi_ni_10 : nI 10 = (10 : Int32) := rfl
theorem zi_lt_12 {j : Nat} (h : j < 2 ^ 31) : nI j < (12 : Int32) ↔ j < 12 := nI_ltI (b := 12) h (by decide)
theorem zi_le_12 {j : Nat} (h : j < 2 ^ 31) : nI j ≤ (12 : Int32) ↔ j ≤ 12 := nI_leI (b := 12) h (by decide)
theorem zi_tl_12 {j : Nat} (h : j < 2 ^ 31) : (12 : Int32) < nI j ↔ 12 < j := nI_ltI (a := 12) (by decide) h
theorem zi_el_12 {j : Nat} (h : j < 2 ^ 31) : (12 : Int32) ≤ nI j ↔ 12 ≤ j := nI_leI (a := 12) (by decide) h
theorem zi_eq_12 {j : Nat} (h : j < 2 ^ 31) : nI j = (12 : Int32) ↔ j = 12 := nI_eq (b := 12) h (by decide)
theorem zi_ad_12 {j : Nat} : nI j + (12 : Int32) = nI (j + 12) := nI_add j 12
theorem zi_da_12 {j : Nat} : (12 : Int32) + nI j = nI (12 + j) := nI_add 12 j
theorem zi_ml_12 {j : Nat} : nI j * (12 : Int32) = nI (j * 12) := pk_mul j 12
theorem zi_lm_12 {j : Nat} : (12 : Int32) * nI j = nI (12 * j) := pk_mul 12 j
theorem zi_sb_12 {j : Nat} (h : 12 ≤ j) : nI j - (12 : Int32) = nI (j - 12) := pk_sub (b := 12) h
theorem zi_dv_12 {j : Nat} (h : j < 2 ^ 31) : nI j / (12 : Int32) = nI (j / 12) := pk_div (d := 12) h (by decide) (by decide)
theorem zi_rm_12 {j : Nat} (h : j < 2 ^ 31) : nI j - nI j / (12 : Int32) * (12 : Int32) = nI (j % 12) := pk_rem (d := 12) h (by decide) (by decide)
theorem zi_cl_12 : Int32.toNatClampNeg (12 : Int32) = 12 := nI_clamp (n := 12) (by decide)
theorem zi_in_12 {N : Nat} (h : 12 < N) (hN : N < 2 ^ 31) : q_in (12 : Int32) N = true := q_inT (j := 12) h hN
theorem zi_ni_12 : nI 12 = (12 : Int32) := rfl
theorem zi_lt_24 {j : Nat} (h : j < 2 ^ 31) : nI j < (24 : Int32) ↔ j < 24 := nI_ltI (b := 24) h (by decide)
theorem zi_le_24 {j : Nat} (h : j < 2 ^ 31) : nI j ≤ (24 : Int32) ↔ j ≤ 24 := nI_leI (b := 24) h (by decide)
theorem zi_tl_24 {j : Nat} (h : j < 2 ^ 31) : (24 : Int32) < nI j ↔ 24 < j := nI_ltI (a := 24) (by decide) h
theorem zi_el_24 {j : Nat} (h : j < 2 ^ 31) : (24 : Int32) ≤ nI j ↔ 24 ≤ j := nI_leI (a := 24) (by decide) h
theorem zi_eq_24 {j : Nat} (h : j < 2 ^ 31) : nI j = (24 : Int32) ↔ j = 24 := nI_eq (b := 24) h (by decide)
theorem zi_ad_24 {j : Nat} : nI j + (24 : Int32) = nI (j + 24) := nI_add j 24
theorem zi_da_24 {j : Nat} : (24 : Int32) + nI j = nI (24 + j) := nI_add 24 j
theorem zi_ml_24 {j : Nat} : nI j * (24 : Int32) = nI (j * 24) := pk_mul j 24
theorem zi_lm_24 {j : Nat} : (24 : Int32) * nI j = nI (24 * j) := pk_mul 24 j
theorem zi_sb_24 {j : Nat} (h : 24 ≤ j) : nI j - (24 : Int32) = nI (j - 24) := pk_sub (b := 24) h
theorem zi_dv_24 {j : Nat} (h : j < 2 ^ 31) : nI j / (24 : Int32) = nI (j / 24) := pk_div (d := 24) h (by decide) (by decide)
theorem zi_rm_24 {j : Nat} (h : j < 2 ^ 31) : nI j - nI j / (24 : Int32) * (24 : Int32) = nI (j % 24) := pk_rem (d := 24) h (by decide) (by decide)
theorem zi_cl_24 : Int32.toNatClampNeg (24 : Int32) = 24 := nI_clamp (n := 24) (by decide)
theorem zi_in_24 {N : Nat} (h : 24 < N) (hN : N < 2 ^ 31) : q_in (24 : Int32) N = true := q_inT (j := 24) h hN
theorem zi_ni_24 : nI 24 = (24 : Int32) := rfl
theorem zi_lt_25 {j : Nat} (h : j < 2 ^ 31) : nI j < (25 : Int32) ↔ j < 25 := nI_ltI (b := 25) h (by decide)
theorem zi_le_25 {j : Nat} (h : j < 2 ^ 31) : nI j ≤ (25 : Int32) ↔ j ≤ 25 := nI_leI (b := 25) h (by decide)
theorem zi_tl_25 {j : Nat} (h : j < 2 ^ 31) : (25 : Int32) < nI j ↔ 25 < j := nI_ltI (a := 25) (by decide) h
theorem zi_el_25 {j : Nat} (h : j < 2 ^ 31) : (25 : Int32) ≤ nI j ↔ 25 ≤ j := nI_leI (a := 25) (by decide) h
theorem zi_eq_25 {j : Nat} (h : j < 2 ^ 31) : nI j = (25 : Int32) ↔ j = 25 := nI_eq (b := 25) h (by decide)
theorem zi_ad_25 {j : Nat} : nI j + (25 : Int32) = nI (j + 25) := nI_add j 25
theorem zi_da_25 {j : Nat} : (25 : Int32) + nI j = nI (25 + j) := nI_add 25 j
theorem zi_ml_25 {j : Nat} : nI j * (25 : Int32) = nI (j * 25) := pk_mul j 25
theorem zi_lm_25 {j : Nat} : (25 : Int32) * nI j = nI (25 * j) := pk_mul 25 j
theorem zi_sb_25 {j : Nat} (h : 25 ≤ j) : nI j - (25 : Int32) = nI (j - 25) := pk_sub (b := 25) h
theorem zi_dv_25 {j : Nat} (h : j < 2 ^ 31) : nI j / (25 : Int32) = nI (j / 25) := pk_div (d := 25) h (by decide) (by decide)
theorem zi_rm_25 {j : Nat} (h : j < 2 ^ 31) : nI j - nI j / (25 : Int32) * (25 : Int32) = nI (j % 25) := pk_rem (d := 25) h (by decide) (by decide)
theorem zi_cl_25 : Int32.toNatClampNeg (25 : Int32) = 25 := nI_clamp (n := 25) (by decide)
theorem zi_in_25 {N : Nat} (h : 25 < N) (hN : N < 2 ^ 31) : q_in (25 : Int32) N = true := q_inT (j := 25) h hN
theorem zi_ni_25 : nI 25 = (25 : Int32) := rfl
theorem zi_lt_31 {j : Nat} (h : j < 2 ^ 31) : nI j < (31 : Int32) ↔ j < 31 := nI_ltI (b := 31) h (by decide)
theorem zi_le_31 {j : Nat} (h : j < 2 ^ 31) : nI j ≤ (31 : Int32) ↔ j ≤ 31 := nI_leI (b := 31) h (by decide)
theorem zi_tl_31 {j : Nat} (h : j < 2 ^ 31) : (31 : Int32) < nI j ↔ 31 < j := nI_ltI (a := 31) (by decide) h
theorem zi_el_31 {j : Nat} (h : j < 2 ^ 31) : (31 : Int32) ≤ nI j ↔ 31 ≤ j := nI_leI (a := 31) (by decide) h
theorem zi_eq_31 {j : Nat} (h : j < 2 ^ 31) : nI j = (31 : Int32) ↔ j = 31 := nI_eq (b := 31) h (by decide)
theorem zi_ad_31 {j : Nat} : nI j + (31 : Int32) = nI (j + 31) := nI_add j 31
theorem zi_da_31 {j : Nat} : (31 : Int32) + nI j = nI (31 + j) := nI_add 31 j
theorem zi_ml_31 {j : Nat} : nI j * (31 : Int32) = nI (j * 31) := pk_mul j 31
theorem zi_lm_31 {j : Nat} : (31 : Int32) * nI j = nI (31 * j) := pk_mul 31 j
theorem zi_sb_31 {j : Nat} (h : 31 ≤ j) : nI j - (31 : Int32) = nI (j - 31) := pk_sub (b := 31) h
theorem zi_dv_31 {j : Nat} (h : j < 2 ^ 31) : nI j / (31 : Int32) = nI (j / 31) := pk_div (d := 31) h (by decide) (by decide)
theorem zi_rm_31 {j : Nat} (h : j < 2 ^ 31) : nI j - nI j / (31 : Int32) * (31 : Int32) = nI (j % 31) := pk_rem (d := 31) h (by decide) (by decide)
theorem zi_cl_31 : Int32.toNatClampNeg (31 : Int32) = 31 := nI_clamp (n := 31) (by decide)
theorem zi_in_31 {N : Nat} (h : 31 < N) (hN : N < 2 ^ 31) : q_in (31 : Int32) N = true := q_inT (j := 31) h hN
theorem zi_ni_31 : nI 31 = (31 : Int32) := rfl
theorem zi_lt_32 {j : Nat} (h : j < 2 ^ 31) : nI j < (32 : Int32) ↔ j < 32 := nI_ltI (b := 32) h (by decide)
theorem zi_le_32 {j : Nat} (h : j < 2 ^ 31) : nI j ≤ (32 : Int32) ↔ j ≤ 32 := nI_leI (b := 32) h (by decide)
theorem zi_tl_32 {j : Nat} (h : j < 2 ^ 31) : (32 : Int32) < nI j ↔ 32 < j := nI_ltI (a := 32) (by decide) h
theorem zi_el_32 {j : Nat} (h : j < 2 ^ 31) : (32 : Int32) ≤ nI j ↔ 32 ≤ j := nI_leI (a := 32) (by decide) h
theorem zi_eq_32 {j : Nat} (h : j < 2 ^ 31) : nI j = (32 : Int32) ↔ j = 32 := nI_eq (b := 32) h (by decide)
theorem zi_ad_32 {j : Nat} : nI j + (32 : Int32) = nI (j + 32) := nI_add j 32
theorem zi_da_32 {j : Nat} : (32 : Int32) + nI j = nI (32 + j) := nI_add 32 j
theorem zi_ml_32 {j : Nat} : nI j * (32 : Int32) = nI (j * 32) := pk_mul j 32
theorem zi_lm_32 {j : Nat} : (32 : Int32) * nI j = nI (32 * j) := pk_mul 32 j
theorem zi_sb_32 {j : Nat} (h : 32 ≤ j) : nI j - (32 : Int32) = nI (j - 32) := pk_sub (b := 32) h
theorem zi_dv_32 {j : Nat} (h : j < 2 ^ 31) : nI j / (32 : Int32) = nI (j / 32) := pk_div (d := 32) h (by decide) (by decide)
theorem zi_rm_32 {j : Nat} (h : j < 2 ^ 31) : nI j - nI j / (32 : Int32) * (32 : Int32) = nI (j % 32) := pk_rem (d := 32) h (by decide) (by decide)
theorem zi_cl_32 : Int32.toNatClampNeg (32 : Int32) = 32 := nI_clamp (n := 32) (by decide)
theorem zi_in_32 {N : Nat} (h : 32 < N) (hN : N < 2 ^ 31) : q_in (32 : Int32) N = true := q_inT (j := 32) h hN
theorem zi_ni_32 : nI 32 = (32 : Int32) := rfl
theorem zi_lt_40 {j : Nat} (h : j < 2 ^ 31) : nI j < (40 : Int32) ↔ j < 40 := nI_ltI (b := 40) h (by decide)
theorem zi_le_40 {j : Nat} (h : j < 2 ^ 31) : nI j ≤ (40 : Int32) ↔ j ≤ 40 := nI_leI (b := 40) h (by decide)
theorem zi_tl_40 {j : Nat} (h : j < 2 ^ 31) : (40 : Int32) < nI j ↔ 40 < j := nI_ltI (a := 40) (by decide) h
theorem zi_el_40 {j : Nat} (h : j < 2 ^ 31) : (40 : Int32) ≤ nI j ↔ 40 ≤ j := nI_leI (a := 40) (by decide) h
theorem zi_eq_40 {j : Nat} (h : j < 2 ^ 31) : nI j = (40 : Int32) ↔ j = 40 := nI_eq (b := 40) h (by decide)
theorem zi_ad_40 {j : Nat} : nI j + (40 : Int32) = nI (j + 40) := nI_add j 40
theorem zi_da_40 {j : Nat} : (40 : Int32) + nI j = nI (40 + j) := nI_add 40 j
theorem zi_ml_40 {j : Nat} : nI j * (40 : Int32) = nI (j * 40) := pk_mul j 40
theorem zi_lm_40 {j : Nat} : (40 : Int32) * nI j = nI (40 * j) := pk_mul 40 j
theorem zi_sb_40 {j : Nat} (h : 40 ≤ j) : nI j - (40 : Int32) = nI (j - 40) := pk_sub (b := 40) h
theorem zi_dv_40 {j : Nat} (h : j < 2 ^ 31) : nI j / (40 : Int32) = nI (j / 40) := pk_div (d := 40) h (by decide) (by decide)
theorem zi_rm_40 {j : Nat} (h : j < 2 ^ 31) : nI j - nI j / (40 : Int32) * (40 : Int32) = nI (j % 40) := pk_rem (d := 40) h (by decide) (by decide)
theorem zi_cl_40 : Int32.toNatClampNeg (40 : Int32) = 40 := nI_clamp (n := 40) (by decide)
theorem zi_in_40 {N : Nat} (h : 40 < N) (hN : N < 2 ^ 31) : q_in (40 : Int32) N = true := q_inT (j := 40) h hN
theorem zi_ni_40 : nI 40 = (40 : Int32) := rfl
theorem zi_lt_45 {j : Nat} (h : j < 2 ^ 31) : nI j < (45 : Int32) ↔ j < 45 := nI_ltI (b := 45) h (by decide)
theorem zi_le_45 {j : Nat} (h : j < 2 ^ 31) : nI j ≤ (45 : Int32) ↔ j ≤ 45 := nI_leI (b := 45) h (by decide)
theorem zi_tl_45 {j : Nat} (h : j < 2 ^ 31) : (45 : Int32) < nI j ↔ 45 < j := nI_ltI (a := 45) (by decide) h
theorem zi_el_45 {j : Nat} (h : j < 2 ^ 31) : (45 : Int32) ≤ nI j ↔ 45 ≤ j := nI_leI (a := 45) (by decide) h
theorem zi_eq_45 {j : Nat} (h : j < 2 ^ 31) : nI j = (45 : Int32) ↔ j = 45 := nI_eq (b := 45) h (by decide)
theorem zi_ad_45 {j : Nat} : nI j + (45 : Int32) = nI (j + 45) := nI_add j 45
theorem zi_da_45 {j : Nat} : (45 : Int32) + nI j = nI (45 + j) := nI_add 45 j
theorem zi_ml_45 {j : Nat} : nI j * (45 : Int32) = nI (j * 45) := pk_mul j 45
theorem zi_lm_45 {j : Nat} : (45 : Int32) * nI j = nI (45 * j) := pk_mul 45 j
theorem zi_sb_45 {j : Nat} (h : 45 ≤ j) : nI j - (45 : Int32) = nI (j - 45) := pk_sub (b := 45) h
theorem zi_dv_45 {j : Nat} (h : j < 2 ^ 31) : nI j / (45 : Int32) = nI (j / 45) := pk_div (d := 45) h (by decide) (by decide)
theorem zi_rm_45 {j : Nat} (h : j < 2 ^ 31) : nI j - nI j / (45 : Int32) * (45 : Int32) = nI (j % 45) := pk_rem (d := 45) h (by decide) (by decide)
theorem zi_cl_45 : Int32.toNatClampNeg (45 : Int32) = 45 := nI_clamp (n := 45) (by decide)
theorem zi_in_45 {N : Nat} (h : 45 < N) (hN : N < 2 ^ 31) : q_in (45 : Int32) N = true := q_inT (j := 45) h hN
theorem zi_ni_45 : nI 45 = (45 : Int32) := rfl
theorem zi_lt_47 {j : Nat} (h : j < 2 ^ 31) : nI j < (47 : Int32) ↔ j < 47 := nI_ltI (b := 47) h (by decide)
theorem zi_le_47 {j : Nat} (h : j < 2 ^ 31) : nI j ≤ (47 : Int32) ↔ j ≤ 47 := nI_leI (b := 47) h (by decide)
theorem zi_tl_47 {j : Nat} (h : j < 2 ^ 31) : (47 : Int32) < nI j ↔ 47 < j := nI_ltI (a := 47) (by decide) h
theorem zi_el_47 {j : Nat} (h : j < 2 ^ 31) : (47 : Int32) ≤ nI j ↔ 47 ≤ j := nI_leI (a := 47) (by decide) h
theorem zi_eq_47 {j : Nat} (h : j < 2 ^ 31) : nI j = (47 : Int32) ↔ j = 47 := nI_eq (b := 47) h (by decide)
theorem zi_ad_47 {j : Nat} : nI j + (47 : Int32) = nI (j + 47) := nI_add j 47
theorem zi_da_47 {j : Nat} : (47 : Int32) + nI j = nI (47 + j) := nI_add 47 j
theorem zi_ml_47 {j : Nat} : nI j * (47 : Int32) = nI (j * 47) := pk_mul j 47
theorem zi_lm_47 {j : Nat} : (47 : Int32) * nI j = nI (47 * j) := pk_mul 47 j
theorem zi_sb_47 {j : Nat} (h : 47 ≤ j) : nI j - (47 : Int32) = nI (j - 47) := pk_sub (b := 47) h
theorem zi_dv_47 {j : Nat} (h : j < 2 ^ 31) : nI j / (47 : Int32) = nI (j / 47) := pk_div (d := 47) h (by decide) (by decide)
theorem zi_rm_47 {j : Nat} (h : j < 2 ^ 31) : nI j - nI j / (47 : Int32) * (47 : Int32) = nI (j % 47) := pk_rem (d := 47) h (by decide) (by decide)
theorem zi_cl_47 : Int32.toNatClampNeg (47 : Int32) = 47 := nI_clamp (n := 47) (by decide)
theorem zi_in_47 {N : Nat} (h : 47 < N) (hN : N < 2 ^ 31) : q_in (47 : Int32) N = true := q_inT (j := 47) h hN
theorem zi_ni_47 : nI 47 = (47 : Int32) := rfl
theorem zi_lt_48 {j : Nat} (h : j < 2 ^ 31) : nI j < (48 : Int32) ↔ j < 48 := nI_ltI (b := 48) h (by decide)
theorem zi_le_48 {j : Nat} (h : j < 2 ^ 31) : nI j ≤ (48 : Int32) ↔ j ≤ 48 := nI_leI (b := 48) h (by decide)
theorem zi_tl_48 {j : Nat} (h : j < 2 ^ 31) : (48 : Int32) < nI j ↔ 48 < j := nI_ltI (a := 48) (by decide) h
theorem zi_el_48 {j : Nat} (h : j < 2 ^ 31) : (48 : Int32) ≤ nI j ↔ 48 ≤ j := nI_leI (a := 48) (by decide) h
theorem zi_eq_48 {j : Nat} (h : j < 2 ^ 31) : nI j = (48 : Int32) ↔ j = 48 := nI_eq (b := 48) h (by decide)
theorem zi_ad_48 {j : Nat} : nI j + (48 : Int32) = nI (j + 48) := nI_add j 48
theorem zi_da_48 {j : Nat} : (48 : Int32) + nI j = nI (48 + j) := nI_add 48 j
theorem zi_ml_48 {j : Nat} : nI j * (48 : Int32) = nI (j * 48) := pk_mul j 48
theorem zi_lm_48 {j : Nat} : (48 : Int32) * nI j = nI (48 * j) := pk_mul 48 j
theorem zi_sb_48 {j : Nat} (h : 48 ≤ j) : nI j - (48 : Int32) = nI (j - 48) := pk_sub (b := 48) h
theorem zi_dv_48 {j : Nat} (h : j < 2 ^ 31) : nI j / (48 : Int32) = nI (j / 48) := pk_div (d := 48) h (by decide) (by decide)
theorem zi_rm_48 {j : Nat} (h : j < 2 ^ 31) : nI j - nI j / (48 : Int32) * (48 : Int32) = nI (j % 48) := pk_rem (d := 48) h (by decide) (by decide)
theorem zi_cl_48 : Int32.toNatClampNeg (48 : Int32) = 48 := nI_clamp (n := 48) (by decide)
theorem zi_in_48 {N : Nat} (h : 48 < N) (hN : N < 2 ^ 31) : q_in (48 : Int32) N = true := q_inT (j := 48) h hN
theorem zi_ni_48 : nI 48 = (48 : Int32) := rfl
theorem zi_lt_49 {j : Nat} (h : j < 2 ^ 31) : nI j < (49 : Int32) ↔ j < 49 := nI_ltI (b := 49) h (by decide)
theorem zi_le_49 {j : Nat} (h : j < 2 ^ 31) : nI j ≤ (49 : Int32) ↔ j ≤ 49 := nI_leI (b := 49) h (by decide)
theorem zi_tl_49 {j : Nat} (h : j < 2 ^ 31) : (49 : Int32) < nI j ↔ 49 < j := nI_ltI (a := 49) (by decide) h
theorem zi_el_49 {j : Nat} (h : j < 2 ^ 31) : (49 : Int32) ≤ nI j ↔ 49 ≤ j := nI_leI (a := 49) (by decide) h
theorem zi_eq_49 {j : Nat} (h : j < 2 ^ 31) : nI j = (49 : Int32) ↔ j = 49 := nI_eq (b := 49) h (by decide)
theorem zi_ad_49 {j : Nat} : nI j + (49 : Int32) = nI (j + 49) := nI_add j 49
theorem zi_da_49 {j : Nat} : (49 : Int32) + nI j = nI (49 + j) := nI_add 49 j
theorem zi_ml_49 {j : Nat} : nI j * (49 : Int32) = nI (j * 49) := pk_mul j 49
theorem zi_lm_49 {j : Nat} : (49 : Int32) * nI j = nI (49 * j) := pk_mul 49 j
theorem zi_sb_49 {j : Nat} (h : 49 ≤ j) : nI j - (49 : Int32) = nI (j - 49) := pk_sub (b := 49) h
theorem zi_dv_49 {j : Nat} (h : j < 2 ^ 31) : nI j / (49 : Int32) = nI (j / 49) := pk_div (d := 49) h (by decide) (by decide)
theorem zi_rm_49 {j : Nat} (h : j < 2 ^ 31) : nI j - nI j / (49 : Int32) * (49 : Int32) = nI (j % 49) := pk_rem (d := 49) h (by decide) (by decide)
theorem zi_cl_49 : Int32.toNatClampNeg (49 : Int32) = 49 := nI_clamp (n := 49) (by decide)
theorem zi_in_49 {N : Nat} (h : 49 < N) (hN : N < 2 ^ 31) : q_in (49 : Int32) N = true := q_inT (j := 49) h hN
theorem zi_ni_49 : nI 49 = (49 : Int32) := rfl
theorem zi_lt_57 {j : Nat} (h : j < 2 ^ 31) : nI j < (57 : Int32) ↔ j < 57 := nI_ltI (b := 57) h (by decide)
theorem zi_le_57 {j : Nat} (h : j < 2 ^ 31) : nI j ≤ (57 : Int32) ↔ j ≤ 57 := nI_leI (b := 57) h (by decide)
theorem zi_tl_57 {j : Nat} (h : j < 2 ^ 31) : (57 : Int32) < nI j ↔ 57 < j := nI_ltI (a := 57) (by decide) h
theorem zi_el_57 {j : Nat} (h : j < 2 ^ 31) : (57 : Int32) ≤ nI j ↔ 57 ≤ j := nI_leI (a := 57) (by decide) h
theorem zi_eq_57 {j : Nat} (h : j < 2 ^ 31) : nI j = (57 : Int32) ↔ j = 57 := nI_eq (b := 57) h (by decide)
theorem zi_ad_57 {j : Nat} : nI j + (57 : Int32) = nI (j + 57) := nI_add j 57
theorem zi_da_57 {j : Nat} : (57 : Int32) + nI j = nI (57 + j) := nI_add 57 j
theorem zi_ml_57 {j : Nat} : nI j * (57 : Int32) = nI (j * 57) := pk_mul j 57
theorem zi_lm_57 {j : Nat} : (57 : Int32) * nI j = nI (57 * j) := pk_mul 57 j
theorem zi_sb_57 {j : Nat} (h : 57 ≤ j) : nI j - (57 : Int32) = nI (j - 57) := pk_sub (b := 57) h
theorem zi_dv_57 {j : Nat} (h : j < 2 ^ 31) : nI j / (57 : Int32) = nI (j / 57) := pk_div (d := 57) h (by decide) (by decide)
theorem zi_rm_57 {j : Nat} (h : j < 2 ^ 31) : nI j - nI j / (57 : Int32) * (57 : Int32) = nI (j % 57) := pk_rem (d := 57) h (by decide) (by decide)
theorem zi_cl_57 : Int32.toNatClampNeg (57 : Int32) = 57 := nI_clamp (n := 57) (by decide)
theorem zi_in_57 {N : Nat} (h : 57 < N) (hN : N < 2 ^ 31) : q_in (57 : Int32) N = true := q_inT (j := 57) h hN
theorem zi_ni_57 : nI 57 = (57 : Int32) := rfl
theorem zi_lt_95 {j : Nat} (h : j < 2 ^ 31) : nI j < (95 : Int32) ↔ j < 95 := nI_ltI (b := 95) h (by decide)
theorem zi_le_95 {j : Nat} (h : j < 2 ^ 31) : nI j ≤ (95 : Int32) ↔ j ≤ 95 := nI_leI (b := 95) h (by decide)
theorem zi_tl_95 {j : Nat} (h : j < 2 ^ 31) : (95 : Int32) < nI j ↔ 95 < j := nI_ltI (a := 95) (by decide) h
theorem zi_el_95 {j : Nat} (h : j < 2 ^ 31) : (95 : Int32) ≤ nI j ↔ 95 ≤ j := nI_leI (a := 95) (by decide) h
theorem zi_eq_95 {j : Nat} (h : j < 2 ^ 31) : nI j = (95 : Int32) ↔ j = 95 := nI_eq (b := 95) h (by decide)
theorem zi_ad_95 {j : Nat} : nI j + (95 : Int32) = nI (j + 95) := nI_add j 95
theorem zi_da_95 {j : Nat} : (95 : Int32) + nI j = nI (95 + j) := nI_add 95 j
theorem zi_ml_95 {j : Nat} : nI j * (95 : Int32) = nI (j * 95) := pk_mul j 95
theorem zi_lm_95 {j : Nat} : (95 : Int32) * nI j = nI (95 * j) := pk_mul 95 j
theorem zi_sb_95 {j : Nat} (h : 95 ≤ j) : nI j - (95 : Int32) = nI (j - 95) := pk_sub (b := 95) h
theorem zi_dv_95 {j : Nat} (h : j < 2 ^ 31) : nI j / (95 : Int32) = nI (j / 95) := pk_div (d := 95) h (by decide) (by decide)
theorem zi_rm_95 {j : Nat} (h : j < 2 ^ 31) : nI j - nI j / (95 : Int32) * (95 : Int32) = nI (j % 95) := pk_rem (d := 95) h (by decide) (by decide)
theorem zi_cl_95 : Int32.toNatClampNeg (95 : Int32) = 95 := nI_clamp (n := 95) (by decide)
theorem zi_in_95 {N : Nat} (h : 95 < N) (hN : N < 2 ^ 31) : q_in (95 : Int32) N = true := q_inT (j := 95) h hN
theorem zi_ni_95 : nI 95 = (95 : Int32) := rfl
theorem zi_lt_96 {j : Nat} (h : j < 2 ^ 31) : nI j < (96 : Int32) ↔ j < 96 := nI_ltI (b := 96) h (by decide)
theorem zi_le_96 {j : Nat} (h : j < 2 ^ 31) : nI j ≤ (96 : Int32) ↔ j ≤ 96 := nI_leI (b := 96) h (by decide)
theorem zi_tl_96 {j : Nat} (h : j < 2 ^ 31) : (96 : Int32) < nI j ↔ 96 < j := nI_ltI (a := 96) (by decide) h
theorem zi_el_96 {j : Nat} (h : j < 2 ^ 31) : (96 : Int32) ≤ nI j ↔ 96 ≤ j := nI_leI (a := 96) (by decide) h
theorem zi_eq_96 {j : Nat} (h : j < 2 ^ 31) : nI j = (96 : Int32) ↔ j = 96 := nI_eq (b := 96) h (by decide)
theorem zi_ad_96 {j : Nat} : nI j + (96 : Int32) = nI (j + 96) := nI_add j 96
theorem zi_da_96 {j : Nat} : (96 : Int32) + nI j = nI (96 + j) := nI_add 96 j
theorem zi_ml_96 {j : Nat} : nI j * (96 : Int32) = nI (j * 96) := pk_mul j 96
theorem zi_lm_96 {j : Nat} : (96 : Int32) * nI j = nI (96 * j) := pk_mul 96 j
theorem zi_sb_96 {j : Nat} (h : 96 ≤ j) : nI j - (96 : Int32) = nI (j - 96) := pk_sub (b := 96) h
theorem zi_dv_96 {j : Nat} (h : j < 2 ^ 31) : nI j / (96 : Int32) = nI (j / 96) := pk_div (d := 96) h (by decide) (by decide)
theorem zi_rm_96 {j : Nat} (h : j < 2 ^ 31) : nI j - nI j / (96 : Int32) * (96 : Int32) = nI (j % 96) := pk_rem (d := 96) h (by decide) (by decide)
theorem zi_cl_96 : Int32.toNatClampNeg (96 : Int32) = 96 := nI_clamp (n := 96) (by decide)
theorem zi_in_96 {N : Nat} (h : 96 < N) (hN : N < 2 ^ 31) : q_in (96 : Int32) N = true := q_inT (j := 96) h hN
theorem zi_ni_96 : nI 96 = (96 : Int32) := rfl
theorem zi_lt_97 {j : Nat} (h : j < 2 ^ 31) : nI j < (97 : Int32) ↔ j < 97 := nI_ltI (b := 97) h (by decide)
theorem zi_le_97 {j : Nat} (h : j < 2 ^ 31) : nI j ≤ (97 : Int32) ↔ j ≤ 97 := nI_leI (b := 97) h (by decide)
theorem zi_tl_97 {j : Nat} (h : j < 2 ^ 31) : (97 : Int32) < nI j ↔ 97 < j := nI_ltI (a := 97) (by decide) h
theorem zi_el_97 {j : Nat} (h : j < 2 ^ 31) : (97 : Int32) ≤ nI j ↔ 97 ≤ j := nI_leI (a := 97) (by decide) h
theorem zi_eq_97 {j : Nat} (h : j < 2 ^ 31) : nI j = (97 : Int32) ↔ j = 97 := nI_eq (b := 97) h (by decide)
theorem zi_ad_97 {j : Nat} : nI j + (97 : Int32) = nI (j + 97) := nI_add j 97
theorem zi_da_97 {j : Nat} : (97 : Int32) + nI j = nI (97 + j) := nI_add 97 j
theorem zi_ml_97 {j : Nat} : nI j * (97 : Int32) = nI (j * 97) := pk_mul j 97
theorem zi_lm_97 {j : Nat} : (97 : Int32) * nI j = nI (97 * j) := pk_mul 97 j
theorem zi_sb_97 {j : Nat} (h : 97 ≤ j) : nI j - (97 : Int32) = nI (j - 97) := pk_sub (b := 97) h
theorem zi_dv_97 {j : Nat} (h : j < 2 ^ 31) : nI j / (97 : Int32) = nI (j / 97) := pk_div (d := 97) h (by decide) (by decide)
theorem zi_rm_97 {j : Nat} (h : j < 2 ^ 31) : nI j - nI j / (97 : Int32) * (97 : Int32) = nI (j % 97) := pk_rem (d := 97) h (by decide) (by decide)
theorem zi_cl_97 : Int32.toNatClampNeg (97 : Int32) = 97 := nI_clamp (n := 97) (by decide)
theorem zi_in_97 {N : Nat} (h : 97 < N) (hN : N < 2 ^ 31) : q_in (97 : Int32) N = true := q_inT (j := 97) h hN
theorem zi_ni_97 : nI 97 = (97 : Int32) := rfl
theorem zi_lt_99 {j : Nat} (h : j < 2 ^ 31) : nI j < (99 : Int32) ↔ j < 99 := nI_ltI (b := 99) h (by decide)
theorem zi_le_99 {j : Nat} (h : j < 2 ^ 31) : nI j ≤ (99 : Int32) ↔ j ≤ 99 := nI_leI (b := 99) h (by decide)
theorem zi_tl_99 {j : Nat} (h : j < 2 ^ 31) : (99 : Int32) < nI j ↔ 99 < j := nI_ltI (a := 99) (by decide) h
theorem zi_el_99 {j : Nat} (h : j < 2 ^ 31) : (99 : Int32) ≤ nI j ↔ 99 ≤ j := nI_leI (a := 99) (by decide) h
theorem zi_eq_99 {j : Nat} (h : j < 2 ^ 31) : nI j = (99 : Int32) ↔ j = 99 := nI_eq (b := 99) h (by decide)
theorem zi_ad_99 {j : Nat} : nI j + (99 : Int32) = nI (j + 99) := nI_add j 99
theorem zi_da_99 {j : Nat} : (99 : Int32) + nI j = nI (99 + j) := nI_add 99 j
theorem zi_ml_99 {j : Nat} : nI j * (99 : Int32) = nI (j * 99) := pk_mul j 99
theorem zi_lm_99 {j : Nat} : (99 : Int32) * nI j = nI (99 * j) := pk_mul 99 j
theorem zi_sb_99 {j : Nat} (h : 99 ≤ j) : nI j - (99 : Int32) = nI (j - 99) := pk_sub (b := 99) h
theorem zi_dv_99 {j : Nat} (h : j < 2 ^ 31) : nI j / (99 : Int32) = nI (j / 99) := pk_div (d := 99) h (by decide) (by decide)
theorem zi_rm_99 {j : Nat} (h : j < 2 ^ 31) : nI j - nI j / (99 : Int32) * (99 : Int32) = nI (j % 99) := pk_rem (d := 99) h (by decide) (by decide)
theorem zi_cl_99 : Int32.toNatClampNeg (99 : Int32) = 99 := nI_clamp (n := 99) (by decide)
theorem zi_in_99 {N : Nat} (h : 99 < N) (hN : N < 2 ^ 31) : q_in (99 : Int32) N = true := q_inT (j := 99) h hN
theorem zi_ni_99 : nI 99 = (99 : Int32) := rfl
theorem zi_lt_100 {j : Nat} (h : j < 2 ^ 31) : nI j < (100 : Int32) ↔ j < 100 := nI_ltI (b := 100) h (by decide)
theorem zi_le_100 {j : Nat} (h : j < 2 ^ 31) : nI j ≤ (100 : Int32) ↔ j ≤ 100 := nI_leI (b := 100) h (by decide)
theorem zi_tl_100 {j : Nat} (h : j < 2 ^ 31) : (100 : Int32) < nI j ↔ 100 < j := nI_ltI (a := 100) (by decide) h
theorem zi_el_100 {j : Nat} (h : j < 2 ^ 31) : (100 : Int32) ≤ nI j ↔ 100 ≤ j := nI_leI (a := 100) (by decide) h
theorem zi_eq_100 {j : Nat} (h : j < 2 ^ 31) : nI j = (100 : Int32) ↔ j = 100 := nI_eq (b := 100) h (by decide)
theorem zi_ad_100 {j : Nat} : nI j + (100 : Int32) = nI (j + 100) := nI_add j 100
theorem zi_da_100 {j : Nat} : (100 : Int32) + nI j = nI (100 + j) := nI_add 100 j
theorem zi_ml_100 {j : Nat} : nI j * (100 : Int32) = nI (j * 100) := pk_mul j 100
theorem zi_lm_100 {j : Nat} : (100 : Int32) * nI j = nI (100 * j) := pk_mul 100 j
theorem zi_sb_100 {j : Nat} (h : 100 ≤ j) : nI j - (100 : Int32) = nI (j - 100) := pk_sub (b := 100) h
theorem zi_dv_100 {j : Nat} (h : j < 2 ^ 31) : nI j / (100 : Int32) = nI (j / 100) := pk_div (d := 100) h (by decide) (by decide)
theorem zi_rm_100 {j : Nat} (h : j < 2 ^ 31) : nI j - nI j / (100 : Int32) * (100 : Int32) = nI (j % 100) := pk_rem (d := 100) h (by decide) (by decide)
theorem zi_cl_100 : Int32.toNatClampNeg (100 : Int32) = 100 := nI_clamp (n := 100) (by decide)
theorem zi_in_100 {N : Nat} (h : 100 < N) (hN : N < 2 ^ 31) : q_in (100 : Int32) N = true := q_inT (j := 100) h hN
theorem zi_ni_100 : nI 100 = (100 : Int32) := rfl
theorem zi_lt_144 {j : Nat} (h : j < 2 ^ 31) : nI j < (144 : Int32) ↔ j < 144 := nI_ltI (b := 144) h (by decide)
theorem zi_le_144 {j : Nat} (h : j < 2 ^ 31) : nI j ≤ (144 : Int32) ↔ j ≤ 144 := nI_leI (b := 144) h (by decide)
theorem zi_tl_144 {j : Nat} (h : j < 2 ^ 31) : (144 : Int32) < nI j ↔ 144 < j := nI_ltI (a := 144) (by decide) h
theorem zi_el_144 {j : Nat} (h : j < 2 ^ 31) : (144 : Int32) ≤ nI j ↔ 144 ≤ j := nI_leI (a := 144) (by decide) h
theorem zi_eq_144 {j : Nat} (h : j < 2 ^ 31) : nI j = (144 : Int32) ↔ j = 144 := nI_eq (b := 144) h (by decide)
theorem zi_ad_144 {j : Nat} : nI j + (144 : Int32) = nI (j + 144) := nI_add j 144
theorem zi_da_144 {j : Nat} : (144 : Int32) + nI j = nI (144 + j) := nI_add 144 j
theorem zi_ml_144 {j : Nat} : nI j * (144 : Int32) = nI (j * 144) := pk_mul j 144
theorem zi_lm_144 {j : Nat} : (144 : Int32) * nI j = nI (144 * j) := pk_mul 144 j
theorem zi_sb_144 {j : Nat} (h : 144 ≤ j) : nI j - (144 : Int32) = nI (j - 144) := pk_sub (b := 144) h
theorem zi_dv_144 {j : Nat} (h : j < 2 ^ 31) : nI j / (144 : Int32) = nI (j / 144) := pk_div (d := 144) h (by decide) (by decide)
theorem zi_rm_144 {j : Nat} (h : j < 2 ^ 31) : nI j - nI j / (144 : Int32) * (144 : Int32) = nI (j % 144) := pk_rem (d := 144) h (by decide) (by decide)
theorem zi_cl_144 : Int32.toNatClampNeg (144 : Int32) = 144 := nI_clamp (n := 144) (by decide)
theorem zi_in_144 {N : Nat} (h : 144 < N) (hN : N < 2 ^ 31) : q_in (144 : Int32) N = true := q_inT (j := 144) h hN
theorem zi_ni_144 : nI 144 = (144 : Int32) := rfl
theorem zi_lt_200 {j : Nat} (h : j < 2 ^ 31) : nI j < (200 : Int32) ↔ j < 200 := nI_ltI (b := 200) h (by decide)
theorem zi_le_200 {j : Nat} (h : j < 2 ^ 31) : nI j ≤ (200 : Int32) ↔ j ≤ 200 := nI_leI (b := 200) h (by decide)
theorem zi_tl_200 {j : Nat} (h : j < 2 ^ 31) : (200 : Int32) < nI j ↔ 200 < j := nI_ltI (a := 200) (by decide) h
theorem zi_el_200 {j : Nat} (h : j < 2 ^ 31) : (200 : Int32) ≤ nI j ↔ 200 ≤ j := nI_leI (a := 200) (by decide) h
theorem zi_eq_200 {j : Nat} (h : j < 2 ^ 31) : nI j = (200 : Int32) ↔ j = 200 := nI_eq (b := 200) h (by decide)
theorem zi_ad_200 {j : Nat} : nI j + (200 : Int32) = nI (j + 200) := nI_add j 200
theorem zi_da_200 {j : Nat} : (200 : Int32) + nI j = nI (200 + j) := nI_add 200 j
theorem zi_ml_200 {j : Nat} : nI j * (200 : Int32) = nI (j * 200) := pk_mul j 200
theorem zi_lm_200 {j : Nat} : (200 : Int32) * nI j = nI (200 * j) := pk_mul 200 j
theorem zi_sb_200 {j : Nat} (h : 200 ≤ j) : nI j - (200 : Int32) = nI (j - 200) := pk_sub (b := 200) h
theorem zi_dv_200 {j : Nat} (h : j < 2 ^ 31) : nI j / (200 : Int32) = nI (j / 200) := pk_div (d := 200) h (by decide) (by decide)
theorem zi_rm_200 {j : Nat} (h : j < 2 ^ 31) : nI j - nI j / (200 : Int32) * (200 : Int32) = nI (j % 200) := pk_rem (d := 200) h (by decide) (by decide)
theorem zi_cl_200 : Int32.toNatClampNeg (200 : Int32) = 200 := nI_clamp (n := 200) (by decide)
theorem zi_in_200 {N : Nat} (h : 200 < N) (hN : N < 2 ^ 31) : q_in (200 : Int32) N = true := q_inT (j := 200) h hN
theorem zi_ni_200 : nI 200 = (200 : Int32) := rfl
theorem zi_lt_288 {j : Nat} (h : j < 2 ^ 31) : nI j < (288 : Int32) ↔ j < 288 := nI_ltI (b := 288) h (by decide)
theorem zi_le_288 {j : Nat} (h : j < 2 ^ 31) : nI j ≤ (288 : Int32) ↔ j ≤ 288 := nI_leI (b := 288) h (by decide)
theorem zi_tl_288 {j : Nat} (h : j < 2 ^ 31) : (288 : Int32) < nI j ↔ 288 < j := nI_ltI (a := 288) (by decide) h
theorem zi_el_288 {j : Nat} (h : j < 2 ^ 31) : (288 : Int32) ≤ nI j ↔ 288 ≤ j := nI_leI (a := 288) (by decide) h
theorem zi_eq_288 {j : Nat} (h : j < 2 ^ 31) : nI j = (288 : Int32) ↔ j = 288 := nI_eq (b := 288) h (by decide)
theorem zi_ad_288 {j : Nat} : nI j + (288 : Int32) = nI (j + 288) := nI_add j 288
theorem zi_da_288 {j : Nat} : (288 : Int32) + nI j = nI (288 + j) := nI_add 288 j
theorem zi_ml_288 {j : Nat} : nI j * (288 : Int32) = nI (j * 288) := pk_mul j 288
theorem zi_lm_288 {j : Nat} : (288 : Int32) * nI j = nI (288 * j) := pk_mul 288 j
theorem zi_sb_288 {j : Nat} (h : 288 ≤ j) : nI j - (288 : Int32) = nI (j - 288) := pk_sub (b := 288) h
theorem zi_dv_288 {j : Nat} (h : j < 2 ^ 31) : nI j / (288 : Int32) = nI (j / 288) := pk_div (d := 288) h (by decide) (by decide)
theorem zi_rm_288 {j : Nat} (h : j < 2 ^ 31) : nI j - nI j / (288 : Int32) * (288 : Int32) = nI (j % 288) := pk_rem (d := 288) h (by decide) (by decide)
theorem zi_cl_288 : Int32.toNatClampNeg (288 : Int32) = 288 := nI_clamp (n := 288) (by decide)
theorem zi_in_288 {N : Nat} (h : 288 < N) (hN : N < 2 ^ 31) : q_in (288 : Int32) N = true := q_inT (j := 288) h hN
theorem zi_ni_288 : nI 288 = (288 : Int32) := rfl
theorem zi_lt_500 {j : Nat} (h : j < 2 ^ 31) : nI j < (500 : Int32) ↔ j < 500 := nI_ltI (b := 500) h (by decide)
theorem zi_le_500 {j : Nat} (h : j < 2 ^ 31) : nI j ≤ (500 : Int32) ↔ j ≤ 500 := nI_leI (b := 500) h (by decide)
theorem zi_tl_500 {j : Nat} (h : j < 2 ^ 31) : (500 : Int32) < nI j ↔ 500 < j := nI_ltI (a := 500) (by decide) h
theorem zi_el_500 {j : Nat} (h : j < 2 ^ 31) : (500 : Int32) ≤ nI j ↔ 500 ≤ j := nI_leI (a := 500) (by decide) h
theorem zi_eq_500 {j : Nat} (h : j < 2 ^ 31) : nI j = (500 : Int32) ↔ j = 500 := nI_eq (b := 500) h (by decide)
theorem zi_ad_500 {j : Nat} : nI j + (500 : Int32) = nI (j + 500) := nI_add j 500
theorem zi_da_500 {j : Nat} : (500 : Int32) + nI j = nI (500 + j) := nI_add 500 j
theorem zi_ml_500 {j : Nat} : nI j * (500 : Int32) = nI (j * 500) := pk_mul j 500
theorem zi_lm_500 {j : Nat} : (500 : Int32) * nI j = nI (500 * j) := pk_mul 500 j
theorem zi_sb_500 {j : Nat} (h : 500 ≤ j) : nI j - (500 : Int32) = nI (j - 500) := pk_sub (b := 500) h
theorem zi_dv_500 {j : Nat} (h : j < 2 ^ 31) : nI j / (500 : Int32) = nI (j / 500) := pk_div (d := 500) h (by decide) (by decide)
theorem zi_rm_500 {j : Nat} (h : j < 2 ^ 31) : nI j - nI j / (500 : Int32) * (500 : Int32) = nI (j % 500) := pk_rem (d := 500) h (by decide) (by decide)
theorem zi_cl_500 : Int32.toNatClampNeg (500 : Int32) = 500 := nI_clamp (n := 500) (by decide)
theorem zi_in_500 {N : Nat} (h : 500 < N) (hN : N < 2 ^ 31) : q_in (500 : Int32) N = true := q_inT (j := 500) h hN
theorem zi_ni_500 : nI 500 = (500 : Int32) := rfl
theorem zi_lt_1000 {j : Nat} (h : j < 2 ^ 31) : nI j < (1000 : Int32) ↔ j < 1000 := nI_ltI (b := 1000) h (by decide)
theorem zi_le_1000 {j : Nat} (h : j < 2 ^ 31) : nI j ≤ (1000 : Int32) ↔ j ≤ 1000 := nI_leI (b := 1000) h (by decide)
theorem zi_tl_1000 {j : Nat} (h : j < 2 ^ 31) : (1000 : Int32) < nI j ↔ 1000 < j := nI_ltI (a := 1000) (by decide) h
theorem zi_el_1000 {j : Nat} (h : j < 2 ^ 31) : (1000 : Int32) ≤ nI j ↔ 1000 ≤ j := nI_leI (a := 1000) (by decide) h
theorem zi_eq_1000 {j : Nat} (h : j < 2 ^ 31) : nI j = (1000 : Int32) ↔ j = 1000 := nI_eq (b := 1000) h (by decide)
theorem zi_ad_1000 {j : Nat} : nI j + (1000 : Int32) = nI (j + 1000) := nI_add j 1000
theorem zi_da_1000 {j : Nat} : (1000 : Int32) + nI j = nI (1000 + j) := nI_add 1000 j
theorem zi_ml_1000 {j : Nat} : nI j * (1000 : Int32) = nI (j * 1000) := pk_mul j 1000
theorem zi_lm_1000 {j : Nat} : (1000 : Int32) * nI j = nI (1000 * j) := pk_mul 1000 j
theorem zi_sb_1000 {j : Nat} (h : 1000 ≤ j) : nI j - (1000 : Int32) = nI (j - 1000) := pk_sub (b := 1000) h
theorem zi_dv_1000 {j : Nat} (h : j < 2 ^ 31) : nI j / (1000 : Int32) = nI (j / 1000) := pk_div (d := 1000) h (by decide) (by decide)
theorem zi_rm_1000 {j : Nat} (h : j < 2 ^ 31) : nI j - nI j / (1000 : Int32) * (1000 : Int32) = nI (j % 1000) := pk_rem (d := 1000) h (by decide) (by decide)
theorem zi_cl_1000 : Int32.toNatClampNeg (1000 : Int32) = 1000 := nI_clamp (n := 1000) (by decide)
theorem zi_in_1000 {N : Nat} (h : 1000 < N) (hN : N < 2 ^ 31) : q_in (1000 : Int32) N = true := q_inT (j := 1000) h hN
theorem zi_ni_1000 : nI 1000 = (1000 : Int32) := rfl
theorem zi_lt_9999 {j : Nat} (h : j < 2 ^ 31) : nI j < (9999 : Int32) ↔ j < 9999 := nI_ltI (b := 9999) h (by decide)
theorem zi_le_9999 {j : Nat} (h : j < 2 ^ 31) : nI j ≤ (9999 : Int32) ↔ j ≤ 9999 := nI_leI (b := 9999) h (by decide)
theorem zi_tl_9999 {j : Nat} (h : j < 2 ^ 31) : (9999 : Int32) < nI j ↔ 9999 < j := nI_ltI (a := 9999) (by decide) h
theorem zi_el_9999 {j : Nat} (h : j < 2 ^ 31) : (9999 : Int32) ≤ nI j ↔ 9999 ≤ j := nI_leI (a := 9999) (by decide) h
theorem zi_eq_9999 {j : Nat} (h : j < 2 ^ 31) : nI j = (9999 : Int32) ↔ j = 9999 := nI_eq (b := 9999) h (by decide)
theorem zi_ad_9999 {j : Nat} : nI j + (9999 : Int32) = nI (j + 9999) := nI_add j 9999
theorem zi_da_9999 {j : Nat} : (9999 : Int32) + nI j = nI (9999 + j) := nI_add 9999 j
theorem zi_ml_9999 {j : Nat} : nI j * (9999 : Int32) = nI (j * 9999) := pk_mul j 9999
theorem zi_lm_9999 {j : Nat} : (9999 : Int32) * nI j = nI (9999 * j) := pk_mul 9999 j
theorem zi_sb_9999 {j : Nat} (h : 9999 ≤ j) : nI j - (9999 : Int32) = nI (j - 9999) := pk_sub (b := 9999) h
theorem zi_dv_9999 {j : Nat} (h : j < 2 ^ 31) : nI j / (9999 : Int32) = nI (j / 9999) := pk_div (d := 9999) h (by decide) (by decide)
theorem zi_rm_9999 {j : Nat} (h : j < 2 ^ 31) : nI j - nI j / (9999 : Int32) * (9999 : Int32) = nI (j % 9999) := pk_rem (d := 9999) h (by decide) (by decide)
theorem zi_cl_9999 : Int32.toNatClampNeg (9999 : Int32) = 9999 := nI_clamp (n := 9999) (by decide)
theorem zi_in_9999 {N : Nat} (h : 9999 < N) (hN : N < 2 ^ 31) : q_in (9999 : Int32) N = true := q_inT (j := 9999) h hN
theorem zi_ni_9999 : nI 9999 = (9999 : Int32) := rfl
theorem zi_lt_100000 {j : Nat} (h : j < 2 ^ 31) : nI j < (100000 : Int32) ↔ j < 100000 := nI_ltI (b := 100000) h (by decide)
theorem zi_le_100000 {j : Nat} (h : j < 2 ^ 31) : nI j ≤ (100000 : Int32) ↔ j ≤ 100000 := nI_leI (b := 100000) h (by decide)
theorem zi_tl_100000 {j : Nat} (h : j < 2 ^ 31) : (100000 : Int32) < nI j ↔ 100000 < j := nI_ltI (a := 100000) (by decide) h
theorem zi_el_100000 {j : Nat} (h : j < 2 ^ 31) : (100000 : Int32) ≤ nI j ↔ 100000 ≤ j := nI_leI (a := 100000) (by decide) h
theorem zi_eq_100000 {j : Nat} (h : j < 2 ^ 31) : nI j = (100000 : Int32) ↔ j = 100000 := nI_eq (b := 100000) h (by decide)
theorem zi_ad_100000 {j : Nat} : nI j + (100000 : Int32) = nI (j + 100000) := nI_add j 100000
theorem zi_da_100000 {j : Nat} : (100000 : Int32) + nI j = nI (100000 + j) := nI_add 100000 j
theorem zi_ml_100000 {j : Nat} : nI j * (100000 : Int32) = nI (j * 100000) := pk_mul j 100000
theorem zi_lm_100000 {j : Nat} : (100000 : Int32) * nI j = nI (100000 * j) := pk_mul 100000 j
theorem zi_sb_100000 {j : Nat} (h : 100000 ≤ j) : nI j - (100000 : Int32) = nI (j - 100000) := pk_sub (b := 100000) h
theorem zi_dv_100000 {j : Nat} (h : j < 2 ^ 31) : nI j / (100000 : Int32) = nI (j / 100000) := pk_div (d := 100000) h (by decide) (by decide)
theorem zi_rm_100000 {j : Nat} (h : j < 2 ^ 31) : nI j - nI j / (100000 : Int32) * (100000 : Int32) = nI (j % 100000) := pk_rem (d := 100000) h (by decide) (by decide)
theorem zi_cl_100000 : Int32.toNatClampNeg (100000 : Int32) = 100000 := nI_clamp (n := 100000) (by decide)
theorem zi_in_100000 {N : Nat} (h : 100000 < N) (hN : N < 2 ^ 31) : q_in (100000 : Int32) N = true := q_inT (j := 100000) h hN
theorem zi_ni_100000 : nI 100000 = (100000 : Int32) := rfl
theorem zi_nat {a b : Nat} (h : a < 2 ^ 31) (h2 : b < 2 ^ 31) : (nI a = nI b) = (a = b) := propext (nI_eq h h2)
theorem zi_ne_10 : ((1 : Int32) = (0 : Int32)) = False := by simp only [eq_iff_iff, iff_false]; decide
theorem zi_ne_01 : ((0 : Int32) = (1 : Int32)) = False := by simp only [eq_iff_iff, iff_false]; decide
theorem zi_ee_0 : ((0 : Int32) = 0) = True := eq_self 0
theorem zi_ee_1 : ((1 : Int32) = 1) = True := eq_self 1
