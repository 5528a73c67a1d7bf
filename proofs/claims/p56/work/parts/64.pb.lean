def Ev {α : Type} (o : Option (α × qM)) (P : α → qM → Prop) : Prop := ∃ v u, o = some (v, u) ∧ P v u
theorem ev_so {α : Type} {v : α} {u : qM} {P : α → qM → Prop} : Ev (some (v, u)) P ↔ P v u := by
  constructor
  · rintro ⟨v', u', h, hp⟩
    cases h
    exact hp
  · intro h
    exact ⟨v, u, rfl, h⟩
theorem ev_bd {α β : Type} {o : Option (α × qM)} {k : α → qM → Option (β × qM)} {P : β → qM → Prop} : Ev (q_bd o k) P ↔ Ev o (fun v u => Ev (k v u) P) := by
  constructor
  · rintro ⟨v, u, h, hp⟩
    cases o with
    | none => exact absurd h (fun q => by cases q)
    | some q => exact ⟨q.1, q.2, rfl, v, u, h, hp⟩
  · rintro ⟨v, u, rfl, h⟩
    exact h
theorem ev_ck {α : Type} {b : Bool} {r : Option (α × qM)} {P : α → qM → Prop} : Ev (q_ck b r) P ↔ b = true ∧ Ev r P := by
  cases b
  · constructor
    · rintro ⟨v, u, h, -⟩
      cases h
    · rintro ⟨h, -⟩
      cases h
  · exact ⟨fun h => ⟨rfl, h⟩, fun h => h.2⟩
theorem ev_if {α : Type} {c : Prop} [Decidable c] {a b : Option (α × qM)} {P : α → qM → Prop} : Ev (if c then a else b) P ↔ (if c then Ev a P else Ev b P) := by
  by_cases h : c
  · rw [if_pos h, if_pos h]
  · rw [if_neg h, if_neg h]
theorem ev_lt {α β : Type} {e : β} {k : β → Option (α × qM)} {P : α → qM → Prop} : Ev (q_lt e k) P ↔ Ev (k e) P := Iff.rfl
theorem ev_jn {α β : Type} {k : β} {f : β → Option (α × qM)} {P : α → qM → Prop} : Ev (q_jn k f) P ↔ Ev (f k) P := Iff.rfl
theorem Ev.mono {α : Type} {o : Option (α × qM)} {P Q : α → qM → Prop} (h : Ev o P) (k : ∀ v u, P v u → Q v u) : Ev o Q := by
  obtain ⟨v, u, e, p⟩ := h
  exact ⟨v, u, e, k v u p⟩
theorem si_k {μ : qM} {k i s a : Nat} {v : Int32} (h : a ≠ k) : (q_si μ k i s v).1 a = μ.1 a := by
  funext b c
  exact if_neg (fun q => h q.1)
theorem si_i {μ : qM} {k i s a b : Nat} {v : Int32} (h : b ≠ i) : (q_si μ k i s v).1 a b = μ.1 a b := by
  funext c
  exact if_neg (fun q => h q.2.1)
theorem si_s {μ : qM} {k i s a b c : Nat} {v : Int32} (h : c ≠ s) : (q_si μ k i s v).1 a b c = μ.1 a b c := if_neg (fun q => h q.2.2)
theorem si_e {μ : qM} {k i s : Nat} {v : Int32} : (q_si μ k i s v).1 k i s = v := if_pos ⟨rfl, rfl, rfl⟩
theorem si_c {μ : qM} {k i s c : Nat} {v : Int32} : (q_si μ k i s v).1 k i c = if c = s then v else μ.1 k i c := by
  by_cases h : c = s
  · subst h
    rw [si_e, if_pos rfl]
  · rw [si_s h, if_neg h]
theorem si_b {μ : qM} {k i s b c : Nat} {v : Int32} : (q_si μ k i s v).1 k b c = if b = i ∧ c = s then v else μ.1 k b c := by
  by_cases h : b = i ∧ c = s
  · obtain ⟨rfl, rfl⟩ := h
    rw [si_e, if_pos ⟨rfl, rfl⟩]
  · rw [if_neg h]
    exact if_neg (fun q => h q.2)
theorem si_2 {μ : qM} {k i s : Nat} {v : Int32} : (q_si μ k i s v).2 = μ.2 := rfl
theorem sl_1 {μ : qM} {k i s : Nat} {v : Int64} : (q_sl μ k i s v).1 = μ.1 := rfl
theorem sl_22 {μ : qM} {k i s : Nat} {v : Int64} : (q_sl μ k i s v).2.2 = μ.2.2 := rfl
theorem sl_k {μ : qM} {k i s a : Nat} {v : Int64} (h : a ≠ k) : (q_sl μ k i s v).2.1 a = μ.2.1 a := by
  funext b c
  exact if_neg (fun q => h q.1)
theorem sl_i {μ : qM} {k i s a b : Nat} {v : Int64} (h : b ≠ i) : (q_sl μ k i s v).2.1 a b = μ.2.1 a b := by
  funext c
  exact if_neg (fun q => h q.2.1)
theorem sl_s {μ : qM} {k i s a b c : Nat} {v : Int64} (h : c ≠ s) : (q_sl μ k i s v).2.1 a b c = μ.2.1 a b c := if_neg (fun q => h q.2.2)
theorem sl_e {μ : qM} {k i s : Nat} {v : Int64} : (q_sl μ k i s v).2.1 k i s = v := if_pos ⟨rfl, rfl, rfl⟩
theorem sp_1 {μ : qM} {q : Nat × Nat} : (q_sp μ q).1 = μ.1 := rfl
theorem sp_21 {μ : qM} {q : Nat × Nat} : (q_sp μ q).2.1 = μ.2.1 := rfl
theorem sp_22 {μ : qM} {q : Nat × Nat} : (q_sp μ q).2.2 = q := rfl
theorem sc_k {μ : qM} {k0 i0 k i sp dp n a : Nat} (h : a ≠ k) : (q_sc μ k0 i0 k i sp dp n).1 a = μ.1 a := by
  funext b c
  exact if_neg (fun q => h q.1)
theorem sc_i {μ : qM} {k0 i0 k i sp dp n a b : Nat} (h : b ≠ i) : (q_sc μ k0 i0 k i sp dp n).1 a b = μ.1 a b := by
  funext c
  exact if_neg (fun q => h q.2)
theorem sc_e {μ : qM} {k0 i0 k i sp dp n : Nat} : (q_sc μ k0 i0 k i sp dp n).1 k i = va_cpy (μ.1 k0 i0) (μ.1 k i) sp dp n := by
  funext c
  exact if_pos ⟨rfl, rfl⟩
theorem sc_2 {μ : qM} {k0 i0 k i sp dp n : Nat} : (q_sc μ k0 i0 k i sp dp n).2 = μ.2 := rfl
/-- nothing but what T names is another -/
def Fr (T : Nat → Nat → Bool) (μ μ' : qM) : Prop := ∀ k i, T k i = false → μ'.1 k i = μ.1 k i
theorem Fr.si {T : Nat → Nat → Bool} {μ μ' : qM} {k i s : Nat} {v : Int32} (h : Fr T μ μ') (ht : T k i = true) : Fr T μ (q_si μ' k i s v) := by
  intro a b q
  rw [← h a b q]
  funext c
  refine if_neg (fun e => ?_)
  rw [e.1, e.2.1, ht] at q
  cases q
theorem Fr.mono {T T' : Nat → Nat → Bool} {μ μ' : qM} (h : Fr T μ μ') (k : ∀ a b, T' a b = false → T a b = false) : Fr T' μ μ' := fun a b q => h a b (k a b q)
theorem q_inI {j N : Nat} (h : j < 2 ^ 31) : q_in (nI j) N = true ↔ j < N := by
  unfold q_in
  rw [decide_eq_true_iff, nI_toInt h]
  omega
theorem q_inT {j N : Nat} (h : j < N) (hN : N < 2 ^ 31) : q_in (nI j) N = true := (q_inI (by omega)).mpr h
theorem x_lt (a b : Int32) : a < b ↔ a.toInt < b.toInt := Int32.lt_iff_toInt_lt
theorem x_le (a b : Int32) : a ≤ b ↔ a.toInt ≤ b.toInt := Int32.le_iff_toInt_le
theorem x_eq (a b : Int32) : a = b ↔ a.toInt = b.toInt := Int32.toInt_inj.symm
theorem x_nle {a b : Int32} : ¬ a ≤ b ↔ b < a := by
  rw [x_le, x_lt]
  omega
theorem x_nlt {a b : Int32} : ¬ a < b ↔ b ≤ a := by
  rw [x_le, x_lt]
  omega
/-- an index is in its range, or it isn't -/
theorem x_ix (x : Int32) {n : Nat} (hn : n < 2 ^ 31) : (∃ j : Nat, j < n ∧ x = nI j) ∨ ¬ (0 ≤ x ∧ x < nI n) := by
  by_cases h : 0 ≤ x ∧ x < nI n
  · left
    obtain ⟨h1, h2⟩ := h
    obtain ⟨j, h3, rfl⟩ := nI_of (x := x) (x_nlt.mpr h1)
    exact ⟨j, (nI_ltI h3 hn).mp h2, rfl⟩
  · exact .inr h
theorem nar_b {x : Int32} (h : x = 0 ∨ x = 1) : vp_nar .boolean x = x := by
  rcases h with rfl | rfl <;> decide +kernel
theorem nar_0 : vp_nar .boolean 0 = 0 := by decide +kernel
theorem nar_1 : vp_nar .boolean 1 = 1 := by decide +kernel
theorem q_b0 : q_b 0 = true := by decide +kernel
theorem q_b1 : q_b 1 = true := by decide +kernel
theorem q_bT {x : Int32} (h : x = 0 ∨ x = 1) : q_b x = true := decide_eq_true h
theorem q_nzI {n : Nat} (h : 0 < n) (h2 : n < 2 ^ 31) : q_nz (nI n) = true := decide_eq_true (nI_ne0 h h2)
theorem q_crI {sp dp n a b : Nat} (h1 : sp < 2 ^ 31) (h2 : dp < 2 ^ 31) (h3 : n < 2 ^ 31) (ha : sp + n ≤ a) (hb : dp + n ≤ b) : q_cr (nI sp) (nI dp) (nI n) a b = true := by
  unfold q_cr
  rw [decide_eq_true_iff, nI_clamp h1, nI_clamp h2, nI_clamp h3]
  exact ⟨nI_pos h1, nI_pos h2, nI_pos h3, ha, hb⟩
theorem zi_ni_0 : nI 0 = (0 : Int32) := rfl
theorem zi_ni_1 : nI 1 = (1 : Int32) := rfl
theorem zi_ni_2 : nI 2 = (2 : Int32) := rfl
theorem zi_ni_3 : nI 3 = (3 : Int32) := rfl
theorem zi_ni_4 : nI 4 = (4 : Int32) := rfl
theorem zi_ni_5 : nI 5 = (5 : Int32) := rfl
theorem zi_ni_6 : nI 6 = (6 : Int32) := rfl
theorem zi_ni_7 : nI 7 = (7 : Int32) := rfl
theorem zi_ni_8 : nI 8 = (8 : Int32) := rfl
theorem zi_ni_9 : nI 9 = (9 : Int32) := rfl
theorem zi_ni_10 : nI 10 = (10 : Int32) := rfl
theorem zi_ni_12 : nI 12 = (12 : Int32) := rfl
theorem zi_ni_24 : nI 24 = (24 : Int32) := rfl
theorem zi_ni_25 : nI 25 = (25 : Int32) := rfl
theorem zi_ni_40 : nI 40 = (40 : Int32) := rfl
theorem zi_ni_45 : nI 45 = (45 : Int32) := rfl
theorem zi_ni_47 : nI 47 = (47 : Int32) := rfl
theorem zi_ni_48 : nI 48 = (48 : Int32) := rfl
theorem zi_ni_95 : nI 95 = (95 : Int32) := rfl
theorem zi_ni_96 : nI 96 = (96 : Int32) := rfl
theorem zi_ni_97 : nI 97 = (97 : Int32) := rfl
theorem zi_ni_100 : nI 100 = (100 : Int32) := rfl
theorem zi_ni_144 : nI 144 = (144 : Int32) := rfl
theorem zi_ni_288 : nI 288 = (288 : Int32) := rfl
