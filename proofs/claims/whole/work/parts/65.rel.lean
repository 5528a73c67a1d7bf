/-! The relation of the class's cells to the reference's. A board is read as a table: 0 its numbers, 1 bottom, 2 water, 3 stuff, 4 flow, 5 shut, 6 posts, 7 the rivers' cells, 8 what they bring. -/
abbrev qB : Type := Nat → Nat → Int32
def cB (μ : qM) (b : Nat) : qB := fun t s => match t with
  | 0 => (match s with | 0 => μ.1 2 b 11 | 1 => μ.1 2 b 12 | 2 => μ.1 2 b 13 | 3 => μ.1 2 b 14 | 4 => μ.1 2 b 15 | 5 => μ.1 2 b 16 | 6 => μ.1 2 b 17 | 7 => μ.1 2 b 18 | 8 => μ.1 3 b 0 | 9 => μ.1 3 b 1 | 10 => μ.1 3 b 2 | 11 => μ.1 3 b 3 | 12 => μ.1 4 b 2 | 13 => μ.1 2 b 9 | _ => 0)
  | 1 => if s < 48 then μ.1 37 b s else 0
  | 2 => if s < 48 then μ.1 38 b s else 0
  | 3 => if s < 144 then μ.1 39 b s else 0
  | 4 => if s < 96 then μ.1 40 b s else 0
  | 5 => if s < 96 then μ.1 41 b s else 0
  | 6 => if s < 4 then μ.1 42 b s else 0
  | 7 => if s < 4 then μ.1 43 b s else 0
  | 8 => if s < 4 then μ.1 44 b s else 0
  | _ => 0
def mB (μ : qM) (b : Nat) : qB := fun t s => match t with
  | 0 => (match s with | 0 => μ.1 74 0 b | 1 => μ.1 75 0 b | 2 => μ.1 76 0 b | 3 => μ.1 81 0 b | 4 => μ.1 82 0 b | 5 => μ.1 83 0 b | 6 => μ.1 84 0 b | 7 => μ.1 85 0 b | 8 => μ.1 77 0 b | 9 => μ.1 78 0 b | 10 => μ.1 79 0 b | 11 => μ.1 80 0 b | 12 => μ.1 86 0 b | 13 => μ.1 89 0 b | _ => 0)
  | 1 => if s < 48 then μ.1 91 0 (48 * b + s) else 0
  | 2 => if s < 48 then μ.1 92 0 (48 * b + s) else 0
  | 3 => if s < 144 then μ.1 93 0 (144 * b + s) else 0
  | 4 => if s < 96 then μ.1 94 0 (96 * b + s) else 0
  | 5 => if s < 96 then μ.1 95 0 (96 * b + s) else 0
  | 6 => if s < 4 then μ.1 90 0 (4 * b + s) else 0
  | 7 => if s < 4 then μ.1 87 0 (4 * b + s) else 0
  | 8 => if s < 4 then μ.1 88 0 (4 * b + s) else 0
  | _ => 0
def bset (v : qB) (t s : Nat) (x : Int32) : qB := fun t' s' => if t' = t ∧ s' = s then x else v t' s'
theorem bs_t {v : qB} {t s t' : Nat} {x : Int32} (h : t' ≠ t) : bset v t s x t' = v t' := by
  funext s'
  exact if_neg (fun q => h q.1)
theorem bs_s {v : qB} {t s t' s' : Nat} {x : Int32} (h : s' ≠ s) : bset v t s x t' s' = v t' s' := if_neg (fun q => h q.2)
theorem bs_e {v : qB} {t s : Nat} {x : Int32} : bset v t s x t s = x := if_pos ⟨rfl, rfl⟩
theorem bs_c {v : qB} {t s s' : Nat} {x : Int32} : bset v t s x t s' = if s' = s then x else v t s' := by
  by_cases h : s' = s
  · subst h
    rw [bs_e, if_pos rfl]
  · rw [bs_s h, if_neg h]
theorem cB_ext {μ μ' : qM} {b : Nat} (h2 : μ'.1 2 b = μ.1 2 b) (h3 : μ'.1 3 b = μ.1 3 b) (h4 : μ'.1 4 b = μ.1 4 b) (h37 : μ'.1 37 b = μ.1 37 b) (h38 : μ'.1 38 b = μ.1 38 b) (h39 : μ'.1 39 b = μ.1 39 b) (h40 : μ'.1 40 b = μ.1 40 b) (h41 : μ'.1 41 b = μ.1 41 b) (h42 : μ'.1 42 b = μ.1 42 b) (h43 : μ'.1 43 b = μ.1 43 b) (h44 : μ'.1 44 b = μ.1 44 b) : cB μ' b = cB μ b := by
  unfold cB
  rw [h2, h3, h4, h37, h38, h39, h40, h41, h42, h43, h44]
theorem mB_ext {μ μ' : qM} {b : Nat} (h74 : μ'.1 74 = μ.1 74) (h75 : μ'.1 75 = μ.1 75) (h76 : μ'.1 76 = μ.1 76) (h81 : μ'.1 81 = μ.1 81) (h82 : μ'.1 82 = μ.1 82) (h83 : μ'.1 83 = μ.1 83) (h84 : μ'.1 84 = μ.1 84) (h85 : μ'.1 85 = μ.1 85) (h77 : μ'.1 77 = μ.1 77) (h78 : μ'.1 78 = μ.1 78) (h79 : μ'.1 79 = μ.1 79) (h80 : μ'.1 80 = μ.1 80) (h86 : μ'.1 86 = μ.1 86) (h89 : μ'.1 89 = μ.1 89) (h91 : μ'.1 91 = μ.1 91) (h92 : μ'.1 92 = μ.1 92) (h93 : μ'.1 93 = μ.1 93) (h94 : μ'.1 94 = μ.1 94) (h95 : μ'.1 95 = μ.1 95) (h90 : μ'.1 90 = μ.1 90) (h87 : μ'.1 87 = μ.1 87) (h88 : μ'.1 88 = μ.1 88) : mB μ' b = mB μ b := by
  unfold mB
  rw [h74, h75, h76, h81, h82, h83, h84, h85, h77, h78, h79, h80, h86, h89, h91, h92, h93, h94, h95, h90, h87, h88]
theorem cR_1 {μ : qM} {b s : Nat} (h : s < 48) : cB μ b 1 s = μ.1 37 b s := if_pos h
theorem mR_1 {μ : qM} {b s : Nat} (h : s < 48) : mB μ b 1 s = μ.1 91 0 (48 * b + s) := if_pos h
theorem cR_2 {μ : qM} {b s : Nat} (h : s < 48) : cB μ b 2 s = μ.1 38 b s := if_pos h
theorem mR_2 {μ : qM} {b s : Nat} (h : s < 48) : mB μ b 2 s = μ.1 92 0 (48 * b + s) := if_pos h
theorem cR_3 {μ : qM} {b s : Nat} (h : s < 144) : cB μ b 3 s = μ.1 39 b s := if_pos h
theorem mR_3 {μ : qM} {b s : Nat} (h : s < 144) : mB μ b 3 s = μ.1 93 0 (144 * b + s) := if_pos h
theorem cR_4 {μ : qM} {b s : Nat} (h : s < 96) : cB μ b 4 s = μ.1 40 b s := if_pos h
theorem mR_4 {μ : qM} {b s : Nat} (h : s < 96) : mB μ b 4 s = μ.1 94 0 (96 * b + s) := if_pos h
theorem cR_5 {μ : qM} {b s : Nat} (h : s < 96) : cB μ b 5 s = μ.1 41 b s := if_pos h
theorem mR_5 {μ : qM} {b s : Nat} (h : s < 96) : mB μ b 5 s = μ.1 95 0 (96 * b + s) := if_pos h
theorem cR_6 {μ : qM} {b s : Nat} (h : s < 4) : cB μ b 6 s = μ.1 42 b s := if_pos h
theorem mR_6 {μ : qM} {b s : Nat} (h : s < 4) : mB μ b 6 s = μ.1 90 0 (4 * b + s) := if_pos h
theorem cR_7 {μ : qM} {b s : Nat} (h : s < 4) : cB μ b 7 s = μ.1 43 b s := if_pos h
theorem mR_7 {μ : qM} {b s : Nat} (h : s < 4) : mB μ b 7 s = μ.1 87 0 (4 * b + s) := if_pos h
theorem cR_8 {μ : qM} {b s : Nat} (h : s < 4) : cB μ b 8 s = μ.1 44 b s := if_pos h
theorem mR_8 {μ : qM} {b s : Nat} (h : s < 4) : mB μ b 8 s = μ.1 88 0 (4 * b + s) := if_pos h
theorem cR_0_0 {μ : qM} {b : Nat} : cB μ b 0 0 = μ.1 2 b 11 := rfl
theorem mR_0_0 {μ : qM} {b : Nat} : mB μ b 0 0 = μ.1 74 0 b := rfl
theorem cR_0_1 {μ : qM} {b : Nat} : cB μ b 0 1 = μ.1 2 b 12 := rfl
theorem mR_0_1 {μ : qM} {b : Nat} : mB μ b 0 1 = μ.1 75 0 b := rfl
theorem cR_0_2 {μ : qM} {b : Nat} : cB μ b 0 2 = μ.1 2 b 13 := rfl
theorem mR_0_2 {μ : qM} {b : Nat} : mB μ b 0 2 = μ.1 76 0 b := rfl
theorem cR_0_3 {μ : qM} {b : Nat} : cB μ b 0 3 = μ.1 2 b 14 := rfl
theorem mR_0_3 {μ : qM} {b : Nat} : mB μ b 0 3 = μ.1 81 0 b := rfl
theorem cR_0_4 {μ : qM} {b : Nat} : cB μ b 0 4 = μ.1 2 b 15 := rfl
theorem mR_0_4 {μ : qM} {b : Nat} : mB μ b 0 4 = μ.1 82 0 b := rfl
theorem cR_0_5 {μ : qM} {b : Nat} : cB μ b 0 5 = μ.1 2 b 16 := rfl
theorem mR_0_5 {μ : qM} {b : Nat} : mB μ b 0 5 = μ.1 83 0 b := rfl
theorem cR_0_6 {μ : qM} {b : Nat} : cB μ b 0 6 = μ.1 2 b 17 := rfl
theorem mR_0_6 {μ : qM} {b : Nat} : mB μ b 0 6 = μ.1 84 0 b := rfl
theorem cR_0_7 {μ : qM} {b : Nat} : cB μ b 0 7 = μ.1 2 b 18 := rfl
theorem mR_0_7 {μ : qM} {b : Nat} : mB μ b 0 7 = μ.1 85 0 b := rfl
theorem cR_0_8 {μ : qM} {b : Nat} : cB μ b 0 8 = μ.1 3 b 0 := rfl
theorem mR_0_8 {μ : qM} {b : Nat} : mB μ b 0 8 = μ.1 77 0 b := rfl
theorem cR_0_9 {μ : qM} {b : Nat} : cB μ b 0 9 = μ.1 3 b 1 := rfl
theorem mR_0_9 {μ : qM} {b : Nat} : mB μ b 0 9 = μ.1 78 0 b := rfl
theorem cR_0_10 {μ : qM} {b : Nat} : cB μ b 0 10 = μ.1 3 b 2 := rfl
theorem mR_0_10 {μ : qM} {b : Nat} : mB μ b 0 10 = μ.1 79 0 b := rfl
theorem cR_0_11 {μ : qM} {b : Nat} : cB μ b 0 11 = μ.1 3 b 3 := rfl
theorem mR_0_11 {μ : qM} {b : Nat} : mB μ b 0 11 = μ.1 80 0 b := rfl
theorem cR_0_12 {μ : qM} {b : Nat} : cB μ b 0 12 = μ.1 4 b 2 := rfl
theorem mR_0_12 {μ : qM} {b : Nat} : mB μ b 0 12 = μ.1 86 0 b := rfl
theorem cR_0_13 {μ : qM} {b : Nat} : cB μ b 0 13 = μ.1 2 b 9 := rfl
theorem mR_0_13 {μ : qM} {b : Nat} : mB μ b 0 13 = μ.1 89 0 b := rfl
def isCK (k : Nat) : Bool := k == 2 || k == 3 || k == 4 || k == 37 || k == 38 || k == 39 || k == 40 || k == 41 || k == 42 || k == 43 || k == 44
def isMK (k : Nat) : Bool := k == 74 || k == 75 || k == 76 || k == 81 || k == 82 || k == 83 || k == 84 || k == 85 || k == 77 || k == 78 || k == 79 || k == 80 || k == 86 || k == 89 || k == 91 || k == 92 || k == 93 || k == 94 || k == 95 || k == 90 || k == 87 || k == 88
theorem cB_o {μ : qM} {k i s b : Nat} {v : Int32} (h : isCK k = false) : cB (q_si μ k i s v) b = cB μ b := by
  have hk : ∀ a, isCK a = true → a ≠ k := fun a ha e => by rw [e, h] at ha; cases ha
  apply cB_ext <;> rw [si_k (hk _ rfl)]
theorem mB_o {μ : qM} {k i s b : Nat} {v : Int32} (h : isMK k = false) : mB (q_si μ k i s v) b = mB μ b := by
  have hk : ∀ a, isMK a = true → a ≠ k := fun a ha e => by rw [e, h] at ha; cases ha
  apply mB_ext <;> exact si_k (hk _ rfl)
theorem cB_i {μ : qM} {k i s b : Nat} {v : Int32} (h : b ≠ i) : cB (q_si μ k i s v) b = cB μ b := by
  apply cB_ext <;> exact si_i h
theorem cB_sc {μ : qM} {k0 i0 k i sp dp n b : Nat} (h : b ≠ i) : cB (q_sc μ k0 i0 k i sp dp n) b = cB μ b := by
  apply cB_ext <;> exact sc_i h
theorem cB_sl {μ : qM} {k i s b : Nat} {v : Int64} : cB (q_sl μ k i s v) b = cB μ b := rfl
theorem mB_sl {μ : qM} {k i s b : Nat} {v : Int64} : mB (q_sl μ k i s v) b = mB μ b := rfl
theorem cB_sp {μ : qM} {q : Nat × Nat} {b : Nat} : cB (q_sp μ q) b = cB μ b := rfl
theorem mB_sp {μ : qM} {q : Nat × Nat} {b : Nat} : mB (q_sp μ q) b = mB μ b := rfl
theorem cB_2_10 {μ : qM} {i b : Nat} {v : Int32} : cB (q_si μ 2 i 10 v) b = cB μ b := by
  funext t s
  unfold cB
  split
  · split <;> first | rfl | exact si_s (by decide) | exact congrFun (congrFun (si_k (by decide)) _) _
  all_goals first | rfl | rw [si_k (by decide)]
theorem cW_0_0 {μ : qM} {b : Nat} {v : Int32} : cB (q_si μ 2 b 11 v) b = bset (cB μ b) 0 0 v := by
  funext t s
  by_cases ht : t = 0
  · subst ht
    by_cases hs : s = 0
    · subst hs
      rw [bs_e]
      exact si_e
    · rw [bs_s hs]
      unfold cB
      split
      · split <;> first | rfl | exact absurd rfl hs | exact si_s (by decide) | exact congrFun (congrFun (si_k (by decide)) _) _
      all_goals first | omega | simp_all
  · rw [bs_t ht]
    unfold cB
    split <;> first | exact absurd rfl ht | rfl | rw [si_k (by decide)]
theorem mW_0_0 {μ : qM} {b : Nat} {v : Int32} : mB (q_si μ 74 0 b v) b = bset (mB μ b) 0 0 v := by
  funext t s
  by_cases ht : t = 0
  · subst ht
    by_cases hs : s = 0
    · subst hs
      rw [bs_e]
      exact si_e
    · rw [bs_s hs]
      unfold mB
      split
      · split <;> first | rfl | exact absurd rfl hs | exact congrFun (congrFun (si_k (by decide)) _) _
      all_goals first | omega | simp_all
  · rw [bs_t ht]
    unfold mB
    split <;> first | exact absurd rfl ht | rfl | rw [si_k (by decide)]
theorem mV_0_0 {μ : qM} {b b' : Nat} {v : Int32} (h : b' ≠ b) : mB (q_si μ 74 0 b v) b' = mB μ b' := by
  funext t s
  unfold mB
  split
  · split <;> first | rfl | exact si_s h | exact congrFun (congrFun (si_k (by decide)) _) _
  all_goals first | rfl | rw [si_k (by decide)]
theorem cW_0_1 {μ : qM} {b : Nat} {v : Int32} : cB (q_si μ 2 b 12 v) b = bset (cB μ b) 0 1 v := by
  funext t s
  by_cases ht : t = 0
  · subst ht
    by_cases hs : s = 1
    · subst hs
      rw [bs_e]
      exact si_e
    · rw [bs_s hs]
      unfold cB
      split
      · split <;> first | rfl | exact absurd rfl hs | exact si_s (by decide) | exact congrFun (congrFun (si_k (by decide)) _) _
      all_goals first | omega | simp_all
  · rw [bs_t ht]
    unfold cB
    split <;> first | exact absurd rfl ht | rfl | rw [si_k (by decide)]
theorem mW_0_1 {μ : qM} {b : Nat} {v : Int32} : mB (q_si μ 75 0 b v) b = bset (mB μ b) 0 1 v := by
  funext t s
  by_cases ht : t = 0
  · subst ht
    by_cases hs : s = 1
    · subst hs
      rw [bs_e]
      exact si_e
    · rw [bs_s hs]
      unfold mB
      split
      · split <;> first | rfl | exact absurd rfl hs | exact congrFun (congrFun (si_k (by decide)) _) _
      all_goals first | omega | simp_all
  · rw [bs_t ht]
    unfold mB
    split <;> first | exact absurd rfl ht | rfl | rw [si_k (by decide)]
theorem mV_0_1 {μ : qM} {b b' : Nat} {v : Int32} (h : b' ≠ b) : mB (q_si μ 75 0 b v) b' = mB μ b' := by
  funext t s
  unfold mB
  split
  · split <;> first | rfl | exact si_s h | exact congrFun (congrFun (si_k (by decide)) _) _
  all_goals first | rfl | rw [si_k (by decide)]
theorem cW_0_2 {μ : qM} {b : Nat} {v : Int32} : cB (q_si μ 2 b 13 v) b = bset (cB μ b) 0 2 v := by
  funext t s
  by_cases ht : t = 0
  · subst ht
    by_cases hs : s = 2
    · subst hs
      rw [bs_e]
      exact si_e
    · rw [bs_s hs]
      unfold cB
      split
      · split <;> first | rfl | exact absurd rfl hs | exact si_s (by decide) | exact congrFun (congrFun (si_k (by decide)) _) _
      all_goals first | omega | simp_all
  · rw [bs_t ht]
    unfold cB
    split <;> first | exact absurd rfl ht | rfl | rw [si_k (by decide)]
theorem mW_0_2 {μ : qM} {b : Nat} {v : Int32} : mB (q_si μ 76 0 b v) b = bset (mB μ b) 0 2 v := by
  funext t s
  by_cases ht : t = 0
  · subst ht
    by_cases hs : s = 2
    · subst hs
      rw [bs_e]
      exact si_e
    · rw [bs_s hs]
      unfold mB
      split
      · split <;> first | rfl | exact absurd rfl hs | exact congrFun (congrFun (si_k (by decide)) _) _
      all_goals first | omega | simp_all
  · rw [bs_t ht]
    unfold mB
    split <;> first | exact absurd rfl ht | rfl | rw [si_k (by decide)]
theorem mV_0_2 {μ : qM} {b b' : Nat} {v : Int32} (h : b' ≠ b) : mB (q_si μ 76 0 b v) b' = mB μ b' := by
  funext t s
  unfold mB
  split
  · split <;> first | rfl | exact si_s h | exact congrFun (congrFun (si_k (by decide)) _) _
  all_goals first | rfl | rw [si_k (by decide)]
theorem cW_0_3 {μ : qM} {b : Nat} {v : Int32} : cB (q_si μ 2 b 14 v) b = bset (cB μ b) 0 3 v := by
  funext t s
  by_cases ht : t = 0
  · subst ht
    by_cases hs : s = 3
    · subst hs
      rw [bs_e]
      exact si_e
    · rw [bs_s hs]
      unfold cB
      split
      · split <;> first | rfl | exact absurd rfl hs | exact si_s (by decide) | exact congrFun (congrFun (si_k (by decide)) _) _
      all_goals first | omega | simp_all
  · rw [bs_t ht]
    unfold cB
    split <;> first | exact absurd rfl ht | rfl | rw [si_k (by decide)]
theorem mW_0_3 {μ : qM} {b : Nat} {v : Int32} : mB (q_si μ 81 0 b v) b = bset (mB μ b) 0 3 v := by
  funext t s
  by_cases ht : t = 0
  · subst ht
    by_cases hs : s = 3
    · subst hs
      rw [bs_e]
      exact si_e
    · rw [bs_s hs]
      unfold mB
      split
      · split <;> first | rfl | exact absurd rfl hs | exact congrFun (congrFun (si_k (by decide)) _) _
      all_goals first | omega | simp_all
  · rw [bs_t ht]
    unfold mB
    split <;> first | exact absurd rfl ht | rfl | rw [si_k (by decide)]
theorem mV_0_3 {μ : qM} {b b' : Nat} {v : Int32} (h : b' ≠ b) : mB (q_si μ 81 0 b v) b' = mB μ b' := by
  funext t s
  unfold mB
  split
  · split <;> first | rfl | exact si_s h | exact congrFun (congrFun (si_k (by decide)) _) _
  all_goals first | rfl | rw [si_k (by decide)]
theorem cW_0_4 {μ : qM} {b : Nat} {v : Int32} : cB (q_si μ 2 b 15 v) b = bset (cB μ b) 0 4 v := by
  funext t s
  by_cases ht : t = 0
  · subst ht
    by_cases hs : s = 4
    · subst hs
      rw [bs_e]
      exact si_e
    · rw [bs_s hs]
      unfold cB
      split
      · split <;> first | rfl | exact absurd rfl hs | exact si_s (by decide) | exact congrFun (congrFun (si_k (by decide)) _) _
      all_goals first | omega | simp_all
  · rw [bs_t ht]
    unfold cB
    split <;> first | exact absurd rfl ht | rfl | rw [si_k (by decide)]
theorem mW_0_4 {μ : qM} {b : Nat} {v : Int32} : mB (q_si μ 82 0 b v) b = bset (mB μ b) 0 4 v := by
  funext t s
  by_cases ht : t = 0
  · subst ht
    by_cases hs : s = 4
    · subst hs
      rw [bs_e]
      exact si_e
    · rw [bs_s hs]
      unfold mB
      split
      · split <;> first | rfl | exact absurd rfl hs | exact congrFun (congrFun (si_k (by decide)) _) _
      all_goals first | omega | simp_all
  · rw [bs_t ht]
    unfold mB
    split <;> first | exact absurd rfl ht | rfl | rw [si_k (by decide)]
theorem mV_0_4 {μ : qM} {b b' : Nat} {v : Int32} (h : b' ≠ b) : mB (q_si μ 82 0 b v) b' = mB μ b' := by
  funext t s
  unfold mB
  split
  · split <;> first | rfl | exact si_s h | exact congrFun (congrFun (si_k (by decide)) _) _
  all_goals first | rfl | rw [si_k (by decide)]
theorem cW_0_5 {μ : qM} {b : Nat} {v : Int32} : cB (q_si μ 2 b 16 v) b = bset (cB μ b) 0 5 v := by
  funext t s
  by_cases ht : t = 0
  · subst ht
    by_cases hs : s = 5
    · subst hs
      rw [bs_e]
      exact si_e
    · rw [bs_s hs]
      unfold cB
      split
      · split <;> first | rfl | exact absurd rfl hs | exact si_s (by decide) | exact congrFun (congrFun (si_k (by decide)) _) _
      all_goals first | omega | simp_all
  · rw [bs_t ht]
    unfold cB
    split <;> first | exact absurd rfl ht | rfl | rw [si_k (by decide)]
theorem mW_0_5 {μ : qM} {b : Nat} {v : Int32} : mB (q_si μ 83 0 b v) b = bset (mB μ b) 0 5 v := by
  funext t s
  by_cases ht : t = 0
  · subst ht
    by_cases hs : s = 5
    · subst hs
      rw [bs_e]
      exact si_e
    · rw [bs_s hs]
      unfold mB
      split
      · split <;> first | rfl | exact absurd rfl hs | exact congrFun (congrFun (si_k (by decide)) _) _
      all_goals first | omega | simp_all
  · rw [bs_t ht]
    unfold mB
    split <;> first | exact absurd rfl ht | rfl | rw [si_k (by decide)]
theorem mV_0_5 {μ : qM} {b b' : Nat} {v : Int32} (h : b' ≠ b) : mB (q_si μ 83 0 b v) b' = mB μ b' := by
  funext t s
  unfold mB
  split
  · split <;> first | rfl | exact si_s h | exact congrFun (congrFun (si_k (by decide)) _) _
  all_goals first | rfl | rw [si_k (by decide)]
theorem cW_0_6 {μ : qM} {b : Nat} {v : Int32} : cB (q_si μ 2 b 17 v) b = bset (cB μ b) 0 6 v := by
  funext t s
  by_cases ht : t = 0
  · subst ht
    by_cases hs : s = 6
    · subst hs
      rw [bs_e]
      exact si_e
    · rw [bs_s hs]
      unfold cB
      split
      · split <;> first | rfl | exact absurd rfl hs | exact si_s (by decide) | exact congrFun (congrFun (si_k (by decide)) _) _
      all_goals first | omega | simp_all
  · rw [bs_t ht]
    unfold cB
    split <;> first | exact absurd rfl ht | rfl | rw [si_k (by decide)]
theorem mW_0_6 {μ : qM} {b : Nat} {v : Int32} : mB (q_si μ 84 0 b v) b = bset (mB μ b) 0 6 v := by
  funext t s
  by_cases ht : t = 0
  · subst ht
    by_cases hs : s = 6
    · subst hs
      rw [bs_e]
      exact si_e
    · rw [bs_s hs]
      unfold mB
      split
      · split <;> first | rfl | exact absurd rfl hs | exact congrFun (congrFun (si_k (by decide)) _) _
      all_goals first | omega | simp_all
  · rw [bs_t ht]
    unfold mB
    split <;> first | exact absurd rfl ht | rfl | rw [si_k (by decide)]
theorem mV_0_6 {μ : qM} {b b' : Nat} {v : Int32} (h : b' ≠ b) : mB (q_si μ 84 0 b v) b' = mB μ b' := by
  funext t s
  unfold mB
  split
  · split <;> first | rfl | exact si_s h | exact congrFun (congrFun (si_k (by decide)) _) _
  all_goals first | rfl | rw [si_k (by decide)]
theorem cW_0_7 {μ : qM} {b : Nat} {v : Int32} : cB (q_si μ 2 b 18 v) b = bset (cB μ b) 0 7 v := by
  funext t s
  by_cases ht : t = 0
  · subst ht
    by_cases hs : s = 7
    · subst hs
      rw [bs_e]
      exact si_e
    · rw [bs_s hs]
      unfold cB
      split
      · split <;> first | rfl | exact absurd rfl hs | exact si_s (by decide) | exact congrFun (congrFun (si_k (by decide)) _) _
      all_goals first | omega | simp_all
  · rw [bs_t ht]
    unfold cB
    split <;> first | exact absurd rfl ht | rfl | rw [si_k (by decide)]
theorem mW_0_7 {μ : qM} {b : Nat} {v : Int32} : mB (q_si μ 85 0 b v) b = bset (mB μ b) 0 7 v := by
  funext t s
  by_cases ht : t = 0
  · subst ht
    by_cases hs : s = 7
    · subst hs
      rw [bs_e]
      exact si_e
    · rw [bs_s hs]
      unfold mB
      split
      · split <;> first | rfl | exact absurd rfl hs | exact congrFun (congrFun (si_k (by decide)) _) _
      all_goals first | omega | simp_all
  · rw [bs_t ht]
    unfold mB
    split <;> first | exact absurd rfl ht | rfl | rw [si_k (by decide)]
theorem mV_0_7 {μ : qM} {b b' : Nat} {v : Int32} (h : b' ≠ b) : mB (q_si μ 85 0 b v) b' = mB μ b' := by
  funext t s
  unfold mB
  split
  · split <;> first | rfl | exact si_s h | exact congrFun (congrFun (si_k (by decide)) _) _
  all_goals first | rfl | rw [si_k (by decide)]
theorem cW_0_8 {μ : qM} {b : Nat} {v : Int32} : cB (q_si μ 3 b 0 v) b = bset (cB μ b) 0 8 v := by
  funext t s
  by_cases ht : t = 0
  · subst ht
    by_cases hs : s = 8
    · subst hs
      rw [bs_e]
      exact si_e
    · rw [bs_s hs]
      unfold cB
      split
      · split <;> first | rfl | exact absurd rfl hs | exact si_s (by decide) | exact congrFun (congrFun (si_k (by decide)) _) _
      all_goals first | omega | simp_all
  · rw [bs_t ht]
    unfold cB
    split <;> first | exact absurd rfl ht | rfl | rw [si_k (by decide)]
theorem mW_0_8 {μ : qM} {b : Nat} {v : Int32} : mB (q_si μ 77 0 b v) b = bset (mB μ b) 0 8 v := by
  funext t s
  by_cases ht : t = 0
  · subst ht
    by_cases hs : s = 8
    · subst hs
      rw [bs_e]
      exact si_e
    · rw [bs_s hs]
      unfold mB
      split
      · split <;> first | rfl | exact absurd rfl hs | exact congrFun (congrFun (si_k (by decide)) _) _
      all_goals first | omega | simp_all
  · rw [bs_t ht]
    unfold mB
    split <;> first | exact absurd rfl ht | rfl | rw [si_k (by decide)]
theorem mV_0_8 {μ : qM} {b b' : Nat} {v : Int32} (h : b' ≠ b) : mB (q_si μ 77 0 b v) b' = mB μ b' := by
  funext t s
  unfold mB
  split
  · split <;> first | rfl | exact si_s h | exact congrFun (congrFun (si_k (by decide)) _) _
  all_goals first | rfl | rw [si_k (by decide)]
theorem cW_0_9 {μ : qM} {b : Nat} {v : Int32} : cB (q_si μ 3 b 1 v) b = bset (cB μ b) 0 9 v := by
  funext t s
  by_cases ht : t = 0
  · subst ht
    by_cases hs : s = 9
    · subst hs
      rw [bs_e]
      exact si_e
    · rw [bs_s hs]
      unfold cB
      split
      · split <;> first | rfl | exact absurd rfl hs | exact si_s (by decide) | exact congrFun (congrFun (si_k (by decide)) _) _
      all_goals first | omega | simp_all
  · rw [bs_t ht]
    unfold cB
    split <;> first | exact absurd rfl ht | rfl | rw [si_k (by decide)]
theorem mW_0_9 {μ : qM} {b : Nat} {v : Int32} : mB (q_si μ 78 0 b v) b = bset (mB μ b) 0 9 v := by
  funext t s
  by_cases ht : t = 0
  · subst ht
    by_cases hs : s = 9
    · subst hs
      rw [bs_e]
      exact si_e
    · rw [bs_s hs]
      unfold mB
      split
      · split <;> first | rfl | exact absurd rfl hs | exact congrFun (congrFun (si_k (by decide)) _) _
      all_goals first | omega | simp_all
  · rw [bs_t ht]
    unfold mB
    split <;> first | exact absurd rfl ht | rfl | rw [si_k (by decide)]
theorem mV_0_9 {μ : qM} {b b' : Nat} {v : Int32} (h : b' ≠ b) : mB (q_si μ 78 0 b v) b' = mB μ b' := by
  funext t s
  unfold mB
  split
  · split <;> first | rfl | exact si_s h | exact congrFun (congrFun (si_k (by decide)) _) _
  all_goals first | rfl | rw [si_k (by decide)]
theorem cW_0_10 {μ : qM} {b : Nat} {v : Int32} : cB (q_si μ 3 b 2 v) b = bset (cB μ b) 0 10 v := by
  funext t s
  by_cases ht : t = 0
  · subst ht
    by_cases hs : s = 10
    · subst hs
      rw [bs_e]
      exact si_e
    · rw [bs_s hs]
      unfold cB
      split
      · split <;> first | rfl | exact absurd rfl hs | exact si_s (by decide) | exact congrFun (congrFun (si_k (by decide)) _) _
      all_goals first | omega | simp_all
  · rw [bs_t ht]
    unfold cB
    split <;> first | exact absurd rfl ht | rfl | rw [si_k (by decide)]
theorem mW_0_10 {μ : qM} {b : Nat} {v : Int32} : mB (q_si μ 79 0 b v) b = bset (mB μ b) 0 10 v := by
  funext t s
  by_cases ht : t = 0
  · subst ht
    by_cases hs : s = 10
    · subst hs
      rw [bs_e]
      exact si_e
    · rw [bs_s hs]
      unfold mB
      split
      · split <;> first | rfl | exact absurd rfl hs | exact congrFun (congrFun (si_k (by decide)) _) _
      all_goals first | omega | simp_all
  · rw [bs_t ht]
    unfold mB
    split <;> first | exact absurd rfl ht | rfl | rw [si_k (by decide)]
theorem mV_0_10 {μ : qM} {b b' : Nat} {v : Int32} (h : b' ≠ b) : mB (q_si μ 79 0 b v) b' = mB μ b' := by
  funext t s
  unfold mB
  split
  · split <;> first | rfl | exact si_s h | exact congrFun (congrFun (si_k (by decide)) _) _
  all_goals first | rfl | rw [si_k (by decide)]
theorem cW_0_11 {μ : qM} {b : Nat} {v : Int32} : cB (q_si μ 3 b 3 v) b = bset (cB μ b) 0 11 v := by
  funext t s
  by_cases ht : t = 0
  · subst ht
    by_cases hs : s = 11
    · subst hs
      rw [bs_e]
      exact si_e
    · rw [bs_s hs]
      unfold cB
      split
      · split <;> first | rfl | exact absurd rfl hs | exact si_s (by decide) | exact congrFun (congrFun (si_k (by decide)) _) _
      all_goals first | omega | simp_all
  · rw [bs_t ht]
    unfold cB
    split <;> first | exact absurd rfl ht | rfl | rw [si_k (by decide)]
theorem mW_0_11 {μ : qM} {b : Nat} {v : Int32} : mB (q_si μ 80 0 b v) b = bset (mB μ b) 0 11 v := by
  funext t s
  by_cases ht : t = 0
  · subst ht
    by_cases hs : s = 11
    · subst hs
      rw [bs_e]
      exact si_e
    · rw [bs_s hs]
      unfold mB
      split
      · split <;> first | rfl | exact absurd rfl hs | exact congrFun (congrFun (si_k (by decide)) _) _
      all_goals first | omega | simp_all
  · rw [bs_t ht]
    unfold mB
    split <;> first | exact absurd rfl ht | rfl | rw [si_k (by decide)]
theorem mV_0_11 {μ : qM} {b b' : Nat} {v : Int32} (h : b' ≠ b) : mB (q_si μ 80 0 b v) b' = mB μ b' := by
  funext t s
  unfold mB
  split
  · split <;> first | rfl | exact si_s h | exact congrFun (congrFun (si_k (by decide)) _) _
  all_goals first | rfl | rw [si_k (by decide)]
theorem cW_0_12 {μ : qM} {b : Nat} {v : Int32} : cB (q_si μ 4 b 2 v) b = bset (cB μ b) 0 12 v := by
  funext t s
  by_cases ht : t = 0
  · subst ht
    by_cases hs : s = 12
    · subst hs
      rw [bs_e]
      exact si_e
    · rw [bs_s hs]
      unfold cB
      split
      · split <;> first | rfl | exact absurd rfl hs | exact si_s (by decide) | exact congrFun (congrFun (si_k (by decide)) _) _
      all_goals first | omega | simp_all
  · rw [bs_t ht]
    unfold cB
    split <;> first | exact absurd rfl ht | rfl | rw [si_k (by decide)]
theorem mW_0_12 {μ : qM} {b : Nat} {v : Int32} : mB (q_si μ 86 0 b v) b = bset (mB μ b) 0 12 v := by
  funext t s
  by_cases ht : t = 0
  · subst ht
    by_cases hs : s = 12
    · subst hs
      rw [bs_e]
      exact si_e
    · rw [bs_s hs]
      unfold mB
      split
      · split <;> first | rfl | exact absurd rfl hs | exact congrFun (congrFun (si_k (by decide)) _) _
      all_goals first | omega | simp_all
  · rw [bs_t ht]
    unfold mB
    split <;> first | exact absurd rfl ht | rfl | rw [si_k (by decide)]
theorem mV_0_12 {μ : qM} {b b' : Nat} {v : Int32} (h : b' ≠ b) : mB (q_si μ 86 0 b v) b' = mB μ b' := by
  funext t s
  unfold mB
  split
  · split <;> first | rfl | exact si_s h | exact congrFun (congrFun (si_k (by decide)) _) _
  all_goals first | rfl | rw [si_k (by decide)]
theorem cW_0_13 {μ : qM} {b : Nat} {v : Int32} : cB (q_si μ 2 b 9 v) b = bset (cB μ b) 0 13 v := by
  funext t s
  by_cases ht : t = 0
  · subst ht
    by_cases hs : s = 13
    · subst hs
      rw [bs_e]
      exact si_e
    · rw [bs_s hs]
      unfold cB
      split
      · split <;> first | rfl | exact absurd rfl hs | exact si_s (by decide) | exact congrFun (congrFun (si_k (by decide)) _) _
      all_goals first | omega | simp_all
  · rw [bs_t ht]
    unfold cB
    split <;> first | exact absurd rfl ht | rfl | rw [si_k (by decide)]
theorem mW_0_13 {μ : qM} {b : Nat} {v : Int32} : mB (q_si μ 89 0 b v) b = bset (mB μ b) 0 13 v := by
  funext t s
  by_cases ht : t = 0
  · subst ht
    by_cases hs : s = 13
    · subst hs
      rw [bs_e]
      exact si_e
    · rw [bs_s hs]
      unfold mB
      split
      · split <;> first | rfl | exact absurd rfl hs | exact congrFun (congrFun (si_k (by decide)) _) _
      all_goals first | omega | simp_all
  · rw [bs_t ht]
    unfold mB
    split <;> first | exact absurd rfl ht | rfl | rw [si_k (by decide)]
theorem mV_0_13 {μ : qM} {b b' : Nat} {v : Int32} (h : b' ≠ b) : mB (q_si μ 89 0 b v) b' = mB μ b' := by
  funext t s
  unfold mB
  split
  · split <;> first | rfl | exact si_s h | exact congrFun (congrFun (si_k (by decide)) _) _
  all_goals first | rfl | rw [si_k (by decide)]
theorem cW_1 {μ : qM} {b c : Nat} {v : Int32} (h : c < 48) : cB (q_si μ 37 b c v) b = bset (cB μ b) 1 c v := by
  funext t s
  by_cases ht : t = 1
  · subst ht
    by_cases hs : s = c
    · subst hs
      rw [bs_e, cR_1 h]
      exact si_e
    · rw [bs_s hs]
      show (if s < 48 then (q_si μ 37 b c v).1 37 b s else 0) = (if s < 48 then μ.1 37 b s else 0)
      rw [si_s hs]
  · rw [bs_t ht]
    unfold cB
    split
    · split <;> first | rfl | exact congrFun (congrFun (si_k (by decide)) _) _
    all_goals first | exact absurd rfl ht | rfl | rw [si_k (by decide)]
theorem mW_1 {μ : qM} {b c : Nat} {v : Int32} (h : c < 48) : mB (q_si μ 91 0 (48 * b + c) v) b = bset (mB μ b) 1 c v := by
  funext t s
  by_cases ht : t = 1
  · subst ht
    by_cases hs : s = c
    · subst hs
      rw [bs_e, mR_1 h]
      exact si_e
    · rw [bs_s hs]
      show (if s < 48 then (q_si μ 91 0 (48 * b + c) v).1 91 0 (48 * b + s) else 0) = (if s < 48 then μ.1 91 0 (48 * b + s) else 0)
      rw [si_s (by omega)]
  · rw [bs_t ht]
    unfold mB
    split
    · split <;> first | rfl | exact congrFun (congrFun (si_k (by decide)) _) _
    all_goals first | exact absurd rfl ht | rfl | rw [si_k (by decide)]
theorem mV_1 {μ : qM} {b b' c : Nat} {v : Int32} (h : c < 48) (hb : b' ≠ b) : mB (q_si μ 91 0 (48 * b + c) v) b' = mB μ b' := by
  funext t s
  by_cases ht : t = 1
  · subst ht
    show (if s < 48 then (q_si μ 91 0 (48 * b + c) v).1 91 0 (48 * b' + s) else 0) = (if s < 48 then μ.1 91 0 (48 * b' + s) else 0)
    by_cases hs : s < 48
    · rw [if_pos hs, if_pos hs, si_s (by omega)]
    · rw [if_neg hs, if_neg hs]
  · unfold mB
    split
    · split <;> first | rfl | exact congrFun (congrFun (si_k (by decide)) _) _
    all_goals first | exact absurd rfl ht | rfl | rw [si_k (by decide)]
theorem cW_2 {μ : qM} {b c : Nat} {v : Int32} (h : c < 48) : cB (q_si μ 38 b c v) b = bset (cB μ b) 2 c v := by
  funext t s
  by_cases ht : t = 2
  · subst ht
    by_cases hs : s = c
    · subst hs
      rw [bs_e, cR_2 h]
      exact si_e
    · rw [bs_s hs]
      show (if s < 48 then (q_si μ 38 b c v).1 38 b s else 0) = (if s < 48 then μ.1 38 b s else 0)
      rw [si_s hs]
  · rw [bs_t ht]
    unfold cB
    split
    · split <;> first | rfl | exact congrFun (congrFun (si_k (by decide)) _) _
    all_goals first | exact absurd rfl ht | rfl | rw [si_k (by decide)]
theorem mW_2 {μ : qM} {b c : Nat} {v : Int32} (h : c < 48) : mB (q_si μ 92 0 (48 * b + c) v) b = bset (mB μ b) 2 c v := by
  funext t s
  by_cases ht : t = 2
  · subst ht
    by_cases hs : s = c
    · subst hs
      rw [bs_e, mR_2 h]
      exact si_e
    · rw [bs_s hs]
      show (if s < 48 then (q_si μ 92 0 (48 * b + c) v).1 92 0 (48 * b + s) else 0) = (if s < 48 then μ.1 92 0 (48 * b + s) else 0)
      rw [si_s (by omega)]
  · rw [bs_t ht]
    unfold mB
    split
    · split <;> first | rfl | exact congrFun (congrFun (si_k (by decide)) _) _
    all_goals first | exact absurd rfl ht | rfl | rw [si_k (by decide)]
theorem mV_2 {μ : qM} {b b' c : Nat} {v : Int32} (h : c < 48) (hb : b' ≠ b) : mB (q_si μ 92 0 (48 * b + c) v) b' = mB μ b' := by
  funext t s
  by_cases ht : t = 2
  · subst ht
    show (if s < 48 then (q_si μ 92 0 (48 * b + c) v).1 92 0 (48 * b' + s) else 0) = (if s < 48 then μ.1 92 0 (48 * b' + s) else 0)
    by_cases hs : s < 48
    · rw [if_pos hs, if_pos hs, si_s (by omega)]
    · rw [if_neg hs, if_neg hs]
  · unfold mB
    split
    · split <;> first | rfl | exact congrFun (congrFun (si_k (by decide)) _) _
    all_goals first | exact absurd rfl ht | rfl | rw [si_k (by decide)]
theorem cW_3 {μ : qM} {b c : Nat} {v : Int32} (h : c < 144) : cB (q_si μ 39 b c v) b = bset (cB μ b) 3 c v := by
  funext t s
  by_cases ht : t = 3
  · subst ht
    by_cases hs : s = c
    · subst hs
      rw [bs_e, cR_3 h]
      exact si_e
    · rw [bs_s hs]
      show (if s < 144 then (q_si μ 39 b c v).1 39 b s else 0) = (if s < 144 then μ.1 39 b s else 0)
      rw [si_s hs]
  · rw [bs_t ht]
    unfold cB
    split
    · split <;> first | rfl | exact congrFun (congrFun (si_k (by decide)) _) _
    all_goals first | exact absurd rfl ht | rfl | rw [si_k (by decide)]
theorem mW_3 {μ : qM} {b c : Nat} {v : Int32} (h : c < 144) : mB (q_si μ 93 0 (144 * b + c) v) b = bset (mB μ b) 3 c v := by
  funext t s
  by_cases ht : t = 3
  · subst ht
    by_cases hs : s = c
    · subst hs
      rw [bs_e, mR_3 h]
      exact si_e
    · rw [bs_s hs]
      show (if s < 144 then (q_si μ 93 0 (144 * b + c) v).1 93 0 (144 * b + s) else 0) = (if s < 144 then μ.1 93 0 (144 * b + s) else 0)
      rw [si_s (by omega)]
  · rw [bs_t ht]
    unfold mB
    split
    · split <;> first | rfl | exact congrFun (congrFun (si_k (by decide)) _) _
    all_goals first | exact absurd rfl ht | rfl | rw [si_k (by decide)]
theorem mV_3 {μ : qM} {b b' c : Nat} {v : Int32} (h : c < 144) (hb : b' ≠ b) : mB (q_si μ 93 0 (144 * b + c) v) b' = mB μ b' := by
  funext t s
  by_cases ht : t = 3
  · subst ht
    show (if s < 144 then (q_si μ 93 0 (144 * b + c) v).1 93 0 (144 * b' + s) else 0) = (if s < 144 then μ.1 93 0 (144 * b' + s) else 0)
    by_cases hs : s < 144
    · rw [if_pos hs, if_pos hs, si_s (by omega)]
    · rw [if_neg hs, if_neg hs]
  · unfold mB
    split
    · split <;> first | rfl | exact congrFun (congrFun (si_k (by decide)) _) _
    all_goals first | exact absurd rfl ht | rfl | rw [si_k (by decide)]
theorem cW_4 {μ : qM} {b c : Nat} {v : Int32} (h : c < 96) : cB (q_si μ 40 b c v) b = bset (cB μ b) 4 c v := by
  funext t s
  by_cases ht : t = 4
  · subst ht
    by_cases hs : s = c
    · subst hs
      rw [bs_e, cR_4 h]
      exact si_e
    · rw [bs_s hs]
      show (if s < 96 then (q_si μ 40 b c v).1 40 b s else 0) = (if s < 96 then μ.1 40 b s else 0)
      rw [si_s hs]
  · rw [bs_t ht]
    unfold cB
    split
    · split <;> first | rfl | exact congrFun (congrFun (si_k (by decide)) _) _
    all_goals first | exact absurd rfl ht | rfl | rw [si_k (by decide)]
theorem mW_4 {μ : qM} {b c : Nat} {v : Int32} (h : c < 96) : mB (q_si μ 94 0 (96 * b + c) v) b = bset (mB μ b) 4 c v := by
  funext t s
  by_cases ht : t = 4
  · subst ht
    by_cases hs : s = c
    · subst hs
      rw [bs_e, mR_4 h]
      exact si_e
    · rw [bs_s hs]
      show (if s < 96 then (q_si μ 94 0 (96 * b + c) v).1 94 0 (96 * b + s) else 0) = (if s < 96 then μ.1 94 0 (96 * b + s) else 0)
      rw [si_s (by omega)]
  · rw [bs_t ht]
    unfold mB
    split
    · split <;> first | rfl | exact congrFun (congrFun (si_k (by decide)) _) _
    all_goals first | exact absurd rfl ht | rfl | rw [si_k (by decide)]
theorem mV_4 {μ : qM} {b b' c : Nat} {v : Int32} (h : c < 96) (hb : b' ≠ b) : mB (q_si μ 94 0 (96 * b + c) v) b' = mB μ b' := by
  funext t s
  by_cases ht : t = 4
  · subst ht
    show (if s < 96 then (q_si μ 94 0 (96 * b + c) v).1 94 0 (96 * b' + s) else 0) = (if s < 96 then μ.1 94 0 (96 * b' + s) else 0)
    by_cases hs : s < 96
    · rw [if_pos hs, if_pos hs, si_s (by omega)]
    · rw [if_neg hs, if_neg hs]
  · unfold mB
    split
    · split <;> first | rfl | exact congrFun (congrFun (si_k (by decide)) _) _
    all_goals first | exact absurd rfl ht | rfl | rw [si_k (by decide)]
theorem cW_5 {μ : qM} {b c : Nat} {v : Int32} (h : c < 96) : cB (q_si μ 41 b c v) b = bset (cB μ b) 5 c v := by
  funext t s
  by_cases ht : t = 5
  · subst ht
    by_cases hs : s = c
    · subst hs
      rw [bs_e, cR_5 h]
      exact si_e
    · rw [bs_s hs]
      show (if s < 96 then (q_si μ 41 b c v).1 41 b s else 0) = (if s < 96 then μ.1 41 b s else 0)
      rw [si_s hs]
  · rw [bs_t ht]
    unfold cB
    split
    · split <;> first | rfl | exact congrFun (congrFun (si_k (by decide)) _) _
    all_goals first | exact absurd rfl ht | rfl | rw [si_k (by decide)]
theorem mW_5 {μ : qM} {b c : Nat} {v : Int32} (h : c < 96) : mB (q_si μ 95 0 (96 * b + c) v) b = bset (mB μ b) 5 c v := by
  funext t s
  by_cases ht : t = 5
  · subst ht
    by_cases hs : s = c
    · subst hs
      rw [bs_e, mR_5 h]
      exact si_e
    · rw [bs_s hs]
      show (if s < 96 then (q_si μ 95 0 (96 * b + c) v).1 95 0 (96 * b + s) else 0) = (if s < 96 then μ.1 95 0 (96 * b + s) else 0)
      rw [si_s (by omega)]
  · rw [bs_t ht]
    unfold mB
    split
    · split <;> first | rfl | exact congrFun (congrFun (si_k (by decide)) _) _
    all_goals first | exact absurd rfl ht | rfl | rw [si_k (by decide)]
theorem mV_5 {μ : qM} {b b' c : Nat} {v : Int32} (h : c < 96) (hb : b' ≠ b) : mB (q_si μ 95 0 (96 * b + c) v) b' = mB μ b' := by
  funext t s
  by_cases ht : t = 5
  · subst ht
    show (if s < 96 then (q_si μ 95 0 (96 * b + c) v).1 95 0 (96 * b' + s) else 0) = (if s < 96 then μ.1 95 0 (96 * b' + s) else 0)
    by_cases hs : s < 96
    · rw [if_pos hs, if_pos hs, si_s (by omega)]
    · rw [if_neg hs, if_neg hs]
  · unfold mB
    split
    · split <;> first | rfl | exact congrFun (congrFun (si_k (by decide)) _) _
    all_goals first | exact absurd rfl ht | rfl | rw [si_k (by decide)]
theorem cW_6 {μ : qM} {b c : Nat} {v : Int32} (h : c < 4) : cB (q_si μ 42 b c v) b = bset (cB μ b) 6 c v := by
  funext t s
  by_cases ht : t = 6
  · subst ht
    by_cases hs : s = c
    · subst hs
      rw [bs_e, cR_6 h]
      exact si_e
    · rw [bs_s hs]
      show (if s < 4 then (q_si μ 42 b c v).1 42 b s else 0) = (if s < 4 then μ.1 42 b s else 0)
      rw [si_s hs]
  · rw [bs_t ht]
    unfold cB
    split
    · split <;> first | rfl | exact congrFun (congrFun (si_k (by decide)) _) _
    all_goals first | exact absurd rfl ht | rfl | rw [si_k (by decide)]
theorem mW_6 {μ : qM} {b c : Nat} {v : Int32} (h : c < 4) : mB (q_si μ 90 0 (4 * b + c) v) b = bset (mB μ b) 6 c v := by
  funext t s
  by_cases ht : t = 6
  · subst ht
    by_cases hs : s = c
    · subst hs
      rw [bs_e, mR_6 h]
      exact si_e
    · rw [bs_s hs]
      show (if s < 4 then (q_si μ 90 0 (4 * b + c) v).1 90 0 (4 * b + s) else 0) = (if s < 4 then μ.1 90 0 (4 * b + s) else 0)
      rw [si_s (by omega)]
  · rw [bs_t ht]
    unfold mB
    split
    · split <;> first | rfl | exact congrFun (congrFun (si_k (by decide)) _) _
    all_goals first | exact absurd rfl ht | rfl | rw [si_k (by decide)]
theorem mV_6 {μ : qM} {b b' c : Nat} {v : Int32} (h : c < 4) (hb : b' ≠ b) : mB (q_si μ 90 0 (4 * b + c) v) b' = mB μ b' := by
  funext t s
  by_cases ht : t = 6
  · subst ht
    show (if s < 4 then (q_si μ 90 0 (4 * b + c) v).1 90 0 (4 * b' + s) else 0) = (if s < 4 then μ.1 90 0 (4 * b' + s) else 0)
    by_cases hs : s < 4
    · rw [if_pos hs, if_pos hs, si_s (by omega)]
    · rw [if_neg hs, if_neg hs]
  · unfold mB
    split
    · split <;> first | rfl | exact congrFun (congrFun (si_k (by decide)) _) _
    all_goals first | exact absurd rfl ht | rfl | rw [si_k (by decide)]
theorem cW_7 {μ : qM} {b c : Nat} {v : Int32} (h : c < 4) : cB (q_si μ 43 b c v) b = bset (cB μ b) 7 c v := by
  funext t s
  by_cases ht : t = 7
  · subst ht
    by_cases hs : s = c
    · subst hs
      rw [bs_e, cR_7 h]
      exact si_e
    · rw [bs_s hs]
      show (if s < 4 then (q_si μ 43 b c v).1 43 b s else 0) = (if s < 4 then μ.1 43 b s else 0)
      rw [si_s hs]
  · rw [bs_t ht]
    unfold cB
    split
    · split <;> first | rfl | exact congrFun (congrFun (si_k (by decide)) _) _
    all_goals first | exact absurd rfl ht | rfl | rw [si_k (by decide)]
theorem mW_7 {μ : qM} {b c : Nat} {v : Int32} (h : c < 4) : mB (q_si μ 87 0 (4 * b + c) v) b = bset (mB μ b) 7 c v := by
  funext t s
  by_cases ht : t = 7
  · subst ht
    by_cases hs : s = c
    · subst hs
      rw [bs_e, mR_7 h]
      exact si_e
    · rw [bs_s hs]
      show (if s < 4 then (q_si μ 87 0 (4 * b + c) v).1 87 0 (4 * b + s) else 0) = (if s < 4 then μ.1 87 0 (4 * b + s) else 0)
      rw [si_s (by omega)]
  · rw [bs_t ht]
    unfold mB
    split
    · split <;> first | rfl | exact congrFun (congrFun (si_k (by decide)) _) _
    all_goals first | exact absurd rfl ht | rfl | rw [si_k (by decide)]
theorem mV_7 {μ : qM} {b b' c : Nat} {v : Int32} (h : c < 4) (hb : b' ≠ b) : mB (q_si μ 87 0 (4 * b + c) v) b' = mB μ b' := by
  funext t s
  by_cases ht : t = 7
  · subst ht
    show (if s < 4 then (q_si μ 87 0 (4 * b + c) v).1 87 0 (4 * b' + s) else 0) = (if s < 4 then μ.1 87 0 (4 * b' + s) else 0)
    by_cases hs : s < 4
    · rw [if_pos hs, if_pos hs, si_s (by omega)]
    · rw [if_neg hs, if_neg hs]
  · unfold mB
    split
    · split <;> first | rfl | exact congrFun (congrFun (si_k (by decide)) _) _
    all_goals first | exact absurd rfl ht | rfl | rw [si_k (by decide)]
theorem cW_8 {μ : qM} {b c : Nat} {v : Int32} (h : c < 4) : cB (q_si μ 44 b c v) b = bset (cB μ b) 8 c v := by
  funext t s
  by_cases ht : t = 8
  · subst ht
    by_cases hs : s = c
    · subst hs
      rw [bs_e, cR_8 h]
      exact si_e
    · rw [bs_s hs]
      show (if s < 4 then (q_si μ 44 b c v).1 44 b s else 0) = (if s < 4 then μ.1 44 b s else 0)
      rw [si_s hs]
  · rw [bs_t ht]
    unfold cB
    split
    · split <;> first | rfl | exact congrFun (congrFun (si_k (by decide)) _) _
    all_goals first | exact absurd rfl ht | rfl | rw [si_k (by decide)]
theorem mW_8 {μ : qM} {b c : Nat} {v : Int32} (h : c < 4) : mB (q_si μ 88 0 (4 * b + c) v) b = bset (mB μ b) 8 c v := by
  funext t s
  by_cases ht : t = 8
  · subst ht
    by_cases hs : s = c
    · subst hs
      rw [bs_e, mR_8 h]
      exact si_e
    · rw [bs_s hs]
      show (if s < 4 then (q_si μ 88 0 (4 * b + c) v).1 88 0 (4 * b + s) else 0) = (if s < 4 then μ.1 88 0 (4 * b + s) else 0)
      rw [si_s (by omega)]
  · rw [bs_t ht]
    unfold mB
    split
    · split <;> first | rfl | exact congrFun (congrFun (si_k (by decide)) _) _
    all_goals first | exact absurd rfl ht | rfl | rw [si_k (by decide)]
theorem mV_8 {μ : qM} {b b' c : Nat} {v : Int32} (h : c < 4) (hb : b' ≠ b) : mB (q_si μ 88 0 (4 * b + c) v) b' = mB μ b' := by
  funext t s
  by_cases ht : t = 8
  · subst ht
    show (if s < 4 then (q_si μ 88 0 (4 * b + c) v).1 88 0 (4 * b' + s) else 0) = (if s < 4 then μ.1 88 0 (4 * b' + s) else 0)
    by_cases hs : s < 4
    · rw [if_pos hs, if_pos hs, si_s (by omega)]
    · rw [if_neg hs, if_neg hs]
  · unfold mB
    split
    · split <;> first | rfl | exact congrFun (congrFun (si_k (by decide)) _) _
    all_goals first | exact absurd rfl ht | rfl | rw [si_k (by decide)]

def nW (v : qB) : Nat := (v 0 1).toNatClampNeg
def nH (v : qB) : Nat := (v 0 2).toNatClampNeg
def nN (v : qB) : Nat := nW v * nH v
/-- the numbers of a board that is there, after at most n calls -/
def WF0 (n : Nat) (v : qB) : Prop := ∃ k wd hg st p d rc pc : Nat, v 0 0 = nI k ∧ k ≤ 3 ∧ v 0 1 = nI wd ∧ 2 ≤ wd ∧ wd ≤ 8 ∧ v 0 2 = nI hg ∧ 1 ≤ hg ∧ hg ≤ 6 ∧ v 0 3 = nI st ∧ st ≤ n ∧ v 0 8 = nI p ∧ 1 ≤ p ∧ p ≤ 8 ∧ v 0 9 = nI d ∧ 2 ≤ d ∧ d ≤ 1000 ∧ v 0 12 = nI rc ∧ rc ≤ 4 ∧ v 0 13 = nI pc ∧ pc ≤ 4 ∧ (v 0 6 = -9 ∨ ∃ r, r < 6 ∧ v 0 6 = nI r) ∧ (-50 ≤ (v 0 10).toInt ∧ (v 0 10).toInt ≤ 50) ∧ (-50 ≤ (v 0 11).toInt ∧ (v 0 11).toInt ≤ 50)
def WF1 (v : qB) : Prop := (∀ c, -1000 ≤ (v 1 c).toInt ∧ (v 1 c).toInt ≤ 1000) ∧ (∀ c, 0 ≤ (v 2 c).toInt ∧ (v 2 c).toInt ≤ 100000) ∧ (∀ c, -100000 ≤ (v 4 c).toInt ∧ (v 4 c).toInt ≤ 100000) ∧ (∀ c, v 5 c = 0 ∨ v 5 c = 1) ∧ (∀ k, k < (v 0 12).toNatClampNeg → 0 ≤ (v 8 k).toInt ∧ (v 8 k).toInt ≤ 1000)
def WF2 (v : qB) : Prop := (∀ k, k < (v 0 12).toNatClampNeg → ∃ c, c < nN v ∧ v 7 k = nI c) ∧ (∀ k, k < (v 0 13).toNatClampNeg → ∃ f, f < 2 * nN v ∧ v 6 k = nI f)
def WF (n : Nat) (v : qB) : Prop := WF0 n v ∧ WF1 v ∧ WF2 v
/-- a nest that is there, and what it lies on -/
def NB (μ : qM) (b : Nat) : Prop := ∃ d x y wd hg : Nat, d < 6 ∧ d ≠ b ∧ μ.1 5 b 2 = nI d ∧ μ.1 96 0 b = nI d ∧ μ.1 2 d 10 = 1 ∧ μ.1 5 b 3 = nI x ∧ μ.1 97 0 b = nI x ∧ μ.1 5 b 4 = nI y ∧ μ.1 98 0 b = nI y ∧ nW (cB μ b) = 2 * wd ∧ nH (cB μ b) = 2 * hg ∧ 1 ≤ wd ∧ wd ≤ 4 ∧ 1 ≤ hg ∧ hg ≤ 3 ∧ x + wd ≤ nW (cB μ d) ∧ y + hg ≤ nH (cB μ d) ∧ ∀ k, k < wd * hg → μ.1 99 0 (48 * b + k) = μ.1 45 b k ∧ μ.1 100 0 (48 * b + k) = μ.1 46 b k ∧ 0 ≤ (μ.1 45 b k).toInt ∧ (μ.1 45 b k).toInt ≤ 100000
def R0 (μ : qM) : Prop := μ.1 11 0 2 = μ.1 0 0 15 ∧ μ.1 11 0 0 = μ.1 0 0 16 ∧ μ.2.1 11 0 4 = μ.2.1 0 0 17 ∧ μ.2.1 11 0 5 = μ.2.1 0 0 18 ∧ ∀ i, i < 6 → μ.1 61 0 i = μ.1 36 0 i
def R1 (μ : qM) : Prop := ∀ r, r < 6 → (μ.1 33 0 r = -1 ∧ μ.1 66 0 r = -9) ∨ ∃ n, n ≤ 48 ∧ μ.1 33 0 r = nI n ∧ μ.1 66 0 r = nI n ∧ ∀ i, i < n → μ.1 67 0 (48 * r + i) = μ.1 30 r i ∧ -100000 ≤ (μ.1 30 r i).toInt ∧ (μ.1 30 r i).toInt ≤ 100000
def R2 (μ : qM) : Prop := ∀ r, r < 6 → (μ.1 33 1 r = -1 ∧ μ.1 69 0 r = -9) ∨ ∃ n, n ≤ 40 ∧ μ.1 33 1 r = nI n ∧ μ.1 69 0 r = nI n ∧ ∀ i, i < n → μ.1 70 0 (40 * r + i) = μ.1 31 r i
def R3b (n : Nat) (μ : qM) (b : Nat) : Prop := (∀ t, t ≠ 0 → mB μ b t = cB μ b t) ∧ ((μ.1 2 b 10 = 0 ∧ μ.1 74 0 b = -9) ∨ (μ.1 2 b 10 = 1 ∧ mB μ b 0 = cB μ b 0 ∧ WF n (cB μ b) ∧ (cB μ b 0 0 = 2 → NB μ b)))
def R3 (n : Nat) (μ : qM) : Prop := ∀ b, b < 6 → R3b n μ b
/-- no nest lies in itself -/
def R4 (μ : qM) : Prop := ∃ dep : Nat → Nat, ∀ b d, b < 6 → d < 6 → μ.1 2 b 10 = 1 → μ.1 2 b 11 = 2 → μ.1 5 b 2 = nI d → dep d < dep b ∧ dep b < 6
def R5 (μ : qM) : Prop := ∀ k, k < 8 → (μ.1 8 k 0 = -9 ∧ μ.1 105 0 k = -9) ∨ ∃ b c d : Nat, b < 6 ∧ μ.1 2 b 10 = 1 ∧ μ.1 8 k 0 = nI b ∧ μ.1 105 0 k = nI b ∧ c < nN (cB μ b) ∧ μ.1 8 k 1 = nI c ∧ μ.1 106 0 k = nI c ∧ 1 ≤ d ∧ d ≤ 1000 ∧ μ.1 8 k 2 = nI d ∧ μ.1 107 0 k = nI d
def R6 (μ : qM) : Prop := ∀ g, g < 8 → (μ.1 9 g 2 = -9 ∧ μ.1 108 0 g = -9) ∨ ∃ b c f n : Nat, b < 6 ∧ μ.1 2 b 10 = 1 ∧ μ.1 9 g 2 = nI b ∧ μ.1 108 0 g = nI b ∧ c < nN (cB μ b) ∧ μ.1 9 g 3 = nI c ∧ μ.1 109 0 g = nI c ∧ f < 48 ∧ n ≤ 48 ∧ μ.1 9 g 4 = nI f ∧ μ.1 9 g 5 = nI n ∧ μ.1 110 0 g = nI n ∧ ∀ i, i < n → μ.1 111 0 (48 * g + i) = μ.1 52 g ((f + i) % 48) ∧ μ.1 112 0 (48 * g + i) = μ.1 53 g ((f + i) % 48) ∧ (μ.1 53 g ((f + i) % 48) = 0 ∨ μ.1 53 g ((f + i) % 48) = 1) ∧ -1000 ≤ (μ.1 52 g ((f + i) % 48)).toInt ∧ (μ.1 52 g ((f + i) % 48)).toInt ≤ 101000
/-! How a text is read. -/
def tsk (f : Nat → Int32) : Nat → Nat → Nat
  | 0, a => a
  | d + 1, a => if f a = 32 then tsk f d (a + 1) else a
def tdg (f : Nat → Int32) : Nat → Nat → Nat
  | 0, _ => 0
  | d + 1, a => if 48 ≤ f a ∧ f a ≤ 57 then tdg f d (a + 1) + 1 else 0
def tvl (f : Nat → Int32) (a : Nat) : Nat → Int32
  | 0 => 0
  | k + 1 => 10 * tvl f a k + f (a + k) - 48
def tHas (l : Int32) : Bool := decide (l = 87 ∨ l = 86 ∨ l = 83 ∨ l = 71 ∨ l = 84 ∨ l = 80 ∨ l = 82)
def tLo (l : Int32) : Int32 := if l = 87 ∨ l = 86 then -50 else if l = 84 then -500 else if l = 80 then 1 else 0
def tHi (l : Int32) : Int32 := if l = 87 ∨ l = 86 then 50 else if l = 83 then 24 else if l = 71 then 9999 else if l = 84 then 500 else if l = 80 then 8 else 1000
def tC (f : Nat → Int32) (L a : Nat) : Nat := if a + 1 < L ∧ f (a + 1) = 45 then a + 2 else a + 1
def tX (f : Nat → Int32) (L a : Nat) : Int32 := if a + 1 < L ∧ f (a + 1) = 45 then -(tvl f (tC f L a) (tdg f (L - tC f L a) (tC f L a))) else tvl f (tC f L a) (tdg f (L - tC f L a) (tC f L a))
def tS (f : Nat → Int32) (L a : Nat) (st : Int32) : Int32 := if f a = 83 then st + tX f L a else st
/-- an item at a: its fault, or its number, where it ends and the steps with it -/
def tIt (f : Nat → Int32) (L a : Nat) (st : Int32) : Nat ⊕ (Int32 × Nat × Int32) :=
  if tHas (f a) = false then .inl a else if tdg f (L - tC f L a) (tC f L a) = 0 then .inl (tC f L a) else if 5 ≤ tdg f (L - tC f L a) (tC f L a) then .inl (tC f L a + 4)
  else if tX f L a < tLo (f a) ∨ tHi (f a) < tX f L a then .inl a else if 24 < tS f L a st then .inl a else .inr (tX f L a, tC f L a + tdg f (L - tC f L a) (tC f L a), tS f L a st)
/-- the items from a on: letters and numbers, and the fault behind them -/
def tAl (f : Nat → Int32) (L : Nat) : Nat → Nat → Int32 → List (Int32 × Int32) × Option Nat
  | 0, _, _ => ([], none)
  | n + 1, a, st => if L ≤ tsk f (L - a) a then ([], none) else match tIt f L (tsk f (L - a) a) st with
    | .inl p => ([], some p)
    | .inr (x, c, st') => ((f (tsk f (L - a) a), x) :: (tAl f L n c st').1, (tAl f L n c st').2)
def R7 (μ : qM) : Prop := ∃ m, m ≤ 8 ∧ μ.1 0 0 14 = nI m ∧ μ.1 11 0 61 = nI m ∧ ∀ k, k < m → ∃ L, L ≤ 40 ∧ μ.1 33 2 k = nI L ∧ μ.1 122 0 k = nI L ∧ (∀ i, i < L → μ.1 123 0 (40 * k + i) = μ.1 32 k i) ∧ (tAl (μ.1 32 k) L 41 0 0).2 = none ∧ ∃ wt, wt ≤ 99 ∧ μ.1 34 0 k = nI wt ∧ μ.1 124 0 k = nI wt
def R8 (μ : qM) : Prop := (μ.1 10 0 2 = 0 ∨ μ.1 10 0 2 = 1) ∧ μ.1 11 0 55 = μ.1 10 0 2 ∧ μ.2.1 11 0 3 = μ.2.1 10 0 0 * μ.2.1 10 0 0 + μ.2.1 10 0 1 * μ.2.1 10 0 1 ∧ (μ.1 10 0 2 = 1 → (μ.1 11 0 56).toInt64 = μ.2.1 10 0 0 ∧ (μ.1 11 0 57).toInt64 = μ.2.1 10 0 1)
def Rel (n : Nat) (μ : qM) : Prop := R0 μ ∧ R1 μ ∧ R2 μ ∧ R3 n μ ∧ R4 μ ∧ R5 μ ∧ R6 μ ∧ R7 μ ∧ R8 μ
/-- a call: both answer alike and stay alike -/
def Op {α : Type} (F F' : qM → Option (α × qM)) : Prop := ∀ n μ, n ≤ 1000000 → Rel n μ → Ev (F μ) (fun v μ1 => Ev (F' μ1) (fun v' μ2 => v = v' ∧ Rel (n + 1) μ2))
/-! What keeps each piece. -/
theorem R0_ext {μ μ' : qM} (h0 : μ'.1 0 = μ.1 0) (h11 : μ'.1 11 = μ.1 11) (l0 : μ'.2.1 0 = μ.2.1 0) (l11 : μ'.2.1 11 = μ.2.1 11) (h36 : μ'.1 36 = μ.1 36) (h61 : μ'.1 61 = μ.1 61) (h : R0 μ) : R0 μ' := by
  unfold R0
  rw [h0, h11, l0, l11, h36, h61]
  exact h
theorem R1_ext {μ μ' : qM} (h33 : μ'.1 33 0 = μ.1 33 0) (h66 : μ'.1 66 = μ.1 66) (h67 : μ'.1 67 = μ.1 67) (h30 : μ'.1 30 = μ.1 30) (h : R1 μ) : R1 μ' := by
  unfold R1
  rw [h33, h66, h67, h30]
  exact h
theorem R2_ext {μ μ' : qM} (h33 : μ'.1 33 1 = μ.1 33 1) (h69 : μ'.1 69 = μ.1 69) (h70 : μ'.1 70 = μ.1 70) (h31 : μ'.1 31 = μ.1 31) (h : R2 μ) : R2 μ' := by
  unfold R2
  rw [h33, h69, h70, h31]
  exact h
theorem WF.mono {n m : Nat} {v : qB} (h : WF n v) (hm : n ≤ m) : WF m v := by
  obtain ⟨⟨k, wd, hg, st, p, d, rc, pc, h1, h2, h3, h4, h5, h6, h7, h8, h9, h10, hr⟩, h'⟩ := h
  exact ⟨⟨k, wd, hg, st, p, d, rc, pc, h1, h2, h3, h4, h5, h6, h7, h8, h9, Nat.le_trans h10 hm, hr⟩, h'⟩
theorem NB_ext {μ μ' : qM} {b : Nat} (hb : b < 6) (hc : ∀ b, b < 6 → cB μ' b = cB μ b) (h10 : ∀ b, b < 6 → μ'.1 2 b 10 = μ.1 2 b 10) (h5 : ∀ b, b < 6 → μ'.1 5 b = μ.1 5 b) (h45 : ∀ b, b < 6 → μ'.1 45 b = μ.1 45 b) (h46 : ∀ b, b < 6 → μ'.1 46 b = μ.1 46 b) (h96 : μ'.1 96 = μ.1 96) (h97 : μ'.1 97 = μ.1 97) (h98 : μ'.1 98 = μ.1 98) (h99 : ∀ s, s < 288 → μ'.1 99 0 s = μ.1 99 0 s) (h100 : ∀ s, s < 288 → μ'.1 100 0 s = μ.1 100 0 s) (h : NB μ b) : NB μ' b := by
  obtain ⟨d, x, y, wd, hg, q1, q2, q3, q4, q5, q6, q7, q8, q9, q10, q11, q12, q13, q14, q15, q16, q17, q18⟩ := h
  refine ⟨d, x, y, wd, hg, q1, q2, ?_, ?_, ?_, ?_, ?_, ?_, ?_, ?_, ?_, q12, q13, q14, q15, ?_, ?_, ?_⟩
  · rw [h5 b hb]; exact q3
  · rw [h96]; exact q4
  · rw [h10 d q1]; exact q5
  · rw [h5 b hb]; exact q6
  · rw [h97]; exact q7
  · rw [h5 b hb]; exact q8
  · rw [h98]; exact q9
  · rw [hc b hb]; exact q10
  · rw [hc b hb]; exact q11
  · rw [hc d q1]; exact q16
  · rw [hc d q1]; exact q17
  · intro k hk
    have hk2 : k < 12 := Nat.lt_of_lt_of_le hk (Nat.mul_le_mul q13 q15)
    rw [h45 b hb, h46 b hb, h99 _ (by omega), h100 _ (by omega)]
    exact q18 k hk
theorem R3_ext {n n' : Nat} {μ μ' : qM} (hn : n ≤ n') (hc : ∀ b, b < 6 → cB μ' b = cB μ b) (hm : ∀ b, b < 6 → mB μ' b = mB μ b) (h10 : ∀ b, b < 6 → μ'.1 2 b 10 = μ.1 2 b 10) (h5 : ∀ b, b < 6 → μ'.1 5 b = μ.1 5 b) (h45 : ∀ b, b < 6 → μ'.1 45 b = μ.1 45 b) (h46 : ∀ b, b < 6 → μ'.1 46 b = μ.1 46 b) (h96 : μ'.1 96 = μ.1 96) (h97 : μ'.1 97 = μ.1 97) (h98 : μ'.1 98 = μ.1 98) (h99 : ∀ s, s < 288 → μ'.1 99 0 s = μ.1 99 0 s) (h100 : ∀ s, s < 288 → μ'.1 100 0 s = μ.1 100 0 s) (h : R3 n μ) : R3 n' μ' := by
  intro b hb
  obtain ⟨e1, e2⟩ := h b hb
  refine ⟨fun t ht => by rw [hc b hb, hm b hb]; exact e1 t ht, ?_⟩
  rcases e2 with ⟨e3, e4⟩ | ⟨e3, e4, e5, e6⟩
  · left
    refine ⟨by rw [h10 b hb]; exact e3, ?_⟩
    have hz : mB μ' b 0 0 = mB μ b 0 0 := by rw [hm b hb]
    exact hz.trans e4
  · right
    refine ⟨by rw [h10 b hb]; exact e3, by rw [hc b hb, hm b hb]; exact e4, by rw [hc b hb]; exact e5.mono hn, fun hq => ?_⟩
    rw [hc b hb] at hq
    exact NB_ext hb hc h10 h5 h45 h46 h96 h97 h98 h99 h100 (e6 hq)
theorem R4_ext {μ μ' : qM} (hc : ∀ b, b < 6 → cB μ' b = cB μ b) (h10 : ∀ b, b < 6 → μ'.1 2 b 10 = μ.1 2 b 10) (h5 : ∀ b, b < 6 → μ'.1 5 b = μ.1 5 b) (h : R4 μ) : R4 μ' := by
  obtain ⟨dep, h⟩ := h
  refine ⟨dep, fun b d hb hd e1 e2 e3 => h b d hb hd ?_ ?_ ?_⟩
  · rw [← h10 b hb]; exact e1
  · have hz : cB μ' b 0 0 = cB μ b 0 0 := by rw [hc b hb]
    exact hz.symm.trans e2
  · rw [← h5 b hb]; exact e3
theorem R5_ext {μ μ' : qM} (hc : ∀ b, b < 6 → cB μ' b = cB μ b) (h10 : ∀ b, b < 6 → μ'.1 2 b 10 = μ.1 2 b 10) (h8 : μ'.1 8 = μ.1 8) (h105 : μ'.1 105 = μ.1 105) (h106 : μ'.1 106 = μ.1 106) (h107 : μ'.1 107 = μ.1 107) (h : R5 μ) : R5 μ' := by
  intro k hk
  rw [h8, h105, h106, h107]
  rcases h k hk with h1 | ⟨b, c, d, hb, e1, e2, e3, e4, er⟩
  · exact .inl h1
  · exact .inr ⟨b, c, d, hb, by rw [h10 b hb]; exact e1, e2, e3, by rw [hc b hb]; exact e4, er⟩
theorem R6_ext {μ μ' : qM} (hc : ∀ b, b < 6 → cB μ' b = cB μ b) (h10 : ∀ b, b < 6 → μ'.1 2 b 10 = μ.1 2 b 10) (h9 : μ'.1 9 = μ.1 9) (h52 : μ'.1 52 = μ.1 52) (h53 : μ'.1 53 = μ.1 53) (h108 : μ'.1 108 = μ.1 108) (h109 : μ'.1 109 = μ.1 109) (h110 : μ'.1 110 = μ.1 110) (h111 : μ'.1 111 = μ.1 111) (h112 : μ'.1 112 = μ.1 112) (h : R6 μ) : R6 μ' := by
  intro k hk
  rw [h9, h52, h53, h108, h109, h110, h111, h112]
  rcases h k hk with h1 | ⟨b, c, f, n, hb, e1, e2, e3, e4, er⟩
  · exact .inl h1
  · exact .inr ⟨b, c, f, n, hb, by rw [h10 b hb]; exact e1, e2, e3, by rw [hc b hb]; exact e4, er⟩
theorem R7_ext {μ μ' : qM} (h0 : μ'.1 0 0 14 = μ.1 0 0 14) (h11 : μ'.1 11 0 61 = μ.1 11 0 61) (h33 : μ'.1 33 2 = μ.1 33 2) (h122 : μ'.1 122 = μ.1 122) (h123 : μ'.1 123 = μ.1 123) (h32 : μ'.1 32 = μ.1 32) (h34 : μ'.1 34 = μ.1 34) (h124 : μ'.1 124 = μ.1 124) (h : R7 μ) : R7 μ' := by
  unfold R7
  rw [h0, h11, h33, h122, h123, h32, h34, h124]
  exact h
theorem R8_ext {μ μ' : qM} (h10 : μ'.1 10 0 = μ.1 10 0) (h55 : μ'.1 11 0 55 = μ.1 11 0 55) (h56 : μ'.1 11 0 56 = μ.1 11 0 56) (h57 : μ'.1 11 0 57 = μ.1 11 0 57) (l3 : μ'.2.1 11 0 3 = μ.2.1 11 0 3) (l10 : μ'.2.1 10 0 = μ.2.1 10 0) (h : R8 μ) : R8 μ' := by
  unfold R8
  rw [h10, h55, h56, h57, l3, l10]
  exact h

