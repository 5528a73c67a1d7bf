abbrev qB : Type := Nat → Nat → Int32
def cB (μ : qM) (b : Nat) : qB := fun t s => match t with
  | 0 => (match s with | 0 => μ.1 2 b 11 | 1 => μ.1 2 b 12 | 2 => μ.1 2 b 13 | 3 => μ.1 2 b 14 | 4 => μ.1 2 b 15 | 5 => μ.1 2 b 16 | 6 => μ.1 2 b 17 | 7 => μ.1 2 b 18 | 8 => μ.1 3 b 0 | 9 => μ.1 3 b 1 | 10 => μ.1 3 b 2 | 11 => μ.1 3 b 3 | 12 => μ.1 4 b 2 | 13 => μ.1 2 b 9 | _ => 0)
  | 1 => if s < 48 then μ.1 37 b s else 0
  | 2 => if s < 48 then μ.1 38 b s else 0
  | 3 => if s < 144 then μ.1 39 b s else 0
  | 4 => if s < 96 then μ.1 40 b s else 0
  | 5 => if s < 96 then μ.1 41 b s else 0
  | 6 => if s < 4 then μ.1 42 b s else 0
  | 7 => if s < 4 then μ.1 43 b s else 0
  | 8 => if s < 4 then μ.1 44 b s else 0
  | _ => 0
def bset (v : qB) (t s : Nat) (x : Int32) : qB := fun t' s' => if t' = t ∧ s' = s then x else v t' s'
theorem bs_t {v : qB} {t s t' : Nat} {x : Int32} (h : t' ≠ t) : bset v t s x t' = v t' := by
  funext s'
  exact if_neg (fun q => h q.1)
theorem bs_s {v : qB} {t s t' s' : Nat} {x : Int32} (h : s' ≠ s) : bset v t s x t' s' = v t' s' := if_neg (fun q => h q.2)
theorem bs_e {v : qB} {t s : Nat} {x : Int32} : bset v t s x t s = x := if_pos ⟨rfl, rfl⟩
theorem bs_c {v : qB} {t s s' : Nat} {x : Int32} : bset v t s x t s' = if s' = s then x else v t s' := by
  by_cases h : s' = s
  · subst h
    rw [bs_e, if_pos rfl]
  · rw [bs_s h, if_neg h]
theorem cB_ext {μ μ' : qM} {b : Nat} (h2 : μ'.1 2 b = μ.1 2 b) (h3 : μ'.1 3 b = μ.1 3 b) (h4 : μ'.1 4 b = μ.1 4 b) (h37 : μ'.1 37 b = μ.1 37 b) (h38 : μ'.1 38 b = μ.1 38 b) (h39 : μ'.1 39 b = μ.1 39 b) (h40 : μ'.1 40 b = μ.1 40 b) (h41 : μ'.1 41 b = μ.1 41 b) (h42 : μ'.1 42 b = μ.1 42 b) (h43 : μ'.1 43 b = μ.1 43 b) (h44 : μ'.1 44 b = μ.1 44 b) : cB μ' b = cB μ b := by
  unfold cB
  rw [h2, h3, h4, h37, h38, h39, h40, h41, h42, h43, h44]
theorem cR_1 {μ : qM} {b s : Nat} (h : s < 48) : cB μ b 1 s = μ.1 37 b s := if_pos h
theorem cR_2 {μ : qM} {b s : Nat} (h : s < 48) : cB μ b 2 s = μ.1 38 b s := if_pos h
theorem cR_3 {μ : qM} {b s : Nat} (h : s < 144) : cB μ b 3 s = μ.1 39 b s := if_pos h
theorem cR_4 {μ : qM} {b s : Nat} (h : s < 96) : cB μ b 4 s = μ.1 40 b s := if_pos h
theorem cR_5 {μ : qM} {b s : Nat} (h : s < 96) : cB μ b 5 s = μ.1 41 b s := if_pos h
theorem cR_7 {μ : qM} {b s : Nat} (h : s < 4) : cB μ b 7 s = μ.1 43 b s := if_pos h
theorem cR_8 {μ : qM} {b s : Nat} (h : s < 4) : cB μ b 8 s = μ.1 44 b s := if_pos h
def isCK (k : Nat) : Bool := k == 2 || k == 3 || k == 4 || k == 37 || k == 38 || k == 39 || k == 40 || k == 41 || k == 42 || k == 43 || k == 44
theorem cB_o {μ : qM} {k i s b : Nat} {v : Int32} (h : isCK k = false) : cB (q_si μ k i s v) b = cB μ b := by
  have hk : ∀ a, isCK a = true → a ≠ k := fun a ha e => by rw [e, h] at ha; cases ha
  apply cB_ext <;> rw [si_k (hk _ rfl)]
theorem cW_0_3 {μ : qM} {b : Nat} {v : Int32} : cB (q_si μ 2 b 14 v) b = bset (cB μ b) 0 3 v := by
  funext t s
  by_cases ht : t = 0
  · subst ht
    by_cases hs : s = 3
    · subst hs
      rw [bs_e]
      exact si_e
    · rw [bs_s hs]
      unfold cB
      split
      · split <;> first | rfl | exact absurd rfl hs | exact si_s (by decide) | exact congrFun (congrFun (si_k (by decide)) _) _
      all_goals first | omega | simp_all
  · rw [bs_t ht]
    unfold cB
    split <;> first | exact absurd rfl ht | rfl | rw [si_k (by decide)]
theorem cW_0_5 {μ : qM} {b : Nat} {v : Int32} : cB (q_si μ 2 b 16 v) b = bset (cB μ b) 0 5 v := by
  funext t s
  by_cases ht : t = 0
  · subst ht
    by_cases hs : s = 5
    · subst hs
      rw [bs_e]
      exact si_e
    · rw [bs_s hs]
      unfold cB
      split
      · split <;> first | rfl | exact absurd rfl hs | exact si_s (by decide) | exact congrFun (congrFun (si_k (by decide)) _) _
      all_goals first | omega | simp_all
  · rw [bs_t ht]
    unfold cB
    split <;> first | exact absurd rfl ht | rfl | rw [si_k (by decide)]
theorem cW_0_6 {μ : qM} {b : Nat} {v : Int32} : cB (q_si μ 2 b 17 v) b = bset (cB μ b) 0 6 v := by
  funext t s
  by_cases ht : t = 0
  · subst ht
    by_cases hs : s = 6
    · subst hs
      rw [bs_e]
      exact si_e
    · rw [bs_s hs]
      unfold cB
      split
      · split <;> first | rfl | exact absurd rfl hs | exact si_s (by decide) | exact congrFun (congrFun (si_k (by decide)) _) _
      all_goals first | omega | simp_all
  · rw [bs_t ht]
    unfold cB
    split <;> first | exact absurd rfl ht | rfl | rw [si_k (by decide)]
theorem cW_0_7 {μ : qM} {b : Nat} {v : Int32} : cB (q_si μ 2 b 18 v) b = bset (cB μ b) 0 7 v := by
  funext t s
  by_cases ht : t = 0
  · subst ht
    by_cases hs : s = 7
    · subst hs
      rw [bs_e]
      exact si_e
    · rw [bs_s hs]
      unfold cB
      split
      · split <;> first | rfl | exact absurd rfl hs | exact si_s (by decide) | exact congrFun (congrFun (si_k (by decide)) _) _
      all_goals first | omega | simp_all
  · rw [bs_t ht]
    unfold cB
    split <;> first | exact absurd rfl ht | rfl | rw [si_k (by decide)]
theorem cW_0_8 {μ : qM} {b : Nat} {v : Int32} : cB (q_si μ 3 b 0 v) b = bset (cB μ b) 0 8 v := by
  funext t s
  by_cases ht : t = 0
  · subst ht
    by_cases hs : s = 8
    · subst hs
      rw [bs_e]
      exact si_e
    · rw [bs_s hs]
      unfold cB
      split
      · split <;> first | rfl | exact absurd rfl hs | exact si_s (by decide) | exact congrFun (congrFun (si_k (by decide)) _) _
      all_goals first | omega | simp_all
  · rw [bs_t ht]
    unfold cB
    split <;> first | exact absurd rfl ht | rfl | rw [si_k (by decide)]
theorem cW_0_9 {μ : qM} {b : Nat} {v : Int32} : cB (q_si μ 3 b 1 v) b = bset (cB μ b) 0 9 v := by
  funext t s
  by_cases ht : t = 0
  · subst ht
    by_cases hs : s = 9
    · subst hs
      rw [bs_e]
      exact si_e
    · rw [bs_s hs]
      unfold cB
      split
      · split <;> first | rfl | exact absurd rfl hs | exact si_s (by decide) | exact congrFun (congrFun (si_k (by decide)) _) _
      all_goals first | omega | simp_all
  · rw [bs_t ht]
    unfold cB
    split <;> first | exact absurd rfl ht | rfl | rw [si_k (by decide)]
theorem cW_0_10 {μ : qM} {b : Nat} {v : Int32} : cB (q_si μ 3 b 2 v) b = bset (cB μ b) 0 10 v := by
  funext t s
  by_cases ht : t = 0
  · subst ht
    by_cases hs : s = 10
    · subst hs
      rw [bs_e]
      exact si_e
    · rw [bs_s hs]
      unfold cB
      split
      · split <;> first | rfl | exact absurd rfl hs | exact si_s (by decide) | exact congrFun (congrFun (si_k (by decide)) _) _
      all_goals first | omega | simp_all
  · rw [bs_t ht]
    unfold cB
    split <;> first | exact absurd rfl ht | rfl | rw [si_k (by decide)]
theorem cW_0_11 {μ : qM} {b : Nat} {v : Int32} : cB (q_si μ 3 b 3 v) b = bset (cB μ b) 0 11 v := by
  funext t s
  by_cases ht : t = 0
  · subst ht
    by_cases hs : s = 11
    · subst hs
      rw [bs_e]
      exact si_e
    · rw [bs_s hs]
      unfold cB
      split
      · split <;> first | rfl | exact absurd rfl hs | exact si_s (by decide) | exact congrFun (congrFun (si_k (by decide)) _) _
      all_goals first | omega | simp_all
  · rw [bs_t ht]
    unfold cB
    split <;> first | exact absurd rfl ht | rfl | rw [si_k (by decide)]
theorem cW_0_12 {μ : qM} {b : Nat} {v : Int32} : cB (q_si μ 4 b 2 v) b = bset (cB μ b) 0 12 v := by
  funext t s
  by_cases ht : t = 0
  · subst ht
    by_cases hs : s = 12
    · subst hs
      rw [bs_e]
      exact si_e
    · rw [bs_s hs]
      unfold cB
      split
      · split <;> first | rfl | exact absurd rfl hs | exact si_s (by decide) | exact congrFun (congrFun (si_k (by decide)) _) _
      all_goals first | omega | simp_all
  · rw [bs_t ht]
    unfold cB
    split <;> first | exact absurd rfl ht | rfl | rw [si_k (by decide)]
theorem cW_1 {μ : qM} {b c : Nat} {v : Int32} (h : c < 48) : cB (q_si μ 37 b c v) b = bset (cB μ b) 1 c v := by
  funext t s
  by_cases ht : t = 1
  · subst ht
    by_cases hs : s = c
    · subst hs
      rw [bs_e, cR_1 h]
      exact si_e
    · rw [bs_s hs]
      show (if s < 48 then (q_si μ 37 b c v).1 37 b s else 0) = (if s < 48 then μ.1 37 b s else 0)
      rw [si_s hs]
  · rw [bs_t ht]
    unfold cB
    split
    · split <;> first | rfl | exact congrFun (congrFun (si_k (by decide)) _) _
    all_goals first | exact absurd rfl ht | rfl | rw [si_k (by decide)]
theorem cW_2 {μ : qM} {b c : Nat} {v : Int32} (h : c < 48) : cB (q_si μ 38 b c v) b = bset (cB μ b) 2 c v := by
  funext t s
  by_cases ht : t = 2
  · subst ht
    by_cases hs : s = c
    · subst hs
      rw [bs_e, cR_2 h]
      exact si_e
    · rw [bs_s hs]
      show (if s < 48 then (q_si μ 38 b c v).1 38 b s else 0) = (if s < 48 then μ.1 38 b s else 0)
      rw [si_s hs]
  · rw [bs_t ht]
    unfold cB
    split
    · split <;> first | rfl | exact congrFun (congrFun (si_k (by decide)) _) _
    all_goals first | exact absurd rfl ht | rfl | rw [si_k (by decide)]
theorem cW_3 {μ : qM} {b c : Nat} {v : Int32} (h : c < 144) : cB (q_si μ 39 b c v) b = bset (cB μ b) 3 c v := by
  funext t s
  by_cases ht : t = 3
  · subst ht
    by_cases hs : s = c
    · subst hs
      rw [bs_e, cR_3 h]
      exact si_e
    · rw [bs_s hs]
      show (if s < 144 then (q_si μ 39 b c v).1 39 b s else 0) = (if s < 144 then μ.1 39 b s else 0)
      rw [si_s hs]
  · rw [bs_t ht]
    unfold cB
    split
    · split <;> first | rfl | exact congrFun (congrFun (si_k (by decide)) _) _
    all_goals first | exact absurd rfl ht | rfl | rw [si_k (by decide)]
theorem cW_5 {μ : qM} {b c : Nat} {v : Int32} (h : c < 96) : cB (q_si μ 41 b c v) b = bset (cB μ b) 5 c v := by
  funext t s
  by_cases ht : t = 5
  · subst ht
    by_cases hs : s = c
    · subst hs
      rw [bs_e, cR_5 h]
      exact si_e
    · rw [bs_s hs]
      show (if s < 96 then (q_si μ 41 b c v).1 41 b s else 0) = (if s < 96 then μ.1 41 b s else 0)
      rw [si_s hs]
  · rw [bs_t ht]
    unfold cB
    split
    · split <;> first | rfl | exact congrFun (congrFun (si_k (by decide)) _) _
    all_goals first | exact absurd rfl ht | rfl | rw [si_k (by decide)]
theorem cW_7 {μ : qM} {b c : Nat} {v : Int32} (h : c < 4) : cB (q_si μ 43 b c v) b = bset (cB μ b) 7 c v := by
  funext t s
  by_cases ht : t = 7
  · subst ht
    by_cases hs : s = c
    · subst hs
      rw [bs_e, cR_7 h]
      exact si_e
    · rw [bs_s hs]
      show (if s < 4 then (q_si μ 43 b c v).1 43 b s else 0) = (if s < 4 then μ.1 43 b s else 0)
      rw [si_s hs]
  · rw [bs_t ht]
    unfold cB
    split
    · split <;> first | rfl | exact congrFun (congrFun (si_k (by decide)) _) _
    all_goals first | exact absurd rfl ht | rfl | rw [si_k (by decide)]
theorem cW_8 {μ : qM} {b c : Nat} {v : Int32} (h : c < 4) : cB (q_si μ 44 b c v) b = bset (cB μ b) 8 c v := by
  funext t s
  by_cases ht : t = 8
  · subst ht
    by_cases hs : s = c
    · subst hs
      rw [bs_e, cR_8 h]
      exact si_e
    · rw [bs_s hs]
      show (if s < 4 then (q_si μ 44 b c v).1 44 b s else 0) = (if s < 4 then μ.1 44 b s else 0)
      rw [si_s hs]
  · rw [bs_t ht]
    unfold cB
    split
    · split <;> first | rfl | exact congrFun (congrFun (si_k (by decide)) _) _
    all_goals first | exact absurd rfl ht | rfl | rw [si_k (by decide)]
def nW (v : qB) : Nat := (v 0 1).toNatClampNeg
def nH (v : qB) : Nat := (v 0 2).toNatClampNeg
def nN (v : qB) : Nat := nW v * nH v
/-- the numbers of a board that is there, after at most n calls -/
def WF0 (n : Nat) (v : qB) : Prop := ∃ k wd hg st p d rc pc : Nat, v 0 0 = nI k ∧ k ≤ 3 ∧ v 0 1 = nI wd ∧ 2 ≤ wd ∧ wd ≤ 8 ∧ v 0 2 = nI hg ∧ 1 ≤ hg ∧ hg ≤ 6 ∧ v 0 3 = nI st ∧ st ≤ n ∧ v 0 8 = nI p ∧ 1 ≤ p ∧ p ≤ 8 ∧ v 0 9 = nI d ∧ 2 ≤ d ∧ d ≤ 1000 ∧ v 0 12 = nI rc ∧ rc ≤ 4 ∧ v 0 13 = nI pc ∧ pc ≤ 4 ∧ (v 0 6 = -9 ∨ ∃ r, r < 6 ∧ v 0 6 = nI r) ∧ (-50 ≤ (v 0 10).toInt ∧ (v 0 10).toInt ≤ 50) ∧ (-50 ≤ (v 0 11).toInt ∧ (v 0 11).toInt ≤ 50)
def WF1 (v : qB) : Prop := (∀ c, -1000 ≤ (v 1 c).toInt ∧ (v 1 c).toInt ≤ 1000) ∧ (∀ c, 0 ≤ (v 2 c).toInt ∧ (v 2 c).toInt ≤ 100000) ∧ (∀ c, -100000 ≤ (v 4 c).toInt ∧ (v 4 c).toInt ≤ 100000) ∧ (∀ c, v 5 c = 0 ∨ v 5 c = 1) ∧ (∀ k, k < (v 0 12).toNatClampNeg → 0 ≤ (v 8 k).toInt ∧ (v 8 k).toInt ≤ 1000)
def WF2 (v : qB) : Prop := (∀ k, k < (v 0 12).toNatClampNeg → ∃ c, c < nN v ∧ v 7 k = nI c) ∧ (∀ k, k < (v 0 13).toNatClampNeg → ∃ f, f < 2 * nN v ∧ v 6 k = nI f)
def WF (n : Nat) (v : qB) : Prop := WF0 n v ∧ WF1 v ∧ WF2 v
theorem WF.mono {n m : Nat} {v : qB} (h : WF n v) (hm : n ≤ m) : WF m v := by
  obtain ⟨⟨k, wd, hg, st, p, d, rc, pc, h1, h2, h3, h4, h5, h6, h7, h8, h9, h10, hr⟩, h'⟩ := h
  exact ⟨⟨k, wd, hg, st, p, d, rc, pc, h1, h2, h3, h4, h5, h6, h7, h8, h9, Nat.le_trans h10 hm, hr⟩, h'⟩
