/-! The calls that clear a place: board, drop. -/
theorem rst_WF {n k wd hg : Nat} {v : qB} (hk : k ≤ 3) (h1 : 2 ≤ wd) (h2 : wd ≤ 8) (h3 : 1 ≤ hg) (h4 : hg ≤ 6) : WF n (rstB (nI k) (nI wd) (nI hg) v) := by
  have z0 : (nI 0).toInt = 0 := nI_toInt (by decide)
  refine ⟨⟨k, wd, hg, 0, 4, 10, 0, 0, rfl, hk, rfl, h1, h2, rfl, h3, h4, rfl, Nat.zero_le _, rfl, by decide, by decide, rfl, by decide, by decide, rfl, by decide, rfl, by decide, .inl rfl, ?_, ?_⟩, ⟨fun c => ?_, fun c => ?_, fun c => ?_, fun c => .inl rfl, fun i hi => ?_⟩, ⟨fun i hi => ?_, fun i hi => ?_⟩⟩
  · show -50 ≤ (nI 0).toInt ∧ (nI 0).toInt ≤ 50
    rw [z0]; decide
  · show -50 ≤ (nI 0).toInt ∧ (nI 0).toInt ≤ 50
    rw [z0]; decide
  · show -1000 ≤ (nI 0).toInt ∧ (nI 0).toInt ≤ 1000
    rw [z0]; decide
  · show 0 ≤ (nI 0).toInt ∧ (nI 0).toInt ≤ 100000
    rw [z0]; decide
  · show -100000 ≤ (nI 0).toInt ∧ (nI 0).toInt ≤ 100000
    rw [z0]; decide
  · have q : (nI 0).toNatClampNeg = 0 := nI_clamp (by decide)
    rw [show rstB (nI k) (nI wd) (nI hg) v 0 12 = nI 0 from rfl, q] at hi
    exact absurd hi (Nat.not_lt_zero _)
  · have q : (nI 0).toNatClampNeg = 0 := nI_clamp (by decide)
    rw [show rstB (nI k) (nI wd) (nI hg) v 0 12 = nI 0 from rfl, q] at hi
    exact absurd hi (Nat.not_lt_zero _)
  · have q : (nI 0).toNatClampNeg = 0 := nI_clamp (by decide)
    rw [show rstB (nI k) (nI wd) (nI hg) v 0 13 = nI 0 from rfl, q] at hi
    exact absurd hi (Nat.not_lt_zero _)
theorem rstB_eq {k w h : Int32} {v v' : qB} (e : ∀ t, t ≠ 0 → v t = v' t) : rstB k w h v = rstB k w h v' := by
  funext t s
  unfold rstB
  split <;> first | rfl | rw [e _ (by decide)]
theorem isMK_96 {a : Nat} (h : isMK a = true) : 74 ≤ a ∧ a ≤ 95 := by
  unfold isMK at h
  simp only [Bool.or_eq_true, beq_iff_eq] at h
  omega
theorem isCK_96 {a : Nat} (h : isCK a = true) : a = 2 ∨ a = 3 ∨ a = 4 ∨ (37 ≤ a ∧ a ≤ 44) := by
  unfold isCK at h
  simp only [Bool.or_eq_true, beq_iff_eq] at h
  omega
theorem nMK {a : Nat} (h : a < 74 ∨ 95 < a) : isMK a = false := nf (fun q => by have := isMK_96 q; omega)
theorem ga_sp {a : Nat} (h : ga a = true) : isCK a = false ∧ isMK a = false ∧ a ≠ 5 ∧ a ≠ 8 ∧ a ≠ 9 ∧ a ≠ 99 ∧ a ≠ 100 ∧ a ≠ 105 ∧ a ≠ 108 ∧ ¬ (a = 2 ∨ a = 3 ∨ a = 4 ∨ (37 ≤ a ∧ a ≤ 46)) ∧ ¬ (96 ≤ a ∧ a ≤ 98) := by
  have h0 := h
  unfold ga at h
  simp only [Bool.not_eq_true', Bool.or_eq_false_iff, beq_eq_false_iff_ne, ne_eq] at h
  obtain ⟨⟨⟨⟨⟨⟨⟨⟨⟨⟨⟨⟨⟨h1, h2⟩, h3⟩, h4⟩, h5⟩, h6⟩, h7⟩, h8⟩, h9⟩, h10⟩, h11⟩, h12⟩, h13⟩, h14⟩ := h
  refine ⟨h1, h2, h3, h4, h5, h6, h7, h8, h9, fun q => ?_, by omega⟩
  have : isCK a = true := by
    unfold isCK
    simp only [Bool.or_eq_true, beq_iff_eq]
    omega
  rw [h1] at this
  cases this
/-- the class's side: b's neighbours behind the clearing -/
def CS (μ : qM) (U : Nat → Bool) (j : Nat) (u : qM) : Prop := (∀ a, ¬ (a = 2 ∨ a = 3 ∨ a = 4 ∨ a = 5 ∨ a = 8 ∨ a = 9 ∨ (37 ≤ a ∧ a ≤ 46)) → u.1 a = μ.1 a) ∧ u.2 = μ.2 ∧ (∀ x, x ≠ j → cB u x = cB μ x) ∧ (∀ x, x < 6 → x ≠ j → u.1 2 x 10 = if U x = true then nI 1 else nI 0) ∧ (∀ x, x ≠ j → u.1 5 x = μ.1 5 x ∧ u.1 45 x = μ.1 45 x ∧ u.1 46 x = μ.1 46 x) ∧ (∀ k, k < 8 → u.1 8 k 0 = bo U (μ.1 8 k 0)) ∧ (∀ k s, s ≠ 0 → u.1 8 k s = μ.1 8 k s) ∧ (∀ k, k < 8 → u.1 9 k 2 = bo U (μ.1 9 k 2)) ∧ (∀ k s, s ≠ 2 → u.1 9 k s = μ.1 9 k s)
theorem CS.of {μ u1 u : qM} {U : Nat → Bool} {j : Nat} (h : ClC μ U u1) (r : ∀ k i s, ¬ (i = j ∧ (k = 2 ∨ k = 3 ∨ k = 4 ∨ k = 5 ∨ (37 ≤ k ∧ k ≤ 46))) → u.1 k i s = u1.1 k i s) (r2 : u.2 = u1.2) : CS μ U j u := by
  have sl : ∀ k x, x ≠ j → u.1 k x = u1.1 k x := fun k x q => funext (fun s => r k x s (fun z => q z.1))
  obtain ⟨a1, a2, a3, a4, a5⟩ := h
  have h : ClC μ U u1 := ⟨a1, a2, a3, a4, a5⟩
  refine ⟨fun a q => ?_, r2.trans a2, fun x q => ?_, fun x hx q => ?_, fun x q => ⟨?_, ?_, ?_⟩, fun k hk => ?_, fun k s q => ?_, fun k hk => ?_, fun k s q => ?_⟩
  · rw [← h.g (a := a) (by omega) (by omega) (by omega)]
    funext i s
    exact r a i s (by omega)
  · rw [← ClC_cB h x]
    apply cB_ext <;> exact sl _ _ q
  · rw [sl 2 x q]
    exact a3 x hx
  · rw [sl 5 x q, h.g (a := 5) (by decide) (by decide) (by decide)]
  · rw [sl 45 x q, h.g (a := 45) (by decide) (by decide) (by decide)]
  · rw [sl 46 x q, h.g (a := 46) (by decide) (by decide) (by decide)]
  · rw [r 8 k 0 (by omega)]
    exact a4 k hk
  · rw [r 8 k s (by omega)]
    exact a1 8 k s (by omega) (by omega) (by omega)
  · rw [r 9 k 2 (by omega)]
    exact a5 k hk
  · rw [r 9 k s (by omega)]
    exact a1 9 k s (by omega) (by omega) (by omega)
/-- the reference's side -/
def MS (μ : qM) (U : Nat → Bool) (j : Nat) (u : qM) : Prop := (∀ a, isMK a = false → ¬ (96 ≤ a ∧ a ≤ 100) → a ≠ 105 → a ≠ 108 → u.1 a = μ.1 a) ∧ u.2 = μ.2 ∧ (∀ x, x < 6 → x ≠ j → U x = true → mB u x = mB μ x) ∧ (∀ x, x < 6 → x ≠ j → ∀ t, t ≠ 0 → mB u x t = mB μ x t) ∧ (∀ x, x < 6 → x ≠ j → U x = false → u.1 74 0 x = -nI 9) ∧ (∀ x, x < 6 → x ≠ j → u.1 96 0 x = μ.1 96 0 x ∧ u.1 97 0 x = μ.1 97 0 x ∧ u.1 98 0 x = μ.1 98 0 x) ∧ (∀ x, x < 6 → x ≠ j → ∀ s, s < 48 → u.1 99 0 (48 * x + s) = μ.1 99 0 (48 * x + s) ∧ u.1 100 0 (48 * x + s) = μ.1 100 0 (48 * x + s)) ∧ (∀ k, k < 8 → u.1 105 0 k = bo U (μ.1 105 0 k)) ∧ (∀ k, k < 8 → u.1 108 0 k = bo U (μ.1 108 0 k))
theorem MS.of {μ u1 u : qM} {U : Nat → Bool} {j : Nat} (h : ClM μ U u1) (r : ∀ k i s, ¬ (isMK k = true ∧ i = 0) → ¬ (96 ≤ k ∧ k ≤ 98 ∧ i = 0 ∧ s = j) → ¬ (k = 99 ∧ i = 0 ∧ 48 * j ≤ s ∧ s < 48 * j + 48) → ¬ (k = 100 ∧ i = 0 ∧ 48 * j ≤ s ∧ s < 48 * j + 48) → u.1 k i s = u1.1 k i s) (r2 : u.2 = u1.2) (r3 : ∀ x, x ≠ j → mB u x = mB u1 x) : MS μ U j u := by
  obtain ⟨a1, a2, a3, a4, a5⟩ := h
  have h : ClM μ U u1 := ⟨a1, a2, a3, a4, a5⟩
  refine ⟨fun a q1 q2 q3 q4 => ?_, r2.trans a2, fun x hx q hu => ?_, fun x hx q t ht => ?_, fun x hx q hu => ?_, fun x hx q => ⟨?_, ?_, ?_⟩, fun x hx q s hs => ⟨?_, ?_⟩, fun k hk => ?_, fun k hk => ?_⟩
  · have e74 : a ≠ 74 := fun z => by rw [z] at q1; cases q1
    rw [← h.g (a := a) e74 q3 q4]
    funext i s
    exact r a i s (fun z => by rw [q1] at z; cases z.1) (by omega) (by omega) (by omega)
  · rw [r3 x q]
    exact ClM_mBU h hx hu
  · rw [r3 x q]
    exact ClM_mB h x t ht
  · have e := congrFun (congrFun (r3 x q) 0) 0
    have e2 := a3 x hx
    rw [hu, if_neg (by decide)] at e2
    exact e.trans e2
  · rw [r 96 0 x (fun z => by cases z.1) (by omega) (by omega) (by omega)]
    exact congrFun (congrFun (h.g (a := 96) (by decide) (by decide) (by decide)) _) _
  · rw [r 97 0 x (fun z => by cases z.1) (by omega) (by omega) (by omega)]
    exact congrFun (congrFun (h.g (a := 97) (by decide) (by decide) (by decide)) _) _
  · rw [r 98 0 x (fun z => by cases z.1) (by omega) (by omega) (by omega)]
    exact congrFun (congrFun (h.g (a := 98) (by decide) (by decide) (by decide)) _) _
  · rw [r 99 0 _ (fun z => by cases z.1) (by omega) (by omega) (by omega)]
    exact congrFun (congrFun (h.g (a := 99) (by decide) (by decide) (by decide)) _) _
  · rw [r 100 0 _ (fun z => by cases z.1) (by omega) (by omega) (by omega)]
    exact congrFun (congrFun (h.g (a := 100) (by decide) (by decide) (by decide)) _) _
  · rw [r 105 0 k (fun z => by cases z.1) (by omega) (by omega) (by omega)]
    exact a4 k hk
  · rw [r 108 0 k (fun z => by cases z.1) (by omega) (by omega) (by omega)]
    exact a5 k hk
theorem Rel_fin {n b : Nat} {μ u μ' : qM} {th ne U V : Nat → Bool} {on dep : Nat → Nat} (h : Rel n μ) (hb : b < 6) (hf : CF μ th ne on) (hn : NF th ne on dep) (hU : EU th ne on b U) (hV : EU th ne on b V) (hc : CS μ U b u) (hm : MS u V b μ') (hB : R3b (n + 1) μ' b) (h4 : R4 μ') : Rel (n + 1) μ' := by
  have hUV := hU.uniq hn hV
  obtain ⟨a1, a2, a3, a4, a5, a6, a7, a8, a9⟩ := hc
  obtain ⟨b1, b2, b3, b4, b5, b6, b7, b8, b9⟩ := hm
  have cl : ∀ a, a < 66 → μ'.1 a = u.1 a := fun a q => b1 a (nMK (by omega)) (by omega) (by omega) (by omega)
  have ml : ∀ a, 66 ≤ a → u.1 a = μ.1 a := fun a q => a1 a (by omega)
  have mbu : ∀ x, mB u x = mB μ x := fun x => mB_ext (ml _ (by decide)) (ml _ (by decide)) (ml _ (by decide)) (ml _ (by decide)) (ml _ (by decide)) (ml _ (by decide)) (ml _ (by decide)) (ml _ (by decide)) (ml _ (by decide)) (ml _ (by decide)) (ml _ (by decide)) (ml _ (by decide)) (ml _ (by decide)) (ml _ (by decide)) (ml _ (by decide)) (ml _ (by decide)) (ml _ (by decide)) (ml _ (by decide)) (ml _ (by decide)) (ml _ (by decide)) (ml _ (by decide)) (ml _ (by decide))
  have cbu : ∀ x, cB μ' x = cB u x := fun x => cB_ext (by rw [cl _ (by decide)]) (by rw [cl _ (by decide)]) (by rw [cl _ (by decide)]) (by rw [cl _ (by decide)]) (by rw [cl _ (by decide)]) (by rw [cl _ (by decide)]) (by rw [cl _ (by decide)]) (by rw [cl _ (by decide)]) (by rw [cl _ (by decide)]) (by rw [cl _ (by decide)]) (by rw [cl _ (by decide)])
  refine Rel_new (U := U) h hb hf (fun x hx h1 h2 => (hn x hx h1 h2).1) hU (fun a q => ?_) (b2.trans a2) (fun x hx q => (cbu x).trans (a3 x q)) (fun x hx q hu => (b3 x hx q (by rw [← hUV x hx]; exact hu)).trans (mbu x)) (fun x hx q t ht => (b4 x hx q t ht).trans (by rw [mbu x])) (fun x hx q => by rw [cl 2 (by decide)]; exact a4 x hx q) (fun x hx q hu => b5 x hx q (by rw [← hUV x hx]; exact hu)) (fun x hx q => by rw [cl 5 (by decide)]; exact (a5 x q).1) (fun x hx q => by rw [cl 45 (by decide)]; exact (a5 x q).2.1) (fun x hx q => by rw [cl 46 (by decide)]; exact (a5 x q).2.2) (fun x hx q => by rw [← ml 96 (by decide)]; exact (b6 x hx q).1) (fun x hx q => by rw [← ml 97 (by decide)]; exact (b6 x hx q).2.1) (fun x hx q => by rw [← ml 98 (by decide)]; exact (b6 x hx q).2.2) (fun x hx q s hs => by rw [← ml 99 (by decide)]; exact (b7 x hx q s hs).1) (fun x hx q s hs => by rw [← ml 100 (by decide)]; exact (b7 x hx q s hs).2) (fun k hk => by rw [cl 8 (by decide)]; exact a6 k hk) (fun k hk s q => by rw [cl 8 (by decide)]; exact a7 k s q) (fun k hk => by rw [cl 9 (by decide)]; exact a8 k hk) (fun k hk s q => by rw [cl 9 (by decide)]; exact a9 k s q) (fun k hk => by rw [b8 k hk, ml 105 (by decide)]; exact (bo_eq hUV _).symm) (fun k hk => by rw [b9 k hk, ml 108 (by decide)]; exact (bo_eq hUV _).symm) hB h4
  obtain ⟨g1, g2, g3, g4, g5, g6, g7, g8, g9, g10, g11⟩ := ga_sp q
  rcases Nat.lt_or_ge a 66 with hl | hl
  · rw [cl a hl]
    exact a1 a (by omega)
  · rw [← ml a hl]
    exact b1 a g2 (by omega) g8 g9
