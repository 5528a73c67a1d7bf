/-! One step on both sides. -/
/-- what is known of the class's cells alone, of a board that is there -/
theorem Rel.cls {n b : Nat} {c m : qM} (h : Rel n (mix c m)) (hb : b < 6) (ht : c.1 2 b 10 = nI 1) : WF n (cB c b) ∧ SZ (c.1 33 0) ∧ BC c b (nN (cB c b)) ∧ GC c b (nN (cB c b)) := by
  have e2 : (mix c m).1 2 = c.1 2 := mix_c rfl
  have e8 : (mix c m).1 8 = c.1 8 := mix_c rfl
  have e9 : (mix c m).1 9 = c.1 9 := mix_c rfl
  have ht' : (mix c m).1 2 b 10 = nI 1 := by rw [e2]; exact ht
  have hw := bWF (h.2.2.2.1 b hb) ht'
  rw [cB_mix] at hw
  have hs := h.2.1.szC
  rw [show (mix c m).1 33 = c.1 33 from mix_c rfl] at hs
  refine ⟨hw, hs, fun k hk hq => ?_, fun g hg hq => ?_⟩
  · rcases h.2.2.2.2.2.1 k hk with ⟨z, -⟩ | ⟨x, c', d, hx, z1, z2, z3, z4, z5, z6, z7, z8, z9, z10⟩
    · rw [e8, hq] at z
      exact absurd z (by rw [show (-9 : Int32) = -nI 9 from rfl]; simp (disch := omega) only [ng_qe, not_false_eq_true])
    · rw [e8] at z2 z5 z9
      rw [hq, nI_eq (by omega) (by omega)] at z2
      subst z2
      rw [cB_mix] at z4
      exact ⟨c', d, z5, z9, z4, z7, z8⟩
  · rcases h.2.2.2.2.2.2.1 g hg with ⟨z, -⟩ | ⟨x, c', f, n', hx, z1, z2, z3, z4, z5, z6, z7, z8, z9, z10, z11, -⟩
    · rw [e9, hq] at z
      exact absurd z (by rw [show (-9 : Int32) = -nI 9 from rfl]; simp (disch := omega) only [ng_qe, not_false_eq_true])
    · rw [e9] at z2 z5 z9 z10
      rw [hq, nI_eq (by omega) (by omega)] at z2
      subst z2
      rw [cB_mix] at z4
      exact ⟨c', f, n', z5, z9, z10, z4, z7, z8⟩
theorem Rel.mdl {n b : Nat} {c m : qM} (hn : n ≤ 2000000) (h : Rel n (mix c m)) (hb : b < 6) (ht : c.1 2 b 10 = nI 1) : mB m b = cB c b ∧ SZ (m.1 66 0) ∧ BM m b (nN (cB c b)) ∧ GM m b (nN (cB c b)) ∧ (∀ g, g < 8 → m.1 108 0 g = nI b → m.1 110 0 g = nI 48 → ∀ s, s < 48 → m.1 112 0 (48 * g + s) = 0 ∨ m.1 112 0 (48 * g + s) = 1) ∧ tdM m (cB c b) = tdC c (cB c b) := by
  have e2 : (mix c m).1 2 = c.1 2 := mix_c rfl
  have ht' : (mix c m).1 2 b 10 = nI 1 := by rw [e2]; exact ht
  have hw := bWF (h.2.2.2.1 b hb) ht'
  have he := bEq (h.2.2.2.1 b hb) ht'
  rw [cB_mix] at hw
  rw [cB_mix, mB_mix] at he
  have hs := h.2.1.szM
  rw [show (mix c m).1 66 = m.1 66 from mix_m rfl] at hs
  have e105 : (mix c m).1 105 = m.1 105 := mix_m rfl
  have e106 : (mix c m).1 106 = m.1 106 := mix_m rfl
  have e107 : (mix c m).1 107 = m.1 107 := mix_m rfl
  have e108 : (mix c m).1 108 = m.1 108 := mix_m rfl
  have e109 : (mix c m).1 109 = m.1 109 := mix_m rfl
  have e110 : (mix c m).1 110 = m.1 110 := mix_m rfl
  have e112 : (mix c m).1 112 = m.1 112 := mix_m rfl
  refine ⟨he, hs, fun k hk hq => ?_, fun g hg hq => ?_, fun g hg hq h48 s hs' => ?_, ?_⟩
  · rcases h.2.2.2.2.2.1 k hk with ⟨-, z⟩ | ⟨x, c', d, hx, z1, z2, z3, z4, z5, z6, z7, z8, z9, z10⟩
    · rw [e105, hq] at z
      exact absurd z (by rw [show (-9 : Int32) = -nI 9 from rfl]; simp (disch := omega) only [ng_qe, not_false_eq_true])
    · rw [e105, hq, nI_eq (by omega) (by omega)] at z3
      subst z3
      rw [cB_mix] at z4
      rw [e106] at z6
      rw [e107] at z10
      exact ⟨c', d, z6, z10, z4, z7, z8⟩
  · rcases h.2.2.2.2.2.2.1 g hg with ⟨-, z⟩ | ⟨x, c', f, n', hx, z1, z2, z3, z4, z5, z6, z7, z8, z9, z10, z11, -⟩
    · rw [e108, hq] at z
      exact absurd z (by rw [show (-9 : Int32) = -nI 9 from rfl]; simp (disch := omega) only [ng_qe, not_false_eq_true])
    · rw [e108, hq, nI_eq (by omega) (by omega)] at z3
      subst z3
      rw [cB_mix] at z4
      rw [e109] at z6
      rw [e110] at z11
      exact ⟨c', n', z6, z11, z4, z8⟩
  · rcases h.2.2.2.2.2.2.1 g hg with ⟨-, z⟩ | ⟨x, c', f, n', hx, z1, z2, z3, z4, z5, z6, z7, z8, z9, z10, z11, z12⟩
    · rw [e108, hq] at z
      exact absurd z (by rw [show (-9 : Int32) = -nI 9 from rfl]; simp (disch := omega) only [ng_qe, not_false_eq_true])
    · rw [e110, h48, nI_eq (by omega) (by omega)] at z11
      obtain ⟨y1, y2, y3, -⟩ := z12 s (by omega)
      rw [e112] at y2
      rw [y2]
      exact y3
  · have e := td_eq (μ := mix c m) hn h.2.1 hw.1
    unfold tdM tdC at e ⊢
    rw [show (mix c m).1 66 = m.1 66 from mix_m rfl, show (mix c m).1 67 = m.1 67 from mix_m rfl, show (mix c m).1 33 = c.1 33 from mix_c rfl, show (mix c m).1 30 = c.1 30 from mix_c rfl] at e
    exact e
/-- the memories behind a step, cell by cell -/
theorem Rel_step {n b : Nat} {c m c' m' : qM} {X : qB} (h : Rel n (mix c m)) (hb : b < 6) (ht : c.1 2 b 10 = nI 1)
    (hC : ∀ a i s, a < 47 ∨ 50 < a → ¬ (i = b ∧ (a = 38 ∨ a = 39 ∨ a = 40 ∨ (a = 2 ∧ (s = 14 ∨ s = 15 ∨ s = 16)))) → ¬ (a = 8 ∧ i < 8 ∧ s = 1) → ¬ (i < 8 ∧ (a = 52 ∨ a = 53 ∨ (a = 9 ∧ (s = 4 ∨ s = 5)))) → isM a = false → c'.1 a i s = c.1 a i s) (hCl : c'.2 = c.2)
    (hM : ∀ a i s, a < 101 ∨ 104 < a → ¬ (i = 0 ∧ (((a = 81 ∨ a = 82 ∨ a = 83) ∧ s = b) ∨ (a = 92 ∧ 48 * b ≤ s ∧ s < 48 * b + 48) ∨ (a = 93 ∧ 144 * b ≤ s ∧ s < 144 * b + 144) ∨ (a = 94 ∧ 96 * b ≤ s ∧ s < 96 * b + 96) ∨ (a = 106 ∧ s < 8) ∨ a = 110 ∨ a = 111 ∨ a = 112)) → isM a = true → m'.1 a i s = m.1 a i s) (hMl : m'.2 = m.2)
    (hX : cB c' b = X) (hY : mB m' b = X) (hX0 : X 0 0 = cB c b 0 0) (hX1 : X 0 1 = cB c b 0 1) (hX2 : X 0 2 = cB c b 0 2) (hW : WF (n + 1) X)
    (h5 : R5 (mix c' m')) (h6 : R6 (mix c' m')) : Rel (n + 1) (mix c' m') := by
  have C : ∀ a, a < 60 → a ≠ 11 → a ≠ 38 → a ≠ 39 → a ≠ 40 → a ≠ 2 → a ≠ 8 → a ≠ 9 → a ≠ 52 → a ≠ 53 → (a < 47 ∨ 50 < a) → (mix c' m').1 a = (mix c m).1 a := by
    intro a q1 q2 q3 q4 q5 q6 q7 q8 q9 q10 q11
    have hi : isM a = false := by unfold isM; rw [decide_eq_false_iff_not]; omega
    rw [mix_c hi, mix_c hi]
    funext i s
    exact hC a i s q11 (by omega) (by omega) (by omega) hi
  have Mq : ∀ a, isM a = true → ¬ (a = 81 ∨ a = 82 ∨ a = 83 ∨ a = 92 ∨ a = 93 ∨ a = 94 ∨ a = 106 ∨ (110 ≤ a ∧ a ≤ 112)) → (a < 101 ∨ 104 < a) → (mix c' m').1 a = (mix c m).1 a := by
    intro a q1 q2 q3
    rw [mix_m q1, mix_m q1]
    funext i s
    exact hM a i s q3 (by omega) q1
  have Cl : ∀ k, k ≠ 11 → (mix c' m').2.1 k = (mix c m).2.1 k := fun k q => by rw [mix_lc q, mix_lc q, hCl]
  have Ml : (mix c' m').2.1 11 = (mix c m).2.1 11 := by rw [mix_lm, mix_lm, hMl]
  have c2 : ∀ x, x < 6 → x ≠ b → c'.1 2 x = c.1 2 x := fun x hx q => funext (fun s => hC 2 x s (by omega) (by omega) (by omega) (by omega) rfl)
  have cc : ∀ x, x < 6 → x ≠ b → cB (mix c' m') x = cB (mix c m) x := by
    intro x hx q
    rw [cB_mix, cB_mix]
    have e : ∀ a, a < 47 → a ≠ 8 → a ≠ 9 → isM a = false → c'.1 a x = c.1 a x := fun a q1 q2 q3 q4 => funext (fun s => hC a x s (by omega) (by omega) (by omega) (by omega) q4)
    apply cB_ext <;> exact e _ (by decide) (by decide) (by decide) rfl
  have mm : ∀ x, x < 6 → x ≠ b → mB (mix c' m') x = mB (mix c m) x := by
    intro x hx q
    rw [mB_mix, mB_mix]
    funext t s
    rcases (show t = 0 ∨ t = 1 ∨ t = 2 ∨ t = 3 ∨ t = 4 ∨ t = 5 ∨ t = 6 ∨ t = 7 ∨ t = 8 ∨ 9 ≤ t by omega) with rfl | rfl | rfl | rfl | rfl | rfl | rfl | rfl | rfl | ht
    · rcases (show s = 0 ∨ s = 1 ∨ s = 2 ∨ s = 3 ∨ s = 4 ∨ s = 5 ∨ s = 6 ∨ s = 7 ∨ s = 8 ∨ s = 9 ∨ s = 10 ∨ s = 11 ∨ s = 12 ∨ s = 13 ∨ 14 ≤ s by omega) with rfl | rfl | rfl | rfl | rfl | rfl | rfl | rfl | rfl | rfl | rfl | rfl | rfl | rfl | hs
      · exact hM 74 0 x (by decide) (by omega) rfl
      · exact hM 75 0 x (by decide) (by omega) rfl
      · exact hM 76 0 x (by decide) (by omega) rfl
      · exact hM 81 0 x (by decide) (by omega) rfl
      · exact hM 82 0 x (by decide) (by omega) rfl
      · exact hM 83 0 x (by decide) (by omega) rfl
      · exact hM 84 0 x (by decide) (by omega) rfl
      · exact hM 85 0 x (by decide) (by omega) rfl
      · exact hM 77 0 x (by decide) (by omega) rfl
      · exact hM 78 0 x (by decide) (by omega) rfl
      · exact hM 79 0 x (by decide) (by omega) rfl
      · exact hM 80 0 x (by decide) (by omega) rfl
      · exact hM 86 0 x (by decide) (by omega) rfl
      · exact hM 89 0 x (by decide) (by omega) rfl
      · obtain ⟨z, rfl⟩ : ∃ z, s = z + 14 := ⟨s - 14, by omega⟩
        rfl
    · show (if s < 48 then m'.1 91 0 (48 * x + s) else 0) = (if s < 48 then m.1 91 0 (48 * x + s) else 0)
      by_cases q2 : s < 48
      · rw [if_pos q2, if_pos q2]
        exact hM 91 0 _ (by decide) (by omega) rfl
      · rw [if_neg q2, if_neg q2]
    · show (if s < 48 then m'.1 92 0 (48 * x + s) else 0) = (if s < 48 then m.1 92 0 (48 * x + s) else 0)
      by_cases q2 : s < 48
      · rw [if_pos q2, if_pos q2]
        exact hM 92 0 _ (by decide) (by omega) rfl
      · rw [if_neg q2, if_neg q2]
    · show (if s < 144 then m'.1 93 0 (144 * x + s) else 0) = (if s < 144 then m.1 93 0 (144 * x + s) else 0)
      by_cases q2 : s < 144
      · rw [if_pos q2, if_pos q2]
        exact hM 93 0 _ (by decide) (by omega) rfl
      · rw [if_neg q2, if_neg q2]
    · show (if s < 96 then m'.1 94 0 (96 * x + s) else 0) = (if s < 96 then m.1 94 0 (96 * x + s) else 0)
      by_cases q2 : s < 96
      · rw [if_pos q2, if_pos q2]
        exact hM 94 0 _ (by decide) (by omega) rfl
      · rw [if_neg q2, if_neg q2]
    · show (if s < 96 then m'.1 95 0 (96 * x + s) else 0) = (if s < 96 then m.1 95 0 (96 * x + s) else 0)
      by_cases q2 : s < 96
      · rw [if_pos q2, if_pos q2]
        exact hM 95 0 _ (by decide) (by omega) rfl
      · rw [if_neg q2, if_neg q2]
    · show (if s < 4 then m'.1 90 0 (4 * x + s) else 0) = (if s < 4 then m.1 90 0 (4 * x + s) else 0)
      by_cases q2 : s < 4
      · rw [if_pos q2, if_pos q2]
        exact hM 90 0 _ (by decide) (by omega) rfl
      · rw [if_neg q2, if_neg q2]
    · show (if s < 4 then m'.1 87 0 (4 * x + s) else 0) = (if s < 4 then m.1 87 0 (4 * x + s) else 0)
      by_cases q2 : s < 4
      · rw [if_pos q2, if_pos q2]
        exact hM 87 0 _ (by decide) (by omega) rfl
      · rw [if_neg q2, if_neg q2]
    · show (if s < 4 then m'.1 88 0 (4 * x + s) else 0) = (if s < 4 then m.1 88 0 (4 * x + s) else 0)
      by_cases q2 : s < 4
      · rw [if_pos q2, if_pos q2]
        exact hM 88 0 _ (by decide) (by omega) rfl
      · rw [if_neg q2, if_neg q2]
    · obtain ⟨z, rfl⟩ : ∃ z, t = z + 9 := ⟨t - 9, by omega⟩
      rfl
  have t10 : ∀ x, x < 6 → (mix c' m').1 2 x 10 = (mix c m).1 2 x 10 := by
    intro x hx
    rw [mix_c rfl, mix_c rfl]
    exact hC 2 x 10 (by omega) (by omega) (by omega) (by omega) rfl
  have hbX : cB (mix c' m') b = X := by rw [cB_mix]; exact hX
  have hbY : mB (mix c' m') b = X := by rw [mB_mix]; exact hY
  have e0 : cB (mix c m) b = cB c b := cB_mix
  obtain ⟨h0, h1, h2, h3, h4, -, -, h7, h8⟩ := h.succ
  have ht' : (mix c m).1 2 b 10 = nI 1 := by rw [mix_c rfl]; exact ht
  refine ⟨R0_ext (C 0 (by decide) (by decide) (by decide) (by decide) (by decide) (by decide) (by decide) (by decide) (by decide) (by decide) (by decide)) (Mq 11 rfl (by decide) (by decide)) (Cl 0 (by decide)) Ml (C 36 (by decide) (by decide) (by decide) (by decide) (by decide) (by decide) (by decide) (by decide) (by decide) (by decide) (by decide)) (Mq 61 rfl (by decide) (by decide)) h0, R1_ext (by rw [C 33 (by decide) (by decide) (by decide) (by decide) (by decide) (by decide) (by decide) (by decide) (by decide) (by decide) (by decide)]) (Mq 66 rfl (by decide) (by decide)) (Mq 67 rfl (by decide) (by decide)) (C 30 (by decide) (by decide) (by decide) (by decide) (by decide) (by decide) (by decide) (by decide) (by decide) (by decide) (by decide)) h1, R2_ext (by rw [C 33 (by decide) (by decide) (by decide) (by decide) (by decide) (by decide) (by decide) (by decide) (by decide) (by decide) (by decide)]) (Mq 69 rfl (by decide) (by decide)) (Mq 70 rfl (by decide) (by decide)) (C 31 (by decide) (by decide) (by decide) (by decide) (by decide) (by decide) (by decide) (by decide) (by decide) (by decide) (by decide)) h2, R3_upd h3 (Nat.le_refl _) ?_ ?_ ?_ ?_ ?_ ?_ t10 (fun x hx => by rw [C 5 (by decide) (by decide) (by decide) (by decide) (by decide) (by decide) (by decide) (by decide) (by decide) (by decide) (by decide)]) (fun x hx => by rw [C 45 (by decide) (by decide) (by decide) (by decide) (by decide) (by decide) (by decide) (by decide) (by decide) (by decide) (by decide)]) (fun x hx => by rw [C 46 (by decide) (by decide) (by decide) (by decide) (by decide) (by decide) (by decide) (by decide) (by decide) (by decide) (by decide)]) (Mq 96 rfl (by decide) (by decide)) (Mq 97 rfl (by decide) (by decide)) (Mq 98 rfl (by decide) (by decide)) (fun s hs => by rw [Mq 99 rfl (by decide) (by decide)]) (fun s hs => by rw [Mq 100 rfl (by decide) (by decide)]), R4_ext' ?_ t10 (fun x hx => by rw [C 5 (by decide) (by decide) (by decide) (by decide) (by decide) (by decide) (by decide) (by decide) (by decide) (by decide) (by decide)]) h4, h5, h6, R7_ext (by rw [C 0 (by decide) (by decide) (by decide) (by decide) (by decide) (by decide) (by decide) (by decide) (by decide) (by decide) (by decide)]) (by rw [Mq 11 rfl (by decide) (by decide)]) (by rw [C 33 (by decide) (by decide) (by decide) (by decide) (by decide) (by decide) (by decide) (by decide) (by decide) (by decide) (by decide)]) (Mq 122 rfl (by decide) (by decide)) (Mq 123 rfl (by decide) (by decide)) (C 32 (by decide) (by decide) (by decide) (by decide) (by decide) (by decide) (by decide) (by decide) (by decide) (by decide) (by decide)) (C 34 (by decide) (by decide) (by decide) (by decide) (by decide) (by decide) (by decide) (by decide) (by decide) (by decide) (by decide)) (Mq 124 rfl (by decide) (by decide)) h7, R8_ext (by rw [C 10 (by decide) (by decide) (by decide) (by decide) (by decide) (by decide) (by decide) (by decide) (by decide) (by decide) (by decide)]) (by rw [Mq 11 rfl (by decide) (by decide)]) (by rw [Mq 11 rfl (by decide) (by decide)]) (by rw [Mq 11 rfl (by decide) (by decide)]) (by rw [Ml]) (by rw [Cl 10 (by decide)]) h8⟩
  · intro x hx t htt
    by_cases q : x = b
    · subst q
      rw [hbX, hbY]
    · rw [cc x hx q, mm x hx q]
      exact (h3 x hx).1 t htt
  · intro x hx hz
    by_cases q : x = b
    · subst q
      rw [hbX, hbY]
      exact ⟨rfl, hW⟩
    · rw [cc x hx q, mm x hx q]
      exact ⟨by rw [bEq (h3 x hx) hz], bWF (h3 x hx) hz⟩
  · intro x hx hz
    by_cases q : x = b
    · subst q
      rw [ht'] at hz
      exact absurd hz (by decide +kernel)
    · exact congrFun (congrFun (mm x hx q) 0) 0
  · intro x hx
    by_cases q : x = b
    · subst q
      rw [hbX, hX0, e0]
    · rw [cc x hx q]
  · intro x hx
    by_cases q : x = b
    · subst q
      rw [hbX, e0]
      exact nW_s hX1
    · rw [cc x hx q]
  · intro x hx
    by_cases q : x = b
    · subst q
      rw [hbX, e0]
      exact nH_s hX2
    · rw [cc x hx q]
  · intro x hx
    have e : cB (mix c' m') x 0 0 = cB (mix c m) x 0 0 := by
      by_cases q : x = b
      · subst q
        rw [hbX, hX0, e0]
      · rw [cc x hx q]
    exact e

