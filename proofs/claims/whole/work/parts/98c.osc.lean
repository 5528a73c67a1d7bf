/-! play: all items. -/
theorem ob_83 {v : qB} {x : Int32} : ob v 83 x = v := by
  unfold ob
  rw [if_neg (by decide +kernel), if_neg (by decide +kernel), if_neg (by decide +kernel), if_neg (by decide +kernel), if_neg (by decide +kernel), if_neg (by decide +kernel)]
theorem ck_f {a : Nat} (h : isCK a = false) : a ≠ 2 ∧ a ≠ 3 ∧ a ≠ 4 ∧ ¬ (37 ≤ a ∧ a ≤ 44) := by
  refine ⟨fun z => ?_, fun z => ?_, fun z => ?_, fun z => ?_⟩
  · rw [z] at h; cases h
  · rw [z] at h; cases h
  · rw [z] at h; cases h
  · rcases (show a = 37 ∨ a = 38 ∨ a = 39 ∨ a = 40 ∨ a = 41 ∨ a = 42 ∨ a = 43 ∨ a = 44 by omega) with rfl | rfl | rfl | rfl | rfl | rfl | rfl | rfl <;> cases h
theorem mk_f {a : Nat} (h : isM a = false) : isMK a = false := nf (fun q => by have := isMK_96 q; have := isM_f h; omega)
theorem scr_7 {i s : Nat} : scr 7 i s := by
  unfold scr
  simp only [true_or, or_true]
theorem Rel_ob {n b : Nat} {l x : Int32} {c c' m m' : qM} (hb : b < 6) (h : Rel n (mix c m)) (ht : c.1 2 b 10 = nI 1) (hl : tHas l = true) (hx : ¬ (x < tLo l ∨ tHi l < x)) (C1 : ∀ a i s, ¬ (i = b ∧ ((a = 2 ∧ s = 18) ∨ a = 3 ∨ a = 41 ∨ a = 44)) → ¬ (a = 7 ∧ i = 0) → c'.1 a i s = c.1 a i s) (C2 : c'.2.1 = c.2.1) (C3 : cB c' b = ob (cB c b) l x) (M1 : ∀ a i s, isMK a = false → ¬ scr a i s → m'.1 a i s = m.1 a i s) (M2 : m'.2.1 = m.2.1) (M3 : mB m' b = ob (mB m b) l x) (M4 : ∀ y, y < 6 → y ≠ b → mB m' y = mB m y) : Rel (n + 1) (mix c' m') := by
  have e : mB m b = cB c b := by
    have := bEq (h.2.2.2.1 b hb) (show (mix c m).1 2 b 10 = nI 1 by rw [mix_c rfl]; exact ht)
    rwa [mB_mix, cB_mix] at this
  have hw : WF n (cB c b) := by
    have := bWF (h.2.2.2.1 b hb) (show (mix c m).1 2 b 10 = nI 1 by rw [mix_c rfl]; exact ht)
    rwa [cB_mix] at this
  refine Rel_bd (j := b) (μ := mix c m) (X := ob (cB c b) l x) h (by rw [mix_c rfl]; exact ht) (fun a i s q1 q2 q3 => ?_) (fun a s q => ?_) (fun y hy => ?_) (fun y hy hyb => ?_) (fun y hy hyb => ?_) (by rw [cB_mix]; exact C3) (by rw [mB_mix, M3, e]) (by rw [cB_mix]; exact ob_0 (.inl rfl)) (by rw [cB_mix]; exact ob_0 (.inr (.inl rfl))) (by rw [cB_mix]; exact ob_0 (.inr (.inr (.inl rfl)))) ((WF_ob hw hl hx).mono (Nat.le_succ n))
  · cases z : isM a
    · rw [mix_c z, mix_c z]
      have := ck_f q2
      exact C1 a i s (by omega) (fun y => q1 (by rw [y.1]; exact scr_7))
    · rw [mix_m z, mix_m z]
      exact M1 a i s q3 q1
  · by_cases z : a = 11
    · rw [z, mix_lm, mix_lm, M2]
    · rw [mix_lc z, mix_lc z, C2]
  · rw [mix_c rfl, mix_c rfl]
    exact C1 2 y 10 (by omega) (by omega)
  · rw [cB_mix, cB_mix]
    apply cB_ext <;> exact funext (fun s => C1 _ y s (by omega) (by omega))
  · rw [mB_mix, mB_mix]
    exact M4 y hy hyb
theorem mob_ex {n b : Nat} {l x : Int32} {c m : qM} (hb : b < 6) (h : Rel n (mix c m)) (ht : c.1 2 b 10 = nI 1) (hl : tHas l = true) (hx : ¬ (x < tLo l ∨ tHi l < x)) (hS : ¬ l = 83) : ∃ m', (∀ a i s, isMK a = false → ¬ scr a i s → m'.1 a i s = m.1 a i s) ∧ m'.2 = m.2 ∧ mB m' b = ob (mB m b) l x ∧ (∀ y, y ≠ b → mB m' y = mB m y) := by
  have e : mB m b = cB c b := by
    have := bEq (h.2.2.2.1 b hb) (show (mix c m).1 2 b 10 = nI 1 by rw [mix_c rfl]; exact ht)
    rwa [mB_mix, cB_mix] at this
  have hw : WF n (cB c b) := by
    have := bWF (h.2.2.2.1 b hb) (show (mix c m).1 2 b 10 = nI 1 by rw [mix_c rfl]; exact ht)
    rwa [cB_mix] at this
  obtain ⟨w, hh, hd⟩ := hw.gd.dw
  have hB : ∀ y, mB (q_si (q_si (q_si m 72 0 0 l) 73 0 0 x) 11 0 11 (nI 1)) y = mB m y := fun y => (mB_o (by decide)).trans ((mB_o (by decide)).trans (mB_o (by decide)))
  have key : Ev (L_X11_plays_11 (nI b) 0 0 (0 + 1 + 1) 0 (nI 0) (q_si (q_si (q_si m 72 0 0 l) 73 0 0 x) 11 0 11 (nI 1)) (fun x20 u17 => some (x20, u17)) (fun x20 u17 => some (x20, u17))) (fun _ m' => (∀ a i s, isMK a = false → ¬ scr a i s → m'.1 a i s = m.1 a i s) ∧ m'.2 = m.2 ∧ mB m' b = ob (mB m b) l x ∧ (∀ y, y ≠ b → mB m' y = mB m y)) := by
    refine ev_mob (i := 0) (len := 1) (n := n) (w := w) (h := hh) (l := l) (x := x) (by omega) (by rw [hB, e]; exact hd) (by rw [hB, e]; exact hw) hl hx hS (by decide) (by decide) si_e (by rw [si_k (by decide), si_k (by decide), si_e]) (by rw [si_k (by decide), si_e]) (fun u' g1 g2 g3 g4 => ?_)
    have e11 : u'.1 11 0 11 = nI 1 := (g1 11 0 11 (fun z => by cases z.1)).trans si_e
    refine eu_L_X11_plays_11.mpr ?_
    rw [e11, if_pos (Int32.le_refl _)]
    refine ev_so.mpr ⟨fun a i s q1 q2 => ?_, g2, by rw [g3, hB], fun y q => (g4 y q).trans (hB y)⟩
    rw [g1 a i s (fun z => by rw [q1] at z; cases z.1), si_n (fun z => q2 (by rw [z.1, z.2.2]; exact scr_11)), si_n (fun z => q2 (by rw [z.1]; exact scr_73)), si_n (fun z => q2 (by rw [z.1]; exact scr_72))]
  obtain ⟨v, u, -, hp⟩ := key
  exact ⟨u, hp⟩
theorem mix_FO {c c' m : qM} (h : FO c c') : Kp (mix c m) (mix c' m) := by
  refine ⟨fun a i s q => ?_, fun a s _ => ?_⟩
  · cases z : isM a
    · rw [mix_c z, mix_c z]
      exact h.1 a i s (fun y => q (by rw [y.1]; exact scr_7))
    · rw [mix_m z, mix_m z]
  · by_cases z : a = 11
    · rw [z, mix_lm, mix_lm]
    · rw [mix_lc z, mix_lc z, h.2]
theorem FO.fc {c c' : qM} (h : FO c c') : FC c c' := ⟨fun a q => funext (fun i => funext (fun s => h.1 a i s (by have := isM_t q; omega))), by rw [h.2]⟩
theorem x_S {x : Int32} (hx : ¬ (x < tLo 83 ∨ tHi 83 < x)) : ∃ S : Nat, S ≤ 24 ∧ x = nI S := by
  have x1 : tLo 83 ≤ x := x_nlt.mp (fun z => hx (.inl z))
  have x2 : x ≤ tHi 83 := x_nlt.mp (fun z => hx (.inr z))
  rw [tLo_83, x_le, show (0 : Int32).toInt = 0 by decide +kernel] at x1
  rw [tHi_83, x_le, show (24 : Int32).toInt = 24 by decide +kernel] at x2
  exact ⟨x.toInt.toNat, by omega, Int32.toInt_inj.mp (by rw [nI_toInt (by omega)]; omega)⟩
theorem plays_sim {b k i L : Nat} {f : Nat → Int32} (hb : b < 6) (hk : k = 31 ∨ k = 32) : ∀ N a st j ii x n (c m0 : qM) F (P : Int32 → qM → Prop) (T pre : List (Int32 × Int32)), L - a < N → N < F → 2 * j ≤ a → a ≤ L → SC k i L f c → c.1 7 0 2 = nI a → c.1 7 0 5 = st → c.1 7 0 6 = -nI 9 → (tAl f L N a st).2 = none → T = pre ++ (tAl f L N a st).1 → pre.length = ii → T.length ≤ 40 → n + 30 * N ≤ 2000000 → Rel n (mix c m0) → c.1 2 b 10 = nI 1 →
    (∀ d c', FC c c' → (∀ m, Rel n (mix c m) → IT m T → ∀ F', N < F' → Ev (L_X11_plays_11 (nI b) (nI 0) (nI 0) F' x (nI ii) m (fun x20 u17 => some (x20, u17)) (fun x20 u17 => some (x20, u17))) (fun r' m' => r' = d ∧ FM m m' ∧ Rel (n + 30 * N) (mix c' m'))) → P d c') → Ev (L_X10_play_92 (nI b) F x (nI j) c (fun x20 u17 => some (x20, u17)) (fun x20 u17 => some (x20, u17))) P := by
  intro N
  induction N with
  | zero => intro a st j ii x n c m0 F P T pre hN; omega
  | succ N ih =>
  intro a st j ii x n c m0 F P T pre hN hF hj haL hS ha h5 h6 hno hT hpre hT40 hn h ht K
  obtain ⟨F, rfl⟩ : ∃ F', F = F' + 1 := ⟨F - 1, by omega⟩
  have h4 := hS.2.2.2.1
  have hbk := tsk_le (f := f) (L - a) a
  refine Ev.hide (fun P' K' => ?_)
  simp (disch := first | omega | decide) only [Nat.reduceAdd, Nat.reduceMul, ↓ev_bd, ↓ev_ck, ↓ev_if, ↓ev_lt, ↓ev_jn, ↓ev_so, ↓reduceIte, ↓ev_within, ↓ev_in, ↓ev_isBoard, ↓ev_isGauge, ↓ev_isNumber, ↓ev_isSix, ↓ev_isEight, ↓ev_foundN, ↓ev_meetsN, ↓ev_found_1, ↓ev_meets_1, ↓ev_found_2, ↓ev_meets_2, ↓ev_found_3, ↓ev_meets_3, ↓ev_found_4, ↓ev_meets_4, ↓ev_found_5, ↓ev_meets_5, true_and, and_true, and_self, eq_self, not_true_eq_false, not_false_eq_true, ite_true, ite_false, true_or, or_true, false_or, or_false, false_and, and_false, ← zi_ni_0, ← zi_ni_1, ← zi_ni_2, ← zi_ni_3, ← zi_ni_4, ← zi_ni_5, ← zi_ni_6, ← zi_ni_7, ← zi_ni_8, ← zi_ni_9, ← zi_ni_10, ← zi_ni_12, ← zi_ni_24, ← zi_ni_25, ← zi_ni_40, ← zi_ni_45, ← zi_ni_47, ← zi_ni_48, ← zi_ni_95, ← zi_ni_96, ← zi_ni_97, ← zi_ni_100, ← zi_ni_144, ← zi_ni_288, nI_ltI, nI_leI, nI_eqI, nlt_T, nlt_F, nle_T, nle_F, neq_T, neq_F, nI_add, pk_mul, nI_clamp, q_inT, ng_lt, ng_tl, ng_le, ng_el, ng_eq, ng_qe, q_b0, q_b1, nar_0, nar_1, b01, b01', q_bn0, q_bn1, nar_n0, nar_n1, si_k, si_i, si_s, si_e, si_2, sl_1, sl_22, sl_k, sl_i, sl_s, sl_e, sp_1, sp_21, sp_22, sc_k, sc_i, sc_e, sc_2, mF_k, mM_k, mF_2, mM_2, mF_0, mM_11, ↓eu_L_X10_play_92]
  refine ev_next hS ha haL h5 h6 (fun z u1 g1 g2 => ?_) (fun p z z2 u1 g1 g2 => ?_) (fun y a2 st2 z z2 u1 g1 g2 g3 g4 g5 g6 => ?_)
  · have K1 := K x u1 g1.fo.fc (fun m hm hI F' hF' => ?_)
    · simp (disch := first | omega | decide) only [Nat.reduceAdd, Nat.reduceMul, ↓ev_bd, ↓ev_ck, ↓ev_if, ↓ev_lt, ↓ev_jn, ↓ev_so, ↓reduceIte, ↓ev_within, ↓ev_in, ↓ev_isBoard, ↓ev_isGauge, ↓ev_isNumber, ↓ev_isSix, ↓ev_isEight, ↓ev_foundN, ↓ev_meetsN, ↓ev_found_1, ↓ev_meets_1, ↓ev_found_2, ↓ev_meets_2, ↓ev_found_3, ↓ev_meets_3, ↓ev_found_4, ↓ev_meets_4, ↓ev_found_5, ↓ev_meets_5, true_and, and_true, and_self, eq_self, not_true_eq_false, not_false_eq_true, ite_true, ite_false, true_or, or_true, false_or, or_false, false_and, and_false, ← zi_ni_0, ← zi_ni_1, ← zi_ni_2, ← zi_ni_3, ← zi_ni_4, ← zi_ni_5, ← zi_ni_6, ← zi_ni_7, ← zi_ni_8, ← zi_ni_9, ← zi_ni_10, ← zi_ni_12, ← zi_ni_24, ← zi_ni_25, ← zi_ni_40, ← zi_ni_45, ← zi_ni_47, ← zi_ni_48, ← zi_ni_95, ← zi_ni_96, ← zi_ni_97, ← zi_ni_100, ← zi_ni_144, ← zi_ni_288, nI_ltI, nI_leI, nI_eqI, nlt_T, nlt_F, nle_T, nle_F, neq_T, neq_F, nI_add, pk_mul, nI_clamp, q_inT, ng_lt, ng_tl, ng_le, ng_el, ng_eq, ng_qe, q_b0, q_b1, nar_0, nar_1, b01, b01', q_bn0, q_bn1, nar_n0, nar_n1, si_k, si_i, si_s, si_e, si_2, sl_1, sl_22, sl_k, sl_i, sl_s, sl_e, sp_1, sp_21, sp_22, sc_k, sc_i, sc_e, sc_2, mF_k, mM_k, mF_2, mM_2, mF_0, mM_11]
      exact K' _ _ K1
    · obtain ⟨F', rfl⟩ : ∃ F'', F' = F'' + 1 := ⟨F' - 1, by omega⟩
      have hlen : T.length = ii := by rw [hT, tAl_e z, List.append_nil]; exact hpre
      refine eu_L_X11_plays_11.mpr ?_
      rw [hI.1, hlen, if_pos (Int32.le_refl _)]
      exact ev_so.mpr ⟨rfl, FM.rf, (Rel_keep (mix_FO g1.fo) hm).mn (by omega)⟩
  · rw [tAl_l z z2] at hno
    cases hno
  · obtain ⟨w1, w2, w3, w4⟩ := tIt_r (by omega) z2
    rw [tAl_r z z2] at hno hT
    generalize hlv : f (tsk f (L - a) a) = l at *
    have hno2 : (tAl f L N a2 st2).2 = none := hno
    have hT2 : T = (pre ++ [(l, y)]) ++ (tAl f L N a2 st2).1 := by rw [hT, List.append_assoc]; rfl
    have hlen2 : (pre ++ [(l, y)]).length = ii + 1 := by rw [List.length_append, hpre]; rfl
    have hii : ii < T.length := by rw [hT2, List.length_append, hlen2]; omega
    have hnth : nth T ii = (l, y) := by rw [hT, ← hpre]; exact nth_eq pre
    have hS1 := hS.f7 g1
    have k7 : k ≠ 7 ∧ k ≠ 2 ∧ k ≠ 3 ∧ k ≠ 41 ∧ k ≠ 44 := by omega
    have t1 : u1.1 2 b 10 = nI 1 := (g1.1 2 b 10 (by omega)).trans ht
    have c1 : cB u1 b = cB c b := by apply cB_ext <;> exact funext (fun s => g1.1 _ b s (by omega))
    have hw : WF n (cB c b) := by
      have := bWF (h.2.2.2.1 b hb) (show (mix c m0).1 2 b 10 = nI 1 by rw [mix_c rfl]; exact ht)
      rwa [cB_mix] at this
    obtain ⟨w, hh, hd⟩ := hw.gd.dw
    simp (disch := first | omega | decide) only [Nat.reduceAdd, Nat.reduceMul, ↓ev_bd, ↓ev_ck, ↓ev_if, ↓ev_lt, ↓ev_jn, ↓ev_so, ↓reduceIte, ↓ev_within, ↓ev_in, ↓ev_isBoard, ↓ev_isGauge, ↓ev_isNumber, ↓ev_isSix, ↓ev_isEight, ↓ev_foundN, ↓ev_meetsN, ↓ev_found_1, ↓ev_meets_1, ↓ev_found_2, ↓ev_meets_2, ↓ev_found_3, ↓ev_meets_3, ↓ev_found_4, ↓ev_meets_4, ↓ev_found_5, ↓ev_meets_5, true_and, and_true, and_self, eq_self, not_true_eq_false, not_false_eq_true, ite_true, ite_false, true_or, or_true, false_or, or_false, false_and, and_false, ← zi_ni_0, ← zi_ni_1, ← zi_ni_2, ← zi_ni_3, ← zi_ni_4, ← zi_ni_5, ← zi_ni_6, ← zi_ni_7, ← zi_ni_8, ← zi_ni_9, ← zi_ni_10, ← zi_ni_12, ← zi_ni_24, ← zi_ni_25, ← zi_ni_40, ← zi_ni_45, ← zi_ni_47, ← zi_ni_48, ← zi_ni_95, ← zi_ni_96, ← zi_ni_97, ← zi_ni_100, ← zi_ni_144, ← zi_ni_288, nI_ltI, nI_leI, nI_eqI, nlt_T, nlt_F, nle_T, nle_F, neq_T, neq_F, nI_add, pk_mul, nI_clamp, q_inT, ng_lt, ng_tl, ng_le, ng_el, ng_eq, ng_qe, q_b0, q_b1, nar_0, nar_1, b01, b01', q_bn0, q_bn1, nar_n0, nar_n1, si_k, si_i, si_s, si_e, si_2, sl_1, sl_22, sl_k, sl_i, sl_s, sl_e, sp_1, sp_21, sp_22, sc_k, sc_i, sc_e, sc_2, mF_k, mM_k, mF_2, mM_2, mF_0, mM_11, g3, g4]
    refine ev_obey (n := n) (w := w) (h := hh) (by rw [c1]; exact hd) (by rw [c1]; exact hw) w3 w4 (fun u2 p1 p2 p3 => ?_)
    have C1 : ∀ a' i' s, ¬ (i' = b ∧ ((a' = 2 ∧ s = 18) ∨ a' = 3 ∨ a' = 41 ∨ a' = 44)) → ¬ (a' = 7 ∧ i' = 0) → u2.1 a' i' s = c.1 a' i' s := fun a' i' s q1 q2 => (p1 a' i' s q1).trans (g1.1 a' i' s (by omega))
    have C2 : u2.2.1 = c.2.1 := by rw [p2, g1.2]
    have C3 : cB u2 b = ob (cB c b) l y := by rw [p3, c1]
    have s7 : ∀ s, u2.1 7 0 s = u1.1 7 0 s := fun s => p1 7 0 s (by omega)
    have hS2 : SC k i L f u2 := by
      obtain ⟨a1, a2', a3, a4, a5, a6, a7⟩ := hS1
      exact ⟨by rw [p2]; exact a1, a2', a3, a4, a5, by rw [← a6]; exact funext (fun s => p1 k i s (by omega)), (s7 1).trans a7⟩
    have t2 : u2.1 2 b 10 = nI 1 := (p1 2 b 10 (by omega)).trans t1
    have r3 : u2.1 7 0 3 = l := (s7 3).trans g3
    have r4 : u2.1 7 0 4 = y := (s7 4).trans g4
    have fc2 : FC c u2 := ⟨fun a' q => funext (fun i' => funext (fun s => C1 a' i' s (by have := isM_t q; omega) (by have := isM_t q; omega))), by rw [C2]⟩
    obtain ⟨G, hG⟩ : ∃ G, q_fu = G + 1 := ⟨3999, rfl⟩
    by_cases l83 : l = 83
    · subst l83
      obtain ⟨S, hS24, rfl⟩ := x_S w4
      have rel2 : ∀ m, Rel n (mix c m) → Rel (n + 1) (mix u2 m) := fun m hm => Rel_ob hb hm ht w3 w4 C1 C2 C3 (fun _ _ _ _ _ => rfl) rfl ob_83.symm (fun _ _ _ => rfl)
      simp (disch := first | omega | decide) only [Nat.reduceAdd, Nat.reduceMul, ↓ev_bd, ↓ev_ck, ↓ev_if, ↓ev_lt, ↓ev_jn, ↓ev_so, ↓reduceIte, ↓ev_within, ↓ev_in, ↓ev_isBoard, ↓ev_isGauge, ↓ev_isNumber, ↓ev_isSix, ↓ev_isEight, ↓ev_foundN, ↓ev_meetsN, ↓ev_found_1, ↓ev_meets_1, ↓ev_found_2, ↓ev_meets_2, ↓ev_found_3, ↓ev_meets_3, ↓ev_found_4, ↓ev_meets_4, ↓ev_found_5, ↓ev_meets_5, true_and, and_true, and_self, eq_self, not_true_eq_false, not_false_eq_true, ite_true, ite_false, true_or, or_true, false_or, or_false, false_and, and_false, ← zi_ni_0, ← zi_ni_1, ← zi_ni_2, ← zi_ni_3, ← zi_ni_4, ← zi_ni_5, ← zi_ni_6, ← zi_ni_7, ← zi_ni_8, ← zi_ni_9, ← zi_ni_10, ← zi_ni_12, ← zi_ni_24, ← zi_ni_25, ← zi_ni_40, ← zi_ni_45, ← zi_ni_47, ← zi_ni_48, ← zi_ni_95, ← zi_ni_96, ← zi_ni_97, ← zi_ni_100, ← zi_ni_144, ← zi_ni_288, nI_ltI, nI_leI, nI_eqI, nlt_T, nlt_F, nle_T, nle_F, neq_T, neq_F, nI_add, pk_mul, nI_clamp, q_inT, ng_lt, ng_tl, ng_le, ng_el, ng_eq, ng_qe, q_b0, q_b1, nar_0, nar_1, b01, b01', q_bn0, q_bn1, nar_n0, nar_n1, si_k, si_i, si_s, si_e, si_2, sl_1, sl_22, sl_k, sl_i, sl_s, sl_e, sp_1, sp_21, sp_22, sc_k, sc_i, sc_e, sc_2, mF_k, mM_k, mF_2, mM_2, mF_0, mM_11, ↓eu_X6_stepsOfItem, r3, r4]
      refine plsteps (cell := 0) (x5 := nI ii) (x3 := nI 0) hb hS24 (by decide) S 0 (n + 1) u2 m0 q_fu x _ (Nat.zero_add S) (by rw [show q_fu = 4000 from rfl]; omega) (by omega) (rel2 m0 h) t2 (fun v c3 f1 f2 f3 f4 f5 => ?_) (fun v c3 f1 f2 f5 => ?_)
      · obtain ⟨m3, hm3⟩ := f4
        have s73 : ∀ s, c3.1 7 0 s = u2.1 7 0 s := fun s => f1.1 7 0 s (.inl rfl)
        have hS3 : SC k i L f c3 := by
          obtain ⟨a1, a2', a3, a4, a5, a6, a7⟩ := hS2
          exact ⟨by rw [f1.2]; exact a1, a2', a3, a4, a5, by rw [← a6]; exact funext (fun s => f1.1 k i s (by omega)), (s73 1).trans a7⟩
        have K2 := ih a2 st2 (j + 1) (ii + 1) v (n + 1 + S) c3 m3 F P T (pre ++ [(83, nI S)]) (by omega) (by omega) (by omega) w2 hS3 ((s73 2).trans ((s7 2).trans g2)) ((s73 5).trans ((s7 5).trans g5)) ((s73 6).trans ((s7 6).trans g6)) hno2 hT2 hlen2 hT40 (by omega) hm3 f3 (fun d c4 fc4 fm => K d c4 ((fc2.tr f2).tr fc4) (fun m hm hI F' hF' => ?_))
        · simp (disch := first | omega | decide) only [Nat.reduceAdd, Nat.reduceMul, ↓ev_bd, ↓ev_ck, ↓ev_if, ↓ev_lt, ↓ev_jn, ↓ev_so, ↓reduceIte, ↓ev_within, ↓ev_in, ↓ev_isBoard, ↓ev_isGauge, ↓ev_isNumber, ↓ev_isSix, ↓ev_isEight, ↓ev_foundN, ↓ev_meetsN, ↓ev_found_1, ↓ev_meets_1, ↓ev_found_2, ↓ev_meets_2, ↓ev_found_3, ↓ev_meets_3, ↓ev_found_4, ↓ev_meets_4, ↓ev_found_5, ↓ev_meets_5, true_and, and_true, and_self, eq_self, not_true_eq_false, not_false_eq_true, ite_true, ite_false, true_or, or_true, false_or, or_false, false_and, and_false, ← zi_ni_0, ← zi_ni_1, ← zi_ni_2, ← zi_ni_3, ← zi_ni_4, ← zi_ni_5, ← zi_ni_6, ← zi_ni_7, ← zi_ni_8, ← zi_ni_9, ← zi_ni_10, ← zi_ni_12, ← zi_ni_24, ← zi_ni_25, ← zi_ni_40, ← zi_ni_45, ← zi_ni_47, ← zi_ni_48, ← zi_ni_95, ← zi_ni_96, ← zi_ni_97, ← zi_ni_100, ← zi_ni_144, ← zi_ni_288, nI_ltI, nI_leI, nI_eqI, nlt_T, nlt_F, nle_T, nle_F, neq_T, neq_F, nI_add, pk_mul, nI_clamp, q_inT, ng_lt, ng_tl, ng_le, ng_el, ng_eq, ng_qe, q_b0, q_b1, nar_0, nar_1, b01, b01', q_bn0, q_bn1, nar_n0, nar_n1, si_k, si_i, si_s, si_e, si_2, sl_1, sl_22, sl_k, sl_i, sl_s, sl_e, sp_1, sp_21, sp_22, sc_k, sc_i, sc_e, sc_2, mF_k, mM_k, mF_2, mM_2, mF_0, mM_11]
          exact K2.mono K'
        · obtain ⟨F', rfl⟩ : ∃ F'', F' = F'' + 1 := ⟨F' - 1, by omega⟩
          have i1 := hI.1
          obtain ⟨i2, i3⟩ := hI.2 ii hii
          rw [hnth] at i2 i3
          dsimp only at i2 i3
          refine Ev.hide (fun Q' Q => ?_)
          simp (disch := first | omega | decide) only [Nat.reduceAdd, Nat.reduceMul, ↓ev_bd, ↓ev_ck, ↓ev_if, ↓ev_lt, ↓ev_jn, ↓ev_so, ↓reduceIte, ↓ev_within, ↓ev_in, ↓ev_isBoard, ↓ev_isGauge, ↓ev_isNumber, ↓ev_isSix, ↓ev_isEight, ↓ev_foundN, ↓ev_meetsN, ↓ev_found_1, ↓ev_meets_1, ↓ev_found_2, ↓ev_meets_2, ↓ev_found_3, ↓ev_meets_3, ↓ev_found_4, ↓ev_meets_4, ↓ev_found_5, ↓ev_meets_5, true_and, and_true, and_self, eq_self, not_true_eq_false, not_false_eq_true, ite_true, ite_false, true_or, or_true, false_or, or_false, false_and, and_false, ← zi_ni_0, ← zi_ni_1, ← zi_ni_2, ← zi_ni_3, ← zi_ni_4, ← zi_ni_5, ← zi_ni_6, ← zi_ni_7, ← zi_ni_8, ← zi_ni_9, ← zi_ni_10, ← zi_ni_12, ← zi_ni_24, ← zi_ni_25, ← zi_ni_40, ← zi_ni_45, ← zi_ni_47, ← zi_ni_48, ← zi_ni_95, ← zi_ni_96, ← zi_ni_97, ← zi_ni_100, ← zi_ni_144, ← zi_ni_288, nI_ltI, nI_leI, nI_eqI, nlt_T, nlt_F, nle_T, nle_F, neq_T, neq_F, nI_add, pk_mul, nI_clamp, q_inT, ng_lt, ng_tl, ng_le, ng_el, ng_eq, ng_qe, q_b0, q_b1, nar_0, nar_1, b01, b01', q_bn0, q_bn1, nar_n0, nar_n1, si_k, si_i, si_s, si_e, si_2, sl_1, sl_22, sl_k, sl_i, sl_s, sl_e, sp_1, sp_21, sp_22, sc_k, sc_i, sc_e, sc_2, mF_k, mM_k, mF_2, mM_2, mF_0, mM_11, ↓eu_L_X11_plays_11, i1, i2, i3, n83_71, n83_80, n83_82, n83_84, n83_86, n83_87]
          refine f5 m (rel2 m hm) q_fu _ _ _ (by rw [show q_fu = 4000 from rfl]; omega) (fun m' q1 q2 q3 => ?_)
          try simp (disch := first | omega | decide) only [Nat.reduceAdd, Nat.reduceMul, ↓ev_bd, ↓ev_ck, ↓ev_if, ↓ev_lt, ↓ev_jn, ↓ev_so, ↓reduceIte, ↓ev_within, ↓ev_in, ↓ev_isBoard, ↓ev_isGauge, ↓ev_isNumber, ↓ev_isSix, ↓ev_isEight, ↓ev_foundN, ↓ev_meetsN, ↓ev_found_1, ↓ev_meets_1, ↓ev_found_2, ↓ev_meets_2, ↓ev_found_3, ↓ev_meets_3, ↓ev_found_4, ↓ev_meets_4, ↓ev_found_5, ↓ev_meets_5, true_and, and_true, and_self, eq_self, not_true_eq_false, not_false_eq_true, ite_true, ite_false, true_or, or_true, false_or, or_false, false_and, and_false, ← zi_ni_0, ← zi_ni_1, ← zi_ni_2, ← zi_ni_3, ← zi_ni_4, ← zi_ni_5, ← zi_ni_6, ← zi_ni_7, ← zi_ni_8, ← zi_ni_9, ← zi_ni_10, ← zi_ni_12, ← zi_ni_24, ← zi_ni_25, ← zi_ni_40, ← zi_ni_45, ← zi_ni_47, ← zi_ni_48, ← zi_ni_95, ← zi_ni_96, ← zi_ni_97, ← zi_ni_100, ← zi_ni_144, ← zi_ni_288, nI_ltI, nI_leI, nI_eqI, nlt_T, nlt_F, nle_T, nle_F, neq_T, neq_F, nI_add, pk_mul, nI_clamp, q_inT, ng_lt, ng_tl, ng_le, ng_el, ng_eq, ng_qe, q_b0, q_b1, nar_0, nar_1, b01, b01', q_bn0, q_bn1, nar_n0, nar_n1, si_k, si_i, si_s, si_e, si_2, sl_1, sl_22, sl_k, sl_i, sl_s, sl_e, sp_1, sp_21, sp_22, sc_k, sc_i, sc_e, sc_2, mF_k, mM_k, mF_2, mM_2, mF_0, mM_11]
          exact (fm m' q3 (q2.it hI) F' (by omega)).mono (fun r' m'' q => Q _ _ ⟨q.1, q1.tr q.2.1, q.2.2.mn (by omega)⟩)
      · have K1 := K v c3 (fc2.tr f2) (fun m hm hI F' hF' => ?_)
        · try simp (disch := first | omega | decide) only [Nat.reduceAdd, Nat.reduceMul, ↓ev_bd, ↓ev_ck, ↓ev_if, ↓ev_lt, ↓ev_jn, ↓ev_so, ↓reduceIte, ↓ev_within, ↓ev_in, ↓ev_isBoard, ↓ev_isGauge, ↓ev_isNumber, ↓ev_isSix, ↓ev_isEight, ↓ev_foundN, ↓ev_meetsN, ↓ev_found_1, ↓ev_meets_1, ↓ev_found_2, ↓ev_meets_2, ↓ev_found_3, ↓ev_meets_3, ↓ev_found_4, ↓ev_meets_4, ↓ev_found_5, ↓ev_meets_5, true_and, and_true, and_self, eq_self, not_true_eq_false, not_false_eq_true, ite_true, ite_false, true_or, or_true, false_or, or_false, false_and, and_false, ← zi_ni_0, ← zi_ni_1, ← zi_ni_2, ← zi_ni_3, ← zi_ni_4, ← zi_ni_5, ← zi_ni_6, ← zi_ni_7, ← zi_ni_8, ← zi_ni_9, ← zi_ni_10, ← zi_ni_12, ← zi_ni_24, ← zi_ni_25, ← zi_ni_40, ← zi_ni_45, ← zi_ni_47, ← zi_ni_48, ← zi_ni_95, ← zi_ni_96, ← zi_ni_97, ← zi_ni_100, ← zi_ni_144, ← zi_ni_288, nI_ltI, nI_leI, nI_eqI, nlt_T, nlt_F, nle_T, nle_F, neq_T, neq_F, nI_add, pk_mul, nI_clamp, q_inT, ng_lt, ng_tl, ng_le, ng_el, ng_eq, ng_qe, q_b0, q_b1, nar_0, nar_1, b01, b01', q_bn0, q_bn1, nar_n0, nar_n1, si_k, si_i, si_s, si_e, si_2, sl_1, sl_22, sl_k, sl_i, sl_s, sl_e, sp_1, sp_21, sp_22, sc_k, sc_i, sc_e, sc_2, mF_k, mM_k, mF_2, mM_2, mF_0, mM_11]
          exact K' _ _ K1
        · obtain ⟨F', rfl⟩ : ∃ F'', F' = F'' + 1 := ⟨F' - 1, by omega⟩
          have i1 := hI.1
          obtain ⟨i2, i3⟩ := hI.2 ii hii
          rw [hnth] at i2 i3
          dsimp only at i2 i3
          refine Ev.hide (fun Q' Q => ?_)
          simp (disch := first | omega | decide) only [Nat.reduceAdd, Nat.reduceMul, ↓ev_bd, ↓ev_ck, ↓ev_if, ↓ev_lt, ↓ev_jn, ↓ev_so, ↓reduceIte, ↓ev_within, ↓ev_in, ↓ev_isBoard, ↓ev_isGauge, ↓ev_isNumber, ↓ev_isSix, ↓ev_isEight, ↓ev_foundN, ↓ev_meetsN, ↓ev_found_1, ↓ev_meets_1, ↓ev_found_2, ↓ev_meets_2, ↓ev_found_3, ↓ev_meets_3, ↓ev_found_4, ↓ev_meets_4, ↓ev_found_5, ↓ev_meets_5, true_and, and_true, and_self, eq_self, not_true_eq_false, not_false_eq_true, ite_true, ite_false, true_or, or_true, false_or, or_false, false_and, and_false, ← zi_ni_0, ← zi_ni_1, ← zi_ni_2, ← zi_ni_3, ← zi_ni_4, ← zi_ni_5, ← zi_ni_6, ← zi_ni_7, ← zi_ni_8, ← zi_ni_9, ← zi_ni_10, ← zi_ni_12, ← zi_ni_24, ← zi_ni_25, ← zi_ni_40, ← zi_ni_45, ← zi_ni_47, ← zi_ni_48, ← zi_ni_95, ← zi_ni_96, ← zi_ni_97, ← zi_ni_100, ← zi_ni_144, ← zi_ni_288, nI_ltI, nI_leI, nI_eqI, nlt_T, nlt_F, nle_T, nle_F, neq_T, neq_F, nI_add, pk_mul, nI_clamp, q_inT, ng_lt, ng_tl, ng_le, ng_el, ng_eq, ng_qe, q_b0, q_b1, nar_0, nar_1, b01, b01', q_bn0, q_bn1, nar_n0, nar_n1, si_k, si_i, si_s, si_e, si_2, sl_1, sl_22, sl_k, sl_i, sl_s, sl_e, sp_1, sp_21, sp_22, sc_k, sc_i, sc_e, sc_2, mF_k, mM_k, mF_2, mM_2, mF_0, mM_11, ↓eu_L_X11_plays_11, i1, i2, i3, n83_71, n83_80, n83_82, n83_84, n83_86, n83_87]
          refine f5 m (rel2 m hm) q_fu _ _ _ (by rw [show q_fu = 4000 from rfl]; omega) (fun m' q1 q2 q3 => ?_)
          try simp (disch := first | omega | decide) only [Nat.reduceAdd, Nat.reduceMul, ↓ev_bd, ↓ev_ck, ↓ev_if, ↓ev_lt, ↓ev_jn, ↓ev_so, ↓reduceIte, ↓ev_within, ↓ev_in, ↓ev_isBoard, ↓ev_isGauge, ↓ev_isNumber, ↓ev_isSix, ↓ev_isEight, ↓ev_foundN, ↓ev_meetsN, ↓ev_found_1, ↓ev_meets_1, ↓ev_found_2, ↓ev_meets_2, ↓ev_found_3, ↓ev_meets_3, ↓ev_found_4, ↓ev_meets_4, ↓ev_found_5, ↓ev_meets_5, true_and, and_true, and_self, eq_self, not_true_eq_false, not_false_eq_true, ite_true, ite_false, true_or, or_true, false_or, or_false, false_and, and_false, ← zi_ni_0, ← zi_ni_1, ← zi_ni_2, ← zi_ni_3, ← zi_ni_4, ← zi_ni_5, ← zi_ni_6, ← zi_ni_7, ← zi_ni_8, ← zi_ni_9, ← zi_ni_10, ← zi_ni_12, ← zi_ni_24, ← zi_ni_25, ← zi_ni_40, ← zi_ni_45, ← zi_ni_47, ← zi_ni_48, ← zi_ni_95, ← zi_ni_96, ← zi_ni_97, ← zi_ni_100, ← zi_ni_144, ← zi_ni_288, nI_ltI, nI_leI, nI_eqI, nlt_T, nlt_F, nle_T, nle_F, neq_T, neq_F, nI_add, pk_mul, nI_clamp, q_inT, ng_lt, ng_tl, ng_le, ng_el, ng_eq, ng_qe, q_b0, q_b1, nar_0, nar_1, b01, b01', q_bn0, q_bn1, nar_n0, nar_n1, si_k, si_i, si_s, si_e, si_2, sl_1, sl_22, sl_k, sl_i, sl_s, sl_e, sp_1, sp_21, sp_22, sc_k, sc_i, sc_e, sc_2, mF_k, mM_k, mF_2, mM_2, mF_0, mM_11]
          exact Q _ _ ⟨rfl, q1, q3.mn (by omega)⟩
    · obtain ⟨m1, y1, y2, y3, y4⟩ := mob_ex hb h ht w3 w4 l83
      have rel1 : Rel (n + 1) (mix u2 m1) := Rel_ob hb h ht w3 w4 C1 C2 C3 y1 (by rw [y2]) y3 (fun z _ q => y4 z q)
      have K2 := ih a2 st2 (j + 1) (ii + 1) x (n + 1) u2 m1 F P T (pre ++ [(l, y)]) (by omega) (by omega) (by omega) w2 hS2 ((s7 2).trans g2) ((s7 5).trans g5) ((s7 6).trans g6) hno2 hT2 hlen2 hT40 (by omega) rel1 t2 (fun d c4 fc4 fm => K d c4 (fc2.tr fc4) (fun m hm hI F' hF' => ?_))
      · rw [hG]
        simp (disch := first | omega | decide) only [Nat.reduceAdd, Nat.reduceMul, ↓ev_bd, ↓ev_ck, ↓ev_if, ↓ev_lt, ↓ev_jn, ↓ev_so, ↓reduceIte, ↓ev_within, ↓ev_in, ↓ev_isBoard, ↓ev_isGauge, ↓ev_isNumber, ↓ev_isSix, ↓ev_isEight, ↓ev_foundN, ↓ev_meetsN, ↓ev_found_1, ↓ev_meets_1, ↓ev_found_2, ↓ev_meets_2, ↓ev_found_3, ↓ev_meets_3, ↓ev_found_4, ↓ev_meets_4, ↓ev_found_5, ↓ev_meets_5, true_and, and_true, and_self, eq_self, not_true_eq_false, not_false_eq_true, ite_true, ite_false, true_or, or_true, false_or, or_false, false_and, and_false, ← zi_ni_0, ← zi_ni_1, ← zi_ni_2, ← zi_ni_3, ← zi_ni_4, ← zi_ni_5, ← zi_ni_6, ← zi_ni_7, ← zi_ni_8, ← zi_ni_9, ← zi_ni_10, ← zi_ni_12, ← zi_ni_24, ← zi_ni_25, ← zi_ni_40, ← zi_ni_45, ← zi_ni_47, ← zi_ni_48, ← zi_ni_95, ← zi_ni_96, ← zi_ni_97, ← zi_ni_100, ← zi_ni_144, ← zi_ni_288, nI_ltI, nI_leI, nI_eqI, nlt_T, nlt_F, nle_T, nle_F, neq_T, neq_F, nI_add, pk_mul, nI_clamp, q_inT, ng_lt, ng_tl, ng_le, ng_el, ng_eq, ng_qe, q_b0, q_b1, nar_0, nar_1, b01, b01', q_bn0, q_bn1, nar_n0, nar_n1, si_k, si_i, si_s, si_e, si_2, sl_1, sl_22, sl_k, sl_i, sl_s, sl_e, sp_1, sp_21, sp_22, sc_k, sc_i, sc_e, sc_2, mF_k, mM_k, mF_2, mM_2, mF_0, mM_11, ↓eu_X6_stepsOfItem, ↓eu_L_X10_play_144, r3, l83]
        exact K2.mono K'
      · obtain ⟨F', rfl⟩ : ∃ F'', F' = F'' + 1 := ⟨F' - 1, by omega⟩
        obtain ⟨i2, i3⟩ := hI.2 ii hii
        rw [hnth] at i2 i3
        have e : mB m b = cB c b := by
          have := bEq (hm.2.2.2.1 b hb) (show (mix c m).1 2 b 10 = nI 1 by rw [mix_c rfl]; exact ht)
          rwa [mB_mix, cB_mix] at this
        refine ev_mob (i := ii) (len := T.length) (n := n) (w := w) (h := hh) (l := l) (x := y) (by omega) (by rw [e]; exact hd) (by rw [e]; exact hw) w3 w4 l83 hii hT40 hI.1 i2 i3 (fun u' q1 q2 q3 q4 => ?_)
        have M1 : ∀ a' i' s, isMK a' = false → ¬ scr a' i' s → u'.1 a' i' s = m.1 a' i' s := fun a' i' s z1 _ => q1 a' i' s (fun z => by rw [z1] at z; cases z.1)
        have rel3 : Rel (n + 1) (mix u2 u') := Rel_ob hb hm ht w3 w4 C1 C2 C3 M1 (by rw [q2]) q3 (fun z _ q => q4 z q)
        have mi : MI m u' := ⟨funext (fun i' => funext (fun s => q1 72 i' s (fun z => by cases z.1))), funext (fun i' => funext (fun s => q1 73 i' s (fun z => by cases z.1))), q1 11 0 11 (fun z => by cases z.1)⟩
        exact (fm u' rel3 (mi.it hI) F' (by omega)).mono (fun r' m'' q => ⟨q.1, FM.tr ⟨fun a' z => funext (fun i' => funext (fun s => q1 a' i' s (fun z2 => by rw [mk_f z] at z2; cases z2.1))), fun _ _ => by rw [q2]⟩ q.2.1, q.2.2.mn (by omega)⟩)
