/-! play: the steps of an item. -/
/-- a step of the reference, on any board that nothing or something floats on -/
def FG (b : Nat) (m m' : qM) : Prop := (∀ a i s, a < 101 ∨ 104 < a → ¬ (i = 0 ∧ (((a = 81 ∨ a = 82 ∨ a = 83) ∧ s = b) ∨ (a = 92 ∧ 48 * b ≤ s ∧ s < 48 * b + 48) ∨ (a = 93 ∧ 144 * b ≤ s ∧ s < 144 * b + 144) ∨ (a = 94 ∧ 96 * b ≤ s ∧ s < 96 * b + 96) ∨ (a = 106 ∧ s < 8) ∨ a = 110 ∨ a = 111 ∨ a = 112)) → m'.1 a i s = m.1 a i s) ∧ m'.2 = m.2
def NOB (b : Nat) (m m' : qM) : Prop := (∀ k, k < 8 → ¬ m.1 105 0 k = nI b → m'.1 106 0 k = m.1 106 0 k) ∧ (∀ g, g < 8 → ¬ m.1 108 0 g = nI b → m'.1 110 0 g = m.1 110 0 g ∧ ∀ s, s < 48 → m'.1 111 0 (48 * g + s) = m.1 111 0 (48 * g + s) ∧ m'.1 112 0 (48 * g + s) = m.1 112 0 (48 * g + s))
theorem ev_stepM {b n : Nat} {m : qM} {P : Int32 → qM → Prop} (hb : b < 8) (hn : n ≤ 2000000) (hw : WF n (mB m b)) (hs : SZ (m.1 66 0)) (hB : BM m b (nN (mB m b))) (hG : GM m b (nN (mB m b))) (hL : ∀ g, g < 8 → m.1 108 0 g = nI b → m.1 110 0 g = nI 48 → ∀ s, s < 48 → m.1 112 0 (48 * g + s) = 0 ∨ m.1 112 0 (48 * g + s) = 1) (K0 : tmF (mB m b) = true → ∀ m', FG b m m' → NOB b m m' → mB m' b = mB m b → P 0 m') (K1 : tmF (mB m b) = false → ∀ m', FG b m m' → NOB b m m' → mB m' b = nxt (tdM m (mB m b)) (mB m b) → P 1 m') : Ev (f_X11_stepOnce (nI b) m) P := by
  obtain ⟨w, hh, hd⟩ := hw.gd.dw
  have hN : nN (mB m b) = w * hh := hd.2.2.2.2.2.2.2.2.1
  have h48 : w * hh ≤ 48 := hd.2.2.2.2.2.2.2.2.2
  refine ev_stepA (n := n) hb hn hw hs (fun htm m' hMA hmb => K0 htm m' ⟨fun a i s q1 q2 => hMA.1 a i s q1 (by omega), hMA.2⟩ ⟨fun k hk _ => hMA.1 106 0 k (by omega) (by omega), fun g hg _ => ⟨hMA.1 110 0 g (by omega) (by omega), fun s _ => ⟨hMA.1 111 0 _ (by omega) (by omega), hMA.1 112 0 _ (by omega) (by omega)⟩⟩⟩ hmb) (fun htm u1 hMA hu1 => ?_)
  have hX := WF_nxt (t := tdM m (mB m b)) hw htm
  have hA4 : nxtA (tdM m (mB m b)) (mB m b) 4 = nxt (tdM m (mB m b)) (mB m b) 4 := by rw [nxt_A, bs_t (by decide)]
  have hdA : DW (nxtA (tdM m (mB m b)) (mB m b)) w hh := DW_s hd (nxtA_s (by decide) (by decide)) (nxtA_s (by decide) (by decide))
  have hXA : nxt (tdM m (mB m b)) (mB m b) = bset (nxtA (tdM m (mB m b)) (mB m b)) 0 3 (mB m b 0 3 + nI 1) := nxt_A
  rw [hN] at hB hG
  have y105 : ∀ k, u1.1 105 0 k = m.1 105 0 k := fun k => hMA.1 105 0 k (by omega) (by omega)
  have y106 : ∀ k, u1.1 106 0 k = m.1 106 0 k := fun k => hMA.1 106 0 k (by omega) (by omega)
  have y107 : ∀ k, u1.1 107 0 k = m.1 107 0 k := fun k => hMA.1 107 0 k (by omega) (by omega)
  refine lp_mb (v := nxtA (tdM m (mB m b)) (mB m b)) (by omega) hdA (by rw [hA4]; exact hX.2.1.2.2.1) (by rw [← hu1]; exact SM.mk) (fun k hk hq => by
    rw [y105] at hq
    rw [y106, y107]
    exact hB k hk hq) (fun u2 s1 s2 s3 => ?_)
  have hu2 : mB u2 b = nxtA (tdM m (mB m b)) (mB m b) := by
    rw [← hu1]
    apply mB_ext <;> exact funext (fun i => funext (fun s => s1 _ i s (by omega)))
  have hst : u2.1 81 0 b = mB m b 0 3 := (congrFun (congrFun hu2 0) 3).trans (nxtA_s (by decide) (by decide))
  try simp (disch := first | omega | decide) only [Nat.reduceAdd, Nat.reduceMul, ↓ev_ck, ↓ev_if, ↓ev_lt, ↓ev_jn, ↓ev_so, ↓reduceIte, ↓ev_within, ↓ev_in, ↓ev_isBoard, ↓ev_isGauge, ↓ev_isNumber, ↓ev_isSix, ↓ev_isEight, ↓ev_foundN, ↓ev_meetsN, ↓ev_found_1, ↓ev_meets_1, ↓ev_found_2, ↓ev_meets_2, ↓ev_found_3, ↓ev_meets_3, ↓ev_found_4, ↓ev_meets_4, ↓ev_found_5, ↓ev_meets_5, true_and, and_true, and_self, eq_self, not_true_eq_false, not_false_eq_true, ite_true, ite_false, true_or, or_true, false_or, or_false, false_and, and_false, ← zi_ni_0, ← zi_ni_1, ← zi_ni_2, ← zi_ni_3, ← zi_ni_4, ← zi_ni_5, ← zi_ni_6, ← zi_ni_7, ← zi_ni_8, ← zi_ni_9, ← zi_ni_10, ← zi_ni_12, ← zi_ni_24, ← zi_ni_25, ← zi_ni_40, ← zi_ni_45, ← zi_ni_47, ← zi_ni_48, ← zi_ni_95, ← zi_ni_96, ← zi_ni_97, ← zi_ni_100, ← zi_ni_144, ← zi_ni_288, nI_ltI, nI_leI, nI_eqI, nlt_T, nlt_F, nle_T, nle_F, neq_T, neq_F, nI_add, pk_mul, nI_clamp, q_inT, ng_lt, ng_tl, ng_le, ng_el, ng_eq, ng_qe, q_b0, q_b1, nar_0, nar_1, b01, b01', q_bn0, q_bn1, nar_n0, nar_n1, si_k, si_i, si_s, si_e, si_2, sl_1, sl_22, sl_k, sl_i, sl_s, sl_e, sp_1, sp_21, sp_22, sc_k, sc_i, sc_e, sc_2, mF_k, mM_k, mF_2, mM_2, mF_0, mM_11, hst]
  have hu3 : mB (q_si u2 81 0 b (mB m b 0 3 + nI 1)) b = nxt (tdM m (mB m b)) (mB m b) := by rw [mW_0_3, hu2, ← hXA]
  have z : ∀ a s, 104 < a → a ≠ 106 → (q_si u2 81 0 b (mB m b 0 3 + nI 1)).1 a 0 s = m.1 a 0 s := fun a s q q2 => by rw [si_n (by omega), s1 a 0 s (by omega)]; exact hMA.1 a 0 s (by omega) (by omega)
  refine lp_mg (v := nxt (tdM m (mB m b)) (mB m b)) (N := w * hh) (by omega) h48 (by rw [← hu3]; exact SM.mk) (fun g hg hq => by
    rw [z 108 g (by decide) (by decide)] at hq
    rw [z 109 g (by decide) (by decide), z 110 g (by decide) (by decide)]
    exact hG g hg hq) (fun g hg hq h48' s hs' => by
    rw [z 108 g (by decide) (by decide)] at hq
    rw [z 110 g (by decide) (by decide)] at h48'
    rw [z 112 _ (by decide) (by decide)]
    exact hL g hg hq h48' s hs') (fun u4 t1 t2 t3 => ?_)
  have hu4 : mB u4 b = nxt (tdM m (mB m b)) (mB m b) := by
    rw [← hu3]
    apply mB_ext <;> exact funext (fun i => funext (fun s => t1 _ i s (by omega)))
  refine ev_so.mpr (K1 htm u4 ⟨fun a i s q1 q2 => by rw [t1 a i s (by omega), si_n (by omega), s1 a i s (by omega)]; exact hMA.1 a i s q1 (by omega), ?_⟩ ⟨fun k hk q => ?_, fun g hg q => ?_⟩ hu4)
  · rw [t2]
    show u2.2 = m.2
    rw [s2, hMA.2]
  · rw [t1 106 0 k (by omega), si_k (by decide), (s3 k hk).1 (by rw [y105]; exact q), y106]
  · have r := (t3 g hg).1 (by rw [z 108 g (by decide) (by decide)]; exact q)
    rw [z 110 g (by decide) (by decide)] at r
    refine ⟨r.1, fun s hs' => ?_⟩
    have r2 := r.2 s hs'
    rw [z 111 _ (by decide) (by decide), z 112 _ (by decide) (by decide)] at r2
    exact r2
/-- the items that the reference has read stay -/
def MI (m m' : qM) : Prop := m'.1 72 = m.1 72 ∧ m'.1 73 = m.1 73 ∧ m'.1 11 0 11 = m.1 11 0 11
theorem MI.rf {m : qM} : MI m m := ⟨rfl, rfl, rfl⟩
theorem MI.tr {a b c : qM} (h : MI a b) (h2 : MI b c) : MI a c := ⟨h2.1.trans h.1, h2.2.1.trans h.2.1, h2.2.2.trans h.2.2⟩
theorem MI.it {m m' : qM} {l : List (Int32 × Int32)} (h : MI m m') (hI : IT m l) : IT m' l := by
  obtain ⟨a1, a2, a3⟩ := h
  refine ⟨a3.trans hI.1, fun j hj => ?_⟩
  rw [a1, a2]
  exact hI.2 j hj
theorem FG.mi {b : Nat} {m m' : qM} (h : FG b m m') : MI m m' := ⟨funext (fun i => funext (fun s => h.1 72 i s (by omega) (by omega))), funext (fun i => funext (fun s => h.1 73 i s (by omega) (by omega))), h.1 11 0 11 (by omega) (by omega)⟩
theorem stepMf {n b : Nat} {c m : qM} (hn : n + 1 ≤ 2000000) (h : Rel n (mix c m)) (hb : b < 6) (ht : c.1 2 b 10 = nI 1) : Ev (f_X11_stepOnce (nI b) m) (fun _ m' => MI m m') := by
  obtain ⟨m1, m2, m3, m4, m5, m6⟩ := h.mdl (by omega) hb ht
  obtain ⟨hw, -⟩ := h.cls hb ht
  refine ev_stepM (n := n) (by omega) (by omega) (by rw [m1]; exact hw) m2 (by rw [m1]; exact m3) (by rw [m1]; exact m4) m5 (fun _ m' q _ _ => q.mi) (fun _ m' q _ _ => q.mi)
theorem Rel.n60 {n : Nat} {c m : qM} {x : Int32} (h : Rel n (mix c m)) : Rel n (mix c (q_si m 11 0 60 x)) := by
  rw [mix_sm rfl]
  exact Rel_keep (Kp.of (fun a i s q => si_n (fun z => q (by rw [z.1, z.2.2]; exact .inl (by decide)))) rfl) h
theorem plsteps {b S : Nat} {x5 x9 x3 : Int32} {cell : Nat} {e1 e2 : Int32 → qM → Option (Int32 × qM)} (hb : b < 6) (hS : S ≤ 24) (hcell : cell < 48) : ∀ k i n (c m0 : qM) (F : Nat) (x : Int32) (P : Int32 → qM → Prop), i + k = S → k < F → n + k ≤ 2000000 → Rel n (mix c m0) → c.1 2 b 10 = nI 1 →
    (∀ y c', FS c c' → FC c c' → c'.1 2 b 10 = nI 1 → (∃ m0', Rel (n + k) (mix c' m0')) → (∀ m, Rel n (mix c m) → ∀ F' e1' e2' Q, k < F' → (∀ m', FM m m' → MI m m' → Rel (n + k) (mix c' m') → Ev (e1' y m') Q) → Ev (L_X11_plays_263 (nI b) (nI cell) x3 x5 (nI S) F' x (nI i) m e1' e2') Q) → Ev (e1 y c') P) →
    (∀ y c', FS c c' → FC c c' → (∀ m, Rel n (mix c m) → ∀ F' e1' e2' Q, k < F' → (∀ m', FM m m' → MI m m' → Rel (n + k) (mix c' m') → Ev (e2' y m') Q) → Ev (L_X11_plays_263 (nI b) (nI cell) x3 x5 (nI S) F' x (nI i) m e1' e2') Q) → Ev (e2 y c') P) →
    Ev (L_X10_play_144 (nI b) x9 (nI S) F x (nI i) c e1 e2) P := by
  intro k
  induction k with
  | zero =>
    intro i n c m0 F x P hi hF hn h ht K1 K2
    obtain ⟨F, rfl⟩ : ∃ F', F = F' + 1 := ⟨F - 1, by omega⟩
    obtain rfl : i = S := by omega
    refine eu_L_X10_play_144.mpr ?_
    rw [if_pos (Int32.le_refl _)]
    refine K1 x c ⟨fun _ _ _ _ => rfl, rfl⟩ FC.rf ht ⟨m0, h⟩ (fun m hm F' e1' e2' Q hF' KQ => ?_)
    obtain ⟨F', rfl⟩ : ∃ F'', F' = F'' + 1 := ⟨F' - 1, by omega⟩
    refine eu_L_X11_plays_263.mpr ?_
    rw [if_pos (Int32.le_refl _)]
    exact KQ m FM.rf MI.rf hm
  | succ k ih =>
    intro i n c m0 F x P hi hF hn h ht K1 K2
    obtain ⟨F, rfl⟩ : ∃ F', F = F' + 1 := ⟨F - 1, by omega⟩
    have hlt : ¬ nI S ≤ nI i := by rw [nI_leI (by omega) (by omega)]; omega
    refine eu_L_X10_play_144.mpr ?_
    rw [if_neg hlt]
    refine ev_bd.mpr (step1x (n := n) (m0 := m0) (by omega) h hb ht (fun r c' hfs hfc hr ht' hm => ?_))
    -- a step of the reference, with what is read kept
    have hmm : ∀ m, Rel n (mix c m) → Ev (f_X11_stepOnce (nI b) m) (fun r' m' => (r' = r ∧ FM m m' ∧ Rel (n + 1) (mix c' m')) ∧ MI m m') := fun m hm1 => (hm m hm1).and (stepMf (by omega) hm1 hb ht)
    rcases hr with rfl | rfl
    · refine (show Ev (e2 x c') P from ?_)
      refine K2 x c' hfs hfc (fun m hm1 F' e1' e2' Q hF' KQ => ?_)
      obtain ⟨F', rfl⟩ : ∃ F'', F' = F'' + 1 := ⟨F' - 1, by omega⟩
      refine eu_L_X11_plays_263.mpr ?_
      rw [if_neg hlt]
      refine ev_bd.mpr ((hmm m hm1).mono (fun r' m' q => ?_))
      obtain ⟨⟨rfl, q2, q3⟩, q4⟩ := q
      refine (show Ev (e2' x m') Q from ?_)
      exact KQ m' q2 q4 (q3.mn (by omega))
    · obtain ⟨r0, m1, -, ⟨-, -, hR⟩, -⟩ := hmm m0 h
      refine (show Ev (L_X10_play_144 (nI b) x9 (nI S) F (x + 1) (nI i + 1) c' e1 e2) P from ?_)
      rw [show nI i + 1 = nI (i + 1) from nI_add i 1]
      -- the reference, from here on
      have fwd : ∀ (y : Int32) (c2 : qM) (good : Bool), (∀ m, Rel (n + 1) (mix c' m) → ∀ F' e1' e2' Q, k < F' → (∀ m', FM m m' → MI m m' → Rel (n + 1 + k) (mix c2 m') → Ev (if good = true then e1' y m' else e2' y m') Q) → Ev (L_X11_plays_263 (nI b) (nI cell) x3 x5 (nI S) F' (x + 1) (nI (i + 1)) m e1' e2') Q) → (∀ m, Rel n (mix c m) → ∀ F' e1' e2' Q, k + 1 < F' → (∀ m', FM m m' → MI m m' → Rel (n + (k + 1)) (mix c2 m') → Ev (if good = true then e1' y m' else e2' y m') Q) → Ev (L_X11_plays_263 (nI b) (nI cell) x3 x5 (nI S) F' x (nI i) m e1' e2') Q) := by
        intro y c2 good hm2 m hm1 F' e1' e2' Q hF' KQ
        obtain ⟨F', rfl⟩ : ∃ F'', F' = F'' + 1 := ⟨F' - 1, by omega⟩
        refine eu_L_X11_plays_263.mpr ?_
        rw [if_neg hlt]
        refine ev_bd.mpr ((hmm m hm1).mono (fun r' m' q => ?_))
        obtain ⟨⟨rfl, q2, q3⟩, q4⟩ := q
        have go : ∀ z : Int32, Ev (L_X11_plays_263 (nI b) (nI cell) x3 x5 (nI S) F' (x + 1) (nI (i + 1)) (q_si m' 11 0 60 z) e1' e2') Q := fun z => by
          refine hm2 _ q3.n60 F' e1' e2' Q (by omega) (fun m'' p1 p2 p3 => KQ m'' (q2.tr (FM.tr (b := q_si m' 11 0 60 z) ⟨fun a q => ?_, fun _ _ => rfl⟩ p1)) (q4.tr (MI.tr (b := q_si m' 11 0 60 z) ⟨?_, ?_, ?_⟩ p2)) (by rwa [show n + 1 + k = n + (k + 1) by omega] at p3))
          · exact si_k (fun z2 => by rw [z2] at q; cases q)
          · exact si_k (by decide)
          · exact si_k (by decide)
          · exact si_s (by decide)
        have hxx : (x + 1 : Int32) = x + nI 1 := rfl
        rw [hxx] at go
        have g0 := go (nI 0)
        have g1 := go (nI 1)
        by_cases q60 : m'.1 11 0 60 = nI 0
        · by_cases ql : m'.1 91 0 (48 * b + cell) + m'.1 92 0 (48 * b + cell) < x3
          · simp (disch := first | omega | decide) only [Nat.reduceAdd, Nat.reduceMul, ↓ev_bd, ↓ev_ck, ↓ev_if, ↓ev_lt, ↓ev_jn, ↓ev_so, ↓reduceIte, ↓ev_within, ↓ev_in, ↓ev_isBoard, ↓ev_isGauge, ↓ev_isNumber, ↓ev_isSix, ↓ev_isEight, ↓ev_foundN, ↓ev_meetsN, ↓ev_found_1, ↓ev_meets_1, ↓ev_found_2, ↓ev_meets_2, ↓ev_found_3, ↓ev_meets_3, ↓ev_found_4, ↓ev_meets_4, ↓ev_found_5, ↓ev_meets_5, true_and, and_true, and_self, eq_self, not_true_eq_false, not_false_eq_true, ite_true, ite_false, true_or, or_true, false_or, or_false, false_and, and_false, ← zi_ni_0, ← zi_ni_1, ← zi_ni_2, ← zi_ni_3, ← zi_ni_4, ← zi_ni_5, ← zi_ni_6, ← zi_ni_7, ← zi_ni_8, ← zi_ni_9, ← zi_ni_10, ← zi_ni_12, ← zi_ni_24, ← zi_ni_25, ← zi_ni_40, ← zi_ni_45, ← zi_ni_47, ← zi_ni_48, ← zi_ni_95, ← zi_ni_96, ← zi_ni_97, ← zi_ni_100, ← zi_ni_144, ← zi_ni_288, nI_ltI, nI_leI, nI_eqI, nlt_T, nlt_F, nle_T, nle_F, neq_T, neq_F, nI_add, pk_mul, nI_clamp, q_inT, ng_lt, ng_tl, ng_le, ng_el, ng_eq, ng_qe, q_b0, q_b1, nar_0, nar_1, b01, b01', q_bn0, q_bn1, nar_n0, nar_n1, si_k, si_i, si_s, si_e, si_2, sl_1, sl_22, sl_k, sl_i, sl_s, sl_e, sp_1, sp_21, sp_22, sc_k, sc_i, sc_e, sc_2, mF_k, mM_k, mF_2, mM_2, mF_0, mM_11, ↓eu_X11_level, q60, ql]
            exact g0
          · simp (disch := first | omega | decide) only [Nat.reduceAdd, Nat.reduceMul, ↓ev_bd, ↓ev_ck, ↓ev_if, ↓ev_lt, ↓ev_jn, ↓ev_so, ↓reduceIte, ↓ev_within, ↓ev_in, ↓ev_isBoard, ↓ev_isGauge, ↓ev_isNumber, ↓ev_isSix, ↓ev_isEight, ↓ev_foundN, ↓ev_meetsN, ↓ev_found_1, ↓ev_meets_1, ↓ev_found_2, ↓ev_meets_2, ↓ev_found_3, ↓ev_meets_3, ↓ev_found_4, ↓ev_meets_4, ↓ev_found_5, ↓ev_meets_5, true_and, and_true, and_self, eq_self, not_true_eq_false, not_false_eq_true, ite_true, ite_false, true_or, or_true, false_or, or_false, false_and, and_false, ← zi_ni_0, ← zi_ni_1, ← zi_ni_2, ← zi_ni_3, ← zi_ni_4, ← zi_ni_5, ← zi_ni_6, ← zi_ni_7, ← zi_ni_8, ← zi_ni_9, ← zi_ni_10, ← zi_ni_12, ← zi_ni_24, ← zi_ni_25, ← zi_ni_40, ← zi_ni_45, ← zi_ni_47, ← zi_ni_48, ← zi_ni_95, ← zi_ni_96, ← zi_ni_97, ← zi_ni_100, ← zi_ni_144, ← zi_ni_288, nI_ltI, nI_leI, nI_eqI, nlt_T, nlt_F, nle_T, nle_F, neq_T, neq_F, nI_add, pk_mul, nI_clamp, q_inT, ng_lt, ng_tl, ng_le, ng_el, ng_eq, ng_qe, q_b0, q_b1, nar_0, nar_1, b01, b01', q_bn0, q_bn1, nar_n0, nar_n1, si_k, si_i, si_s, si_e, si_2, sl_1, sl_22, sl_k, sl_i, sl_s, sl_e, sp_1, sp_21, sp_22, sc_k, sc_i, sc_e, sc_2, mF_k, mM_k, mF_2, mM_2, mF_0, mM_11, ↓eu_X11_level, q60, ql]
            exact g1
        · simp (disch := first | omega | decide) only [Nat.reduceAdd, Nat.reduceMul, ↓ev_bd, ↓ev_ck, ↓ev_if, ↓ev_lt, ↓ev_jn, ↓ev_so, ↓reduceIte, ↓ev_within, ↓ev_in, ↓ev_isBoard, ↓ev_isGauge, ↓ev_isNumber, ↓ev_isSix, ↓ev_isEight, ↓ev_foundN, ↓ev_meetsN, ↓ev_found_1, ↓ev_meets_1, ↓ev_found_2, ↓ev_meets_2, ↓ev_found_3, ↓ev_meets_3, ↓ev_found_4, ↓ev_meets_4, ↓ev_found_5, ↓ev_meets_5, true_and, and_true, and_self, eq_self, not_true_eq_false, not_false_eq_true, ite_true, ite_false, true_or, or_true, false_or, or_false, false_and, and_false, ← zi_ni_0, ← zi_ni_1, ← zi_ni_2, ← zi_ni_3, ← zi_ni_4, ← zi_ni_5, ← zi_ni_6, ← zi_ni_7, ← zi_ni_8, ← zi_ni_9, ← zi_ni_10, ← zi_ni_12, ← zi_ni_24, ← zi_ni_25, ← zi_ni_40, ← zi_ni_45, ← zi_ni_47, ← zi_ni_48, ← zi_ni_95, ← zi_ni_96, ← zi_ni_97, ← zi_ni_100, ← zi_ni_144, ← zi_ni_288, nI_ltI, nI_leI, nI_eqI, nlt_T, nlt_F, nle_T, nle_F, neq_T, neq_F, nI_add, pk_mul, nI_clamp, q_inT, ng_lt, ng_tl, ng_le, ng_el, ng_eq, ng_qe, q_b0, q_b1, nar_0, nar_1, b01, b01', q_bn0, q_bn1, nar_n0, nar_n1, si_k, si_i, si_s, si_e, si_2, sl_1, sl_22, sl_k, sl_i, sl_s, sl_e, sp_1, sp_21, sp_22, sc_k, sc_i, sc_e, sc_2, mF_k, mM_k, mF_2, mM_2, mF_0, mM_11, q60]
          exact g1
      refine ih (i + 1) (n + 1) c' m1 F (x + 1) P (by omega) (by omega) (by omega) hR ht' (fun y c2 f1 f2 f3 f4 f5 => K1 y c2 ⟨fun a i s q => (f1.1 a i s q).trans (hfs.1 a i s q), f1.2.trans hfs.2⟩ (hfc.tr f2) f3 (by obtain ⟨m0', z⟩ := f4; exact ⟨m0', by rwa [show n + 1 + k = n + (k + 1) by omega] at z⟩) (fwd y c2 true f5)) (fun y c2 f1 f2 f5 => K2 y c2 ⟨fun a i s q => (f1.1 a i s q).trans (hfs.1 a i s q), f1.2.trans hfs.2⟩ (hfc.tr f2) (fwd y c2 false f5))
