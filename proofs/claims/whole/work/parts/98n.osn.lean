/-! alarm: a world tried by the reference. -/
def iok (a : Int32 × Int32) : Prop := tHas a.1 = true ∧ ¬ (a.2 < tLo a.1 ∨ tHi a.1 < a.2)
theorem tAl_ok {f : Nat → Int32} {L : Nat} : ∀ n a st, a ≤ L → ∀ z, z ∈ (tAl f L n a st).1 → iok z
  | 0, a, st, h, z, hz => by cases hz
  | n + 1, a, st, h, z, hz => by
    have hb := tsk_le (f := f) (L - a) a
    by_cases q : L ≤ tsk f (L - a) a
    · rw [tAl_e q] at hz
      cases hz
    · cases hr : tIt f L (tsk f (L - a) a) st with
      | inl p =>
        rw [tAl_l q hr] at hz
        cases hz
      | inr r =>
        obtain ⟨x, c, st'⟩ := r
        obtain ⟨w1, w2, w3, w4⟩ := tIt_r (by omega) hr
        rw [tAl_r q hr] at hz
        rcases List.mem_cons.mp hz with e | e
        · rw [e]
          exact ⟨w3, w4⟩
        · exact tAl_ok n c st' w2 z e
theorem amG {T : qB → Option Int32} {q : Nat} {y : Int32} (hq : q < 48) : ∀ (r pre TT : List (Int32 × Int32)) ii n d (u : qM) F (P : Int32 → qM → Prop), TT = pre ++ r → pre.length = ii → TT.length ≤ 40 → r.length < F → (∀ a, a ∈ r → iok a) → n + 24 * r.length ≤ 2000000 → d + 24 * r.length ≤ 2000000 → WF n (mB u 6) → SZ (u.1 66 0) → N6 u → (∀ n v, n ≤ 2000000 → WF n v → tdM u v = T v) → IT u TT → u.1 11 0 60 = nI 1 → (∀ u' d', Km u u' → u'.1 11 0 60 = nI 1 → d' ≤ d + 24 * r.length → P (nI d') u') → Ev (L_X11_plays_11 (nI 6) (nI q) y F (nI d) (nI ii) u (fun x25 u23 => some (x25, u23)) (fun x26 u24 => some (x26, u24))) P := by
  intro r
  induction r with
  | nil =>
    intro pre TT ii n d u F P hTT hpre h40 hF hok hn hd hw hs hN hT hI h60 K
    obtain ⟨F, rfl⟩ : ∃ F', F = F' + 1 := ⟨F - 1, by omega⟩
    have hlen : TT.length = ii := by rw [hTT, List.append_nil]; exact hpre
    refine eu_L_X11_plays_11.mpr ?_
    rw [hI.1, hlen, if_pos (Int32.le_refl _)]
    exact ev_so.mpr (K u d Km.rf h60 (by omega))
  | cons a r ih =>
    obtain ⟨l, x⟩ := a
    intro pre TT ii n d u F P hTT hpre h40 hF hok hn hd hw hs hN hT hI h60 K
    obtain ⟨F, rfl⟩ : ∃ F', F = F' + 1 := ⟨F - 1, by omega⟩
    have hrl : ((l, x) :: r).length = r.length + 1 := rfl
    rw [hrl] at hF hn hd K
    obtain ⟨w3, w4⟩ := hok (l, x) (List.mem_cons.mpr (.inl rfl))
    dsimp only at w3 w4
    have hok2 : ∀ a, a ∈ r → iok a := fun a h => hok a (List.mem_cons.mpr (.inr h))
    have hT2 : TT = (pre ++ [(l, x)]) ++ r := by rw [hTT, List.append_assoc]; rfl
    have hlen2 : (pre ++ [(l, x)]).length = ii + 1 := by rw [List.length_append, hpre]; rfl
    have hii : ii < TT.length := by rw [hT2, List.length_append, hlen2]; omega
    have hnth : nth TT ii = (l, x) := by rw [hTT, ← hpre]; exact nth_eq pre
    have i1 := hI.1
    obtain ⟨i2, i3⟩ := hI.2 ii hii
    rw [hnth] at i2 i3
    dsimp only at i2 i3
    by_cases l83 : l = 83
    · subst l83
      obtain ⟨S, hS24, rfl⟩ := x_S w4
      have go : Ev (L_X11_plays_263 (nI 6) (nI q) y (nI ii) (nI S) q_fu (nI d) (nI 0) u (fun x23 u21 => L_X11_plays_11 (nI 6) (nI q) y F x23 (nI (ii + 1)) u21 (fun x25 u23 => some (x25, u23)) (fun x26 u24 => some (x26, u24))) (fun x24 u22 => some (x24, u22))) P := by
        refine amH (T := T) hq hS24 S 0 n d u q_fu P (Nat.zero_add S) (Nat.lt_of_le_of_lt hS24 (by decide)) (by omega) (by omega) hw hs hN hT h60 (fun u2 d2 k2 m2 e2 w2 h2 => ?_) (fun u2 d2 k2 e2 h2 => ev_so.mpr (K u2 d2 k2 e2 (by omega)))
        exact ih (pre ++ [(83, nI S)]) TT (ii + 1) (n + S) d2 u2 F P hT2 hlen2 h40 (by omega) hok2 (by omega) (by omega) w2 (by rw [show u2.1 66 0 = u.1 66 0 from funext (fun s => k2.eq (by decide))]; exact hs) (hN.km k2) (fun n v q1 q2 => by rw [k2.td]; exact hT n v q1 q2) (m2.it hI) e2 (fun u3 d3 k3 e3 h3 => K u3 d3 (k2.tr k3) e3 (by omega))
      refine Ev.hide (fun Q' Q => ?_)
      have go := go.mono Q
      simp (disch := first | omega | decide) only [Nat.reduceAdd, Nat.reduceMul, ↓ev_bd, ↓ev_ck, ↓ev_if, ↓ev_lt, ↓ev_jn, ↓ev_so, ↓reduceIte, ↓ev_within, ↓ev_in, ↓ev_isBoard, ↓ev_isGauge, ↓ev_isNumber, ↓ev_isSix, ↓ev_isEight, ↓ev_foundN, ↓ev_meetsN, ↓ev_found_1, ↓ev_meets_1, ↓ev_found_2, ↓ev_meets_2, ↓ev_found_3, ↓ev_meets_3, ↓ev_found_4, ↓ev_meets_4, ↓ev_found_5, ↓ev_meets_5, true_and, and_true, and_self, eq_self, not_true_eq_false, not_false_eq_true, ite_true, ite_false, true_or, or_true, false_or, or_false, false_and, and_false, ← zi_ni_0, ← zi_ni_1, ← zi_ni_2, ← zi_ni_3, ← zi_ni_4, ← zi_ni_5, ← zi_ni_6, ← zi_ni_7, ← zi_ni_8, ← zi_ni_9, ← zi_ni_10, ← zi_ni_12, ← zi_ni_24, ← zi_ni_25, ← zi_ni_40, ← zi_ni_45, ← zi_ni_47, ← zi_ni_48, ← zi_ni_95, ← zi_ni_96, ← zi_ni_97, ← zi_ni_100, ← zi_ni_144, ← zi_ni_288, nI_ltI, nI_leI, nI_eqI, nlt_T, nlt_F, nle_T, nle_F, neq_T, neq_F, nI_add, pk_mul, nI_clamp, q_inT, ng_lt, ng_tl, ng_le, ng_el, ng_eq, ng_qe, q_b0, q_b1, nar_0, nar_1, b01, b01', q_bn0, q_bn1, nar_n0, nar_n1, si_k, si_i, si_s, si_e, si_2, sl_1, sl_22, sl_k, sl_i, sl_s, sl_e, sp_1, sp_21, sp_22, sc_k, sc_i, sc_e, sc_2, mF_k, mM_k, mF_2, mM_2, mF_0, mM_11, ↓eu_L_X11_plays_11, i1, i2, i3, n83_71, n83_80, n83_82, n83_84, n83_86, n83_87]
      exact go
    · obtain ⟨w, hh, hdw⟩ := hw.gd.dw
      refine ev_mob (b := 6) (i := ii) (len := TT.length) (n := n) (w := w) (h := hh) (l := l) (x := x) (by decide) hdw hw w3 w4 l83 hii h40 i1 i2 i3 (fun u' q1 q2 q3 q4 => ?_)
      have km : Km u u' := ⟨fun a i s z _ _ => q1 a i s (fun y => by rw [z] at y; cases y.1), fun c _ h => q4 c h, fun a _ => by rw [q2]⟩
      have mi : MI u u' := ⟨funext (fun i' => funext (fun s => q1 72 i' s (fun z => by cases z.1))), funext (fun i' => funext (fun s => q1 73 i' s (fun z => by cases z.1))), q1 11 0 11 (fun z => by cases z.1)⟩
      exact ih (pre ++ [(l, x)]) TT (ii + 1) n d u' F P hT2 hlen2 h40 (by omega) hok2 (by omega) (by omega) (by rw [q3]; exact WF_ob hw w3 w4) (by rw [show u'.1 66 0 = u.1 66 0 from funext (fun s => km.eq (by decide))]; exact hs) (hN.km km) (fun n v q1 q2 => by rw [km.td]; exact hT n v q1 q2) (mi.it hI) ((q1 11 0 60 (fun z => by cases z.1)).trans h60) (fun u3 d3 k3 e3 h3 => K u3 d3 (km.tr k3) e3 (by omega))
theorem amL {T : qB → Option Int32} {q : Nat} {y : Int32} (hq : q < 48) : ∀ (r pre TT : List (Int32 × Int32)) ii n d (u : qM) F (P : Int32 → qM → Prop), TT = pre ++ r → pre.length = ii → TT.length ≤ 40 → r.length < F → (∀ a, a ∈ r → iok a) → n + 24 * r.length ≤ 2000000 → d + 24 * r.length ≤ 2000000 → WF n (mB u 6) → SZ (u.1 66 0) → N6 u → (∀ n v, n ≤ 2000000 → WF n v → tdM u v = T v) → IT u TT → u.1 11 0 60 = nI 0 → (∀ u' d', Km u u' → u'.1 11 0 60 = (if alL T q y r (mB u 6) = true then nI 1 else nI 0) → d' ≤ d + 24 * r.length → P (nI d') u') → Ev (L_X11_plays_11 (nI 6) (nI q) y F (nI d) (nI ii) u (fun x25 u23 => some (x25, u23)) (fun x26 u24 => some (x26, u24))) P := by
  intro r
  induction r with
  | nil =>
    intro pre TT ii n d u F P hTT hpre h40 hF hok hn hd hw hs hN hT hI h60 K
    obtain ⟨F, rfl⟩ : ∃ F', F = F' + 1 := ⟨F - 1, by omega⟩
    have hlen : TT.length = ii := by rw [hTT, List.append_nil]; exact hpre
    refine eu_L_X11_plays_11.mpr ?_
    rw [hI.1, hlen, if_pos (Int32.le_refl _)]
    exact ev_so.mpr (K u d Km.rf h60 (by omega))
  | cons a r ih =>
    obtain ⟨l, x⟩ := a
    intro pre TT ii n d u F P hTT hpre h40 hF hok hn hd hw hs hN hT hI h60 K
    obtain ⟨F, rfl⟩ : ∃ F', F = F' + 1 := ⟨F - 1, by omega⟩
    have hrl : ((l, x) :: r).length = r.length + 1 := rfl
    rw [hrl] at hF hn hd K
    rw [alL_c] at K
    dsimp only at K
    obtain ⟨w3, w4⟩ := hok (l, x) (List.mem_cons.mpr (.inl rfl))
    dsimp only at w3 w4
    have hok2 : ∀ a, a ∈ r → iok a := fun a h => hok a (List.mem_cons.mpr (.inr h))
    have hT2 : TT = (pre ++ [(l, x)]) ++ r := by rw [hTT, List.append_assoc]; rfl
    have hlen2 : (pre ++ [(l, x)]).length = ii + 1 := by rw [List.length_append, hpre]; rfl
    have hii : ii < TT.length := by rw [hT2, List.length_append, hlen2]; omega
    have hnth : nth TT ii = (l, x) := by rw [hTT, ← hpre]; exact nth_eq pre
    have i1 := hI.1
    obtain ⟨i2, i3⟩ := hI.2 ii hii
    rw [hnth] at i2 i3
    dsimp only at i2 i3
    by_cases l83 : l = 83
    · subst l83
      obtain ⟨S, hS24, rfl⟩ := x_S w4
      rw [if_pos rfl, nI_clamp (by omega), ob_83] at K
      have go : Ev (L_X11_plays_263 (nI 6) (nI q) y (nI ii) (nI S) q_fu (nI d) (nI 0) u (fun x23 u21 => L_X11_plays_11 (nI 6) (nI q) y F x23 (nI (ii + 1)) u21 (fun x25 u23 => some (x25, u23)) (fun x26 u24 => some (x26, u24))) (fun x24 u22 => some (x24, u22))) P := by
        refine amS (T := T) hq hS24 S 0 n d u q_fu P (Nat.zero_add S) (Nat.lt_of_le_of_lt hS24 (by decide)) (by omega) (by omega) hw hs hN hT h60 (fun v h hwv u2 d2 k2 m2 e2 w2 h2 => ?_) (fun h u2 d2 k2 e2 h2 => ?_) (fun h => ⟨fun u2 d2 k2 m2 e2 w2 h2 => ?_, fun u2 d2 k2 e2 h2 => ?_⟩)
        · rw [h] at K
          dsimp only at K
          exact ih (pre ++ [(83, nI S)]) TT (ii + 1) (n + S) d2 u2 F P hT2 hlen2 h40 (by omega) hok2 (by omega) (by omega) (by rw [w2]; exact hwv) (by rw [show u2.1 66 0 = u.1 66 0 from funext (fun s => k2.eq (by decide))]; exact hs) (hN.km k2) (fun n v q1 q2 => by rw [k2.td]; exact hT n v q1 q2) (m2.it hI) e2 (fun u3 d3 k3 e3 h3 => K u3 d3 (k2.tr k3) (by rw [w2] at e3; exact e3) (by omega))
        · rw [h] at K
          exact ev_so.mpr (K u2 d2 k2 e2 (by omega))
        · rw [h] at K
          exact amG (T := T) hq r (pre ++ [(83, nI S)]) TT (ii + 1) (n + S) d2 u2 F P hT2 hlen2 h40 (by omega) hok2 (by omega) (by omega) w2 (by rw [show u2.1 66 0 = u.1 66 0 from funext (fun s => k2.eq (by decide))]; exact hs) (hN.km k2) (fun n v q1 q2 => by rw [k2.td]; exact hT n v q1 q2) (m2.it hI) e2 (fun u3 d3 k3 e3 h3 => K u3 d3 (k2.tr k3) e3 (by omega))
        · rw [h] at K
          exact ev_so.mpr (K u2 d2 k2 e2 (by omega))
      refine Ev.hide (fun Q' Q => ?_)
      have go := go.mono Q
      simp (disch := first | omega | decide) only [Nat.reduceAdd, Nat.reduceMul, ↓ev_bd, ↓ev_ck, ↓ev_if, ↓ev_lt, ↓ev_jn, ↓ev_so, ↓reduceIte, ↓ev_within, ↓ev_in, ↓ev_isBoard, ↓ev_isGauge, ↓ev_isNumber, ↓ev_isSix, ↓ev_isEight, ↓ev_foundN, ↓ev_meetsN, ↓ev_found_1, ↓ev_meets_1, ↓ev_found_2, ↓ev_meets_2, ↓ev_found_3, ↓ev_meets_3, ↓ev_found_4, ↓ev_meets_4, ↓ev_found_5, ↓ev_meets_5, true_and, and_true, and_self, eq_self, not_true_eq_false, not_false_eq_true, ite_true, ite_false, true_or, or_true, false_or, or_false, false_and, and_false, ← zi_ni_0, ← zi_ni_1, ← zi_ni_2, ← zi_ni_3, ← zi_ni_4, ← zi_ni_5, ← zi_ni_6, ← zi_ni_7, ← zi_ni_8, ← zi_ni_9, ← zi_ni_10, ← zi_ni_12, ← zi_ni_24, ← zi_ni_25, ← zi_ni_40, ← zi_ni_45, ← zi_ni_47, ← zi_ni_48, ← zi_ni_95, ← zi_ni_96, ← zi_ni_97, ← zi_ni_100, ← zi_ni_144, ← zi_ni_288, nI_ltI, nI_leI, nI_eqI, nlt_T, nlt_F, nle_T, nle_F, neq_T, neq_F, nI_add, pk_mul, nI_clamp, q_inT, ng_lt, ng_tl, ng_le, ng_el, ng_eq, ng_qe, q_b0, q_b1, nar_0, nar_1, b01, b01', q_bn0, q_bn1, nar_n0, nar_n1, si_k, si_i, si_s, si_e, si_2, sl_1, sl_22, sl_k, sl_i, sl_s, sl_e, sp_1, sp_21, sp_22, sc_k, sc_i, sc_e, sc_2, mF_k, mM_k, mF_2, mM_2, mF_0, mM_11, ↓eu_L_X11_plays_11, i1, i2, i3, n83_71, n83_80, n83_82, n83_84, n83_86, n83_87]
      exact go
    · rw [if_neg l83] at K
      obtain ⟨w, hh, hdw⟩ := hw.gd.dw
      refine ev_mob (b := 6) (i := ii) (len := TT.length) (n := n) (w := w) (h := hh) (l := l) (x := x) (by decide) hdw hw w3 w4 l83 hii h40 i1 i2 i3 (fun u' q1 q2 q3 q4 => ?_)
      have km : Km u u' := ⟨fun a i s z _ _ => q1 a i s (fun y => by rw [z] at y; cases y.1), fun c _ h => q4 c h, fun a _ => by rw [q2]⟩
      have mi : MI u u' := ⟨funext (fun i' => funext (fun s => q1 72 i' s (fun z => by cases z.1))), funext (fun i' => funext (fun s => q1 73 i' s (fun z => by cases z.1))), q1 11 0 11 (fun z => by cases z.1)⟩
      exact ih (pre ++ [(l, x)]) TT (ii + 1) n d u' F P hT2 hlen2 h40 (by omega) hok2 (by omega) (by omega) (by rw [q3]; exact WF_ob hw w3 w4) (by rw [show u'.1 66 0 = u.1 66 0 from funext (fun s => km.eq (by decide))]; exact hs) (hN.km km) (fun n v q1 q2 => by rw [km.td]; exact hT n v q1 q2) (mi.it hI) ((q1 11 0 60 (fun z => by cases z.1)).trans h60) (fun u3 d3 k3 e3 h3 => K u3 d3 (km.tr k3) (by rw [q3] at e3; exact e3) (by omega))
