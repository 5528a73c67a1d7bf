theorem fsn_c {nn : Int32 → Int32} {f g : Nat → Int32} {a b s : Nat} (h1 : f a = g a) (h2 : f b = g b) (h3 : f s = g s) : fsn nn f a b s = fsn nn g a b s := by
  unfold fsn
  rw [h1, h2, h3]
theorem fsn_o {nn : Int32 → Int32} {f : Nat → Int32} {a b s : Nat} (h1 : s ≠ a) (h2 : s ≠ b) : fsn nn f a b s = f s := (if_neg h1).trans (if_neg h2)
def TI (o w N : Nat) (u : qM) (c ce : Nat) (t : qM) : Prop := (∀ a i s, ¬ (i = o ∧ 37 ≤ a ∧ a ≤ 41) → t.1 a i s = u.1 a i s) ∧ t.2 = u.2 ∧ (∀ s, t.1 37 o s = Gs (D1 N) (opw w) id id (u.1 37 o) c s) ∧ (∀ s, t.1 38 o s = Gs (D1 N) (opw w) id id (u.1 38 o) c s) ∧ (∀ s, t.1 39 o s = Gs (D3 N) (s3 w) k3 id (u.1 39 o) (3 * c) s) ∧ (∀ s, s % 2 = 1 → t.1 40 o s = Gs (Do N) (so w) hf2 id (u.1 40 o) c s) ∧ (∀ s, s % 2 = 0 → t.1 40 o s = Gs (De w N) (se w) hf2 (fun x => -x) (u.1 40 o) ce s) ∧ (∀ s, s % 2 = 1 → t.1 41 o s = Gs (Do N) (so w) hf2 id (u.1 41 o) c s) ∧ (∀ s, s % 2 = 0 → t.1 41 o s = Gs (De w N) (se w) hf2 id (u.1 41 o) ce s)
theorem un3 {N c k : Nat} (hc : c < 48) (hk : k < 3) : ∀ s, D3 N s = true → k3 s = 3 * c + k → s = 48 * k + c := fun s q q2 => by
  have := (of_decide_eq_true q).1
  unfold k3 at q2
  omega
theorem s3_k {w c k : Nat} (hc : c < 48) : s3 w (48 * k + c) = 48 * k + opw w c := by
  unfold s3
  rw [show (48 * k + c) % 48 = c by omega, show (48 * k + c) / 48 = k by omega]
theorem k3_k {c k : Nat} (hc : c < 48) : k3 (48 * k + c) = 3 * c + k := by
  unfold k3
  rw [show (48 * k + c) % 48 = c by omega, show (48 * k + c) / 48 = k by omega]
theorem d3_k {N c k : Nat} (hc : c < N) (hN : N ≤ 48) (hk : k < 3) : D3 N (48 * k + c) = true := decide_eq_true ⟨by omega, by omega⟩
theorem uno {N c : Nat} : ∀ s, Do N s = true → hf2 s = c → s = 2 * c + 1 := fun s q q2 => by
  have := (of_decide_eq_true q).1
  unfold hf2 at q2
  omega
theorem une {w N c : Nat} : ∀ s, De w N s = true → hf2 s = c → s = 2 * c := fun s q q2 => by
  have := (of_decide_eq_true q).1
  unfold hf2 at q2
  omega
theorem so_c {w c : Nat} : so w (2 * c + 1) = 2 * opw w c + 1 := by
  unfold so
  rw [show (2 * c + 1) / 2 = c by omega]
theorem se_c {w c : Nat} : se w (2 * c) = 2 * opw w c - 2 := by
  unfold se
  rw [show 2 * c / 2 = c by omega]
theorem TI_cells {o w h c ce : Nat} {u t t' : qM} (h1 : 2 ≤ w) (h2 : w ≤ 8) (hN : w * h ≤ 48) (hc : c < w * h) (hop : c < opw w c) (hT : TI o w (w * h) u c ce t) (g1 : ∀ k' i' s, ¬ (i' = o ∧ 37 ≤ k' ∧ k' ≤ 41) → t'.1 k' i' s = t.1 k' i' s) (g2 : t'.2 = t.2) (g3 : ∀ s, t'.1 37 o s = fsn id (t.1 37 o) c (opw w c) s) (g4 : ∀ s, t'.1 38 o s = fsn id (t.1 38 o) c (opw w c) s) (g5 : ∀ s, t'.1 39 o s = fsn id (fsn id (fsn id (t.1 39 o) c (opw w c)) (48 + c) (48 + opw w c)) (96 + c) (96 + opw w c) s) (g6 : ∀ s, t'.1 40 o s = fsn id (t.1 40 o) (2 * c + 1) (2 * opw w c + 1) s) (g7 : ∀ s, t'.1 41 o s = fsn id (t.1 41 o) (2 * c + 1) (2 * opw w c + 1) s) : TI o w (w * h) u (c + 1) ce t' := by
  obtain ⟨a1, a2, a3, a4, a5, a6, a7, a8, a9⟩ := hT
  have hlt := (opw_f h1 h2 hc).1
  refine ⟨fun a i s q => (g1 a i s q).trans (a1 a i s q), g2.trans a2, fun s => ?_, fun s => ?_, fun s => ?_, fun s hs => ?_, fun s hs => ?_, fun s hs => ?_, fun s hs => ?_⟩
  · rw [g3, show t.1 37 o = _ from funext a3]
    exact Gs_sw (κ := id) (decide_eq_true hc) rfl (fun s _ q => q) (iv1 h1 h2) (Nat.le_of_lt hop) s
  · rw [g4, show t.1 38 o = _ from funext a4]
    exact Gs_sw (κ := id) (decide_eq_true hc) rfl (fun s _ q => q) (iv1 h1 h2) (Nat.le_of_lt hop) s
  · rw [g5, show t.1 39 o = _ from funext a5]
    have st : ∀ k, k < 3 → fsn id (Gs (D3 (w * h)) (s3 w) k3 id (u.1 39 o) (3 * c + k)) (48 * k + c) (48 * k + opw w c) = Gs (D3 (w * h)) (s3 w) k3 id (u.1 39 o) (3 * c + k + 1) := fun k hk => by
      have e := Gs_sw (nn := id) (f := u.1 39 o) (d3_k (N := w * h) hc hN hk) (k3_k (k := k) (by omega)) (un3 (by omega) hk) (iv3 h1 h2 hN) (by rw [s3_k (w := w) (by omega), k3_k (by omega)]; omega)
      rw [s3_k (w := w) (by omega)] at e
      exact funext e
    have e0 := st 0 (by decide)
    have e1 := st 1 (by decide)
    have e2 := st 2 (by decide)
    rw [Nat.mul_zero, Nat.zero_add, Nat.zero_add, Nat.add_zero] at e0
    rw [e0, show 48 + c = 48 * 1 + c from rfl, show 48 + opw w c = 48 * 1 + opw w c from rfl, e1, show 96 + c = 48 * 2 + c from rfl, show 96 + opw w c = 48 * 2 + opw w c from rfl, e2]
    rfl
  · rw [g6, fsn_c (a6 _ (by omega)) (a6 _ (by omega)) (a6 s hs)]
    have e := Gs_sw (nn := id) (f := u.1 40 o) (c := c) (a := 2 * c + 1) (decide_eq_true ⟨by omega, by omega⟩) (show (2 * c + 1) / 2 = c by omega) uno (ivo (h := h) h1 h2) (by rw [so_c]; show c ≤ (2 * opw w c + 1) / 2; omega) s
    rw [so_c] at e
    exact e
  · rw [g6, fsn_o (by omega) (by omega)]
    exact a7 s hs
  · rw [g7, fsn_c (a8 _ (by omega)) (a8 _ (by omega)) (a8 s hs)]
    have e := Gs_sw (nn := id) (f := u.1 41 o) (c := c) (a := 2 * c + 1) (decide_eq_true ⟨by omega, by omega⟩) (show (2 * c + 1) / 2 = c by omega) uno (ivo (h := h) h1 h2) (by rw [so_c]; show c ≤ (2 * opw w c + 1) / 2; omega) s
    rw [so_c] at e
    exact e
  · rw [g7, fsn_o (by omega) (by omega)]
    exact a9 s hs
theorem TI_nocells {o w h c ce : Nat} {u t : qM} (h1 : 2 ≤ w) (h2 : w ≤ 8) (hN : w * h ≤ 48) (hc : c < w * h) (hop : opw w c ≤ c) (hT : TI o w (w * h) u c ce t) : TI o w (w * h) u (c + 1) ce t := by
  obtain ⟨a1, a2, a3, a4, a5, a6, a7, a8, a9⟩ := hT
  have hlt := (opw_f h1 h2 hc).1
  have odd : ∀ f s, Gs (Do (w * h)) (so w) hf2 id f c s = Gs (Do (w * h)) (so w) hf2 id f (c + 1) s := fun f s => Gs_id (a := 2 * c + 1) (decide_eq_true ⟨by omega, by omega⟩) (show (2 * c + 1) / 2 = c by omega) uno (ivo (h := h) h1 h2) (by rw [so_c]; show (2 * opw w c + 1) / 2 ≤ c; omega) s
  refine ⟨a1, a2, fun s => (a3 s).trans ?_, fun s => (a4 s).trans ?_, fun s => (a5 s).trans ?_, fun s hs => (a6 s hs).trans (odd _ s), a7, fun s hs => (a8 s hs).trans (odd _ s), a9⟩
  · exact Gs_id (κ := id) (a := c) (decide_eq_true hc) rfl (fun s _ q => q) (iv1 h1 h2) hop s
  · exact Gs_id (κ := id) (a := c) (decide_eq_true hc) rfl (fun s _ q => q) (iv1 h1 h2) hop s
  · have st : ∀ k, k < 3 → Gs (D3 (w * h)) (s3 w) k3 id (u.1 39 o) (3 * c + k) s = Gs (D3 (w * h)) (s3 w) k3 id (u.1 39 o) (3 * c + k + 1) s := fun k hk => Gs_id (d3_k (N := w * h) hc hN hk) (k3_k (k := k) (by omega)) (un3 (by omega) hk) (iv3 h1 h2 hN) (by rw [s3_k (w := w) (by omega), k3_k (by omega)]; omega) s
    exact (st 0 (by decide)).trans ((st 1 (by decide)).trans (st 2 (by decide)))
theorem TI_right {o w h c : Nat} {u t t' : qM} (h1 : 2 ≤ w) (h2 : w ≤ 8) (hc : c < w * h) (hs : c % w + 1 < w) (hop : 2 * c ≤ 2 * opw w c - 2) (hT : TI o w (w * h) u (c + 1) c t) (g1 : ∀ k' i' s, ¬ (i' = o ∧ (k' = 40 ∨ k' = 41)) → t'.1 k' i' s = t.1 k' i' s) (g2 : t'.2 = t.2) (g6 : ∀ s, t'.1 40 o s = fsn (fun x => -x) (t.1 40 o) (2 * c) (2 * opw w c - 2) s) (g7 : ∀ s, t'.1 41 o s = fsn id (t.1 41 o) (2 * c) (2 * opw w c - 2) s) : TI o w (w * h) u (c + 1) (c + 1) t' := by
  obtain ⟨a1, a2, a3, a4, a5, a6, a7, a8, a9⟩ := hT
  have hlt := opw_f h1 h2 hc
  have hlt2 := hlt.2.2 hs
  have D : De w (w * h) (2 * c) = true := decide_eq_true ⟨by omega, by rw [show 2 * c / 2 = c by omega]; exact hc, by rw [show 2 * c / 2 = c by omega]; exact hs⟩
  refine ⟨fun a i s q => (g1 a i s (by omega)).trans (a1 a i s q), g2.trans a2, fun s => (g1 37 o s (by omega)).trans (a3 s), fun s => (g1 38 o s (by omega)).trans (a4 s), fun s => (g1 39 o s (by omega)).trans (a5 s), fun s hs => ?_, fun s hs => ?_, fun s hs => ?_, fun s hs => ?_⟩
  · rw [g6, fsn_o (by omega) (by omega)]
    exact a6 s hs
  · rw [g6, fsn_c (a7 _ (by omega)) (a7 _ (by omega)) (a7 s hs)]
    have e := Gs_sw (nn := fun x => -x) (f := u.1 40 o) (c := c) D (show 2 * c / 2 = c by omega) une (ive h1 h2) (by rw [se_c]; show c ≤ (2 * opw w c - 2) / 2; omega) s
    rw [se_c] at e
    exact e
  · rw [g7, fsn_o (by omega) (by omega)]
    exact a8 s hs
  · rw [g7, fsn_c (a9 _ (by omega)) (a9 _ (by omega)) (a9 s hs)]
    have e := Gs_sw (nn := id) (f := u.1 41 o) (c := c) D (show 2 * c / 2 = c by omega) une (ive h1 h2) (by rw [se_c]; show c ≤ (2 * opw w c - 2) / 2; omega) s
    rw [se_c] at e
    exact e
theorem TI_noright {o w h c : Nat} {u t : qM} (h1 : 2 ≤ w) (h2 : w ≤ 8) (hc : c < w * h) (hs : ¬ (c % w + 1 < w ∧ 2 * c ≤ 2 * opw w c - 2)) (hT : TI o w (w * h) u (c + 1) c t) : TI o w (w * h) u (c + 1) (c + 1) t := by
  obtain ⟨a1, a2, a3, a4, a5, a6, a7, a8, a9⟩ := hT
  have hlt := opw_f h1 h2 hc
  have ev : ∀ nn f s, Gs (De w (w * h)) (se w) hf2 nn f c s = Gs (De w (w * h)) (se w) hf2 nn f (c + 1) s := fun nn f s => by
    by_cases q : c % w + 1 < w
    · have hlt2 := hlt.2.2 q
      exact Gs_no (a := 2 * c) (show 2 * c / 2 = c by omega) une (ive h1 h2) (by rw [se_c]; show (2 * opw w c - 2) / 2 < c; omega) s
    · refine Gs_sk (fun s z z2 => q ?_) (ive h1 h2) s
      have z3 := une s z z2
      have z4 := (of_decide_eq_true z).2.2
      rw [z3, show 2 * c / 2 = c by omega] at z4
      exact z4
  exact ⟨a1, a2, a3, a4, a5, a6, fun s hs => (a7 s hs).trans (ev _ _ s), a8, fun s hs => (a9 s hs).trans (ev _ _ s)⟩
theorem sd_e {w N c : Nat} (hc : c < N) : sd w N (2 * c) = true ↔ c % w + 1 < w := by
  unfold sd
  rw [if_neg (by omega), show 2 * c / 2 = c by omega, Bool.and_eq_true, decide_eq_true_iff, decide_eq_true_iff]
  exact ⟨fun q => q.2, fun q => ⟨by omega, q⟩⟩
theorem Gs_01 {D : Nat → Bool} {σ κ : Nat → Nat} {f : Nat → Int32} {c s : Nat} (h : f s = 0 ∨ f s = 1) (h' : D s = true → f (σ s) = 0 ∨ f (σ s) = 1) : Gs D σ κ id f c s = 0 ∨ Gs D σ κ id f c s = 1 := by
  unfold Gs
  by_cases z : D s = true ∧ (κ s < c ∨ κ (σ s) < c)
  · rw [if_pos z]; exact h' z.1
  · rw [if_neg z]; exact h
theorem TI_01 {o w h c ce : Nat} {u t : qM} (h1 : 2 ≤ w) (h2 : w ≤ 8) (hN : w * h ≤ 48) (h5 : ∀ s, s < 96 → u.1 41 o s = 0 ∨ u.1 41 o s = 1) (hT : TI o w (w * h) u c ce t) : ∀ s, s < 96 → t.1 41 o s = 0 ∨ t.1 41 o s = 1 := fun s hs => by
  obtain ⟨a1, a2, a3, a4, a5, a6, a7, a8, a9⟩ := hT
  by_cases q : s % 2 = 1
  · rw [a8 s q]
    exact Gs_01 (h5 s hs) (fun z => h5 _ (by have := (of_decide_eq_true (ivo h1 h2 s z).1).2; omega))
  · rw [a9 s (by omega)]
    exact Gs_01 (h5 s hs) (fun z => h5 _ (by have := (of_decide_eq_true (ive h1 h2 s z).1).2.1; omega))
theorem turn_rest {o w h c f : Nat} {u t : qM} {e : qM → Option (Unit × qM)} {P : Unit → qM → Prop} (hd : DW (cB u o) w h) (hc : c < w * h) (h5 : ∀ s, s < 96 → u.1 41 o s = 0 ∨ u.1 41 o s = 1) (hT : TI o w (w * h) u (c + 1) c t) (K : ∀ t', TI o w (w * h) u (c + 1) (c + 1) t' → Ev (L_X0_turn_2 o f (nI (c + 1)) t' e) P) : Ev (q_lt (2 * nI c) (fun (x4 : Int32) => q_bd (f_X0_hasSide o x4 t) (fun (x5 : Int32) (u5 : qM) => q_jn (fun  (u6 : qM) => q_lt (nI c + 1) (fun (x6 : Int32) => L_X0_turn_2 o f x6 u6 e)) (fun j2 => if x5 = 0 then j2 u5 else if ((2 * nI (opw w c)) - 2) < x4 then j2 u5 else q_bd (f_X0_swapRightSides o x4 ((2 * nI (opw w c)) - 2) u5) (fun (_z : Unit) (u7 : qM) => j2 u7))))) P := by
  obtain ⟨d1, d2, h1, h2, -, -, -, -, -, hN⟩ := id hd
  have hlt := opw_f h1 h2 hc
  have e1 : t.1 2 o 12 = u.1 2 o 12 := hT.1 2 o 12 (by omega)
  have e2 : t.1 2 o 13 = u.1 2 o 13 := hT.1 2 o 13 (by omega)
  have hd' : DW (cB t o) w h := DW_s hd e1 e2
  refine Ev.hide (fun P' K' => ?_)
  refine ev_lt.mpr ?_
  rw [show (2 : Int32) * nI c = nI (2 * c) from pk_mul 2 c]
  refine ev_bd.mpr (ev_hasSide hd' (by omega) SN.mk (fun z => ?_) (fun z => ?_))
  · have z := (sd_e hc).mp z
    have g := hlt.2.2 z
    have ep : (2 : Int32) * nI (opw w c) - 2 = nI (2 * opw w c - 2) := by
      rw [show (2 : Int32) * nI (opw w c) = nI (2 * opw w c) from pk_mul 2 _, show (2 : Int32) = nI 2 from rfl, pk_sub (by omega)]
    rw [ep]
    refine (show Ev (if (1 : Int32) = 0 then L_X0_turn_2 o f (nI c + 1) t e else if nI (2 * opw w c - 2) < nI (2 * c) then L_X0_turn_2 o f (nI c + 1) t e else q_bd (f_X0_swapRightSides o (nI (2 * c)) (nI (2 * opw w c - 2)) t) (fun (_z : Unit) (u7 : qM) => L_X0_turn_2 o f (nI c + 1) u7 e)) P' from ?_)
    rw [if_neg (by decide), show nI c + 1 = nI (c + 1) from nI_add c 1]
    by_cases q : 2 * c ≤ 2 * opw w c - 2
    · rw [if_neg (by rw [nI_ltI (by omega) (by omega)]; omega)]
      refine ev_bd.mpr (ev_swapR (by omega) (by omega) (TI_01 h1 h2 hN h5 hT) (fun t' g1 g2 g3 g4 => ?_))
      exact (K t' (TI_right h1 h2 hc z q hT g1 g2 g3 g4)).mono K'
    · rw [if_pos (by rw [nI_ltI (by omega) (by omega)]; omega)]
      exact (K t (TI_noright h1 h2 hc (fun y => q y.2) hT)).mono K'
  · have z2 : ¬ c % w + 1 < w := fun y => by rw [(sd_e hc).mpr y] at z; cases z
    refine (show Ev (L_X0_turn_2 o f (nI c + 1) t e) P' from ?_)
    rw [show nI c + 1 = nI (c + 1) from nI_add c 1]
    exact (K t (TI_noright h1 h2 hc (fun y => z2 y.1) hT)).mono K'
theorem lp_turn {o w h : Nat} {u : qM} {e : qM → Option (Unit × qM)} {P : Unit → qM → Prop} (hd : DW (cB u o) w h) (h5 : ∀ s, s < 96 → u.1 41 o s = 0 ∨ u.1 41 o s = 1) (K : ∀ t', TI o w (w * h) u (w * h) (w * h) t' → Ev (e t') P) : Ev (L_X0_turn_2 o q_fu (nI 0) u e) P := by
  obtain ⟨d1, d2, h1, h2, h3, h4, -, -, -, hN⟩ := id hd
  refine lpc (fun f x t => L_X0_turn_2 o f x t e) (fun c t => TI o w (w * h) u c c t) (w * h) (by omega) u ⟨fun _ _ _ _ => rfl, rfl, fun s => Gs_0.symm, fun s => Gs_0.symm, fun s => Gs_0.symm, fun s _ => Gs_0.symm, fun s _ => Gs_0.symm, fun s _ => Gs_0.symm, fun s _ => Gs_0.symm⟩ ?_ ?_
  · rintro f c t hc hT K2
    have hlt := opw_f h1 h2 hc
    have e1 : t.1 2 o 12 = nI w := (hT.1 2 o 12 (by omega)).trans d1
    have e2 : t.1 2 o 13 = nI h := (hT.1 2 o 13 (by omega)).trans d2
    show Ev (L_X0_turn_2 o (f + 1) (nI c) t e) P
    refine eu_L_X0_turn_2.mpr ?_
    refine ev_bd.mpr (eu_X0_cells.mpr (ev_so.mpr ?_))
    rw [e1, e2, pk_mul, if_neg (by rw [nI_leI (by omega) (by omega)]; omega)]
    refine ev_bd.mpr (ev_opp h1 h2 (by omega) e1 ?_)
    by_cases q : opw w c ≤ c
    · refine (show Ev (if nI (opw w c) ≤ nI c then _ else _) P from ?_)
      rw [if_pos (by rw [nI_leI (by omega) (by omega)]; exact q)]
      exact turn_rest hd hc h5 (TI_nocells h1 h2 hN hc q hT) K2
    · refine (show Ev (if nI (opw w c) ≤ nI c then _ else q_bd (f_X0_swapCells o (nI c) (nI (opw w c)) t) _) P from ?_)
      rw [if_neg (by rw [nI_leI (by omega) (by omega)]; omega)]
      refine ev_bd.mpr (ev_swapCells (by omega) (by omega) (TI_01 h1 h2 hN h5 hT) (fun t' g1 g2 g3 g4 g5 g6 g7 => ?_))
      exact turn_rest hd hc h5 (TI_cells h1 h2 hN hc (by omega) hT g1 g2 g3 g4 g5 g6 g7) K2
  · rintro f t hT
    have e1 : t.1 2 o 12 = nI w := (hT.1 2 o 12 (by omega)).trans d1
    have e2 : t.1 2 o 13 = nI h := (hT.1 2 o 13 (by omega)).trans d2
    show Ev (L_X0_turn_2 o (f + 1) (nI (w * h)) t e) P
    refine eu_L_X0_turn_2.mpr ?_
    refine ev_bd.mpr (eu_X0_cells.mpr (ev_so.mpr ?_))
    rw [e1, e2, pk_mul, if_pos (Int32.le_refl _)]
    exact K t hT

