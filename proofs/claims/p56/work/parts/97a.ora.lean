def opw (w c : Nat) : Nat := c - c % w + (w - 1 - c % w)
theorem opw_f {w h c : Nat} (h1 : 2 ≤ w) (h2 : w ≤ 8) (hc : c < w * h) : opw w c < w * h ∧ opw w (opw w c) = c ∧ (c % w + 1 < w → 1 ≤ opw w c ∧ (opw w c - 1) % w + 1 < w ∧ opw w (opw w c - 1) = c + 1 ∧ opw w c - 1 < w * h) := by
  unfold opw
  rcases (show w = 2 ∨ w = 3 ∨ w = 4 ∨ w = 5 ∨ w = 6 ∨ w = 7 ∨ w = 8 by omega) with rfl | rfl | rfl | rfl | rfl | rfl | rfl <;> omega
/-- what stands at a place when those up to c have been turned -/
def Gs (D : Nat → Bool) (σ κ : Nat → Nat) (nn : Int32 → Int32) (f : Nat → Int32) (c s : Nat) : Int32 := if D s = true ∧ (κ s < c ∨ κ (σ s) < c) then nn (f (σ s)) else f s
def fsn (nn : Int32 → Int32) (f : Nat → Int32) (a b s : Nat) : Int32 := if s = a then nn (f b) else if s = b then nn (f a) else f s
theorem Gs_0 {D : Nat → Bool} {σ κ : Nat → Nat} {nn : Int32 → Int32} {f : Nat → Int32} {s : Nat} : Gs D σ κ nn f 0 s = f s := if_neg (fun q => by omega)
theorem Gs_sw {D : Nat → Bool} {σ κ : Nat → Nat} {nn : Int32 → Int32} {f : Nat → Int32} {a c : Nat} (hD : D a = true) (hk : κ a = c) (un : ∀ s, D s = true → κ s = c → s = a) (iv : ∀ s, D s = true → D (σ s) = true ∧ σ (σ s) = s) (hc : c ≤ κ (σ a)) (s : Nat) : fsn nn (Gs D σ κ nn f c) a (σ a) s = Gs D σ κ nn f (c + 1) s := by
  have i1 := iv a hD
  have ga : Gs D σ κ nn f c a = f a := if_neg (fun q => by omega)
  have gs : Gs D σ κ nn f c (σ a) = f (σ a) := if_neg (fun q => by rw [i1.2] at q; omega)
  unfold fsn
  by_cases q : s = a
  · rw [if_pos q, gs, q]
    exact (if_pos ⟨hD, .inl (by omega)⟩).symm
  · rw [if_neg q]
    by_cases q2 : s = σ a
    · rw [if_pos q2, ga, q2]
      refine ((if_pos ⟨i1.1, .inr (by rw [i1.2]; omega)⟩).trans ?_).symm
      rw [i1.2]
    · rw [if_neg q2]
      unfold Gs
      by_cases z : D s = true ∧ (κ s < c ∨ κ (σ s) < c)
      · rw [if_pos z, if_pos ⟨z.1, by omega⟩]
      · rw [if_neg z, if_neg (fun y => z ⟨y.1, ?_⟩)]
        have iy := iv s y.1
        rcases y.2 with y2 | y2
        · by_cases y3 : κ s = c
          · exact absurd (un s y.1 y3) q
          · exact .inl (by omega)
        · by_cases y3 : κ (σ s) = c
          · exact absurd (by rw [← un (σ s) iy.1 y3, iy.2]) q2
          · exact .inr (by omega)
theorem Gs_no {D : Nat → Bool} {σ κ : Nat → Nat} {nn : Int32 → Int32} {f : Nat → Int32} {a c : Nat} (hk : κ a = c) (un : ∀ s, D s = true → κ s = c → s = a) (iv : ∀ s, D s = true → D (σ s) = true ∧ σ (σ s) = s) (hc : κ (σ a) < c) (s : Nat) : Gs D σ κ nn f c s = Gs D σ κ nn f (c + 1) s := by
  unfold Gs
  by_cases z : D s = true ∧ (κ s < c ∨ κ (σ s) < c)
  · rw [if_pos z, if_pos ⟨z.1, by omega⟩]
  · rw [if_neg z, if_neg (fun y => z ⟨y.1, ?_⟩)]
    have iy := iv s y.1
    rcases y.2 with y2 | y2
    · by_cases y3 : κ s = c
      · rw [un s y.1 y3]
        exact .inr hc
      · exact .inl (by omega)
    · by_cases y3 : κ (σ s) = c
      · refine .inl ?_
        have e := un (σ s) iy.1 y3
        rw [← iy.2, e]
        exact hc
      · exact .inr (by omega)
theorem Gs_id {D : Nat → Bool} {σ κ : Nat → Nat} {f : Nat → Int32} {a c : Nat} (hD : D a = true) (hk : κ a = c) (un : ∀ s, D s = true → κ s = c → s = a) (iv : ∀ s, D s = true → D (σ s) = true ∧ σ (σ s) = s) (hc : κ (σ a) ≤ c) (s : Nat) : Gs D σ κ id f c s = Gs D σ κ id f (c + 1) s := by
  by_cases hc2 : κ (σ a) < c
  · exact Gs_no hk un iv hc2 s
  · have e : σ a = a := un (σ a) (iv a hD).1 (by omega)
    rw [← Gs_sw (nn := id) hD hk un iv (by omega) s, e]
    unfold fsn
    by_cases q : s = a
    · rw [if_pos q, q]
      rfl
    · rw [if_neg q, if_neg q]
theorem Gs_sk {D : Nat → Bool} {σ κ : Nat → Nat} {nn : Int32 → Int32} {f : Nat → Int32} {c : Nat} (un : ∀ s, D s = true → ¬ κ s = c) (iv : ∀ s, D s = true → D (σ s) = true ∧ σ (σ s) = s) (s : Nat) : Gs D σ κ nn f c s = Gs D σ κ nn f (c + 1) s := by
  unfold Gs
  by_cases z : D s = true ∧ (κ s < c ∨ κ (σ s) < c)
  · rw [if_pos z, if_pos ⟨z.1, by omega⟩]
  · rw [if_neg z, if_neg (fun y => z ⟨y.1, ?_⟩)]
    have u1 := un s y.1
    have u2 := un (σ s) (iv s y.1).1
    omega
theorem Gs_N {D : Nat → Bool} {σ κ : Nat → Nat} {nn : Int32 → Int32} {f : Nat → Int32} {N : Nat} (hN : ∀ s, D s = true → κ s < N) (s : Nat) : Gs D σ κ nn f N s = if D s = true then nn (f (σ s)) else f s := by
  unfold Gs
  by_cases z : D s = true
  · rw [if_pos ⟨z, .inl (hN s z)⟩, if_pos z]
  · rw [if_neg (fun q => z q.1), if_neg z]
def D1 (N s : Nat) : Bool := decide (s < N)
def D3 (N s : Nat) : Bool := decide (s < 144 ∧ s % 48 < N)
def s3 (w s : Nat) : Nat := 48 * (s / 48) + opw w (s % 48)
def k3 (s : Nat) : Nat := 3 * (s % 48) + s / 48
def Do (N s : Nat) : Bool := decide (s % 2 = 1 ∧ s / 2 < N)
def so (w s : Nat) : Nat := 2 * opw w (s / 2) + 1
def hf2 (s : Nat) : Nat := s / 2
def De (w N s : Nat) : Bool := decide (s % 2 = 0 ∧ s / 2 < N ∧ s / 2 % w + 1 < w)
def se (w s : Nat) : Nat := 2 * opw w (s / 2) - 2
theorem iv1 {w h : Nat} (h1 : 2 ≤ w) (h2 : w ≤ 8) : ∀ s, D1 (w * h) s = true → D1 (w * h) (opw w s) = true ∧ opw w (opw w s) = s := fun s q => by
  have := opw_f h1 h2 (of_decide_eq_true q)
  exact ⟨decide_eq_true this.1, this.2.1⟩
theorem iv3 {w h : Nat} (h1 : 2 ≤ w) (h2 : w ≤ 8) (hN : w * h ≤ 48) : ∀ s, D3 (w * h) s = true → D3 (w * h) (s3 w s) = true ∧ s3 w (s3 w s) = s := fun s q => by
  obtain ⟨q1, q2⟩ := of_decide_eq_true q
  have g := opw_f h1 h2 q2
  have e1 : (48 * (s / 48) + opw w (s % 48)) % 48 = opw w (s % 48) := by omega
  have e2 : (48 * (s / 48) + opw w (s % 48)) / 48 = s / 48 := by omega
  refine ⟨decide_eq_true ⟨?_, ?_⟩, ?_⟩
  · unfold s3; omega
  · unfold s3; rw [e1]; exact g.1
  · unfold s3
    rw [e1, e2, g.2.1]
    omega
theorem ivo {w h : Nat} (h1 : 2 ≤ w) (h2 : w ≤ 8) : ∀ s, Do (w * h) s = true → Do (w * h) (so w s) = true ∧ so w (so w s) = s := fun s q => by
  obtain ⟨q1, q2⟩ := of_decide_eq_true q
  have g := opw_f h1 h2 q2
  have e1 : (2 * opw w (s / 2) + 1) / 2 = opw w (s / 2) := by omega
  refine ⟨decide_eq_true ⟨?_, ?_⟩, ?_⟩
  · unfold so; omega
  · unfold so; rw [e1]; exact g.1
  · unfold so
    rw [e1, g.2.1]
    omega
theorem ive {w h : Nat} (h1 : 2 ≤ w) (h2 : w ≤ 8) : ∀ s, De w (w * h) s = true → De w (w * h) (se w s) = true ∧ se w (se w s) = s := fun s q => by
  obtain ⟨q1, q2, q3⟩ := of_decide_eq_true q
  have g := opw_f h1 h2 q2
  have g3 := g.2.2 q3
  have e1 : (2 * opw w (s / 2) - 2) / 2 = opw w (s / 2) - 1 := by omega
  refine ⟨decide_eq_true ⟨?_, ?_, ?_⟩, ?_⟩
  · unfold se; omega
  · unfold se; rw [e1]; exact g3.2.2.2
  · unfold se; rw [e1]; exact g3.2.1
  · unfold se
    rw [e1, g3.2.2.1]
    omega
/-- a board in the mirror -/
def mir (v : qB) : qB := fun t s => match t with
  | 0 => if s = 10 then -(v 0 10) else v 0 s
  | 1 => Gs (D1 (nN v)) (opw (nW v)) id id (v 1) (nN v) s
  | 2 => Gs (D1 (nN v)) (opw (nW v)) id id (v 2) (nN v) s
  | 3 => Gs (D3 (nN v)) (s3 (nW v)) k3 id (v 3) (3 * nN v) s
  | 4 => if s % 2 = 1 then Gs (Do (nN v)) (so (nW v)) hf2 id (v 4) (nN v) s else Gs (De (nW v) (nN v)) (se (nW v)) hf2 (fun x => -x) (v 4) (nN v) s
  | 5 => if s % 2 = 1 then Gs (Do (nN v)) (so (nW v)) hf2 id (v 5) (nN v) s else Gs (De (nW v) (nN v)) (se (nW v)) hf2 id (v 5) (nN v) s
  | 7 => if s < rcN v then nI (opw (nW v) (v 7 s).toNatClampNeg) else v 7 s
  | t => v t s
theorem ev_opp {o w c : Nat} {u : qM} {P : Int32 → qM → Prop} (h1 : 2 ≤ w) (h2 : w ≤ 8) (hc : c < 48) (e : u.1 2 o 12 = nI w) (K : P (nI (opw w c)) u) : Ev (f_X0_opposite o (nI c) u) P := by
  have g1 : c / w * w + c % w = c := by rw [Nat.mul_comm]; exact Nat.div_add_mod c w
  have g2 : c % w < w := Nat.mod_lt _ (by omega)
  have g3 : c / w ≤ c := Nat.div_le_self _ _
  unfold opw at K
  generalize hd : c / w = d at *
  generalize hm : c % w = m at *
  generalize hp : d * w = p at *
  simp (disch := first | omega | decide) only [Nat.reduceAdd, Nat.reduceMul, ↓ev_bd, ↓ev_ck, ↓ev_if, ↓ev_lt, ↓ev_jn, ↓ev_so, ↓reduceIte, ↓ev_within, ↓ev_isBoard, ↓ev_isNumber, ↓ev_foundN, ↓ev_found_1, ↓ev_found_2, ↓ev_found_3, ↓ev_found_4, ↓ev_found_5, true_and, and_true, and_self, eq_self, not_true_eq_false, not_false_eq_true, ite_true, ite_false, true_or, or_true, false_or, or_false, false_and, and_false, ← zi_ni_0, ← zi_ni_1, ← zi_ni_2, ← zi_ni_3, ← zi_ni_4, ← zi_ni_5, ← zi_ni_6, ← zi_ni_7, ← zi_ni_8, ← zi_ni_9, ← zi_ni_10, ← zi_ni_12, ← zi_ni_24, ← zi_ni_25, ← zi_ni_40, ← zi_ni_45, ← zi_ni_47, ← zi_ni_48, ← zi_ni_95, ← zi_ni_96, ← zi_ni_97, ← zi_ni_100, ← zi_ni_144, ← zi_ni_288, nI_ltI, nI_leI, nI_eqI, nlt_T, nlt_F, nle_T, nle_F, neq_T, neq_F, nI_add, pk_mul, nI_clamp, q_inT, ng_lt, ng_tl, ng_le, ng_el, ng_eq, ng_qe, q_b0, q_b1, nar_0, nar_1, b01, b01', q_bn0, q_bn1, nar_n0, nar_n1, si_k, si_i, si_s, si_e, si_2, sl_1, sl_22, sl_k, sl_i, sl_s, sl_e, sp_1, sp_21, sp_22, sc_k, sc_i, sc_e, sc_2, mF_k, mF_2, mF_0, ↓eu_X0_opposite, e, q_nzI, pk_div, hm, hd, hp, pk_sub]
  rw [show c - (c - p) + w - 1 - (c - p) = c - m + (w - 1 - m) by omega]
  exact K
