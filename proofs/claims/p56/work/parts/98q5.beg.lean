/-! p56: the law from its first call on. -/
def T0 : Nat → Bool := tput (fun _ => false) 0
theorem T0_0 : T0 0 = true := rfl
theorem NN_0 {V : Nat → qB} (h : ¬ V 0 0 0 = nI 2) : NN T0 V := fun x hx ht => by
  by_cases z : x = 0
  · subst z
    exact h
  · have : T0 x = false := by
      unfold T0 tput
      rw [decide_eq_false z]
      rfl
    rw [this] at ht
    cases ht
section LB
variable {μ : qM} {sz : Nat → Int32} {rw : Nat → Nat → Int32} {V : Nat → qB} {L mk rs : Nat → Nat → Int32} {b0 l0 : Nat} {f0 : Nat → Int32} {W H k k' : Nat}
/-- the kind that the script asks for, and the board's own -/
def KK (k k' : Nat) : Prop := k < 3 ∧ ((k = 0 ∧ k' = 0) ∨ (k = 1 ∧ k' = 1) ∨ (k = 2 ∧ k' = 3))
theorem KK.n2 {v : qB} (h : KK k k') (e : v 0 0 = nI k') : ¬ v 0 0 = nI 2 := by
  rw [e]
  rcases h.2 with ⟨_, q⟩ | ⟨_, q⟩ | ⟨_, q⟩ <;> subst q <;> decide +kernel
theorem t275 (hk : KK k k') (h : St μ sz rw T0 V L mk rs) (hl : l0 ≤ 260) (hI : BI 0 3570 (V 0)) (hd : DW (V 0) W H) (e0 : V 0 0 0 = nI k') (h4 : V 0 0 4 = nI 0) (h5 : V 0 0 5 = nI 0) (hS : SZ sz) (hT : TK sz rw (V 0)) : Ev (C_L_law_275 b0 l0 f0 (nI W) (nI H) (nI k) (nI (W * H)) μ) one := by
  have hn : NN T0 V := NN_0 (hk.n2 e0)
  refine eu_C_L_law_275.mpr (ev_bd.mpr (ev_keep (b := 0) (to := 1) h (by decide) T0_0 (by decide) (by decide) hn hd hI.1 (fun u' h' => ?_)))
  refine ev_yes rfl ?_
  have n2 : NN (tput T0 1) (vset V 1 (V 0)) := fun x hx ht => by
    by_cases z : x = 1
    · subst z
      rw [vs_e]
      exact hk.n2 e0
    · rw [vs_n z]
      refine hn x hx ?_
      unfold tput at ht
      rw [decide_eq_false z, Bool.false_or] at ht
      exact ht
  refine t288 (n := 0) (B := 3570) (v := V 0) hk.1 h' hl rfl rfl n2 hd hI (by decide) (by decide) hS hT (vs_n (by decide)) vs_e (fun z => ?_) h4 h5
  rcases hk.2 with ⟨_, q⟩ | ⟨q, _⟩ | ⟨q, _⟩
  · rw [e0, q]
  · omega
  · omega
theorem t248 (hk : KK k k') (h : St μ sz rw T0 V L mk rs) (hl : l0 ≤ 260) (hp : PS W H k' (V 0)) (hS : SZ sz) (hT : TK sz rw (V 0)) : Ev (C_L_law_248 b0 l0 f0 (nI W) (nI H) (nI k) (nI (W * H)) μ) one := by
  have hpp := hp
  obtain ⟨b1, hd, b3, b4, b5, b6⟩ := hpp
  have hs : sd W (W * H) 0 = true := (sd_evn (by decide)).mpr ⟨by
    obtain ⟨d1, d2, d3, d4, d5, d6, -⟩ := hd
    exact Nat.mul_pos (by omega) (by omega), by
    obtain ⟨d1, d2, d3, d4, d5, d6, -⟩ := hd
    rw [Nat.zero_div, Nat.zero_mod]
    omega⟩
  have key : ∀ (x : Int32) (u : qM), (x = 0 ∨ x = 1) → St u sz rw T0 V L mk rs → Ev (q_bd (f_X10_gate 0 0 x u) (fun (x55 : Int32) (u35 : qM) => if x55 = 0 then C_L_law_275 b0 l0 f0 (nI W) (nI H) (nI k) (nI (W * H)) u35 else none)) one := fun x u hx hu => by
    refine ev_bd.mpr (ev_gate (b := 0) (s := 0) hu (by decide) T0_0 hd hs hx b4 (fun u' h' => ?_))
    refine ev_yes rfl ?_
    obtain ⟨g1, g2⟩ := PS_gate hp hx
    refine t275 hk h' hl ?_ ?_ ?_ ?_ ?_ hS ?_
    · rw [vs_e]; exact g1
    · rw [vs_e]; exact g2
    · rw [vs_e, bs_t (by decide)]; exact b3
    · rw [vs_e, bs_t (by decide)]; exact b5
    · rw [vs_e, bs_t (by decide)]; exact b6
    · rw [vs_e]
      unfold TK
      rw [bs_t (by decide)]
      exact hT
  refine eu_C_L_law_248.mpr (ev_bd.mpr (ev_lcell (k := 45) hl (by decide) (fun x52 => ?_)))
  refine ev_bd.mpr (ev_low (n := 2) (by decide) (by decide) (fun j _ => ?_))
  refine ev_jn.mpr ?_
  by_cases z : nI j = 0
  · exact ev_yes z (key 1 _ (.inr rfl) h)
  · exact ev_not z (key 0 _ (.inl rfl) h)
theorem t192 (hk : KK k k') (hk0 : k ≠ 0) (h : St μ sz rw T0 V L mk rs) (hl : l0 ≤ 260) (hp : PS W H k' (V 0)) (hS : SZ sz) : Ev (C_L_law_192 b0 l0 f0 (nI W) (nI H) (nI k) (nI (W * H)) μ) one := by
  have hpp := hp
  obtain ⟨b1, hd, b3, b4, b5, b6⟩ := hpp
  refine eu_C_L_law_192.mpr (ev_bd.mpr (ev_row h (fun u1 sz1 rw1 h1 s1 r1 => ?_)))
  have s3 : sz1 1 = nI 3 := by rw [s1, if_pos rfl]
  have hS1 : SZ sz1 := fun r hr => by
    rw [s1]
    by_cases z : r = 1
    · rw [if_pos z]
      exact .inr ⟨3, by decide, rfl⟩
    · rw [if_neg z]
      exact hS r hr
  refine ev_yes rfl (eu_C_L_law_202.mpr ?_)
  refine ev_bd.mpr (ev_lcell (k := 9) hl (by decide) (fun x197 => ?_))
  refine ev_bd.mpr (ev_low (n := 90) (by decide) (by decide) (fun a ha => ?_))
  have ha0 : (nI a).toInt = a := nI_toInt (by omega)
  have m100 : (-100000 : Int32).toInt = -100000 := by decide +kernel
  refine ev_bd.mpr (ev_layr (i := 0) (x := nI a) h1 s3 (by decide) (by rw [x_le, x_le, m100, x100]; omega) (fun u2 rw2 h2 r2 => ?_))
  refine ev_yes rfl (eu_C_L_law_223.mpr ?_)
  refine ev_bd.mpr (ev_layr (i := 1) (x := nI 30) h2 s3 (by decide) (by decide +kernel) (fun u3 rw3 h3 r3 => ?_))
  refine ev_yes rfl (eu_C_L_law_235.mpr ?_)
  have hkk : V 0 0 0 = nI 1 ∨ V 0 0 0 = nI 3 := by
    rw [b3]
    rcases hk.2 with ⟨q, _⟩ | ⟨_, q⟩ | ⟨_, q⟩
    · exact absurd q hk0
    · exact .inl (by rw [q])
    · exact .inr (by rw [q])
  refine ev_bd.mpr (ev_tide (b := 0) (r := 1) h3 (by decide) T0_0 (by decide) hkk (fun u4 h4 => ?_))
  refine ev_yes rfl ?_
  have h30 : (nI 30).toInt = 30 := nI_toInt (by decide)
  have h00 : (nI 0).toInt = 0 := nI_toInt (by decide)
  have hw6 : WF 0 (bset (V 0) 0 6 (nI 1)) := WF_num b1.1 (.inl rfl) ⟨(fun _ => .inr ⟨1, (by decide), rfl⟩), (fun q => by cases q), (fun q => by cases q), (fun q => by rcases q with q | q <;> cases q)⟩
  have p6 := PS_num hp (.inl rfl) hw6
  have p7 := PS_num (x := nI 5) p6 (.inr (.inl rfl)) (WF_any hw6 (.inr (.inr rfl)))
  refine t248 hk h4 hl ?_ hS1 ?_
  · rw [vs_e]
    exact p7
  · rw [vs_e]
    refine .inr ⟨by rw [bs_s (by decide), bs_e], bs_e, s3, fun i hi => ?_⟩
    rw [r3]
    by_cases z1 : i = 1
    · rw [if_pos z1, h30]
      decide
    · rw [if_neg z1, r2]
      by_cases z0 : i = 0
      · rw [if_pos z0, ha0]
        omega
      · rw [if_neg z0, r1 i hi, h00]
        decide
theorem t187 (hk : KK k k') (h : St μ sz rw T0 V L mk rs) (hl : l0 ≤ 260) (hp : PS W H k' (V 0)) (hS : SZ sz) : Ev (C_L_law_187 b0 l0 f0 (nI W) (nI H) (nI k) (nI (W * H)) μ) one := by
  refine eu_C_L_law_187.mpr ?_
  have hk3 := hk.1
  by_cases z : k = 0
  · refine ev_yes (by subst z; decide +kernel) ?_
    refine t248 hk h hl hp hS (.inl (.inl ?_))
    rcases hk.2 with ⟨_, q⟩ | ⟨q, _⟩ | ⟨q, _⟩
    · rw [hp.2.2.1, q]
    · omega
    · omega
  · refine ev_not (fun q => ?_) (t192 hk z h hl hp hS)
    have := (nI_leI (a := k) (b := 0) (by omega) (by decide)).mp q
    omega
theorem t154 (hk : KK k k') (h : St μ sz rw T0 V L mk rs) (hl : l0 ≤ 260) (hp : PS W H k' (V 0)) (h12 : V 0 0 12 = nI 0) (hS : SZ sz) : Ev (C_L_law_154 b0 l0 f0 (nI W) (nI H) (nI k) (nI (W * H)) μ) one := by
  have hd := hp.2.1
  obtain ⟨d1, d2, d3, d4, d5, d6, d7, d8, d9, d10⟩ := id hd
  have hpos : 0 < W * H := Nat.mul_pos (by omega) (by omega)
  refine eu_C_L_law_154.mpr (ev_bd.mpr (ev_lcell (k := 7) hl (by decide) (fun x39 => ?_)))
  refine ev_bd.mpr (ev_low (n := W * H) hpos (by omega) (fun c hc => ?_))
  refine ev_bd.mpr (ev_lcell (k := 8) hl (by decide) (fun x41 => ?_))
  refine ev_bd.mpr (ev_low (n := 40) (by decide) (by decide) (fun m hm => ?_))
  refine ev_bd.mpr (ev_river (b := 0) h (by decide) T0_0 hd hc (by omega) h12 (fun u' h' => ?_))
  refine ev_yes rfl ?_
  refine t187 hk h' hl ?_ hS
  rw [vs_e]
  exact PS_riv hp h12 hc hm
theorem t118 (hk : KK k k') (h : St μ sz rw T0 V L mk rs) (hl : l0 ≤ 260) (hp : PS W H k' (V 0)) (h12 : V 0 0 12 = nI 0) (hS : SZ sz) : Ev (C_L_law_118 b0 l0 f0 (nI W) (nI H) (nI k) (nI (W * H)) μ) one := by
  have h15 : (15 : Int32).toInt = 15 := by decide +kernel
  have m50 : (-50 : Int32).toInt = -50 := by decide +kernel
  have p50 : (50 : Int32).toInt = 50 := by decide +kernel
  refine eu_C_L_law_118.mpr (ev_bd.mpr (ev_lcell (k := 5) hl (by decide) (fun x30 => ?_)))
  refine ev_bd.mpr (ev_low (n := 31) (by decide) (by decide) (fun i hi => ?_))
  refine ev_bd.mpr (ev_lcell (k := 6) hl (by decide) (fun x32 => ?_))
  refine ev_bd.mpr (ev_low (n := 31) (by decide) (by decide) (fun j hj => ?_))
  have hi0 : (nI i).toInt = i := nI_toInt (by omega)
  have hj0 : (nI j).toInt = j := nI_toInt (by omega)
  have ei : (nI i - 15).toInt = (i : Int) - 15 := by rw [z_sub (by omega) (by omega), hi0, h15]
  have ej : (nI j - 15).toInt = (j : Int) - 15 := by rw [z_sub (by omega) (by omega), hj0, h15]
  refine ev_bd.mpr (ev_wind (b := 0) (x := nI i - 15) (y := nI j - 15) h (by decide) T0_0 (by rw [x_le, x_le, ei, m50, p50]; omega) (by rw [x_le, x_le, ej, m50, p50]; omega) (fun u' h' => ?_))
  refine ev_yes rfl ?_
  have w1 : WF 0 (bset (V 0) 0 10 (nI i - 15)) := WF_num hp.1.1 (.inr (.inr (.inr (.inl rfl)))) ⟨(fun q => by cases q), (fun q => by cases q), (fun q => by cases q), (fun _ => by rw [ei]; omega)⟩
  have p1 := PS_num hp (.inr (.inr (.inr (.inr (.inl rfl))))) w1
  have w2 : WF 0 (bset (bset (V 0) 0 10 (nI i - 15)) 0 11 (nI j - 15)) := WF_num w1 (.inr (.inr (.inr (.inr rfl)))) ⟨(fun q => by cases q), (fun q => by cases q), (fun q => by cases q), (fun _ => by rw [ej]; omega)⟩
  have p2 := PS_num p1 (.inr (.inr (.inr (.inr (.inr rfl))))) w2
  refine t154 hk h' hl ?_ ?_ hS
  · rw [vs_e]
    exact p2
  · rw [vs_e, bs_s (by decide), bs_s (by decide)]
    exact h12
theorem t85 (hk : KK k k') (h : St μ sz rw T0 V L mk rs) (hl : l0 ≤ 260) (hp : PS W H k' (V 0)) (h12 : V 0 0 12 = nI 0) (hS : SZ sz) : Ev (C_L_law_85 b0 l0 f0 (nI W) (nI H) (nI k) (nI (W * H)) μ) one := by
  refine eu_C_L_law_85.mpr (ev_bd.mpr (ev_lcell (k := 3) hl (by decide) (fun x21 => ?_)))
  refine ev_bd.mpr (ev_low (n := 8) (by decide) (by decide) (fun i hi => ?_))
  refine ev_bd.mpr (ev_lcell (k := 4) hl (by decide) (fun x23 => ?_))
  refine ev_bd.mpr (ev_low (n := 40) (by decide) (by decide) (fun j hj => ?_))
  have e1 : (1 : Int32) + nI i = nI (1 + i) := nI_add 1 i
  have e2 : (2 : Int32) + nI j = nI (2 + j) := nI_add 2 j
  rw [e1, e2]
  refine ev_bd.mpr (ev_law (b := 0) h (by decide) T0_0 (by omega) (by omega) (fun u' h' => ?_))
  refine ev_yes rfl ?_
  have w1 : WF 0 (bset (V 0) 0 8 (nI (1 + i))) := WF_num hp.1.1 (.inr (.inl rfl)) ⟨(fun q => by cases q), (fun _ => ⟨1 + i, rfl, (by omega), (by omega)⟩), (fun q => by cases q), (fun q => by rcases q with q | q <;> cases q)⟩
  have p1 := PS_num hp (.inr (.inr (.inl rfl))) w1
  have w2 : WF 0 (bset (bset (V 0) 0 8 (nI (1 + i))) 0 9 (nI (2 + j))) := WF_num w1 (.inr (.inr (.inl rfl))) ⟨(fun q => by cases q), (fun q => by cases q), (fun _ => ⟨2 + j, rfl, (by omega), (by omega)⟩), (fun q => by rcases q with q | q <;> cases q)⟩
  have p2 := PS_num p1 (.inr (.inr (.inr (.inl rfl)))) w2
  refine t118 hk h' hl ?_ ?_ hS
  · rw [vs_e]
    exact p2
  · rw [vs_e, bs_s (by decide), bs_s (by decide)]
    exact h12
theorem t72 {v0 : qB} (hk : KK k k') (hW : 2 ≤ W ∧ W ≤ 6) (hH : 1 ≤ H ∧ H ≤ 5) (h : St μ sz rw T0 V L mk rs) (hl : l0 ≤ 260) (hv : V 0 = rstB (nI k') (nI W) (nI H) v0) (hS : SZ sz) : Ev (C_L_law_72 b0 l0 f0 (nI W) (nI H) (nI k) (nI (W * H)) μ) one := by
  have hk' : k' = 0 ∨ k' = 1 ∨ k' = 3 := by
    rcases hk.2 with ⟨_, q⟩ | ⟨_, q⟩ | ⟨_, q⟩
    · exact .inl q
    · exact .inr (.inl q)
    · exact .inr (.inr q)
  have s0 : SeaI (rstB (nI k') (nI W) (nI H) v0) 0 (V 0) := by
    rw [hv]
    exact SeaI_0
  have hd := (Sea_PS hk' hW hH s0).1.2.1
  refine eu_C_L_law_72.mpr (ev_bd.mpr (ev_sea (r := rstB (nI k') (nI W) (nI H) v0) h hl T0_0 hd s0.1 s0 (fun u' V' h' s' _ => ?_)))
  refine ev_not (by decide +kernel) ?_
  obtain ⟨p1, p2⟩ := Sea_PS hk' hW hH s'
  exact t85 hk h' hl p1 p2 hS
end LB
theorem St_0 : St b_mem0 (b_mem0.1 33 0) (b_mem0.1 30) (fun _ => false) (cB b_mem0) (b_mem0.1 5) (b_mem0.1 45) (b_mem0.1 46) := by
  refine ⟨fun k _ => rfl, fun g _ => rfl, rfl, rfl, fun b _ => rfl, fun _ _ => rfl, rfl, rfl, rfl⟩
theorem SZ_0 : SZ (b_mem0.1 33 0) := fun r hr => by
  rcases (show r = 0 ∨ r = 1 ∨ r = 2 ∨ r = 3 ∨ r = 4 ∨ r = 5 by omega) with rfl | rfl | rfl | rfl | rfl | rfl <;> exact .inl (by decide +kernel)
theorem t8 {b0 l0 : Nat} {f0 : Nat → Int32} (hl : l0 ≤ 260) : Ev (C_L_law_8 b0 l0 f0 b_mem0) one := by
  refine eu_C_L_law_8.mpr (ev_bd.mpr (ev_lcell (k := 0) hl (by decide) (fun x1 => ?_)))
  refine ev_bd.mpr (ev_low (n := 5) (by decide) (by decide) (fun i hi => ?_))
  have e1 : (2 : Int32) + nI i = nI (2 + i) := nI_add 2 i
  refine ev_lt.mpr ?_
  rw [e1]
  refine ev_bd.mpr (ev_lcell (k := 1) hl (by decide) (fun x4 => ?_))
  refine ev_bd.mpr (ev_low (n := 5) (by decide) (by decide) (fun j hj => ?_))
  have e2 : (1 : Int32) + nI j = nI (1 + j) := nI_add 1 j
  refine ev_lt.mpr ?_
  rw [e2]
  refine ev_bd.mpr (ev_lcell (k := 2) hl (by decide) (fun x7 => ?_))
  refine ev_bd.mpr (ev_low (n := 3) (by decide) (by decide) (fun k hk => ?_))
  refine ev_lt.mpr ?_
  rw [pk_mul]
  have n0 : NN (fun _ => false) (cB b_mem0) := fun x _ q => by cases q
  have key : ∀ (k' : Nat), KK k k' → Ev (q_bd (f_X10_board 0 (nI k') (nI (2 + i)) (nI (1 + j)) b_mem0) (fun (x11 : Int32) (u8 : qM) => if x11 = nI ((2 + i) * (1 + j)) then C_L_law_72 b0 l0 f0 (nI (2 + i)) (nI (1 + j)) (nI k) (nI ((2 + i) * (1 + j))) u8 else none)) one := fun k' hkk => by
    have hk' : k' = 0 ∨ k' = 1 ∨ k' = 3 := by
      rcases hkk.2 with ⟨_, q⟩ | ⟨_, q⟩ | ⟨_, q⟩
      · exact .inl q
      · exact .inr (.inl q)
      · exact .inr (.inr q)
    refine ev_bd.mpr (ev_board (b := 0) St_0 (by decide) n0 hk' (by omega) (by omega) (fun u' h' => ?_))
    refine ev_yes rfl ?_
    exact t72 (v0 := cB b_mem0 0) hkk (by omega) (by omega) h' hl vs_e SZ_0
  refine ev_jn.mpr ?_
  by_cases z : k = 2
  · subst z
    exact ev_yes rfl (key 3 ⟨hk, .inr (.inr ⟨rfl, rfl⟩)⟩)
  · refine ev_not (fun q => z ((nI_eq (a := k) (b := 2) (by omega) (by decide)).mp q)) ?_
    refine key k ⟨hk, ?_⟩
    rcases (show k = 0 ∨ k = 1 by omega) with rfl | rfl
    · exact .inl ⟨rfl, rfl⟩
    · exact .inr (.inl ⟨rfl, rfl⟩)
theorem law_start {b0 L : Nat} {f0 : Nat → Int32} (hL : L ≤ 260) : ∃ μ', C_L_law_8 b0 L f0 b_mem0 = some (1, μ') := by
  obtain ⟨v, u, h, p⟩ := t8 (b0 := b0) (f0 := f0) hL
  have p' : v = 1 := p
  subst p'
  exact ⟨u, h⟩
