/-! The loop of the law: all calls of a run. -/
theorem lw_I {F F' : qM → Option (Int32 × qM)} {j : qM → Option (Int32 × qM)} {n : Nat} {μ : qM} {P : Int32 → qM → Prop} (hop : OpX F F') (hn : n ≤ 1000000) (h : Rel n μ) (K : ∀ u, Rel (n + 1500) u → Ev (j u) P) : Ev (q_bd (F μ) (fun v u => q_bd (F' u) (fun v' u' => if v = v' then j u' else none))) P := ev_bd.mpr ((hop n μ hn h).mono (fun v μ1 q => ev_bd.mpr (q.mono (fun v' μ2 z => by
  obtain ⟨rfl, z⟩ := z
  rw [if_pos rfl]
  exact K _ z))))
theorem cmp_self {v : Int64} : lg_cmp v v = 0 := by
  unfold lg_cmp
  rw [if_neg (fun z => by rw [gt_iff_lt, Int64.lt_iff_toInt_lt] at z; omega), if_pos rfl]
theorem lw_L {F F' : qM → Option (Int64 × qM)} {j : qM → Option (Int32 × qM)} {n : Nat} {μ : qM} {P : Int32 → qM → Prop} (hop : OpX F F') (hn : n ≤ 1000000) (h : Rel n μ) (K : ∀ u, Rel (n + 1500) u → Ev (j u) P) : Ev (q_bd (F μ) (fun v u => q_bd (F' u) (fun v' u' => if (lg_cmp v v') = 0 then j u' else none))) P := ev_bd.mpr ((hop n μ hn h).mono (fun v μ1 q => ev_bd.mpr (q.mono (fun v' μ2 z => by
  obtain ⟨rfl, z⟩ := z
  rw [if_pos cmp_self]
  exact K _ z))))
theorem lw_j {B : (qM → Option (Int32 × qM)) → Option (Int32 × qM)} {J : qM → Option (Int32 × qM)} {n : Nat} {P : Int32 → qM → Prop} (h : ∀ j1 : qM → Option (Int32 × qM), (∀ u, Rel (n + 1500) u → Ev (j1 u) P) → Ev (B j1) P) (K : ∀ u, Rel (n + 1500) u → Ev (J u) P) : Ev (q_jn J B) P := h J K
theorem ck_t {α : Type} {r : Option α} : q_ck true r = r := if_pos rfl
theorem eu_law {b0 l0 : Nat} {f0 : Nat → Int32} {n : Nat} {x1 : Int32} {u1 : qM} {e1 : qM → Option (Int32 × qM)} {P : Int32 → qM → Prop} : Ev (L_L_law_18 b0 l0 f0 (n + 1) x1 u1 e1) P ↔ Ev (if ((Int32.ofNat l0) - 7) < x1 then e1 u1 else q_ck (q_in x1 l0) (q_lt ((f0 (Int32.toNatClampNeg x1)) &&& 63) (fun (x2 : Int32) => q_jn (fun  (u2 : qM) => q_lt (x1 + 7) (fun (x3 : Int32) => L_L_law_18 b0 l0 f0 n x3 u2 e1)) (fun j1 => if x2 = 0 then q_ck (q_in (x1 + 1) l0) (q_ck (q_in (x1 + 2) l0) (q_bd (f_X10_row (f0 (Int32.toNatClampNeg (x1 + 1))) (f0 (Int32.toNatClampNeg (x1 + 2))) u1) (fun (x4 : Int32) (u3 : qM) => q_ck (q_in (x1 + 1) l0) (q_ck (q_in (x1 + 2) l0) (q_bd (f_X11_row (f0 (Int32.toNatClampNeg (x1 + 1))) (f0 (Int32.toNatClampNeg (x1 + 2))) u3) (fun (x5 : Int32) (u4 : qM) => if x4 = x5 then j1 u4 else none)))))) else if x2 = 1 then q_ck (q_in (x1 + 1) l0) (q_ck (q_in (x1 + 2) l0) (q_ck (q_in (x1 + 3) l0) (q_bd (f_X10_lay (f0 (Int32.toNatClampNeg (x1 + 1))) (f0 (Int32.toNatClampNeg (x1 + 2))) (f0 (Int32.toNatClampNeg (x1 + 3))) u1) (fun (x6 : Int32) (u5 : qM) => q_ck (q_in (x1 + 1) l0) (q_ck (q_in (x1 + 2) l0) (q_ck (q_in (x1 + 3) l0) (q_bd (f_X11_lay (f0 (Int32.toNatClampNeg (x1 + 1))) (f0 (Int32.toNatClampNeg (x1 + 2))) (f0 (Int32.toNatClampNeg (x1 + 3))) u5) (fun (x7 : Int32) (u6 : qM) => if x6 = x7 then j1 u6 else none)))))))) else if x2 = 2 then q_ck (q_in (x1 + 1) l0) (q_bd (f_X10_tear (f0 (Int32.toNatClampNeg (x1 + 1))) u1) (fun (x8 : Int32) (u7 : qM) => q_ck (q_in (x1 + 1) l0) (q_bd (f_X11_tear (f0 (Int32.toNatClampNeg (x1 + 1))) u7) (fun (x9 : Int32) (u8 : qM) => if x8 = x9 then j1 u8 else none)))) else if x2 = 3 then q_ck (q_in (x1 + 1) l0) (q_ck (q_in (x1 + 2) l0) (q_ck (q_in (x1 + 3) l0) (q_ck (q_in (x1 + 4) l0) (q_ck (q_in (x1 + 5) l0) (q_bd (f_X10_copy (f0 (Int32.toNatClampNeg (x1 + 1))) (f0 (Int32.toNatClampNeg (x1 + 2))) (f0 (Int32.toNatClampNeg (x1 + 3))) (f0 (Int32.toNatClampNeg (x1 + 4))) (f0 (Int32.toNatClampNeg (x1 + 5))) u1) (fun (x10 : Int32) (u9 : qM) => q_ck (q_in (x1 + 1) l0) (q_ck (q_in (x1 + 2) l0) (q_ck (q_in (x1 + 3) l0) (q_ck (q_in (x1 + 4) l0) (q_ck (q_in (x1 + 5) l0) (q_bd (f_X11_copy (f0 (Int32.toNatClampNeg (x1 + 1))) (f0 (Int32.toNatClampNeg (x1 + 2))) (f0 (Int32.toNatClampNeg (x1 + 3))) (f0 (Int32.toNatClampNeg (x1 + 4))) (f0 (Int32.toNatClampNeg (x1 + 5))) u9) (fun (x11 : Int32) (u10 : qM) => if x10 = x11 then j1 u10 else none)))))))))))) else if x2 = 4 then q_ck (q_in (x1 + 1) l0) (q_bd (f_X10_mean (f0 (Int32.toNatClampNeg (x1 + 1))) u1) (fun (x12 : Int32) (u11 : qM) => q_ck (q_in (x1 + 1) l0) (q_bd (f_X11_mean (f0 (Int32.toNatClampNeg (x1 + 1))) u11) (fun (x13 : Int32) (u12 : qM) => if x12 = x13 then j1 u12 else none)))) else if x2 = 5 then q_ck (q_in (x1 + 1) l0) (q_ck (q_in (x1 + 2) l0) (q_bd (f_X10_text (f0 (Int32.toNatClampNeg (x1 + 1))) (f0 (Int32.toNatClampNeg (x1 + 2))) u1) (fun (x14 : Int32) (u13 : qM) => q_ck (q_in (x1 + 1) l0) (q_ck (q_in (x1 + 2) l0) (q_bd (f_X11_text (f0 (Int32.toNatClampNeg (x1 + 1))) (f0 (Int32.toNatClampNeg (x1 + 2))) u13) (fun (x15 : Int32) (u14 : qM) => if x14 = x15 then j1 u14 else none)))))) else if x2 = 6 then q_ck (q_in (x1 + 1) l0) (q_ck (q_in (x1 + 2) l0) (q_ck (q_in (x1 + 3) l0) (q_bd (f_X10_put (f0 (Int32.toNatClampNeg (x1 + 1))) (f0 (Int32.toNatClampNeg (x1 + 2))) (f0 (Int32.toNatClampNeg (x1 + 3))) u1) (fun (x16 : Int32) (u15 : qM) => q_ck (q_in (x1 + 1) l0) (q_ck (q_in (x1 + 2) l0) (q_ck (q_in (x1 + 3) l0) (q_bd (f_X11_put (f0 (Int32.toNatClampNeg (x1 + 1))) (f0 (Int32.toNatClampNeg (x1 + 2))) (f0 (Int32.toNatClampNeg (x1 + 3))) u15) (fun (x17 : Int32) (u16 : qM) => if x16 = x17 then j1 u16 else none)))))))) else if x2 = 7 then q_ck (q_in (x1 + 1) l0) (q_bd (f_X10_burn (f0 (Int32.toNatClampNeg (x1 + 1))) u1) (fun (x18 : Int32) (u17 : qM) => q_ck (q_in (x1 + 1) l0) (q_bd (f_X11_burn (f0 (Int32.toNatClampNeg (x1 + 1))) u17) (fun (x19 : Int32) (u18 : qM) => if x18 = x19 then j1 u18 else none)))) else if x2 = 8 then q_ck (q_in (x1 + 1) l0) (q_bd (f_X10_fault (f0 (Int32.toNatClampNeg (x1 + 1))) u1) (fun (x20 : Int32) (u19 : qM) => q_ck (q_in (x1 + 1) l0) (q_bd (f_X11_fault (f0 (Int32.toNatClampNeg (x1 + 1))) u19) (fun (x21 : Int32) (u20 : qM) => if x20 = x21 then j1 u20 else none)))) else if x2 = 9 then q_ck (q_in (x1 + 1) l0) (q_ck (q_in (x1 + 2) l0) (q_ck (q_in (x1 + 3) l0) (q_ck (q_in (x1 + 4) l0) (q_bd (f_X10_board (f0 (Int32.toNatClampNeg (x1 + 1))) (f0 (Int32.toNatClampNeg (x1 + 2))) (f0 (Int32.toNatClampNeg (x1 + 3))) (f0 (Int32.toNatClampNeg (x1 + 4))) u1) (fun (x22 : Int32) (u21 : qM) => q_ck (q_in (x1 + 1) l0) (q_ck (q_in (x1 + 2) l0) (q_ck (q_in (x1 + 3) l0) (q_ck (q_in (x1 + 4) l0) (q_bd (f_X11_board (f0 (Int32.toNatClampNeg (x1 + 1))) (f0 (Int32.toNatClampNeg (x1 + 2))) (f0 (Int32.toNatClampNeg (x1 + 3))) (f0 (Int32.toNatClampNeg (x1 + 4))) u21) (fun (x23 : Int32) (u22 : qM) => if x22 = x23 then j1 u22 else none)))))))))) else if x2 = 10 then q_ck (q_in (x1 + 1) l0) (q_bd (f_X10_drop (f0 (Int32.toNatClampNeg (x1 + 1))) u1) (fun (x24 : Int32) (u23 : qM) => q_ck (q_in (x1 + 1) l0) (q_bd (f_X11_drop (f0 (Int32.toNatClampNeg (x1 + 1))) u23) (fun (x25 : Int32) (u24 : qM) => if x24 = x25 then j1 u24 else none)))) else if x2 = 11 then q_ck (q_in (x1 + 1) l0) (q_ck (q_in (x1 + 2) l0) (q_ck (q_in (x1 + 3) l0) (q_bd (f_X10_bottom (f0 (Int32.toNatClampNeg (x1 + 1))) (f0 (Int32.toNatClampNeg (x1 + 2))) (f0 (Int32.toNatClampNeg (x1 + 3))) u1) (fun (x26 : Int32) (u25 : qM) => q_ck (q_in (x1 + 1) l0) (q_ck (q_in (x1 + 2) l0) (q_ck (q_in (x1 + 3) l0) (q_bd (f_X11_bottom (f0 (Int32.toNatClampNeg (x1 + 1))) (f0 (Int32.toNatClampNeg (x1 + 2))) (f0 (Int32.toNatClampNeg (x1 + 3))) u25) (fun (x27 : Int32) (u26 : qM) => if x26 = x27 then j1 u26 else none)))))))) else if x2 = 12 then q_ck (q_in (x1 + 1) l0) (q_ck (q_in (x1 + 2) l0) (q_ck (q_in (x1 + 3) l0) (q_bd (f_X10_water (f0 (Int32.toNatClampNeg (x1 + 1))) (f0 (Int32.toNatClampNeg (x1 + 2))) (f0 (Int32.toNatClampNeg (x1 + 3))) u1) (fun (x28 : Int32) (u27 : qM) => q_ck (q_in (x1 + 1) l0) (q_ck (q_in (x1 + 2) l0) (q_ck (q_in (x1 + 3) l0) (q_bd (f_X11_water (f0 (Int32.toNatClampNeg (x1 + 1))) (f0 (Int32.toNatClampNeg (x1 + 2))) (f0 (Int32.toNatClampNeg (x1 + 3))) u27) (fun (x29 : Int32) (u28 : qM) => if x28 = x29 then j1 u28 else none)))))))) else if x2 = 13 then q_ck (q_in (x1 + 1) l0) (q_ck (q_in (x1 + 2) l0) (q_ck (q_in (x1 + 3) l0) (q_ck (q_in (x1 + 4) l0) (q_bd (f_X10_spill (f0 (Int32.toNatClampNeg (x1 + 1))) (f0 (Int32.toNatClampNeg (x1 + 2))) (f0 (Int32.toNatClampNeg (x1 + 3))) (f0 (Int32.toNatClampNeg (x1 + 4))) u1) (fun (x30 : Int32) (u29 : qM) => q_ck (q_in (x1 + 1) l0) (q_ck (q_in (x1 + 2) l0) (q_ck (q_in (x1 + 3) l0) (q_ck (q_in (x1 + 4) l0) (q_bd (f_X11_spill (f0 (Int32.toNatClampNeg (x1 + 1))) (f0 (Int32.toNatClampNeg (x1 + 2))) (f0 (Int32.toNatClampNeg (x1 + 3))) (f0 (Int32.toNatClampNeg (x1 + 4))) u29) (fun (x31 : Int32) (u30 : qM) => if x30 = x31 then j1 u30 else none)))))))))) else if x2 = 14 then q_ck (q_in (x1 + 1) l0) (q_ck (q_in (x1 + 2) l0) (q_ck (q_in (x1 + 3) l0) (q_bd (f_X10_cell (f0 (Int32.toNatClampNeg (x1 + 1))) (f0 (Int32.toNatClampNeg (x1 + 2))) (f0 (Int32.toNatClampNeg (x1 + 3))) u1) (fun (x32 : Int32) (u31 : qM) => q_ck (q_in (x1 + 1) l0) (q_ck (q_in (x1 + 2) l0) (q_ck (q_in (x1 + 3) l0) (q_bd (f_X11_cell (f0 (Int32.toNatClampNeg (x1 + 1))) (f0 (Int32.toNatClampNeg (x1 + 2))) (f0 (Int32.toNatClampNeg (x1 + 3))) u31) (fun (x33 : Int32) (u32 : qM) => if x32 = x33 then j1 u32 else none)))))))) else if x2 = 15 then q_ck (q_in (x1 + 1) l0) (q_ck (q_in (x1 + 2) l0) (q_bd (f_X10_flow (f0 (Int32.toNatClampNeg (x1 + 1))) (f0 (Int32.toNatClampNeg (x1 + 2))) u1) (fun (x34 : Int32) (u33 : qM) => q_ck (q_in (x1 + 1) l0) (q_ck (q_in (x1 + 2) l0) (q_bd (f_X11_flow (f0 (Int32.toNatClampNeg (x1 + 1))) (f0 (Int32.toNatClampNeg (x1 + 2))) u33) (fun (x35 : Int32) (u34 : qM) => if x34 = x35 then j1 u34 else none)))))) else if x2 = 16 then q_ck (q_in (x1 + 1) l0) (q_ck (q_in (x1 + 2) l0) (q_ck (q_in (x1 + 3) l0) (q_jn (fun (x36 : Int32) (u35 : qM) => q_bd (f_X10_gate (f0 (Int32.toNatClampNeg (x1 + 1))) (f0 (Int32.toNatClampNeg (x1 + 2))) x36 u35) (fun (x37 : Int32) (u36 : qM) => q_ck (q_in (x1 + 1) l0) (q_ck (q_in (x1 + 2) l0) (q_ck (q_in (x1 + 3) l0) (q_jn (fun (x38 : Int32) (u37 : qM) => q_bd (f_X11_gate (f0 (Int32.toNatClampNeg (x1 + 1))) (f0 (Int32.toNatClampNeg (x1 + 2))) x38 u37) (fun (x39 : Int32) (u38 : qM) => if x37 = x39 then j1 u38 else none)) (fun j3 => if (f0 (Int32.toNatClampNeg (x1 + 3))) = 0 then j3 0 u36 else j3 1 u36)))))) (fun j2 => if (f0 (Int32.toNatClampNeg (x1 + 3))) = 0 then j2 0 u1 else j2 1 u1)))) else if x2 = 17 then q_ck (q_in (x1 + 1) l0) (q_ck (q_in (x1 + 2) l0) (q_ck (q_in (x1 + 3) l0) (q_bd (f_X10_law (f0 (Int32.toNatClampNeg (x1 + 1))) (f0 (Int32.toNatClampNeg (x1 + 2))) (f0 (Int32.toNatClampNeg (x1 + 3))) u1) (fun (x40 : Int32) (u39 : qM) => q_ck (q_in (x1 + 1) l0) (q_ck (q_in (x1 + 2) l0) (q_ck (q_in (x1 + 3) l0) (q_bd (f_X11_law (f0 (Int32.toNatClampNeg (x1 + 1))) (f0 (Int32.toNatClampNeg (x1 + 2))) (f0 (Int32.toNatClampNeg (x1 + 3))) u39) (fun (x41 : Int32) (u40 : qM) => if x40 = x41 then j1 u40 else none)))))))) else if x2 = 18 then q_ck (q_in (x1 + 1) l0) (q_ck (q_in (x1 + 2) l0) (q_ck (q_in (x1 + 3) l0) (q_bd (f_X10_wind (f0 (Int32.toNatClampNeg (x1 + 1))) (f0 (Int32.toNatClampNeg (x1 + 2))) (f0 (Int32.toNatClampNeg (x1 + 3))) u1) (fun (x42 : Int32) (u41 : qM) => q_ck (q_in (x1 + 1) l0) (q_ck (q_in (x1 + 2) l0) (q_ck (q_in (x1 + 3) l0) (q_bd (f_X11_wind (f0 (Int32.toNatClampNeg (x1 + 1))) (f0 (Int32.toNatClampNeg (x1 + 2))) (f0 (Int32.toNatClampNeg (x1 + 3))) u41) (fun (x43 : Int32) (u42 : qM) => if x42 = x43 then j1 u42 else none)))))))) else if x2 = 19 then q_ck (q_in (x1 + 1) l0) (q_ck (q_in (x1 + 2) l0) (q_ck (q_in (x1 + 3) l0) (q_bd (f_X10_river (f0 (Int32.toNatClampNeg (x1 + 1))) (f0 (Int32.toNatClampNeg (x1 + 2))) (f0 (Int32.toNatClampNeg (x1 + 3))) u1) (fun (x44 : Int32) (u43 : qM) => q_ck (q_in (x1 + 1) l0) (q_ck (q_in (x1 + 2) l0) (q_ck (q_in (x1 + 3) l0) (q_bd (f_X11_river (f0 (Int32.toNatClampNeg (x1 + 1))) (f0 (Int32.toNatClampNeg (x1 + 2))) (f0 (Int32.toNatClampNeg (x1 + 3))) u43) (fun (x45 : Int32) (u44 : qM) => if x44 = x45 then j1 u44 else none)))))))) else if x2 = 20 then q_ck (q_in (x1 + 1) l0) (q_ck (q_in (x1 + 2) l0) (q_ck (q_in (x1 + 3) l0) (q_bd (f_X10_tide (f0 (Int32.toNatClampNeg (x1 + 1))) (f0 (Int32.toNatClampNeg (x1 + 2))) (f0 (Int32.toNatClampNeg (x1 + 3))) u1) (fun (x46 : Int32) (u45 : qM) => q_ck (q_in (x1 + 1) l0) (q_ck (q_in (x1 + 2) l0) (q_ck (q_in (x1 + 3) l0) (q_bd (f_X11_tide (f0 (Int32.toNatClampNeg (x1 + 1))) (f0 (Int32.toNatClampNeg (x1 + 2))) (f0 (Int32.toNatClampNeg (x1 + 3))) u45) (fun (x47 : Int32) (u46 : qM) => if x46 = x47 then j1 u46 else none)))))))) else if x2 = 21 then q_ck (q_in (x1 + 1) l0) (q_ck (q_in (x1 + 2) l0) (q_bd (f_X10_step (f0 (Int32.toNatClampNeg (x1 + 1))) (f0 (Int32.toNatClampNeg (x1 + 2))) u1) (fun (x48 : Int32) (u47 : qM) => q_ck (q_in (x1 + 1) l0) (q_ck (q_in (x1 + 2) l0) (q_bd (f_X11_step (f0 (Int32.toNatClampNeg (x1 + 1))) (f0 (Int32.toNatClampNeg (x1 + 2))) u47) (fun (x49 : Int32) (u48 : qM) => if x48 = x49 then j1 u48 else none)))))) else if x2 = 22 then q_ck (q_in (x1 + 1) l0) (q_ck (q_in (x1 + 2) l0) (q_bd (f_X10_told (f0 (Int32.toNatClampNeg (x1 + 1))) (f0 (Int32.toNatClampNeg (x1 + 2))) u1) (fun (x50 : Int32) (u49 : qM) => q_ck (q_in (x1 + 1) l0) (q_ck (q_in (x1 + 2) l0) (q_bd (f_X11_told (f0 (Int32.toNatClampNeg (x1 + 1))) (f0 (Int32.toNatClampNeg (x1 + 2))) u49) (fun (x51 : Int32) (u50 : qM) => if x50 = x51 then j1 u50 else none)))))) else if x2 = 23 then q_ck (q_in (x1 + 1) l0) (q_ck (q_in (x1 + 2) l0) (q_bd (f_X10_mark (f0 (Int32.toNatClampNeg (x1 + 1))) (f0 (Int32.toNatClampNeg (x1 + 2))) u1) (fun (x52 : Int32) (u51 : qM) => q_ck (q_in (x1 + 1) l0) (q_ck (q_in (x1 + 2) l0) (q_bd (f_X11_mark (f0 (Int32.toNatClampNeg (x1 + 1))) (f0 (Int32.toNatClampNeg (x1 + 2))) u51) (fun (x53 : Int32) (u52 : qM) => if x52 = x53 then j1 u52 else none)))))) else if x2 = 24 then q_ck (q_in (x1 + 1) l0) (q_ck (q_in (x1 + 2) l0) (q_bd (f_X10_keep (f0 (Int32.toNatClampNeg (x1 + 1))) (f0 (Int32.toNatClampNeg (x1 + 2))) u1) (fun (x54 : Int32) (u53 : qM) => q_ck (q_in (x1 + 1) l0) (q_ck (q_in (x1 + 2) l0) (q_bd (f_X11_keep (f0 (Int32.toNatClampNeg (x1 + 1))) (f0 (Int32.toNatClampNeg (x1 + 2))) u53) (fun (x55 : Int32) (u54 : qM) => if x54 = x55 then j1 u54 else none)))))) else if x2 = 25 then q_ck (q_in (x1 + 1) l0) (q_bd (f_X10_mirror (f0 (Int32.toNatClampNeg (x1 + 1))) u1) (fun (x56 : Int32) (u55 : qM) => q_ck (q_in (x1 + 1) l0) (q_bd (f_X11_mirror (f0 (Int32.toNatClampNeg (x1 + 1))) u55) (fun (x57 : Int32) (u56 : qM) => if x56 = x57 then j1 u56 else none)))) else if x2 = 26 then q_ck (q_in (x1 + 1) l0) (q_ck (q_in (x1 + 2) l0) (q_ck (q_in (x1 + 3) l0) (q_ck (q_in (x1 + 4) l0) (q_bd (f_X10_boat (f0 (Int32.toNatClampNeg (x1 + 1))) (f0 (Int32.toNatClampNeg (x1 + 2))) (f0 (Int32.toNatClampNeg (x1 + 3))) (f0 (Int32.toNatClampNeg (x1 + 4))) u1) (fun (x58 : Int32) (u57 : qM) => q_ck (q_in (x1 + 1) l0) (q_ck (q_in (x1 + 2) l0) (q_ck (q_in (x1 + 3) l0) (q_ck (q_in (x1 + 4) l0) (q_bd (f_X11_boat (f0 (Int32.toNatClampNeg (x1 + 1))) (f0 (Int32.toNatClampNeg (x1 + 2))) (f0 (Int32.toNatClampNeg (x1 + 3))) (f0 (Int32.toNatClampNeg (x1 + 4))) u57) (fun (x59 : Int32) (u58 : qM) => if x58 = x59 then j1 u58 else none)))))))))) else if x2 = 27 then q_ck (q_in (x1 + 1) l0) (q_bd (f_X10_where (f0 (Int32.toNatClampNeg (x1 + 1))) u1) (fun (x60 : Int32) (u59 : qM) => q_ck (q_in (x1 + 1) l0) (q_bd (f_X11_where (f0 (Int32.toNatClampNeg (x1 + 1))) u59) (fun (x61 : Int32) (u60 : qM) => if x60 = x61 then j1 u60 else none)))) else if x2 = 28 then q_ck (q_in (x1 + 1) l0) (q_ck (q_in (x1 + 2) l0) (q_ck (q_in (x1 + 3) l0) (q_bd (f_X10_gauge (f0 (Int32.toNatClampNeg (x1 + 1))) (f0 (Int32.toNatClampNeg (x1 + 2))) (f0 (Int32.toNatClampNeg (x1 + 3))) u1) (fun (x62 : Int32) (u61 : qM) => q_ck (q_in (x1 + 1) l0) (q_ck (q_in (x1 + 2) l0) (q_ck (q_in (x1 + 3) l0) (q_bd (f_X11_gauge (f0 (Int32.toNatClampNeg (x1 + 1))) (f0 (Int32.toNatClampNeg (x1 + 2))) (f0 (Int32.toNatClampNeg (x1 + 3))) u61) (fun (x63 : Int32) (u62 : qM) => if x62 = x63 then j1 u62 else none)))))))) else if x2 = 29 then q_ck (q_in (x1 + 1) l0) (q_ck (q_in (x1 + 2) l0) (q_bd (f_X10_reading (f0 (Int32.toNatClampNeg (x1 + 1))) (f0 (Int32.toNatClampNeg (x1 + 2))) u1) (fun (x64 : Int32) (u63 : qM) => q_ck (q_in (x1 + 1) l0) (q_ck (q_in (x1 + 2) l0) (q_bd (f_X11_reading (f0 (Int32.toNatClampNeg (x1 + 1))) (f0 (Int32.toNatClampNeg (x1 + 2))) u63) (fun (x65 : Int32) (u64 : qM) => if x64 = x65 then j1 u64 else none)))))) else if x2 = 30 then q_ck (q_in (x1 + 1) l0) (q_ck (q_in (x1 + 2) l0) (q_bd (f_X10_lose (f0 (Int32.toNatClampNeg (x1 + 1))) (f0 (Int32.toNatClampNeg (x1 + 2))) u1) (fun (x66 : Int32) (u65 : qM) => q_ck (q_in (x1 + 1) l0) (q_ck (q_in (x1 + 2) l0) (q_bd (f_X11_lose (f0 (Int32.toNatClampNeg (x1 + 1))) (f0 (Int32.toNatClampNeg (x1 + 2))) u65) (fun (x67 : Int32) (u66 : qM) => if x66 = x67 then j1 u66 else none)))))) else if x2 = 31 then q_ck (q_in (x1 + 1) l0) (q_ck (q_in (x1 + 2) l0) (q_bd (f_X10_tone (f0 (Int32.toNatClampNeg (x1 + 1))) (f0 (Int32.toNatClampNeg (x1 + 2))) u1) (fun (x68 : Int32) (u67 : qM) => q_ck (q_in (x1 + 1) l0) (q_ck (q_in (x1 + 2) l0) (q_bd (f_X11_tone (f0 (Int32.toNatClampNeg (x1 + 1))) (f0 (Int32.toNatClampNeg (x1 + 2))) u67) (fun (x69 : Int32) (u68 : qM) => if x68 = x69 then j1 u68 else none)))))) else if x2 = 32 then q_ck (q_in (x1 + 1) l0) (q_bd (f_X10_theTone (f0 (Int32.toNatClampNeg (x1 + 1))) u1) (fun (x70 : Int32) (u69 : qM) => q_ck (q_in (x1 + 1) l0) (q_bd (f_X11_theTone (f0 (Int32.toNatClampNeg (x1 + 1))) u69) (fun (x71 : Int32) (u70 : qM) => if x70 = x71 then j1 u70 else none)))) else if x2 = 33 then q_ck (q_in (x1 + 1) l0) (q_jn (fun (x72 : Int32) (u71 : qM) => q_bd (f_X10_part x72 u71) (fun (x73 : Int32) (u72 : qM) => q_ck (q_in (x1 + 1) l0) (q_jn (fun (x74 : Int32) (u73 : qM) => q_bd (f_X11_part x74 u73) (fun (x75 : Int32) (u74 : qM) => if x73 = x75 then j1 u74 else none)) (fun j5 => if (f0 (Int32.toNatClampNeg (x1 + 1))) = 0 then j5 0 u72 else j5 1 u72)))) (fun j4 => if (f0 (Int32.toNatClampNeg (x1 + 1))) = 0 then j4 0 u1 else j4 1 u1)) else if x2 = 34 then q_ck (q_in (x1 + 1) l0) (q_ck (q_in (x1 + 2) l0) (q_ck (q_in (x1 + 3) l0) (q_ck (q_in (x1 + 4) l0) (q_ck (q_in (x1 + 5) l0) (q_ck (q_in (x1 + 6) l0) (q_bd (f_X10_nest (f0 (Int32.toNatClampNeg (x1 + 1))) (f0 (Int32.toNatClampNeg (x1 + 2))) (f0 (Int32.toNatClampNeg (x1 + 3))) (f0 (Int32.toNatClampNeg (x1 + 4))) (f0 (Int32.toNatClampNeg (x1 + 5))) (f0 (Int32.toNatClampNeg (x1 + 6))) u1) (fun (x76 : Int32) (u75 : qM) => q_ck (q_in (x1 + 1) l0) (q_ck (q_in (x1 + 2) l0) (q_ck (q_in (x1 + 3) l0) (q_ck (q_in (x1 + 4) l0) (q_ck (q_in (x1 + 5) l0) (q_ck (q_in (x1 + 6) l0) (q_bd (f_X11_nest (f0 (Int32.toNatClampNeg (x1 + 1))) (f0 (Int32.toNatClampNeg (x1 + 2))) (f0 (Int32.toNatClampNeg (x1 + 3))) (f0 (Int32.toNatClampNeg (x1 + 4))) (f0 (Int32.toNatClampNeg (x1 + 5))) (f0 (Int32.toNatClampNeg (x1 + 6))) u75) (fun (x77 : Int32) (u76 : qM) => if x76 = x77 then j1 u76 else none)))))))))))))) else if x2 = 35 then q_ck (q_in (x1 + 1) l0) (q_bd (f_X10_up (f0 (Int32.toNatClampNeg (x1 + 1))) u1) (fun (x78 : Int32) (u77 : qM) => q_ck (q_in (x1 + 1) l0) (q_bd (f_X11_up (f0 (Int32.toNatClampNeg (x1 + 1))) u77) (fun (x79 : Int32) (u78 : qM) => if x78 = x79 then j1 u78 else none)))) else if x2 = 36 then q_ck (q_in (x1 + 1) l0) (q_bd (f_X10_down (f0 (Int32.toNatClampNeg (x1 + 1))) u1) (fun (x80 : Int32) (u79 : qM) => q_ck (q_in (x1 + 1) l0) (q_bd (f_X11_down (f0 (Int32.toNatClampNeg (x1 + 1))) u79) (fun (x81 : Int32) (u80 : qM) => if x80 = x81 then j1 u80 else none)))) else if x2 = 37 then q_ck (q_in (x1 + 1) l0) (q_ck (q_in (x1 + 2) l0) (q_ck (q_in (x1 + 3) l0) (q_bd (f_X10_fit (f0 (Int32.toNatClampNeg (x1 + 1))) (f0 (Int32.toNatClampNeg (x1 + 2))) (f0 (Int32.toNatClampNeg (x1 + 3))) u1) (fun (x82 : Int32) (u81 : qM) => q_ck (q_in (x1 + 1) l0) (q_ck (q_in (x1 + 2) l0) (q_ck (q_in (x1 + 3) l0) (q_bd (f_X11_fit (f0 (Int32.toNatClampNeg (x1 + 1))) (f0 (Int32.toNatClampNeg (x1 + 2))) (f0 (Int32.toNatClampNeg (x1 + 3))) u81) (fun (x83 : Int32) (u82 : qM) => if x82 = x83 then j1 u82 else none)))))))) else if x2 = 38 then q_ck (q_in (x1 + 1) l0) (q_ck (q_in (x1 + 2) l0) (q_ck (q_in (x1 + 3) l0) (q_ck (q_in (x1 + 4) l0) (q_bd (f_X10_ends (f0 (Int32.toNatClampNeg (x1 + 1))) (f0 (Int32.toNatClampNeg (x1 + 2))) (f0 (Int32.toNatClampNeg (x1 + 3))) (f0 (Int32.toNatClampNeg (x1 + 4))) u1) (fun (x84 : Int32) (u83 : qM) => q_ck (q_in (x1 + 1) l0) (q_ck (q_in (x1 + 2) l0) (q_ck (q_in (x1 + 3) l0) (q_ck (q_in (x1 + 4) l0) (q_bd (f_X11_ends (f0 (Int32.toNatClampNeg (x1 + 1))) (f0 (Int32.toNatClampNeg (x1 + 2))) (f0 (Int32.toNatClampNeg (x1 + 3))) (f0 (Int32.toNatClampNeg (x1 + 4))) u83) (fun (x85 : Int32) (u84 : qM) => if x84 = x85 then j1 u84 else none)))))))))) else if x2 = 39 then q_ck (q_in (x1 + 1) l0) (q_ck (q_in (x1 + 2) l0) (q_bd (f_X10_play (f0 (Int32.toNatClampNeg (x1 + 1))) (f0 (Int32.toNatClampNeg (x1 + 2))) u1) (fun (x86 : Int32) (u85 : qM) => q_ck (q_in (x1 + 1) l0) (q_ck (q_in (x1 + 2) l0) (q_bd (f_X11_play (f0 (Int32.toNatClampNeg (x1 + 1))) (f0 (Int32.toNatClampNeg (x1 + 2))) u85) (fun (x87 : Int32) (u86 : qM) => if x86 = x87 then j1 u86 else none)))))) else if x2 = 40 then q_ck (q_in (x1 + 1) l0) (q_ck (q_in (x1 + 2) l0) (q_bd (f_X10_world (f0 (Int32.toNatClampNeg (x1 + 1))) (f0 (Int32.toNatClampNeg (x1 + 2))) u1) (fun (x88 : Int32) (u87 : qM) => q_ck (q_in (x1 + 1) l0) (q_ck (q_in (x1 + 2) l0) (q_bd (f_X11_world (f0 (Int32.toNatClampNeg (x1 + 1))) (f0 (Int32.toNatClampNeg (x1 + 2))) u87) (fun (x89 : Int32) (u88 : qM) => if x88 = x89 then j1 u88 else none)))))) else if x2 = 41 then q_bd (f_X10_forget  u1) (fun (x90 : Int32) (u89 : qM) => q_bd (f_X11_forget  u89) (fun (x91 : Int32) (u90 : qM) => if x90 = x91 then j1 u90 else none)) else if x2 = 42 then q_ck (q_in (x1 + 1) l0) (q_ck (q_in (x1 + 2) l0) (q_ck (q_in (x1 + 3) l0) (q_bd (f_X10_alarm (f0 (Int32.toNatClampNeg (x1 + 1))) (f0 (Int32.toNatClampNeg (x1 + 2))) (f0 (Int32.toNatClampNeg (x1 + 3))) u1) (fun (x92 : Int32) (u91 : qM) => q_ck (q_in (x1 + 1) l0) (q_ck (q_in (x1 + 2) l0) (q_ck (q_in (x1 + 3) l0) (q_bd (f_X11_alarm (f0 (Int32.toNatClampNeg (x1 + 1))) (f0 (Int32.toNatClampNeg (x1 + 2))) (f0 (Int32.toNatClampNeg (x1 + 3))) u91) (fun (x93 : Int32) (u92 : qM) => if x92 = x93 then j1 u92 else none)))))))) else if x2 = 43 then q_ck (q_in (x1 + 1) l0) (q_ck (q_in (x1 + 2) l0) (q_bd (f_X10_post (f0 (Int32.toNatClampNeg (x1 + 1))) (f0 (Int32.toNatClampNeg (x1 + 2))) u1) (fun (x94 : Int32) (u93 : qM) => q_ck (q_in (x1 + 1) l0) (q_ck (q_in (x1 + 2) l0) (q_bd (f_X11_post (f0 (Int32.toNatClampNeg (x1 + 1))) (f0 (Int32.toNatClampNeg (x1 + 2))) u93) (fun (x95 : Int32) (u94 : qM) => if x94 = x95 then j1 u94 else none)))))) else if x2 = 44 then q_ck (q_in (x1 + 1) l0) (q_ck (q_in (x1 + 2) l0) (q_ck (q_in (x1 + 3) l0) (q_bd (f_X10_gates (f0 (Int32.toNatClampNeg (x1 + 1))) (f0 (Int32.toNatClampNeg (x1 + 2))) (f0 (Int32.toNatClampNeg (x1 + 3))) u1) (fun (x96 : Int32) (u95 : qM) => q_ck (q_in (x1 + 1) l0) (q_ck (q_in (x1 + 2) l0) (q_ck (q_in (x1 + 3) l0) (q_bd (f_X11_gates (f0 (Int32.toNatClampNeg (x1 + 1))) (f0 (Int32.toNatClampNeg (x1 + 2))) (f0 (Int32.toNatClampNeg (x1 + 3))) u95) (fun (x97 : Int32) (u96 : qM) => if x96 = x97 then j1 u96 else none)))))))) else if x2 = 45 then q_bd (f_X10_asked  u1) (fun (x98 : Int32) (u97 : qM) => q_bd (f_X11_asked  u97) (fun (x99 : Int32) (u98 : qM) => if x98 = x99 then j1 u98 else none)) else if x2 = 46 then q_bd (f_X10_strength  u1) (fun (w1 : Int64) (u99 : qM) => q_bd (f_X11_strength  u99) (fun (w2 : Int64) (u100 : qM) => if (lg_cmp w1 w2) = 0 then j1 u100 else none)) else if x2 = 47 then q_bd (f_X10_upper  u1) (fun (w3 : Int64) (u101 : qM) => q_bd (f_X11_upper  u101) (fun (w4 : Int64) (u102 : qM) => if (lg_cmp w3 w4) = 0 then j1 u102 else none)) else if x2 = 48 then q_bd (f_X10_lower  u1) (fun (w5 : Int64) (u103 : qM) => q_bd (f_X11_lower  u103) (fun (w6 : Int64) (u104 : qM) => if (lg_cmp w5 w6) = 0 then j1 u104 else none)) else if x2 = 49 then q_ck (q_in (x1 + 1) l0) (q_bd (f_X10_count (f0 (Int32.toNatClampNeg (x1 + 1))) u1) (fun (x100 : Int32) (u105 : qM) => q_ck (q_in (x1 + 1) l0) (q_bd (f_X11_count (f0 (Int32.toNatClampNeg (x1 + 1))) u105) (fun (x101 : Int32) (u106 : qM) => if x100 = x101 then j1 u106 else none)))) else if x2 = 50 then q_bd (f_X10_finding  u1) (fun (x102 : Int32) (u107 : qM) => q_bd (f_X11_finding  u107) (fun (x103 : Int32) (u108 : qM) => if x102 = x103 then j1 u108 else none)) else if x2 = 51 then q_ck (q_in (x1 + 1) l0) (q_bd (f_X10_findings (f0 (Int32.toNatClampNeg (x1 + 1))) u1) (fun (x104 : Int32) (u109 : qM) => q_ck (q_in (x1 + 1) l0) (q_bd (f_X11_findings (f0 (Int32.toNatClampNeg (x1 + 1))) u109) (fun (x105 : Int32) (u110 : qM) => if x104 = x105 then j1 u110 else none)))) else if x2 = 52 then q_bd (f_X10_digest  u1) (fun (w7 : Int64) (u111 : qM) => q_bd (f_X11_digest  u111) (fun (w8 : Int64) (u112 : qM) => if (lg_cmp w7 w8) = 0 then j1 u112 else none)) else j1 u1)))) P := Iff.rfl
theorem lw_gd {l0 x : Nat} (hl : l0 ≤ 3584) (hx : x ≤ 3584) : (Int32.ofNat l0 - 7 < nI x) = (l0 < x + 7) := by
  have e1 : (Int32.ofNat l0).toInt = l0 := nI_toInt (by omega)
  have e2 : (nI x).toInt = x := nI_toInt (by omega)
  have e7 : (7 : Int32).toInt = 7 := by decide +kernel
  refine propext ?_
  rw [x_lt, z_sub (by omega) (by omega), e1, e2, e7]
  omega
theorem law_loop {b0 l0 : Nat} {f0 : Nat → Int32} {e1 : qM → Option (Int32 × qM)} {P : Int32 → qM → Prop} (hl : l0 ≤ 3584) (K : ∀ n u, Rel n u → Ev (e1 u) P) : ∀ k x n F (u : qM), l0 ≤ x + 7 * k → x ≤ 3584 → k < F → n + 1500 * k ≤ 1000000 → Rel n u → Ev (L_L_law_18 b0 l0 f0 F (nI x) u e1) P := by
  intro k
  induction k with
  | zero =>
    intro x n F u h1 h2 hF hn h
    obtain ⟨F, rfl⟩ : ∃ F', F = F' + 1 := ⟨F - 1, by omega⟩
    refine eu_law.mpr ?_
    rw [if_pos (by rw [lw_gd hl h2]; omega)]
    exact K n u h
  | succ k ih =>
    intro x n F u h1 h2 hF hn h
    obtain ⟨F, rfl⟩ : ∃ F', F = F' + 1 := ⟨F - 1, by omega⟩
    refine eu_law.mpr ?_
    by_cases hx : l0 < x + 7
    · rw [if_pos (by rw [lw_gd hl h2]; exact hx)]
      exact K n u h
    · rw [if_neg (by rw [lw_gd hl h2]; exact hx)]
      have c0 : q_in (nI x) l0 = true := q_inT (by omega) (by omega)
      have c1 : q_in (nI x + 1) l0 = true := by
        rw [show nI x + 1 = nI (x + 1) from nI_add _ _]
        exact q_inT (by omega) (by omega)
      have c2 : q_in (nI x + 2) l0 = true := by
        rw [show nI x + 2 = nI (x + 2) from nI_add _ _]
        exact q_inT (by omega) (by omega)
      have c3 : q_in (nI x + 3) l0 = true := by
        rw [show nI x + 3 = nI (x + 3) from nI_add _ _]
        exact q_inT (by omega) (by omega)
      have c4 : q_in (nI x + 4) l0 = true := by
        rw [show nI x + 4 = nI (x + 4) from nI_add _ _]
        exact q_inT (by omega) (by omega)
      have c5 : q_in (nI x + 5) l0 = true := by
        rw [show nI x + 5 = nI (x + 5) from nI_add _ _]
        exact q_inT (by omega) (by omega)
      have c6 : q_in (nI x + 6) l0 = true := by
        rw [show nI x + 6 = nI (x + 6) from nI_add _ _]
        exact q_inT (by omega) (by omega)
      have IH := fun v hv => ih (x + 7) (n + 1500) F v (by omega) (by omega) (by omega) (by omega) hv
      have e7 : nI x + 7 = nI (x + 7) := nI_add _ _
      have hn' : n ≤ 1000000 := by omega
      clear ih hF hn h1 h2
      simp only [c0, c1, c2, c3, c4, c5, c6, ck_t]
      clear c0 c1 c2 c3 c4 c5 c6
      refine ev_lt.mpr ?_
      generalize f0 (nI x).toNatClampNeg &&& 63 = c
      refine lw_j (n := n) (fun j1 K1 => ?_) (fun v hv => by
        refine ev_lt.mpr ?_
        rw [e7]
        exact IH v hv)
      refine ev_ifc (fun _ => ?_) (fun _ => ?_)
      · exact lw_I (op_row _ _).K.X hn' h K1
      refine ev_ifc (fun _ => ?_) (fun _ => ?_)
      · exact lw_I (op_lay _ _ _).K.X hn' h K1
      refine ev_ifc (fun _ => ?_) (fun _ => ?_)
      · exact lw_I (op_tear _).K.X hn' h K1
      refine ev_ifc (fun _ => ?_) (fun _ => ?_)
      · exact lw_I (op_copy _ _ _ _ _).K.X hn' h K1
      refine ev_ifc (fun _ => ?_) (fun _ => ?_)
      · exact lw_I (op_mean _).K.X hn' h K1
      refine ev_ifc (fun _ => ?_) (fun _ => ?_)
      · exact lw_I (op_text _ _).K.X hn' h K1
      refine ev_ifc (fun _ => ?_) (fun _ => ?_)
      · exact lw_I (op_put _ _ _).K.X hn' h K1
      refine ev_ifc (fun _ => ?_) (fun _ => ?_)
      · exact lw_I (op_burn _).K.X hn' h K1
      refine ev_ifc (fun _ => ?_) (fun _ => ?_)
      · exact lw_I (op_fault _).K.X hn' h K1
      refine ev_ifc (fun _ => ?_) (fun _ => ?_)
      · exact lw_I (op_board _ _ _ _).K.X hn' h K1
      refine ev_ifc (fun _ => ?_) (fun _ => ?_)
      · exact lw_I (op_drop _).K.X hn' h K1
      refine ev_ifc (fun _ => ?_) (fun _ => ?_)
      · exact lw_I (op_bottom _ _ _).K.X hn' h K1
      refine ev_ifc (fun _ => ?_) (fun _ => ?_)
      · exact lw_I (op_water _ _ _).K.X hn' h K1
      refine ev_ifc (fun _ => ?_) (fun _ => ?_)
      · exact lw_I (op_spill _ _ _ _).K.X hn' h K1
      refine ev_ifc (fun _ => ?_) (fun _ => ?_)
      · exact lw_I (op_cell _ _ _).K.X hn' h K1
      refine ev_ifc (fun _ => ?_) (fun _ => ?_)
      · exact lw_I (op_flow _ _).K.X hn' h K1
      refine ev_ifc (fun _ => ?_) (fun _ => ?_)
      · by_cases hA : f0 (nI x + 3).toNatClampNeg = 0
        · simp only [hA, ite_true]
          exact lw_I (op_gate _ _ 0 (.inl rfl)).K.X hn' h K1
        · simp only [hA, ite_false]
          exact lw_I (op_gate _ _ 1 (.inr rfl)).K.X hn' h K1
      refine ev_ifc (fun _ => ?_) (fun _ => ?_)
      · exact lw_I (op_law _ _ _).K.X hn' h K1
      refine ev_ifc (fun _ => ?_) (fun _ => ?_)
      · exact lw_I (op_wind _ _ _).K.X hn' h K1
      refine ev_ifc (fun _ => ?_) (fun _ => ?_)
      · exact lw_I (op_river _ _ _).K.X hn' h K1
      refine ev_ifc (fun _ => ?_) (fun _ => ?_)
      · exact lw_I (op_tide _ _ _).K.X hn' h K1
      refine ev_ifc (fun _ => ?_) (fun _ => ?_)
      · exact lw_I (op_step _ _).X hn' h K1
      refine ev_ifc (fun _ => ?_) (fun _ => ?_)
      · exact lw_I (op_told _ _).K.X hn' h K1
      refine ev_ifc (fun _ => ?_) (fun _ => ?_)
      · exact lw_I (op_mark _ _).K.X hn' h K1
      refine ev_ifc (fun _ => ?_) (fun _ => ?_)
      · exact lw_I (op_keep _ _).K.X hn' h K1
      refine ev_ifc (fun _ => ?_) (fun _ => ?_)
      · exact lw_I (op_mirror _).K.X hn' h K1
      refine ev_ifc (fun _ => ?_) (fun _ => ?_)
      · exact lw_I (op_boat _ _ _ _).K.X hn' h K1
      refine ev_ifc (fun _ => ?_) (fun _ => ?_)
      · exact lw_I (op_where _).K.X hn' h K1
      refine ev_ifc (fun _ => ?_) (fun _ => ?_)
      · exact lw_I (op_gauge _ _ _).K.X hn' h K1
      refine ev_ifc (fun _ => ?_) (fun _ => ?_)
      · exact lw_I (op_reading _ _).K.X hn' h K1
      refine ev_ifc (fun _ => ?_) (fun _ => ?_)
      · exact lw_I (op_lose _ _).K.X hn' h K1
      refine ev_ifc (fun _ => ?_) (fun _ => ?_)
      · exact lw_I (op_tone _ _).K.X hn' h K1
      refine ev_ifc (fun _ => ?_) (fun _ => ?_)
      · exact lw_I (op_theTone _).K.X hn' h K1
      refine ev_ifc (fun _ => ?_) (fun _ => ?_)
      · by_cases hA : f0 (nI x + 1).toNatClampNeg = 0
        · simp only [hA, ite_true]
          exact lw_I (op_part 0 (.inl rfl)).K.X hn' h K1
        · simp only [hA, ite_false]
          exact lw_I (op_part 1 (.inr rfl)).K.X hn' h K1
      refine ev_ifc (fun _ => ?_) (fun _ => ?_)
      · exact lw_I (op_nest _ _ _ _ _ _).K.X hn' h K1
      refine ev_ifc (fun _ => ?_) (fun _ => ?_)
      · exact lw_I (op_up _).K.X hn' h K1
      refine ev_ifc (fun _ => ?_) (fun _ => ?_)
      · exact lw_I (op_down _).K.X hn' h K1
      refine ev_ifc (fun _ => ?_) (fun _ => ?_)
      · exact lw_I (op_fit _ _ _) hn' h K1
      refine ev_ifc (fun _ => ?_) (fun _ => ?_)
      · exact lw_I (op_ends _ _ _ _) hn' h K1
      refine ev_ifc (fun _ => ?_) (fun _ => ?_)
      · exact lw_I (op_play _ _) hn' h K1
      refine ev_ifc (fun _ => ?_) (fun _ => ?_)
      · exact lw_I (op_world _ _).K.X hn' h K1
      refine ev_ifc (fun _ => ?_) (fun _ => ?_)
      · exact lw_I op_forget.K.X hn' h K1
      refine ev_ifc (fun _ => ?_) (fun _ => ?_)
      · exact lw_I (op_alarm _ _ _) hn' h K1
      refine ev_ifc (fun _ => ?_) (fun _ => ?_)
      · exact lw_I (op_post _ _).K.X hn' h K1
      refine ev_ifc (fun _ => ?_) (fun _ => ?_)
      · exact lw_I (op_gates _ _ _) hn' h K1
      refine ev_ifc (fun _ => ?_) (fun _ => ?_)
      · exact lw_I op_asked.K.X hn' h K1
      refine ev_ifc (fun _ => ?_) (fun _ => ?_)
      · exact lw_L op_strength.K.X hn' h K1
      refine ev_ifc (fun _ => ?_) (fun _ => ?_)
      · exact lw_L op_upper.K.X hn' h K1
      refine ev_ifc (fun _ => ?_) (fun _ => ?_)
      · exact lw_L op_lower.K.X hn' h K1
      refine ev_ifc (fun _ => ?_) (fun _ => ?_)
      · exact lw_I (op_count _).K.X hn' h K1
      refine ev_ifc (fun _ => ?_) (fun _ => ?_)
      · exact lw_I op_finding.K.X hn' h K1
      refine ev_ifc (fun _ => ?_) (fun _ => ?_)
      · exact lw_I (op_findings _).K.X hn' h K1
      refine ev_ifc (fun _ => ?_) (fun _ => ?_)
      · exact lw_L op_digest.K.X hn' h K1
      exact K1 u (h.mn (by omega))
theorem law_pure {b0 l0 : Nat} {f0 : Nat → Int32} {μ : qM} (hl : l0 ≤ 3584) (h : Rel 0 μ) : Ev (L_L_law_18 b0 l0 f0 q_fu 0 μ (fun u => some (1, u))) (fun v _ => v = 1) :=
  law_loop hl (fun n u hu => ev_so.mpr rfl) 512 0 0 q_fu μ (by omega) (by decide) (by decide) (by decide) h
theorem law_start {b0 l0 : Nat} {f0 : Nat → Int32} (hl : l0 ≤ 3584) : ∃ μ', L_L_law_18 b0 l0 f0 q_fu 0 b_mem0 (fun u => some (1, u)) = some (1, μ') := by
  obtain ⟨v, u, e, h⟩ := law_pure (b0 := b0) (f0 := f0) hl Rel0
  have h : v = 1 := h
  subst h
  exact ⟨u, e⟩
