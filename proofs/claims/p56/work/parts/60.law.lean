/-! The law's own walk: its script is no cell of the memory; its end is the claim's. Two helpers read the script: their contracts say so. -/
def q_xl (G : qG) (b L : Nat) (xs : Nat → Int32) : qX Int32 := (fun s args => args = #[Value.ref b] ∧ va_X b L xs s s.heap ∧ b < s.heap.size ∧ G.2.2.2 = s.heap.size, 400, 20000, fun below args s _ _ => lw_Z below args s)
def m_L_law : qMd := (room_1, RL, yL_law, cL_law, 12, some .boolean)
theorem q_xl_nA {G : qG} {b L : Nat} {xs : Nat → Int32} {s : State} {args : Array Value} (h : (q_xl G b L xs).1 s args) : ¬ q_A G b := by
  obtain ⟨-, -, h3, h4⟩ := h
  show ¬ (G.2.2.2 ≤ b)
  omega
/-- the script is there, and lies outside the world -/
def q_sc0 (G : qG) (b L : Nat) (xs : Nat → Int32) (s : State) : Prop := va_X b L xs s s.heap ∧ b < s.heap.size ∧ ¬ q_A G b
theorem q_xl_pre {G : qG} {b L : Nat} {xs : Nat → Int32} {s : State} {args : Array Value} (h : (q_xl G b L xs).1 s args) : q_sc0 G b L xs s := ⟨h.2.1, h.2.2.1, q_xl_nA h⟩
def q_mx {ρ : Type} (G : qG) (cv : ρ → Option Value) (b L : Nat) (xs : Nat → Int32) : qX ρ := (fun s _ => q_sc0 G b L xs s, 0, 0, fun below args s v μ => MQ below (q_QC G (cv v) μ) args s 0 0 (q_A G))
def qCtx {ρ : Type} (l : Launch) (G : qG) (b L : Nat) (xs : Nat → Int32) (M : qMd) (cv : ρ → Option Value) (as : List Value) (μ : qM) (r : Option (ρ × qM)) : Prop :=
  ∀ (v : ρ) (μ' : qM), r = some (v, μ') → Met l M.2.2.1 (q_ws M) M.1 (va_Pc as (fun U => q_W G μ U.heap ∧ q_K G U ∧ q_D G ∧ q_N U ∧ (∀ q, U.heap.size ≤ q → q_A G q) ∧ q_sc0 G b L xs U)) (q_QC G (cv v) μ') 0 0 (q_A G)
section QLX
variable {ρ α : Type} {l : Launch} {G : qG} {M M2 : qMd} {X : qX ρ} {pc : Nat} {lv : List (Nat × Value)} {st : List Value} {μ : qM} {r : Option (ρ × qM)} {b L : Nat} {xs : Nat → Int32}
theorem aw_sld (hX : ∀ s args, X.1 s args → q_sc0 G b L xs s) {j : Int32} (d : decode M.2.2.2.1 pc = .ok (.iaload, 1)) (n : Nat) (hn : pc + 1 = n) (K : q_in j L = true → qAW l G M X n lv (.int (xs j.toNatClampNeg) :: st) μ r) : qAW l G M X pc lv (.int j :: .ref b :: st) μ (q_ck (q_in j L) r) := by
  refine aw_ck (fun hj => ?_)
  subst hn
  intro p e s m args below meth c hc v μ' hr H locs ls hP hS hl
  have hE := hX _ _ hc.2.2.2.2.2.2.2
  exact va_sld hc.1.1 hc.1.2.1 hE.1 hE.2.1 hE.2.2 hS (q_in_vp hj) d (K hj p e s m args below meth c hc v μ' hr H locs ls hP hS hl)
theorem aw_sln (hX : ∀ s args, X.1 s args → q_sc0 G b L xs s) (d : decode M.2.2.2.1 pc = .ok (.arraylength, 1)) (n : Nat) (hn : pc + 1 = n) (K : qAW l G M X n lv (.int (Int32.ofNat L) :: st) μ r) : qAW l G M X pc lv (.ref b :: st) μ r := by
  subst hn
  intro p e s m args below meth c hc v μ' hr H locs ls hP hS hl
  have hE := hX _ _ hc.2.2.2.2.2.2.2
  exact va_slen hc.1.1 hc.1.2.1 hE.1 hE.2.1 hE.2.2 hS d (K p e s m args below meth c hc v μ' hr H locs ls hP hS hl)
theorem q_entryx {n : Nat} {cv : ρ → Option Value} {as : List Value} (hp : q_Pk M n) (hlen : (lg_sl as).length ≤ M.2.2.2.2.1) (K : qAW l G M (q_mx G cv b L xs) 0 (lv_args 0 as) [] μ r) : qCtx l G b L xs M cv as μ r := by
  obtain ⟨hc0, hs0, hown, hy, -⟩ := hp
  intro v μ' hr
  refine va_MetF hy (ws' := q_tb) rfl ?_
  intro p e s m args below meth c s₁ B hml hv
  obtain ⟨rfl, hP, hK, hD, hN, hsz, hE⟩ := hv
  have hl := lv_entry as (n := M.2.2.2.2.1) hlen
  rw [lg_entry_eq]
  generalize (lg_sl as ++ List.replicate (M.2.2.2.2.1 - (lg_sl as).length) Slot.unset).toArray = ls at hl ⊢
  exact K p e s m _ below meth c ⟨⟨B.exec, B.bytes, hml, by rw [← hown]; exact findClass_of_methodNamed B.named, fun w hw => atoms_spec (ws := q_ws M) B.pre w (List.mem_cons_of_mem _ hw)⟩, B.returns, B.notSynchronized, hK, hD, hsz, hN, hE⟩ v μ' hr s.heap [] ls hP va_S.rf hl
theorem q_blindx {as : List Value} : FrameBlind (va_Pc as (fun U => q_W G μ U.heap ∧ q_K G U ∧ q_D G ∧ q_N U ∧ (∀ q, U.heap.size ≤ q → q_A G q) ∧ q_sc0 G b L xs U)) := by
  intro a U g mk q
  obtain ⟨h1, h2, h3, h4, h5, h6, h7, h8, h9⟩ := q
  exact ⟨h1, h2, va_K.moved (u := U) (U := U.calling g mk a) (Vm.Alike.refl U.vm) h3, h4, fun t ht => va_Nw.same (u := U) (U := U.calling g mk a) rfl rfl (h5 t ht), h6, va_X.moved (u := U) (U := U.calling g mk a) (Vm.Alike.refl U.vm) h7, h8, h9⟩
theorem q_sc0_call {s U : State} {H : Heap} {locs : List Loc} (hU : U.heap = H) (hW : s.WarmedH U.vm) (hS : va_S (q_A G) s.heap H locs) (hE : q_sc0 G b L xs s) : q_sc0 G b L xs U := by
  refine ⟨?_, ?_, hE.2.2⟩
  · rw [hU]
    exact va_X.moved hW.alike (hE.1.kept (hS.2.1 b hE.2.1 hE.2.2))
  · rw [hU]
    exact Nat.lt_of_lt_of_le hE.2.1 hS.1
theorem aw_callSx {idx nn : Nat} {As rest : List Value} {cv : α → Option Value} {t : Option (α × qM)} {kt : α → qM → Option (ρ × qM)} (hX0 : ∀ s args, X.1 s args → q_sc0 G b L xs s) (d : decode M.2.2.2.1 pc = .ok (.invokestatic idx, 3)) (n : Nat) (hn : pc + 3 = n) (hC : qCtx l G b L xs M2 cv As μ t) (hl2 : Cond.methodLink M.2.1 idx M2.2.2.1 ∈ q_tb) (hwv : q_Wst M2) (pk : q_Pk M2 nn) (hnn : As.length = nn) (hR : M2.1.frames + 1 ≤ M.1.frames ∧ 8 + (M2.2.2.2.2.1 + 11) + M2.1.locals ≤ M.1.locals) (hX : X.2.1 ≤ M.1.cells ∧ X.2.2.1 ≤ M.1.slots) (hst : st = As.reverse ++ rest) (hcat : (rest.map fun v => v.category).sum ≤ 8) (K : ∀ (v : α) (μ1 : qM), qAW l G M X n lv ((cv v).toList ++ rest) μ1 (kt v μ1)) : qAW l G M X pc lv st μ (q_bd t kt) := by
  subst hn hst
  intro p e s m args below meth c hc v μ' hr H locs ls hP hS hl
  cases ht : t with
  | none => rw [ht] at hr; cases hr
  | some q =>
    obtain ⟨v1, μ1⟩ := q
    rw [ht] at hr
    have hr1 : kt v1 μ1 = some (v, μ') := hr
    obtain ⟨hc0, hs0, -, -, hd1, hd2, hd3⟩ := pk
    have hE := hX0 _ _ hc.2.2.2.2.2.2.2
    refine q_call (va_runS (nL := M.2.2.2.2.1) hc.1 (hC v1 μ1 ht) (va_cwS (ws' := q_tb) nn hc.1.2.2.2.2 (q_gS hwv hl2) rfl hc0 hs0 ⟨hd1, hd2, hd3⟩ hR) ⟨q_blindx, fun U hU hW => ⟨rfl, by rw [hU]; exact hP, va_K.moved hW.alike hc.2.2.2.1, hc.2.2.2.2.1, q_N_warm hW hc.2.2.2.2.2.2.1, fun q hq => hc.2.2.2.2.2.1 q (Nat.le_trans (by rw [← hU] at hS; exact hS.1) hq), q_sc0_call hU hW hS hE⟩⟩ rfl hnn hl.1 rfl (by show 2 * 0 + _ ≤ 8; omega) d hX) hS (fun H1 locs1 hP1 hS1 => K v1 μ1 p e s m args below meth c hc v μ' hr1 H1 locs1 ls hP1 hS1 hl)
end QLX
section QLR
variable {l : Launch} {G : qG} {M : qMd} {pc : Nat} {lv : List (Nat × Value)} {st : List Value} {μ : qM} {b L : Nat} {xs : Nat → Int32}
theorem aw_iretx {x : Int32} (d : decode M.2.2.2.1 pc = .ok (.ireturn, 1)) (hret : M.2.2.2.2.2 = some .int) : qAW l G M (q_mx G q_cI b L xs) pc lv [.int x] μ (some (x, μ)) := by
  intro p e s m args below meth c hc v μ' hr H locs ls hP hS hl
  cases hr
  exact W.iret hc.1.1 hc.1.2.1 (hc.2.1.trans hret) (fun t ht _ => ⟨rfl, by rw [ht]; exact hP, hS.F ht⟩) hS.2.2 d hc.2.2.1
theorem aw_zretx {x : Int32} (d : decode M.2.2.2.1 pc = .ok (.ireturn, 1)) (hret : M.2.2.2.2.2 = some .boolean) (hb : q_b x = true) : qAW l G M (q_mx G q_cI b L xs) pc lv [.int x] μ (some (x, μ)) := by
  intro p e s m args below meth c hc v μ' hr H locs ls hP hS hl
  cases hr
  exact W.zret hc.1.1 hc.1.2.1 (hc.2.1.trans hret) (q_nb hb).1 (fun t ht _ => ⟨rfl, by rw [ht]; exact hP, hS.F ht⟩) hS.2.2 d hc.2.2.1
theorem aw_lawret (d : decode m_L_law.2.2.2.1 pc = .ok (.ireturn, 1)) : qAW l G m_L_law (q_xl G b L xs) pc lv [.int 1] μ (some (1, μ)) := by
  intro p e s m args below meth c hc v μ' hr H locs ls hP hS hl
  obtain ⟨rfl, h2, h3, h4⟩ := hc.2.2.2.2.2.2.2
  refine va_forget (fun q hq => ?_) (W.widen (k := 600000) (n := 7302250) (Nat.le_of_ble_eq_true rfl) (Nat.le_of_ble_eq_true rfl) ?_)
  · have h := hS.2.2 q hq
    have h5 : G.2.2.2 ≤ q.base := h
    omega
  · exact lw_ret hc.1.1 hc.1.2.1 hc.2.1 hc.2.2.1 d
theorem aw_lawret1 {x : Int32} (d : decode m_L_law.2.2.2.1 pc = .ok (.ireturn, 1)) (h : x = 1) : qAW l G m_L_law (q_xl G b L xs) pc lv [.int x] μ (some (1, μ)) := by
  subst h
  exact aw_lawret d
end QLR

theorem wl_0 : Cond.constant RL 8 40503 ∈ q_tb := q_tb_of (q_t4 5 (by decide +kernel)) rfl
theorem wl_1 : Cond.methodLink RL 9 yL_cell ∈ q_tb := q_tb_of (q_t4 2 (by decide +kernel)) rfl
theorem wl_2 : Cond.methodLink RL 15 yL_low ∈ q_tb := q_tb_of (q_t3 238 (by decide +kernel)) rfl
theorem wl_3 : Cond.methodLink RL 19 yX10_bottom ∈ q_tb := q_tb_of (q_t4 9 (by decide +kernel)) rfl
theorem wl_4 : Cond.methodLink RL 25 yX10_water ∈ q_tb := q_tb_of (q_t2 195 (by decide +kernel)) rfl
theorem wl_5 : Cond.methodLink RL 28 yX10_spill ∈ q_tb := q_tb_of (q_t4 13 (by decide +kernel)) rfl
theorem wl_6 : Cond.methodLink RL 43 yX10_board ∈ q_tb := q_tb_of (q_t2 164 (by decide +kernel)) rfl
theorem wl_7 : Cond.methodLink RL 46 yL_sea ∈ q_tb := q_tb_of (q_t4 6 (by decide +kernel)) rfl
theorem wl_8 : Cond.methodLink RL 50 yX10_law ∈ q_tb := q_tb_of (q_t2 227 (by decide +kernel)) rfl
theorem wl_9 : Cond.methodLink RL 53 yX10_wind ∈ q_tb := q_tb_of (q_t2 231 (by decide +kernel)) rfl
theorem wl_10 : Cond.methodLink RL 56 yX10_river ∈ q_tb := q_tb_of (q_t2 235 (by decide +kernel)) rfl
theorem wl_11 : Cond.methodLink RL 68 yX10_gate ∈ q_tb := q_tb_of (q_t2 223 (by decide +kernel)) rfl
theorem wl_12 : Cond.methodLink RL 72 yX10_keep ∈ q_tb := q_tb_of (q_t3 130 (by decide +kernel)) rfl
theorem wl_13 : Cond.methodLink RL 75 yL_told ∈ q_tb := q_tb_of (q_t4 17 (by decide +kernel)) rfl
theorem wl_14 : Cond.methodLink RL 78 yX10_step ∈ q_tb := q_tb_of (q_t3 7 (by decide +kernel)) rfl
theorem wl_15 : Cond.methodLink RL 81 yL_at ∈ q_tb := q_tb_of (q_t4 30 (by decide +kernel)) rfl
theorem wl_16 : Cond.constant RL 85 100000 ∈ q_tb := q_tb_of (q_t4 37 (by decide +kernel)) rfl
theorem wl_17 : Cond.methodLink RL 93 yX10_nest ∈ q_tb := q_tb_of (q_t3 184 (by decide +kernel)) rfl
theorem wl_18 : Cond.methodLink RL 97 yX10_up ∈ q_tb := q_tb_of (q_t3 200 (by decide +kernel)) rfl
theorem wl_19 : Cond.methodLink RL 35 yX10_asked ∈ q_tb := q_tb_of (q_t3 234 (by decide +kernel)) rfl
theorem wl_20 : Cond.methodLink RL 100 yX10_down ∈ q_tb := q_tb_of (q_t3 218 (by decide +kernel)) rfl
theorem wl_21 : Cond.methodLink RL 103 yX10_mark ∈ q_tb := q_tb_of (q_t3 111 (by decide +kernel)) rfl
theorem wl_22 : Cond.methodLink RL 86 yX10_mirror ∈ q_tb := q_tb_of (q_t3 151 (by decide +kernel)) rfl
theorem wl_23 : Cond.methodLink RL 90 yX10_flow ∈ q_tb := q_tb_of (q_t2 211 (by decide +kernel)) rfl
theorem wl_24 : Cond.methodLink RL 59 yX10_row ∈ q_tb := q_tb_of (q_t2 131 (by decide +kernel)) rfl
theorem wl_25 : Cond.methodLink RL 62 yX10_lay ∈ q_tb := q_tb_of (q_t2 147 (by decide +kernel)) rfl
theorem wl_26 : Cond.methodLink RL 65 yX10_tide ∈ q_tb := q_tb_of (q_t2 239 (by decide +kernel)) rfl
theorem dL_cell_0 : decode cL_cell 0 = .ok (.iload_n 1, 1) := by decide +kernel
theorem dL_cell_1 : decode cL_cell 1 = .ok (.aload_n 0, 1) := by decide +kernel
theorem dL_cell_2 : decode cL_cell 2 = .ok (.arraylength, 1) := by decide +kernel
theorem dL_cell_3 : decode cL_cell 3 = .ok (.if_icmp .ge 9, 3) := by decide +kernel
theorem dL_cell_6 : decode cL_cell 6 = .ok (.aload_n 0, 1) := by decide +kernel
theorem dL_cell_7 : decode cL_cell 7 = .ok (.iload_n 1, 1) := by decide +kernel
theorem dL_cell_8 : decode cL_cell 8 = .ok (.iaload, 1) := by decide +kernel
theorem dL_cell_9 : decode cL_cell 9 = .ok (.goto 11, 3) := by decide +kernel
theorem dL_cell_12 : decode cL_cell 12 = .ok (.ldc 8, 2) := by decide +kernel
theorem dL_cell_14 : decode cL_cell 14 = .ok (.iload_n 1, 1) := by decide +kernel
theorem dL_cell_15 : decode cL_cell 15 = .ok (.imul, 1) := by decide +kernel
theorem dL_cell_16 : decode cL_cell 16 = .ok (.sipush 977, 3) := by decide +kernel
theorem dL_cell_19 : decode cL_cell 19 = .ok (.iadd, 1) := by decide +kernel
theorem dL_cell_20 : decode cL_cell 20 = .ok (.ireturn, 1) := by decide +kernel
noncomputable def f_L_cell (b0 l0 : Nat) (f0 : Nat → Int32) (x1 : Int32) (u0 : qM) : Option (Int32 × qM) :=
  q_jn (fun (x2 : Int32) (u1 : qM) => some (x2, u1)) (fun j1 => if (Int32.ofNat l0) ≤ x1 then j1 ((40503 * x1) + 977) u0 else q_ck (q_in x1 l0) (j1 (f0 (Int32.toNatClampNeg x1)) u0))
set_option maxRecDepth 100000 in
set_option maxHeartbeats 4000000 in
theorem kx_L_cell (l : Launch) (G : qG) (b0 l0 : Nat) (f0 : Nat → Int32) (x1 : Int32) (u0 : qM) : qCtx l G b0 l0 f0 m_L_cell q_cI [.ref b0, .int x1] u0 (f_L_cell b0 l0 f0 x1 u0) := by
  refine q_entryx pk_L_cell (Nat.le_of_ble_eq_true rfl) ?_
  show qAW l G m_L_cell (q_mx G q_cI b0 l0 f0) 0 [(0, .ref b0), (1, .int x1)] [] u0 (f_L_cell b0 l0 f0 x1 u0)
  unfold f_L_cell
  refine aw_iload_n (i := 1) dL_cell_0 1 rfl rfl 1 rfl ?_
  refine aw_aload_n (i := 0) dL_cell_1 2 rfl rfl 0 rfl ?_
  refine aw_sln (fun _ _ h => h) dL_cell_2 3 rfl ?_
  refine aw_jn (fun k => ∀ (x2 : Int32) (u1 : qM), qAW l G m_L_cell (q_mx G q_cI b0 l0 f0) 20 [] [.int x2] u1 (k x2 u1)) ?_ ?_
  · intro x2 u1
    exact aw_iretx dL_cell_20 rfl
  · intro j1 hj1
    refine aw_icmp_ge dL_cell_3 6 rfl 12 rfl (fun h1 => ?_) (fun h1 => ?_)
    · refine aw_ldc (x := 40503) dL_cell_12 14 rfl wl_0 ?_
      refine aw_iload_n (i := 1) dL_cell_14 15 rfl rfl 1 rfl ?_
      refine aw_imul dL_cell_15 16 rfl ?_
      refine aw_sipush (x := 977) dL_cell_16 19 rfl rfl ?_
      refine aw_iadd dL_cell_19 20 rfl ?_
      exact aw_conv [] rfl (hj1 ((40503 * x1) + 977) u0)
    · refine aw_aload_n (i := 0) dL_cell_6 7 rfl rfl 0 rfl ?_
      refine aw_iload_n (i := 1) dL_cell_7 8 rfl rfl 1 rfl ?_
      refine aw_sld (fun _ _ h => h) dL_cell_8 9 rfl (fun h2 => ?_)
      refine aw_goto dL_cell_9 20 rfl ?_
      exact aw_conv [] rfl (hj1 (f0 (Int32.toNatClampNeg x1)) u0)
theorem dL_sea_0 : decode cL_sea 0 = .ok (.iconst 1, 1) := by decide +kernel
theorem dL_sea_1 : decode cL_sea 1 = .ok (.istore 5, 2) := by decide +kernel
theorem dL_sea_3 : decode cL_sea 3 = .ok (.iconst 0, 1) := by decide +kernel
theorem dL_sea_4 : decode cL_sea 4 = .ok (.istore 6, 2) := by decide +kernel
theorem dL_sea_6 : decode cL_sea 6 = .ok (.iload 6, 2) := by decide +kernel
theorem dL_sea_8 : decode cL_sea 8 = .ok (.iload 4, 2) := by decide +kernel
theorem dL_sea_10 : decode cL_sea 10 = .ok (.if_icmp .ge 110, 3) := by decide +kernel
theorem dL_sea_13 : decode cL_sea 13 = .ok (.iload 5, 2) := by decide +kernel
theorem dL_sea_15 : decode cL_sea 15 = .ok (.ifCond .eq 105, 3) := by decide +kernel
theorem dL_sea_18 : decode cL_sea 18 = .ok (.aload_n 2, 1) := by decide +kernel
theorem dL_sea_19 : decode cL_sea 19 = .ok (.iload_n 3, 1) := by decide +kernel
theorem dL_sea_20 : decode cL_sea 20 = .ok (.iload 6, 2) := by decide +kernel
theorem dL_sea_22 : decode cL_sea 22 = .ok (.iadd, 1) := by decide +kernel
theorem dL_sea_23 : decode cL_sea 23 = .ok (.invokestatic 9, 3) := by decide +kernel
theorem dL_sea_26 : decode cL_sea 26 = .ok (.istore 7, 2) := by decide +kernel
theorem dL_sea_28 : decode cL_sea 28 = .ok (.aload_n 0, 1) := by decide +kernel
theorem dL_sea_29 : decode cL_sea 29 = .ok (.iload_n 1, 1) := by decide +kernel
theorem dL_sea_30 : decode cL_sea 30 = .ok (.iload 6, 2) := by decide +kernel
theorem dL_sea_32 : decode cL_sea 32 = .ok (.iload 7, 2) := by decide +kernel
theorem dL_sea_34 : decode cL_sea 34 = .ok (.bipush 61, 2) := by decide +kernel
theorem dL_sea_36 : decode cL_sea 36 = .ok (.invokestatic 15, 3) := by decide +kernel
theorem dL_sea_39 : decode cL_sea 39 = .ok (.bipush 30, 2) := by decide +kernel
theorem dL_sea_41 : decode cL_sea 41 = .ok (.isub, 1) := by decide +kernel
theorem dL_sea_42 : decode cL_sea 42 = .ok (.invokevirtual 19, 3) := by decide +kernel
theorem dL_sea_45 : decode cL_sea 45 = .ok (.iconst 1, 1) := by decide +kernel
theorem dL_sea_46 : decode cL_sea 46 = .ok (.if_icmp .ne 65, 3) := by decide +kernel
theorem dL_sea_49 : decode cL_sea 49 = .ok (.aload_n 0, 1) := by decide +kernel
theorem dL_sea_50 : decode cL_sea 50 = .ok (.iload_n 1, 1) := by decide +kernel
theorem dL_sea_51 : decode cL_sea 51 = .ok (.iload 6, 2) := by decide +kernel
theorem dL_sea_53 : decode cL_sea 53 = .ok (.iload 7, 2) := by decide +kernel
theorem dL_sea_55 : decode cL_sea 55 = .ok (.bipush 6, 2) := by decide +kernel
theorem dL_sea_57 : decode cL_sea 57 = .ok (.ishr, 1) := by decide +kernel
theorem dL_sea_58 : decode cL_sea 58 = .ok (.iconst 4, 1) := by decide +kernel
theorem dL_sea_59 : decode cL_sea 59 = .ok (.invokestatic 15, 3) := by decide +kernel
theorem dL_sea_62 : decode cL_sea 62 = .ok (.ifCond .ne 7, 3) := by decide +kernel
theorem dL_sea_65 : decode cL_sea 65 = .ok (.iconst 0, 1) := by decide +kernel
theorem dL_sea_66 : decode cL_sea 66 = .ok (.goto 13, 3) := by decide +kernel
theorem dL_sea_69 : decode cL_sea 69 = .ok (.iload 7, 2) := by decide +kernel
theorem dL_sea_71 : decode cL_sea 71 = .ok (.bipush 8, 2) := by decide +kernel
theorem dL_sea_73 : decode cL_sea 73 = .ok (.ishr, 1) := by decide +kernel
theorem dL_sea_74 : decode cL_sea 74 = .ok (.bipush 120, 2) := by decide +kernel
theorem dL_sea_76 : decode cL_sea 76 = .ok (.invokestatic 15, 3) := by decide +kernel
theorem dL_sea_79 : decode cL_sea 79 = .ok (.invokevirtual 25, 3) := by decide +kernel
theorem dL_sea_82 : decode cL_sea 82 = .ok (.ifCond .ne 29, 3) := by decide +kernel
theorem dL_sea_85 : decode cL_sea 85 = .ok (.aload_n 0, 1) := by decide +kernel
theorem dL_sea_86 : decode cL_sea 86 = .ok (.iload_n 1, 1) := by decide +kernel
theorem dL_sea_87 : decode cL_sea 87 = .ok (.iload 6, 2) := by decide +kernel
theorem dL_sea_89 : decode cL_sea 89 = .ok (.iconst 1, 1) := by decide +kernel
theorem dL_sea_90 : decode cL_sea 90 = .ok (.iload 7, 2) := by decide +kernel
theorem dL_sea_92 : decode cL_sea 92 = .ok (.bipush 15, 2) := by decide +kernel
theorem dL_sea_94 : decode cL_sea 94 = .ok (.ishr, 1) := by decide +kernel
theorem dL_sea_95 : decode cL_sea 95 = .ok (.sipush 200, 3) := by decide +kernel
theorem dL_sea_98 : decode cL_sea 98 = .ok (.invokestatic 15, 3) := by decide +kernel
theorem dL_sea_101 : decode cL_sea 101 = .ok (.invokevirtual 28, 3) := by decide +kernel
theorem dL_sea_104 : decode cL_sea 104 = .ok (.ifCond .ne 7, 3) := by decide +kernel
theorem dL_sea_107 : decode cL_sea 107 = .ok (.iconst 1, 1) := by decide +kernel
theorem dL_sea_108 : decode cL_sea 108 = .ok (.goto 4, 3) := by decide +kernel
theorem dL_sea_111 : decode cL_sea 111 = .ok (.iconst 0, 1) := by decide +kernel
theorem dL_sea_112 : decode cL_sea 112 = .ok (.istore 5, 2) := by decide +kernel
theorem dL_sea_114 : decode cL_sea 114 = .ok (.iinc 6 1, 3) := by decide +kernel
theorem dL_sea_117 : decode cL_sea 117 = .ok (.goto (-111), 3) := by decide +kernel
theorem dL_sea_120 : decode cL_sea 120 = .ok (.iload 5, 2) := by decide +kernel
theorem dL_sea_122 : decode cL_sea 122 = .ok (.ireturn, 1) := by decide +kernel
noncomputable def L_L_sea_6 (x1 : Int32) (b0 : Nat) (l0 : Nat) (f0 : Nat → Int32) (x2 : Int32) (x3 : Int32) : Nat → Int32 → Int32 → qM → (Int32 → qM → Option (Int32 × qM)) → Option (Int32 × qM)
  | 0, _, _, _, _ => none
  | n + 1, x4, x5, u1, e1 => if x3 ≤ x5 then e1 x4 u1 else if x4 = 0 then e1 x4 u1 else q_bd (f_L_cell b0 l0 f0 (x2 + x5) u1) (fun (x6 : Int32) (u2 : qM) => q_bd (f_L_low x6 61 u2) (fun (x7 : Int32) (u3 : qM) => q_bd (f_X10_bottom x1 x5 (x7 - 30) u3) (fun (x8 : Int32) (u4 : qM) => q_jn (fun (x9 : Int32) (u5 : qM) => q_lt (x5 + 1) (fun (x10 : Int32) => L_L_sea_6 x1 b0 l0 f0 x2 x3 n x9 x10 u5 e1)) (fun j1 => q_jn (fun  (u6 : qM) => j1 0 u6) (fun j2 => if x8 = 1 then q_bd (f_L_low (x6 >>> (6 &&& 31)) 4 u4) (fun (x11 : Int32) (u7 : qM) => q_jn (fun (x12 : Int32) (u8 : qM) => q_bd (f_X10_water x1 x5 x12 u8) (fun (x13 : Int32) (u9 : qM) => if x13 = 0 then q_bd (f_L_low (x6 >>> (15 &&& 31)) 200 u9) (fun (x14 : Int32) (u10 : qM) => q_bd (f_X10_spill x1 x5 1 x14 u10) (fun (x15 : Int32) (u11 : qM) => if x15 = 0 then j1 1 u11 else j2 u11)) else j2 u9)) (fun j3 => if x11 = 0 then j3 0 u7 else q_bd (f_L_low (x6 >>> (8 &&& 31)) 120 u7) (fun (x16 : Int32) (u12 : qM) => j3 x16 u12))) else j2 u4)))))
noncomputable def f_L_sea (b0 l0 : Nat) (f0 : Nat → Int32) (x1 : Int32) (x2 : Int32) (x3 : Int32) (u0 : qM) : Option (Int32 × qM) :=
  L_L_sea_6 x1 b0 l0 f0 x2 x3 q_fu 1 0 u0 (fun x17 u13 => q_ck (q_b x17) (some (x17, u13)))
set_option maxRecDepth 100000 in
set_option maxHeartbeats 4000000 in
theorem TL_L_sea_6 (l : Launch) (G : qG) (x1 : Int32) (b0 : Nat) (l0 : Nat) (f0 : Nat → Int32) (x2 : Int32) (x3 : Int32)  (e1 : Int32 → qM → Option (Int32 × qM)) (he1 : ∀ (y1 : Int32) (v : qM), qAW l G m_L_sea (q_mx G q_cI b0 l0 f0) 120 [(5, .int y1)] [] v (e1 y1 v)) : ∀ (n : Nat) (x4 : Int32) (x5 : Int32) (u1 : qM), qAW l G m_L_sea (q_mx G q_cI b0 l0 f0) 6 [(0, .ref (q_ad G 0 0)), (1, .int x1), (2, .ref b0), (3, .int x2), (4, .int x3), (5, .int x4), (6, .int x5)] [] u1 (L_L_sea_6 x1 b0 l0 f0 x2 x3 n x4 x5 u1 e1) := by
  intro n
  induction n with
  | zero => intros; exact aw_none
  | succ n ih =>
    intro x4 x5 u1
    unfold L_L_sea_6
    refine aw_iload (i := 6) dL_sea_6 8 rfl 6 rfl ?_
    refine aw_iload (i := 4) dL_sea_8 10 rfl 4 rfl ?_
    refine aw_icmp_ge dL_sea_10 13 rfl 120 rfl (fun h1 => ?_) (fun h1 => ?_)
    · exact aw_conv [5] rfl (he1 x4 u1)
    · refine aw_iload (i := 5) dL_sea_13 15 rfl 5 rfl ?_
      refine aw_if_eq dL_sea_15 18 rfl 120 rfl (fun h2 => ?_) (fun h2 => ?_)
      · exact aw_conv [5] rfl (he1 x4 u1)
      · refine aw_aload_n (i := 2) dL_sea_18 19 rfl rfl 2 rfl ?_
        refine aw_iload_n (i := 3) dL_sea_19 20 rfl rfl 3 rfl ?_
        refine aw_iload (i := 6) dL_sea_20 22 rfl 6 rfl ?_
        refine aw_iadd dL_sea_22 23 rfl ?_
        refine aw_callSx (M2 := m_L_cell) (cv := q_cI) (fun _ _ h => h) dL_sea_23 26 rfl (kx_L_cell l G b0 l0 f0 (x2 + x5) u1) wl_1 wv_L_cell pk_L_cell rfl ⟨by decide, by decide⟩ ⟨(Nat.zero_le _), (Nat.zero_le _)⟩ rfl (Nat.le_of_ble_eq_true rfl) (fun x6 u2 => ?_)
        show qAW l G m_L_sea (q_mx G q_cI b0 l0 f0) 26 [(0, .ref (q_ad G 0 0)), (1, .int x1), (2, .ref b0), (3, .int x2), (4, .int x3), (5, .int x4), (6, .int x5)] [.int x6] u2 _
        refine aw_istore dL_sea_26 28 rfl [(7, .int x6), (0, .ref (q_ad G 0 0)), (1, .int x1), (2, .ref b0), (3, .int x2), (4, .int x3), (5, .int x4), (6, .int x5)] (by decide) rfl ?_
        refine aw_aload_n (i := 0) dL_sea_28 29 rfl rfl 1 rfl ?_
        refine aw_iload_n (i := 1) dL_sea_29 30 rfl rfl 2 rfl ?_
        refine aw_iload (i := 6) dL_sea_30 32 rfl 7 rfl ?_
        refine aw_iload (i := 7) dL_sea_32 34 rfl 0 rfl ?_
        refine aw_bipush (x := 61) dL_sea_34 36 rfl rfl ?_
        refine aw_callS (M2 := m_L_low) (cv := q_cI) dL_sea_36 39 rfl (k_L_low l G x6 61  u2) wl_2 wv_L_low pk_L_low rfl ⟨by decide, by decide⟩ ⟨Nat.zero_le _, Nat.zero_le _⟩ rfl (Nat.le_of_ble_eq_true rfl) (fun x7 u3 => ?_)
        show qAW l G m_L_sea (q_mx G q_cI b0 l0 f0) 39 [(7, .int x6), (0, .ref (q_ad G 0 0)), (1, .int x1), (2, .ref b0), (3, .int x2), (4, .int x3), (5, .int x4), (6, .int x5)] [.int x7, .int x5, .int x1, .ref (q_ad G 0 0)] u3 _
        refine aw_bipush (x := 30) dL_sea_39 41 rfl rfl ?_
        refine aw_isub dL_sea_41 42 rfl ?_
        refine aw_callV (M2 := m_X10_bottom) (cv := q_cI) dL_sea_42 45 rfl (k_X10_bottom l G x1 x5 (x7 - 30)  u3) wl_3 wv_X10_bottom pk_X10_bottom rfl rfl ⟨by decide, by decide⟩ ⟨Nat.zero_le _, Nat.zero_le _⟩ at_0 (ok_0 (by decide)) rfl rfl rfl (Nat.le_of_ble_eq_true rfl) (fun x8 u4 => ?_)
        show qAW l G m_L_sea (q_mx G q_cI b0 l0 f0) 45 [(7, .int x6), (0, .ref (q_ad G 0 0)), (1, .int x1), (2, .ref b0), (3, .int x2), (4, .int x3), (5, .int x4), (6, .int x5)] [.int x8] u4 _
        refine aw_iconst (x := 1) dL_sea_45 46 rfl rfl ?_
        refine aw_jn (fun k => ∀ (x9 : Int32) (u5 : qM), qAW l G m_L_sea (q_mx G q_cI b0 l0 f0) 112 [(0, .ref (q_ad G 0 0)), (1, .int x1), (2, .ref b0), (3, .int x2), (4, .int x3), (6, .int x5)] [.int x9] u5 (k x9 u5)) ?_ ?_
        · intro x9 u5
          refine aw_istore dL_sea_112 114 rfl [(5, .int x9), (0, .ref (q_ad G 0 0)), (1, .int x1), (2, .ref b0), (3, .int x2), (4, .int x3), (6, .int x5)] (by decide) rfl ?_
          refine aw_iincx (i := 6) dL_sea_114 117 rfl 6 rfl 1 rfl (fun x10 => [(6, .int x10), (5, .int x9), (0, .ref (q_ad G 0 0)), (1, .int x1), (2, .ref b0), (3, .int x2), (4, .int x3)]) (by decide) (fun _ => rfl) (fun x10 => ?_)
          refine aw_goto dL_sea_117 6 rfl ?_
          exact aw_conv [2, 3, 4, 5, 6, 1, 0] rfl (ih x9 x10 u5)
        · intro j1 hj1
          refine aw_jn (fun k => ∀  (u6 : qM), qAW l G m_L_sea (q_mx G q_cI b0 l0 f0) 111 [(0, .ref (q_ad G 0 0)), (1, .int x1), (2, .ref b0), (3, .int x2), (4, .int x3), (6, .int x5)] [] u6 (k u6)) ?_ ?_
          · intro u6
            refine aw_iconst (x := 0) dL_sea_111 112 rfl rfl ?_
            exact hj1 0 u6
          · intro j2 hj2
            refine aw_icmp_ne dL_sea_46 49 rfl 111 rfl (fun h3 => ?_) (fun h3 => ?_)
            · exact aw_conv [1, 2, 3, 4, 5, 7] rfl (hj2 u4)
            · refine aw_aload_n (i := 0) dL_sea_49 50 rfl rfl 1 rfl ?_
              refine aw_iload_n (i := 1) dL_sea_50 51 rfl rfl 2 rfl ?_
              refine aw_iload (i := 6) dL_sea_51 53 rfl 7 rfl ?_
              refine aw_iload (i := 7) dL_sea_53 55 rfl 0 rfl ?_
              refine aw_bipush (x := 6) dL_sea_55 57 rfl rfl ?_
              refine aw_ishr dL_sea_57 58 rfl ?_
              refine aw_iconst (x := 4) dL_sea_58 59 rfl rfl ?_
              refine aw_callS (M2 := m_L_low) (cv := q_cI) dL_sea_59 62 rfl (k_L_low l G (x6 >>> (6 &&& 31)) 4  u4) wl_2 wv_L_low pk_L_low rfl ⟨by decide, by decide⟩ ⟨Nat.zero_le _, Nat.zero_le _⟩ rfl (Nat.le_of_ble_eq_true rfl) (fun x11 u7 => ?_)
              show qAW l G m_L_sea (q_mx G q_cI b0 l0 f0) 62 [(7, .int x6), (0, .ref (q_ad G 0 0)), (1, .int x1), (2, .ref b0), (3, .int x2), (4, .int x3), (5, .int x4), (6, .int x5)] [.int x11, .int x5, .int x1, .ref (q_ad G 0 0)] u7 _
              refine aw_jn (fun k => ∀ (x12 : Int32) (u8 : qM), qAW l G m_L_sea (q_mx G q_cI b0 l0 f0) 79 [(0, .ref (q_ad G 0 0)), (1, .int x1), (2, .ref b0), (3, .int x2), (4, .int x3), (6, .int x5), (7, .int x6)] [.int x12, .int x5, .int x1, .ref (q_ad G 0 0)] u8 (k x12 u8)) ?_ ?_
              · intro x12 u8
                refine aw_callV (M2 := m_X10_water) (cv := q_cI) dL_sea_79 82 rfl (k_X10_water l G x1 x5 x12  u8) wl_4 wv_X10_water pk_X10_water rfl rfl ⟨by decide, by decide⟩ ⟨Nat.zero_le _, Nat.zero_le _⟩ at_0 (ok_0 (by decide)) rfl rfl rfl (Nat.le_of_ble_eq_true rfl) (fun x13 u9 => ?_)
                show qAW l G m_L_sea (q_mx G q_cI b0 l0 f0) 82 [(0, .ref (q_ad G 0 0)), (1, .int x1), (2, .ref b0), (3, .int x2), (4, .int x3), (6, .int x5), (7, .int x6)] [.int x13] u9 _
                refine aw_if_ne dL_sea_82 85 rfl 111 rfl (fun h5 => ?_) (fun h5 => ?_)
                · exact aw_conv [0, 1, 2, 3, 4, 5] rfl (hj2 u9)
                · refine aw_aload_n (i := 0) dL_sea_85 86 rfl rfl 0 rfl ?_
                  refine aw_iload_n (i := 1) dL_sea_86 87 rfl rfl 1 rfl ?_
                  refine aw_iload (i := 6) dL_sea_87 89 rfl 5 rfl ?_
                  refine aw_iconst (x := 1) dL_sea_89 90 rfl rfl ?_
                  refine aw_iload (i := 7) dL_sea_90 92 rfl 6 rfl ?_
                  refine aw_bipush (x := 15) dL_sea_92 94 rfl rfl ?_
                  refine aw_ishr dL_sea_94 95 rfl ?_
                  refine aw_sipush (x := 200) dL_sea_95 98 rfl rfl ?_
                  refine aw_callS (M2 := m_L_low) (cv := q_cI) dL_sea_98 101 rfl (k_L_low l G (x6 >>> (15 &&& 31)) 200  u9) wl_2 wv_L_low pk_L_low rfl ⟨by decide, by decide⟩ ⟨Nat.zero_le _, Nat.zero_le _⟩ rfl (Nat.le_of_ble_eq_true rfl) (fun x14 u10 => ?_)
                  show qAW l G m_L_sea (q_mx G q_cI b0 l0 f0) 101 [(0, .ref (q_ad G 0 0)), (1, .int x1), (2, .ref b0), (3, .int x2), (4, .int x3), (6, .int x5), (7, .int x6)] [.int x14, .int 1, .int x5, .int x1, .ref (q_ad G 0 0)] u10 _
                  refine aw_callV (M2 := m_X10_spill) (cv := q_cI) dL_sea_101 104 rfl (k_X10_spill l G x1 x5 1 x14  u10) wl_5 wv_X10_spill pk_X10_spill rfl rfl ⟨by decide, by decide⟩ ⟨Nat.zero_le _, Nat.zero_le _⟩ at_0 (ok_0 (by decide)) rfl rfl rfl (Nat.le_of_ble_eq_true rfl) (fun x15 u11 => ?_)
                  show qAW l G m_L_sea (q_mx G q_cI b0 l0 f0) 104 [(0, .ref (q_ad G 0 0)), (1, .int x1), (2, .ref b0), (3, .int x2), (4, .int x3), (6, .int x5), (7, .int x6)] [.int x15] u11 _
                  refine aw_if_ne dL_sea_104 107 rfl 111 rfl (fun h6 => ?_) (fun h6 => ?_)
                  · exact aw_conv [0, 1, 2, 3, 4, 5] rfl (hj2 u11)
                  · refine aw_iconst (x := 1) dL_sea_107 108 rfl rfl ?_
                    refine aw_goto dL_sea_108 112 rfl ?_
                    exact aw_conv [0, 1, 2, 3, 4, 5] rfl (hj1 1 u11)
              · intro j3 hj3
                refine aw_if_ne dL_sea_62 65 rfl 69 rfl (fun h4 => ?_) (fun h4 => ?_)
                · refine aw_iload (i := 7) dL_sea_69 71 rfl 0 rfl ?_
                  refine aw_bipush (x := 8) dL_sea_71 73 rfl rfl ?_
                  refine aw_ishr dL_sea_73 74 rfl ?_
                  refine aw_bipush (x := 120) dL_sea_74 76 rfl rfl ?_
                  refine aw_callS (M2 := m_L_low) (cv := q_cI) dL_sea_76 79 rfl (k_L_low l G (x6 >>> (8 &&& 31)) 120  u7) wl_2 wv_L_low pk_L_low rfl ⟨by decide, by decide⟩ ⟨Nat.zero_le _, Nat.zero_le _⟩ rfl (Nat.le_of_ble_eq_true rfl) (fun x16 u12 => ?_)
                  show qAW l G m_L_sea (q_mx G q_cI b0 l0 f0) 79 [(7, .int x6), (0, .ref (q_ad G 0 0)), (1, .int x1), (2, .ref b0), (3, .int x2), (4, .int x3), (5, .int x4), (6, .int x5)] [.int x16, .int x5, .int x1, .ref (q_ad G 0 0)] u12 _
                  exact aw_conv [1, 2, 3, 4, 5, 7, 0] rfl (hj3 x16 u12)
                · refine aw_iconst (x := 0) dL_sea_65 66 rfl rfl ?_
                  refine aw_goto dL_sea_66 79 rfl ?_
                  exact aw_conv [1, 2, 3, 4, 5, 7, 0] rfl (hj3 0 u7)
set_option maxRecDepth 100000 in
set_option maxHeartbeats 4000000 in
theorem kx_L_sea (l : Launch) (G : qG) (b0 l0 : Nat) (f0 : Nat → Int32) (x1 : Int32) (x2 : Int32) (x3 : Int32) (u0 : qM) : qCtx l G b0 l0 f0 m_L_sea q_cI [.ref (q_ad G 0 0), .int x1, .ref b0, .int x2, .int x3] u0 (f_L_sea b0 l0 f0 x1 x2 x3 u0) := by
  refine q_entryx pk_L_sea (Nat.le_of_ble_eq_true rfl) ?_
  show qAW l G m_L_sea (q_mx G q_cI b0 l0 f0) 0 [(0, .ref (q_ad G 0 0)), (1, .int x1), (2, .ref b0), (3, .int x2), (4, .int x3)] [] u0 (f_L_sea b0 l0 f0 x1 x2 x3 u0)
  unfold f_L_sea
  refine aw_iconst (x := 1) dL_sea_0 1 rfl rfl ?_
  refine aw_istore dL_sea_1 3 rfl [(5, .int 1), (0, .ref (q_ad G 0 0)), (1, .int x1), (2, .ref b0), (3, .int x2), (4, .int x3)] (by decide) rfl ?_
  refine aw_iconst (x := 0) dL_sea_3 4 rfl rfl ?_
  refine aw_istore dL_sea_4 6 rfl [(6, .int 0), (5, .int 1), (0, .ref (q_ad G 0 0)), (1, .int x1), (2, .ref b0), (3, .int x2), (4, .int x3)] (by decide) rfl ?_
  refine aw_conv [2, 3, 4, 5, 6, 1, 0] rfl (TL_L_sea_6 l G x1 b0 l0 f0 x2 x3  _ ?_ _ 1 0 u0)
  · intro x17 u13
    refine aw_iload (i := 5) dL_sea_120 122 rfl 0 rfl ?_
    refine aw_ck (fun h7 => ?_)
    exact aw_zretx dL_sea_122 rfl h7
theorem dL_law_8 : decode cL_law 8 = .ok (.iconst 2, 1) := by decide +kernel
theorem dL_law_9 : decode cL_law 9 = .ok (.aload_n 0, 1) := by decide +kernel
theorem dL_law_10 : decode cL_law 10 = .ok (.iconst 0, 1) := by decide +kernel
theorem dL_law_11 : decode cL_law 11 = .ok (.invokestatic 9, 3) := by decide +kernel
theorem dL_law_14 : decode cL_law 14 = .ok (.iconst 5, 1) := by decide +kernel
theorem dL_law_15 : decode cL_law 15 = .ok (.invokestatic 15, 3) := by decide +kernel
theorem dL_law_18 : decode cL_law 18 = .ok (.iadd, 1) := by decide +kernel
theorem dL_law_19 : decode cL_law 19 = .ok (.istore_n 2, 1) := by decide +kernel
theorem dL_law_20 : decode cL_law 20 = .ok (.iconst 1, 1) := by decide +kernel
theorem dL_law_21 : decode cL_law 21 = .ok (.aload_n 0, 1) := by decide +kernel
theorem dL_law_22 : decode cL_law 22 = .ok (.iconst 1, 1) := by decide +kernel
theorem dL_law_23 : decode cL_law 23 = .ok (.invokestatic 9, 3) := by decide +kernel
theorem dL_law_26 : decode cL_law 26 = .ok (.iconst 5, 1) := by decide +kernel
theorem dL_law_27 : decode cL_law 27 = .ok (.invokestatic 15, 3) := by decide +kernel
theorem dL_law_30 : decode cL_law 30 = .ok (.iadd, 1) := by decide +kernel
theorem dL_law_31 : decode cL_law 31 = .ok (.istore_n 3, 1) := by decide +kernel
theorem dL_law_32 : decode cL_law 32 = .ok (.aload_n 0, 1) := by decide +kernel
theorem dL_law_33 : decode cL_law 33 = .ok (.iconst 2, 1) := by decide +kernel
theorem dL_law_34 : decode cL_law 34 = .ok (.invokestatic 9, 3) := by decide +kernel
theorem dL_law_37 : decode cL_law 37 = .ok (.iconst 3, 1) := by decide +kernel
theorem dL_law_38 : decode cL_law 38 = .ok (.invokestatic 15, 3) := by decide +kernel
theorem dL_law_41 : decode cL_law 41 = .ok (.istore 4, 2) := by decide +kernel
theorem dL_law_43 : decode cL_law 43 = .ok (.iload_n 2, 1) := by decide +kernel
theorem dL_law_44 : decode cL_law 44 = .ok (.iload_n 3, 1) := by decide +kernel
theorem dL_law_45 : decode cL_law 45 = .ok (.imul, 1) := by decide +kernel
theorem dL_law_46 : decode cL_law 46 = .ok (.istore 5, 2) := by decide +kernel
theorem dL_law_48 : decode cL_law 48 = .ok (.aload_n 1, 1) := by decide +kernel
theorem dL_law_49 : decode cL_law 49 = .ok (.iconst 0, 1) := by decide +kernel
theorem dL_law_50 : decode cL_law 50 = .ok (.iload 4, 2) := by decide +kernel
theorem dL_law_52 : decode cL_law 52 = .ok (.iconst 2, 1) := by decide +kernel
theorem dL_law_53 : decode cL_law 53 = .ok (.if_icmp .ne 7, 3) := by decide +kernel
theorem dL_law_56 : decode cL_law 56 = .ok (.iconst 3, 1) := by decide +kernel
theorem dL_law_57 : decode cL_law 57 = .ok (.goto 5, 3) := by decide +kernel
theorem dL_law_60 : decode cL_law 60 = .ok (.iload 4, 2) := by decide +kernel
theorem dL_law_62 : decode cL_law 62 = .ok (.iload_n 2, 1) := by decide +kernel
theorem dL_law_63 : decode cL_law 63 = .ok (.iload_n 3, 1) := by decide +kernel
theorem dL_law_64 : decode cL_law 64 = .ok (.invokevirtual 43, 3) := by decide +kernel
theorem dL_law_67 : decode cL_law 67 = .ok (.iload 5, 2) := by decide +kernel
theorem dL_law_69 : decode cL_law 69 = .ok (.if_icmp .ne 116, 3) := by decide +kernel
theorem dL_law_72 : decode cL_law 72 = .ok (.aload_n 1, 1) := by decide +kernel
theorem dL_law_73 : decode cL_law 73 = .ok (.iconst 0, 1) := by decide +kernel
theorem dL_law_74 : decode cL_law 74 = .ok (.aload_n 0, 1) := by decide +kernel
theorem dL_law_75 : decode cL_law 75 = .ok (.bipush 10, 2) := by decide +kernel
theorem dL_law_77 : decode cL_law 77 = .ok (.iload 5, 2) := by decide +kernel
theorem dL_law_79 : decode cL_law 79 = .ok (.invokestatic 46, 3) := by decide +kernel
theorem dL_law_82 : decode cL_law 82 = .ok (.ifCond .eq 103, 3) := by decide +kernel
theorem dL_law_85 : decode cL_law 85 = .ok (.aload_n 1, 1) := by decide +kernel
theorem dL_law_86 : decode cL_law 86 = .ok (.iconst 0, 1) := by decide +kernel
theorem dL_law_87 : decode cL_law 87 = .ok (.iconst 1, 1) := by decide +kernel
theorem dL_law_88 : decode cL_law 88 = .ok (.aload_n 0, 1) := by decide +kernel
theorem dL_law_89 : decode cL_law 89 = .ok (.iconst 3, 1) := by decide +kernel
theorem dL_law_90 : decode cL_law 90 = .ok (.invokestatic 9, 3) := by decide +kernel
theorem dL_law_93 : decode cL_law 93 = .ok (.bipush 8, 2) := by decide +kernel
theorem dL_law_95 : decode cL_law 95 = .ok (.invokestatic 15, 3) := by decide +kernel
theorem dL_law_98 : decode cL_law 98 = .ok (.iadd, 1) := by decide +kernel
theorem dL_law_99 : decode cL_law 99 = .ok (.iconst 2, 1) := by decide +kernel
theorem dL_law_100 : decode cL_law 100 = .ok (.aload_n 0, 1) := by decide +kernel
theorem dL_law_101 : decode cL_law 101 = .ok (.iconst 4, 1) := by decide +kernel
theorem dL_law_102 : decode cL_law 102 = .ok (.invokestatic 9, 3) := by decide +kernel
theorem dL_law_105 : decode cL_law 105 = .ok (.bipush 40, 2) := by decide +kernel
theorem dL_law_107 : decode cL_law 107 = .ok (.invokestatic 15, 3) := by decide +kernel
theorem dL_law_110 : decode cL_law 110 = .ok (.iadd, 1) := by decide +kernel
theorem dL_law_111 : decode cL_law 111 = .ok (.invokevirtual 50, 3) := by decide +kernel
theorem dL_law_114 : decode cL_law 114 = .ok (.iconst 1, 1) := by decide +kernel
theorem dL_law_115 : decode cL_law 115 = .ok (.if_icmp .ne 70, 3) := by decide +kernel
theorem dL_law_118 : decode cL_law 118 = .ok (.aload_n 1, 1) := by decide +kernel
theorem dL_law_119 : decode cL_law 119 = .ok (.iconst 0, 1) := by decide +kernel
theorem dL_law_120 : decode cL_law 120 = .ok (.aload_n 0, 1) := by decide +kernel
theorem dL_law_121 : decode cL_law 121 = .ok (.iconst 5, 1) := by decide +kernel
theorem dL_law_122 : decode cL_law 122 = .ok (.invokestatic 9, 3) := by decide +kernel
theorem dL_law_125 : decode cL_law 125 = .ok (.bipush 31, 2) := by decide +kernel
theorem dL_law_127 : decode cL_law 127 = .ok (.invokestatic 15, 3) := by decide +kernel
theorem dL_law_130 : decode cL_law 130 = .ok (.bipush 15, 2) := by decide +kernel
theorem dL_law_132 : decode cL_law 132 = .ok (.isub, 1) := by decide +kernel
theorem dL_law_133 : decode cL_law 133 = .ok (.aload_n 0, 1) := by decide +kernel
theorem dL_law_134 : decode cL_law 134 = .ok (.bipush 6, 2) := by decide +kernel
theorem dL_law_136 : decode cL_law 136 = .ok (.invokestatic 9, 3) := by decide +kernel
theorem dL_law_139 : decode cL_law 139 = .ok (.bipush 31, 2) := by decide +kernel
theorem dL_law_141 : decode cL_law 141 = .ok (.invokestatic 15, 3) := by decide +kernel
theorem dL_law_144 : decode cL_law 144 = .ok (.bipush 15, 2) := by decide +kernel
theorem dL_law_146 : decode cL_law 146 = .ok (.isub, 1) := by decide +kernel
theorem dL_law_147 : decode cL_law 147 = .ok (.invokevirtual 53, 3) := by decide +kernel
theorem dL_law_150 : decode cL_law 150 = .ok (.iconst 1, 1) := by decide +kernel
theorem dL_law_151 : decode cL_law 151 = .ok (.if_icmp .ne 34, 3) := by decide +kernel
theorem dL_law_154 : decode cL_law 154 = .ok (.aload_n 1, 1) := by decide +kernel
theorem dL_law_155 : decode cL_law 155 = .ok (.iconst 0, 1) := by decide +kernel
theorem dL_law_156 : decode cL_law 156 = .ok (.aload_n 0, 1) := by decide +kernel
theorem dL_law_157 : decode cL_law 157 = .ok (.bipush 7, 2) := by decide +kernel
theorem dL_law_159 : decode cL_law 159 = .ok (.invokestatic 9, 3) := by decide +kernel
theorem dL_law_162 : decode cL_law 162 = .ok (.iload 5, 2) := by decide +kernel
theorem dL_law_164 : decode cL_law 164 = .ok (.invokestatic 15, 3) := by decide +kernel
theorem dL_law_167 : decode cL_law 167 = .ok (.aload_n 0, 1) := by decide +kernel
theorem dL_law_168 : decode cL_law 168 = .ok (.bipush 8, 2) := by decide +kernel
theorem dL_law_170 : decode cL_law 170 = .ok (.invokestatic 9, 3) := by decide +kernel
theorem dL_law_173 : decode cL_law 173 = .ok (.bipush 40, 2) := by decide +kernel
theorem dL_law_175 : decode cL_law 175 = .ok (.invokestatic 15, 3) := by decide +kernel
theorem dL_law_178 : decode cL_law 178 = .ok (.invokevirtual 56, 3) := by decide +kernel
theorem dL_law_181 : decode cL_law 181 = .ok (.iconst 1, 1) := by decide +kernel
theorem dL_law_182 : decode cL_law 182 = .ok (.if_icmp .eq 5, 3) := by decide +kernel
theorem dL_law_185 : decode cL_law 185 = .ok (.iconst 0, 1) := by decide +kernel
theorem dL_law_186 : decode cL_law 186 = .ok (.ireturn, 1) := by decide +kernel
theorem dL_law_187 : decode cL_law 187 = .ok (.iload 4, 2) := by decide +kernel
theorem dL_law_189 : decode cL_law 189 = .ok (.ifCond .le 59, 3) := by decide +kernel
theorem dL_law_192 : decode cL_law 192 = .ok (.aload_n 1, 1) := by decide +kernel
theorem dL_law_193 : decode cL_law 193 = .ok (.iconst 1, 1) := by decide +kernel
theorem dL_law_194 : decode cL_law 194 = .ok (.iconst 3, 1) := by decide +kernel
theorem dL_law_195 : decode cL_law 195 = .ok (.invokevirtual 59, 3) := by decide +kernel
theorem dL_law_198 : decode cL_law 198 = .ok (.iconst 3, 1) := by decide +kernel
theorem dL_law_199 : decode cL_law 199 = .ok (.if_icmp .ne 47, 3) := by decide +kernel
theorem dL_law_202 : decode cL_law 202 = .ok (.aload_n 1, 1) := by decide +kernel
theorem dL_law_203 : decode cL_law 203 = .ok (.iconst 1, 1) := by decide +kernel
theorem dL_law_204 : decode cL_law 204 = .ok (.iconst 0, 1) := by decide +kernel
theorem dL_law_205 : decode cL_law 205 = .ok (.aload_n 0, 1) := by decide +kernel
theorem dL_law_206 : decode cL_law 206 = .ok (.bipush 9, 2) := by decide +kernel
theorem dL_law_208 : decode cL_law 208 = .ok (.invokestatic 9, 3) := by decide +kernel
theorem dL_law_211 : decode cL_law 211 = .ok (.bipush 90, 2) := by decide +kernel
theorem dL_law_213 : decode cL_law 213 = .ok (.invokestatic 15, 3) := by decide +kernel
theorem dL_law_216 : decode cL_law 216 = .ok (.invokevirtual 62, 3) := by decide +kernel
theorem dL_law_219 : decode cL_law 219 = .ok (.iconst 1, 1) := by decide +kernel
theorem dL_law_220 : decode cL_law 220 = .ok (.if_icmp .ne 26, 3) := by decide +kernel
theorem dL_law_223 : decode cL_law 223 = .ok (.aload_n 1, 1) := by decide +kernel
theorem dL_law_224 : decode cL_law 224 = .ok (.iconst 1, 1) := by decide +kernel
theorem dL_law_225 : decode cL_law 225 = .ok (.iconst 1, 1) := by decide +kernel
theorem dL_law_226 : decode cL_law 226 = .ok (.bipush 30, 2) := by decide +kernel
theorem dL_law_228 : decode cL_law 228 = .ok (.invokevirtual 62, 3) := by decide +kernel
theorem dL_law_231 : decode cL_law 231 = .ok (.iconst 1, 1) := by decide +kernel
theorem dL_law_232 : decode cL_law 232 = .ok (.if_icmp .ne 14, 3) := by decide +kernel
theorem dL_law_235 : decode cL_law 235 = .ok (.aload_n 1, 1) := by decide +kernel
theorem dL_law_236 : decode cL_law 236 = .ok (.iconst 0, 1) := by decide +kernel
theorem dL_law_237 : decode cL_law 237 = .ok (.iconst 1, 1) := by decide +kernel
theorem dL_law_238 : decode cL_law 238 = .ok (.iconst 5, 1) := by decide +kernel
theorem dL_law_239 : decode cL_law 239 = .ok (.invokevirtual 65, 3) := by decide +kernel
theorem dL_law_242 : decode cL_law 242 = .ok (.iconst 1, 1) := by decide +kernel
theorem dL_law_243 : decode cL_law 243 = .ok (.if_icmp .eq 5, 3) := by decide +kernel
theorem dL_law_246 : decode cL_law 246 = .ok (.iconst 0, 1) := by decide +kernel
theorem dL_law_247 : decode cL_law 247 = .ok (.ireturn, 1) := by decide +kernel
theorem dL_law_248 : decode cL_law 248 = .ok (.aload_n 1, 1) := by decide +kernel
theorem dL_law_249 : decode cL_law 249 = .ok (.iconst 0, 1) := by decide +kernel
theorem dL_law_250 : decode cL_law 250 = .ok (.iconst 0, 1) := by decide +kernel
theorem dL_law_251 : decode cL_law 251 = .ok (.aload_n 0, 1) := by decide +kernel
theorem dL_law_252 : decode cL_law 252 = .ok (.bipush 45, 2) := by decide +kernel
theorem dL_law_254 : decode cL_law 254 = .ok (.invokestatic 9, 3) := by decide +kernel
theorem dL_law_257 : decode cL_law 257 = .ok (.iconst 2, 1) := by decide +kernel
theorem dL_law_258 : decode cL_law 258 = .ok (.invokestatic 15, 3) := by decide +kernel
theorem dL_law_261 : decode cL_law 261 = .ok (.ifCond .ne 7, 3) := by decide +kernel
theorem dL_law_264 : decode cL_law 264 = .ok (.iconst 1, 1) := by decide +kernel
theorem dL_law_265 : decode cL_law 265 = .ok (.goto 4, 3) := by decide +kernel
theorem dL_law_268 : decode cL_law 268 = .ok (.iconst 0, 1) := by decide +kernel
theorem dL_law_269 : decode cL_law 269 = .ok (.invokevirtual 68, 3) := by decide +kernel
theorem dL_law_272 : decode cL_law 272 = .ok (.ifCond .ne 14, 3) := by decide +kernel
theorem dL_law_275 : decode cL_law 275 = .ok (.aload_n 1, 1) := by decide +kernel
theorem dL_law_276 : decode cL_law 276 = .ok (.iconst 0, 1) := by decide +kernel
theorem dL_law_277 : decode cL_law 277 = .ok (.iconst 1, 1) := by decide +kernel
theorem dL_law_278 : decode cL_law 278 = .ok (.invokevirtual 72, 3) := by decide +kernel
theorem dL_law_281 : decode cL_law 281 = .ok (.iload 5, 2) := by decide +kernel
theorem dL_law_283 : decode cL_law 283 = .ok (.if_icmp .eq 5, 3) := by decide +kernel
theorem dL_law_286 : decode cL_law 286 = .ok (.iconst 0, 1) := by decide +kernel
theorem dL_law_287 : decode cL_law 287 = .ok (.ireturn, 1) := by decide +kernel
theorem dL_law_288 : decode cL_law 288 = .ok (.aload_n 1, 1) := by decide +kernel
theorem dL_law_289 : decode cL_law 289 = .ok (.iconst 0, 1) := by decide +kernel
theorem dL_law_290 : decode cL_law 290 = .ok (.iconst 4, 1) := by decide +kernel
theorem dL_law_291 : decode cL_law 291 = .ok (.invokestatic 75, 3) := by decide +kernel
theorem dL_law_294 : decode cL_law 294 = .ok (.istore 6, 2) := by decide +kernel
theorem dL_law_296 : decode cL_law 296 = .ok (.aload_n 1, 1) := by decide +kernel
theorem dL_law_297 : decode cL_law 297 = .ok (.iconst 0, 1) := by decide +kernel
theorem dL_law_298 : decode cL_law 298 = .ok (.bipush 8, 2) := by decide +kernel
theorem dL_law_300 : decode cL_law 300 = .ok (.invokestatic 75, 3) := by decide +kernel
theorem dL_law_303 : decode cL_law 303 = .ok (.istore 7, 2) := by decide +kernel
theorem dL_law_305 : decode cL_law 305 = .ok (.iconst 0, 1) := by decide +kernel
theorem dL_law_306 : decode cL_law 306 = .ok (.istore 8, 2) := by decide +kernel
theorem dL_law_308 : decode cL_law 308 = .ok (.iload 8, 2) := by decide +kernel
theorem dL_law_310 : decode cL_law 310 = .ok (.bipush 12, 2) := by decide +kernel
theorem dL_law_312 : decode cL_law 312 = .ok (.if_icmp .ge 110, 3) := by decide +kernel
theorem dL_law_315 : decode cL_law 315 = .ok (.aload_n 1, 1) := by decide +kernel
theorem dL_law_316 : decode cL_law 316 = .ok (.iconst 0, 1) := by decide +kernel
theorem dL_law_317 : decode cL_law 317 = .ok (.iconst 1, 1) := by decide +kernel
theorem dL_law_318 : decode cL_law 318 = .ok (.invokevirtual 78, 3) := by decide +kernel
theorem dL_law_321 : decode cL_law 321 = .ok (.iconst 1, 1) := by decide +kernel
theorem dL_law_322 : decode cL_law 322 = .ok (.if_icmp .ne 41, 3) := by decide +kernel
theorem dL_law_325 : decode cL_law 325 = .ok (.aload_n 1, 1) := by decide +kernel
theorem dL_law_326 : decode cL_law 326 = .ok (.iconst 0, 1) := by decide +kernel
theorem dL_law_327 : decode cL_law 327 = .ok (.iconst 4, 1) := by decide +kernel
theorem dL_law_328 : decode cL_law 328 = .ok (.invokestatic 75, 3) := by decide +kernel
theorem dL_law_331 : decode cL_law 331 = .ok (.aload_n 1, 1) := by decide +kernel
theorem dL_law_332 : decode cL_law 332 = .ok (.iconst 0, 1) := by decide +kernel
theorem dL_law_333 : decode cL_law 333 = .ok (.iconst 5, 1) := by decide +kernel
theorem dL_law_334 : decode cL_law 334 = .ok (.invokestatic 75, 3) := by decide +kernel
theorem dL_law_337 : decode cL_law 337 = .ok (.isub, 1) := by decide +kernel
theorem dL_law_338 : decode cL_law 338 = .ok (.aload_n 1, 1) := by decide +kernel
theorem dL_law_339 : decode cL_law 339 = .ok (.iconst 0, 1) := by decide +kernel
theorem dL_law_340 : decode cL_law 340 = .ok (.bipush 6, 2) := by decide +kernel
theorem dL_law_342 : decode cL_law 342 = .ok (.invokestatic 75, 3) := by decide +kernel
theorem dL_law_345 : decode cL_law 345 = .ok (.isub, 1) := by decide +kernel
theorem dL_law_346 : decode cL_law 346 = .ok (.iload 6, 2) := by decide +kernel
theorem dL_law_348 : decode cL_law 348 = .ok (.if_icmp .ne 15, 3) := by decide +kernel
theorem dL_law_351 : decode cL_law 351 = .ok (.aload_n 1, 1) := by decide +kernel
theorem dL_law_352 : decode cL_law 352 = .ok (.iconst 0, 1) := by decide +kernel
theorem dL_law_353 : decode cL_law 353 = .ok (.bipush 8, 2) := by decide +kernel
theorem dL_law_355 : decode cL_law 355 = .ok (.invokestatic 75, 3) := by decide +kernel
theorem dL_law_358 : decode cL_law 358 = .ok (.iload 7, 2) := by decide +kernel
theorem dL_law_360 : decode cL_law 360 = .ok (.if_icmp .eq 5, 3) := by decide +kernel
theorem dL_law_363 : decode cL_law 363 = .ok (.iconst 0, 1) := by decide +kernel
theorem dL_law_364 : decode cL_law 364 = .ok (.ireturn, 1) := by decide +kernel
theorem dL_law_365 : decode cL_law 365 = .ok (.iconst 0, 1) := by decide +kernel
theorem dL_law_366 : decode cL_law 366 = .ok (.istore 9, 2) := by decide +kernel
theorem dL_law_368 : decode cL_law 368 = .ok (.iload 9, 2) := by decide +kernel
theorem dL_law_370 : decode cL_law 370 = .ok (.iload 5, 2) := by decide +kernel
theorem dL_law_372 : decode cL_law 372 = .ok (.if_icmp .ge 44, 3) := by decide +kernel
theorem dL_law_375 : decode cL_law 375 = .ok (.aload_n 1, 1) := by decide +kernel
theorem dL_law_376 : decode cL_law 376 = .ok (.iconst 0, 1) := by decide +kernel
theorem dL_law_377 : decode cL_law 377 = .ok (.iload 9, 2) := by decide +kernel
theorem dL_law_379 : decode cL_law 379 = .ok (.iconst 1, 1) := by decide +kernel
theorem dL_law_380 : decode cL_law 380 = .ok (.invokestatic 81, 3) := by decide +kernel
theorem dL_law_383 : decode cL_law 383 = .ok (.istore 10, 2) := by decide +kernel
theorem dL_law_385 : decode cL_law 385 = .ok (.iload 10, 2) := by decide +kernel
theorem dL_law_387 : decode cL_law 387 = .ok (.ifCond .lt 21, 3) := by decide +kernel
theorem dL_law_390 : decode cL_law 390 = .ok (.iload 10, 2) := by decide +kernel
theorem dL_law_392 : decode cL_law 392 = .ok (.ldc 85, 2) := by decide +kernel
theorem dL_law_394 : decode cL_law 394 = .ok (.if_icmp .gt 14, 3) := by decide +kernel
theorem dL_law_397 : decode cL_law 397 = .ok (.aload_n 1, 1) := by decide +kernel
theorem dL_law_398 : decode cL_law 398 = .ok (.iconst 0, 1) := by decide +kernel
theorem dL_law_399 : decode cL_law 399 = .ok (.iload 9, 2) := by decide +kernel
theorem dL_law_401 : decode cL_law 401 = .ok (.iconst 4, 1) := by decide +kernel
theorem dL_law_402 : decode cL_law 402 = .ok (.invokestatic 81, 3) := by decide +kernel
theorem dL_law_405 : decode cL_law 405 = .ok (.ifCond .ge 5, 3) := by decide +kernel
theorem dL_law_408 : decode cL_law 408 = .ok (.iconst 0, 1) := by decide +kernel
theorem dL_law_409 : decode cL_law 409 = .ok (.ireturn, 1) := by decide +kernel
theorem dL_law_410 : decode cL_law 410 = .ok (.iinc 9 1, 3) := by decide +kernel
theorem dL_law_413 : decode cL_law 413 = .ok (.goto (-45), 3) := by decide +kernel
theorem dL_law_416 : decode cL_law 416 = .ok (.iinc 8 1, 3) := by decide +kernel
theorem dL_law_419 : decode cL_law 419 = .ok (.goto (-111), 3) := by decide +kernel
theorem dL_law_422 : decode cL_law 422 = .ok (.aload_n 1, 1) := by decide +kernel
theorem dL_law_423 : decode cL_law 423 = .ok (.iconst 1, 1) := by decide +kernel
theorem dL_law_424 : decode cL_law 424 = .ok (.bipush 12, 2) := by decide +kernel
theorem dL_law_426 : decode cL_law 426 = .ok (.invokevirtual 78, 3) := by decide +kernel
theorem dL_law_429 : decode cL_law 429 = .ok (.bipush 12, 2) := by decide +kernel
theorem dL_law_431 : decode cL_law 431 = .ok (.if_icmp .eq 5, 3) := by decide +kernel
theorem dL_law_434 : decode cL_law 434 = .ok (.iconst 0, 1) := by decide +kernel
theorem dL_law_435 : decode cL_law 435 = .ok (.ireturn, 1) := by decide +kernel
theorem dL_law_436 : decode cL_law 436 = .ok (.iconst 0, 1) := by decide +kernel
theorem dL_law_437 : decode cL_law 437 = .ok (.istore 8, 2) := by decide +kernel
theorem dL_law_439 : decode cL_law 439 = .ok (.iload 8, 2) := by decide +kernel
theorem dL_law_441 : decode cL_law 441 = .ok (.iload 5, 2) := by decide +kernel
theorem dL_law_443 : decode cL_law 443 = .ok (.if_icmp .ge 49, 3) := by decide +kernel
theorem dL_law_446 : decode cL_law 446 = .ok (.aload_n 1, 1) := by decide +kernel
theorem dL_law_447 : decode cL_law 447 = .ok (.iconst 0, 1) := by decide +kernel
theorem dL_law_448 : decode cL_law 448 = .ok (.iload 8, 2) := by decide +kernel
theorem dL_law_450 : decode cL_law 450 = .ok (.iconst 1, 1) := by decide +kernel
theorem dL_law_451 : decode cL_law 451 = .ok (.invokestatic 81, 3) := by decide +kernel
theorem dL_law_454 : decode cL_law 454 = .ok (.aload_n 1, 1) := by decide +kernel
theorem dL_law_455 : decode cL_law 455 = .ok (.iconst 1, 1) := by decide +kernel
theorem dL_law_456 : decode cL_law 456 = .ok (.iload 8, 2) := by decide +kernel
theorem dL_law_458 : decode cL_law 458 = .ok (.iconst 1, 1) := by decide +kernel
theorem dL_law_459 : decode cL_law 459 = .ok (.invokestatic 81, 3) := by decide +kernel
theorem dL_law_462 : decode cL_law 462 = .ok (.if_icmp .ne 22, 3) := by decide +kernel
theorem dL_law_465 : decode cL_law 465 = .ok (.aload_n 1, 1) := by decide +kernel
theorem dL_law_466 : decode cL_law 466 = .ok (.iconst 0, 1) := by decide +kernel
theorem dL_law_467 : decode cL_law 467 = .ok (.iload 8, 2) := by decide +kernel
theorem dL_law_469 : decode cL_law 469 = .ok (.iconst 4, 1) := by decide +kernel
theorem dL_law_470 : decode cL_law 470 = .ok (.invokestatic 81, 3) := by decide +kernel
theorem dL_law_473 : decode cL_law 473 = .ok (.aload_n 1, 1) := by decide +kernel
theorem dL_law_474 : decode cL_law 474 = .ok (.iconst 1, 1) := by decide +kernel
theorem dL_law_475 : decode cL_law 475 = .ok (.iload 8, 2) := by decide +kernel
theorem dL_law_477 : decode cL_law 477 = .ok (.iconst 4, 1) := by decide +kernel
theorem dL_law_478 : decode cL_law 478 = .ok (.invokestatic 81, 3) := by decide +kernel
theorem dL_law_481 : decode cL_law 481 = .ok (.if_icmp .eq 5, 3) := by decide +kernel
theorem dL_law_484 : decode cL_law 484 = .ok (.iconst 0, 1) := by decide +kernel
theorem dL_law_485 : decode cL_law 485 = .ok (.ireturn, 1) := by decide +kernel
theorem dL_law_486 : decode cL_law 486 = .ok (.iinc 8 1, 3) := by decide +kernel
theorem dL_law_489 : decode cL_law 489 = .ok (.goto (-50), 3) := by decide +kernel
theorem dL_law_492 : decode cL_law 492 = .ok (.iload 4, 2) := by decide +kernel
theorem dL_law_494 : decode cL_law 494 = .ok (.ifCond .ne 197, 3) := by decide +kernel
theorem dL_law_497 : decode cL_law 497 = .ok (.aload_n 1, 1) := by decide +kernel
theorem dL_law_498 : decode cL_law 498 = .ok (.iconst 1, 1) := by decide +kernel
theorem dL_law_499 : decode cL_law 499 = .ok (.invokevirtual 86, 3) := by decide +kernel
theorem dL_law_502 : decode cL_law 502 = .ok (.iconst 1, 1) := by decide +kernel
theorem dL_law_503 : decode cL_law 503 = .ok (.if_icmp .eq 5, 3) := by decide +kernel
theorem dL_law_506 : decode cL_law 506 = .ok (.iconst 0, 1) := by decide +kernel
theorem dL_law_507 : decode cL_law 507 = .ok (.ireturn, 1) := by decide +kernel
theorem dL_law_508 : decode cL_law 508 = .ok (.iconst 0, 1) := by decide +kernel
theorem dL_law_509 : decode cL_law 509 = .ok (.istore 8, 2) := by decide +kernel
theorem dL_law_511 : decode cL_law 511 = .ok (.iload 8, 2) := by decide +kernel
theorem dL_law_513 : decode cL_law 513 = .ok (.iconst 5, 1) := by decide +kernel
theorem dL_law_514 : decode cL_law 514 = .ok (.if_icmp .ge 104, 3) := by decide +kernel
theorem dL_law_517 : decode cL_law 517 = .ok (.aload_n 1, 1) := by decide +kernel
theorem dL_law_518 : decode cL_law 518 = .ok (.iconst 0, 1) := by decide +kernel
theorem dL_law_519 : decode cL_law 519 = .ok (.iconst 1, 1) := by decide +kernel
theorem dL_law_520 : decode cL_law 520 = .ok (.invokevirtual 78, 3) := by decide +kernel
theorem dL_law_523 : decode cL_law 523 = .ok (.iconst 1, 1) := by decide +kernel
theorem dL_law_524 : decode cL_law 524 = .ok (.if_icmp .ne 13, 3) := by decide +kernel
theorem dL_law_527 : decode cL_law 527 = .ok (.aload_n 1, 1) := by decide +kernel
theorem dL_law_528 : decode cL_law 528 = .ok (.iconst 1, 1) := by decide +kernel
theorem dL_law_529 : decode cL_law 529 = .ok (.iconst 1, 1) := by decide +kernel
theorem dL_law_530 : decode cL_law 530 = .ok (.invokevirtual 78, 3) := by decide +kernel
theorem dL_law_533 : decode cL_law 533 = .ok (.iconst 1, 1) := by decide +kernel
theorem dL_law_534 : decode cL_law 534 = .ok (.if_icmp .eq 5, 3) := by decide +kernel
theorem dL_law_537 : decode cL_law 537 = .ok (.iconst 0, 1) := by decide +kernel
theorem dL_law_538 : decode cL_law 538 = .ok (.ireturn, 1) := by decide +kernel
theorem dL_law_539 : decode cL_law 539 = .ok (.iconst 0, 1) := by decide +kernel
theorem dL_law_540 : decode cL_law 540 = .ok (.istore 9, 2) := by decide +kernel
theorem dL_law_542 : decode cL_law 542 = .ok (.iload 9, 2) := by decide +kernel
theorem dL_law_544 : decode cL_law 544 = .ok (.iload 5, 2) := by decide +kernel
theorem dL_law_546 : decode cL_law 546 = .ok (.if_icmp .ge 66, 3) := by decide +kernel
theorem dL_law_549 : decode cL_law 549 = .ok (.iload 9, 2) := by decide +kernel
theorem dL_law_551 : decode cL_law 551 = .ok (.iload_n 2, 1) := by decide +kernel
theorem dL_law_552 : decode cL_law 552 = .ok (.idiv, 1) := by decide +kernel
theorem dL_law_553 : decode cL_law 553 = .ok (.iload_n 2, 1) := by decide +kernel
theorem dL_law_554 : decode cL_law 554 = .ok (.imul, 1) := by decide +kernel
theorem dL_law_555 : decode cL_law 555 = .ok (.iload_n 2, 1) := by decide +kernel
theorem dL_law_556 : decode cL_law 556 = .ok (.iadd, 1) := by decide +kernel
theorem dL_law_557 : decode cL_law 557 = .ok (.iconst 1, 1) := by decide +kernel
theorem dL_law_558 : decode cL_law 558 = .ok (.isub, 1) := by decide +kernel
theorem dL_law_559 : decode cL_law 559 = .ok (.iload 9, 2) := by decide +kernel
theorem dL_law_561 : decode cL_law 561 = .ok (.iload_n 2, 1) := by decide +kernel
theorem dL_law_562 : decode cL_law 562 = .ok (.irem, 1) := by decide +kernel
theorem dL_law_563 : decode cL_law 563 = .ok (.isub, 1) := by decide +kernel
theorem dL_law_564 : decode cL_law 564 = .ok (.istore 10, 2) := by decide +kernel
theorem dL_law_566 : decode cL_law 566 = .ok (.aload_n 1, 1) := by decide +kernel
theorem dL_law_567 : decode cL_law 567 = .ok (.iconst 0, 1) := by decide +kernel
theorem dL_law_568 : decode cL_law 568 = .ok (.iload 9, 2) := by decide +kernel
theorem dL_law_570 : decode cL_law 570 = .ok (.iconst 1, 1) := by decide +kernel
theorem dL_law_571 : decode cL_law 571 = .ok (.invokestatic 81, 3) := by decide +kernel
theorem dL_law_574 : decode cL_law 574 = .ok (.aload_n 1, 1) := by decide +kernel
theorem dL_law_575 : decode cL_law 575 = .ok (.iconst 1, 1) := by decide +kernel
theorem dL_law_576 : decode cL_law 576 = .ok (.iload 10, 2) := by decide +kernel
theorem dL_law_578 : decode cL_law 578 = .ok (.iconst 1, 1) := by decide +kernel
theorem dL_law_579 : decode cL_law 579 = .ok (.invokestatic 81, 3) := by decide +kernel
theorem dL_law_582 : decode cL_law 582 = .ok (.if_icmp .ne 22, 3) := by decide +kernel
theorem dL_law_585 : decode cL_law 585 = .ok (.aload_n 1, 1) := by decide +kernel
theorem dL_law_586 : decode cL_law 586 = .ok (.iconst 0, 1) := by decide +kernel
theorem dL_law_587 : decode cL_law 587 = .ok (.iload 9, 2) := by decide +kernel
theorem dL_law_589 : decode cL_law 589 = .ok (.iconst 4, 1) := by decide +kernel
theorem dL_law_590 : decode cL_law 590 = .ok (.invokestatic 81, 3) := by decide +kernel
theorem dL_law_593 : decode cL_law 593 = .ok (.aload_n 1, 1) := by decide +kernel
theorem dL_law_594 : decode cL_law 594 = .ok (.iconst 1, 1) := by decide +kernel
theorem dL_law_595 : decode cL_law 595 = .ok (.iload 10, 2) := by decide +kernel
theorem dL_law_597 : decode cL_law 597 = .ok (.iconst 4, 1) := by decide +kernel
theorem dL_law_598 : decode cL_law 598 = .ok (.invokestatic 81, 3) := by decide +kernel
theorem dL_law_601 : decode cL_law 601 = .ok (.if_icmp .eq 5, 3) := by decide +kernel
theorem dL_law_604 : decode cL_law 604 = .ok (.iconst 0, 1) := by decide +kernel
theorem dL_law_605 : decode cL_law 605 = .ok (.ireturn, 1) := by decide +kernel
theorem dL_law_606 : decode cL_law 606 = .ok (.iinc 9 1, 3) := by decide +kernel
theorem dL_law_609 : decode cL_law 609 = .ok (.goto (-67), 3) := by decide +kernel
theorem dL_law_612 : decode cL_law 612 = .ok (.iinc 8 1, 3) := by decide +kernel
theorem dL_law_615 : decode cL_law 615 = .ok (.goto (-104), 3) := by decide +kernel
theorem dL_law_618 : decode cL_law 618 = .ok (.aload_n 1, 1) := by decide +kernel
theorem dL_law_619 : decode cL_law 619 = .ok (.iconst 1, 1) := by decide +kernel
theorem dL_law_620 : decode cL_law 620 = .ok (.invokevirtual 86, 3) := by decide +kernel
theorem dL_law_623 : decode cL_law 623 = .ok (.iconst 1, 1) := by decide +kernel
theorem dL_law_624 : decode cL_law 624 = .ok (.if_icmp .eq 5, 3) := by decide +kernel
theorem dL_law_627 : decode cL_law 627 = .ok (.iconst 0, 1) := by decide +kernel
theorem dL_law_628 : decode cL_law 628 = .ok (.ireturn, 1) := by decide +kernel
theorem dL_law_629 : decode cL_law 629 = .ok (.iconst 0, 1) := by decide +kernel
theorem dL_law_630 : decode cL_law 630 = .ok (.istore 8, 2) := by decide +kernel
theorem dL_law_632 : decode cL_law 632 = .ok (.iload 8, 2) := by decide +kernel
theorem dL_law_634 : decode cL_law 634 = .ok (.iconst 2, 1) := by decide +kernel
theorem dL_law_635 : decode cL_law 635 = .ok (.iload 5, 2) := by decide +kernel
theorem dL_law_637 : decode cL_law 637 = .ok (.imul, 1) := by decide +kernel
theorem dL_law_638 : decode cL_law 638 = .ok (.if_icmp .ge 53, 3) := by decide +kernel
theorem dL_law_641 : decode cL_law 641 = .ok (.aload_n 1, 1) := by decide +kernel
theorem dL_law_642 : decode cL_law 642 = .ok (.iconst 0, 1) := by decide +kernel
theorem dL_law_643 : decode cL_law 643 = .ok (.iload 8, 2) := by decide +kernel
theorem dL_law_645 : decode cL_law 645 = .ok (.invokevirtual 90, 3) := by decide +kernel
theorem dL_law_648 : decode cL_law 648 = .ok (.istore 9, 2) := by decide +kernel
theorem dL_law_650 : decode cL_law 650 = .ok (.aload_n 1, 1) := by decide +kernel
theorem dL_law_651 : decode cL_law 651 = .ok (.invokevirtual 35, 3) := by decide +kernel
theorem dL_law_654 : decode cL_law 654 = .ok (.istore 10, 2) := by decide +kernel
theorem dL_law_656 : decode cL_law 656 = .ok (.iload 9, 2) := by decide +kernel
theorem dL_law_658 : decode cL_law 658 = .ok (.aload_n 1, 1) := by decide +kernel
theorem dL_law_659 : decode cL_law 659 = .ok (.iconst 1, 1) := by decide +kernel
theorem dL_law_660 : decode cL_law 660 = .ok (.iload 8, 2) := by decide +kernel
theorem dL_law_662 : decode cL_law 662 = .ok (.invokevirtual 90, 3) := by decide +kernel
theorem dL_law_665 : decode cL_law 665 = .ok (.if_icmp .ne 18, 3) := by decide +kernel
theorem dL_law_668 : decode cL_law 668 = .ok (.iload 9, 2) := by decide +kernel
theorem dL_law_670 : decode cL_law 670 = .ok (.iconst 1, 1) := by decide +kernel
theorem dL_law_671 : decode cL_law 671 = .ok (.if_icmp .ne 14, 3) := by decide +kernel
theorem dL_law_674 : decode cL_law 674 = .ok (.aload_n 1, 1) := by decide +kernel
theorem dL_law_675 : decode cL_law 675 = .ok (.invokevirtual 35, 3) := by decide +kernel
theorem dL_law_678 : decode cL_law 678 = .ok (.iload 10, 2) := by decide +kernel
theorem dL_law_680 : decode cL_law 680 = .ok (.if_icmp .eq 5, 3) := by decide +kernel
theorem dL_law_683 : decode cL_law 683 = .ok (.iconst 0, 1) := by decide +kernel
theorem dL_law_684 : decode cL_law 684 = .ok (.ireturn, 1) := by decide +kernel
theorem dL_law_685 : decode cL_law 685 = .ok (.iinc 8 1, 3) := by decide +kernel
theorem dL_law_688 : decode cL_law 688 = .ok (.goto (-56), 3) := by decide +kernel
theorem dL_law_691 : decode cL_law 691 = .ok (.aload_n 0, 1) := by decide +kernel
theorem dL_law_692 : decode cL_law 692 = .ok (.bipush 46, 2) := by decide +kernel
theorem dL_law_694 : decode cL_law 694 = .ok (.invokestatic 9, 3) := by decide +kernel
theorem dL_law_697 : decode cL_law 697 = .ok (.iload_n 2, 1) := by decide +kernel
theorem dL_law_698 : decode cL_law 698 = .ok (.invokestatic 15, 3) := by decide +kernel
theorem dL_law_701 : decode cL_law 701 = .ok (.istore 8, 2) := by decide +kernel
theorem dL_law_703 : decode cL_law 703 = .ok (.aload_n 0, 1) := by decide +kernel
theorem dL_law_704 : decode cL_law 704 = .ok (.bipush 47, 2) := by decide +kernel
theorem dL_law_706 : decode cL_law 706 = .ok (.invokestatic 9, 3) := by decide +kernel
theorem dL_law_709 : decode cL_law 709 = .ok (.iload_n 3, 1) := by decide +kernel
theorem dL_law_710 : decode cL_law 710 = .ok (.invokestatic 15, 3) := by decide +kernel
theorem dL_law_713 : decode cL_law 713 = .ok (.istore 9, 2) := by decide +kernel
theorem dL_law_715 : decode cL_law 715 = .ok (.aload_n 1, 1) := by decide +kernel
theorem dL_law_716 : decode cL_law 716 = .ok (.iconst 2, 1) := by decide +kernel
theorem dL_law_717 : decode cL_law 717 = .ok (.iconst 0, 1) := by decide +kernel
theorem dL_law_718 : decode cL_law 718 = .ok (.iload 8, 2) := by decide +kernel
theorem dL_law_720 : decode cL_law 720 = .ok (.iload 9, 2) := by decide +kernel
theorem dL_law_722 : decode cL_law 722 = .ok (.iconst 1, 1) := by decide +kernel
theorem dL_law_723 : decode cL_law 723 = .ok (.iconst 1, 1) := by decide +kernel
theorem dL_law_724 : decode cL_law 724 = .ok (.invokevirtual 93, 3) := by decide +kernel
theorem dL_law_727 : decode cL_law 727 = .ok (.iconst 4, 1) := by decide +kernel
theorem dL_law_728 : decode cL_law 728 = .ok (.if_icmp .ne 52, 3) := by decide +kernel
theorem dL_law_731 : decode cL_law 731 = .ok (.aload_n 1, 1) := by decide +kernel
theorem dL_law_732 : decode cL_law 732 = .ok (.iconst 2, 1) := by decide +kernel
theorem dL_law_733 : decode cL_law 733 = .ok (.invokevirtual 97, 3) := by decide +kernel
theorem dL_law_736 : decode cL_law 736 = .ok (.iconst 1, 1) := by decide +kernel
theorem dL_law_737 : decode cL_law 737 = .ok (.if_icmp .ne 43, 3) := by decide +kernel
theorem dL_law_740 : decode cL_law 740 = .ok (.aload_n 1, 1) := by decide +kernel
theorem dL_law_741 : decode cL_law 741 = .ok (.invokevirtual 35, 3) := by decide +kernel
theorem dL_law_744 : decode cL_law 744 = .ok (.ifCond .ne 36, 3) := by decide +kernel
theorem dL_law_747 : decode cL_law 747 = .ok (.aload_n 1, 1) := by decide +kernel
theorem dL_law_748 : decode cL_law 748 = .ok (.iconst 2, 1) := by decide +kernel
theorem dL_law_749 : decode cL_law 749 = .ok (.invokevirtual 100, 3) := by decide +kernel
theorem dL_law_752 : decode cL_law 752 = .ok (.iconst 1, 1) := by decide +kernel
theorem dL_law_753 : decode cL_law 753 = .ok (.if_icmp .ne 27, 3) := by decide +kernel
theorem dL_law_756 : decode cL_law 756 = .ok (.aload_n 1, 1) := by decide +kernel
theorem dL_law_757 : decode cL_law 757 = .ok (.invokevirtual 35, 3) := by decide +kernel
theorem dL_law_760 : decode cL_law 760 = .ok (.ifCond .ne 20, 3) := by decide +kernel
theorem dL_law_763 : decode cL_law 763 = .ok (.aload_n 1, 1) := by decide +kernel
theorem dL_law_764 : decode cL_law 764 = .ok (.iconst 2, 1) := by decide +kernel
theorem dL_law_765 : decode cL_law 765 = .ok (.iconst 2, 1) := by decide +kernel
theorem dL_law_766 : decode cL_law 766 = .ok (.invokevirtual 103, 3) := by decide +kernel
theorem dL_law_769 : decode cL_law 769 = .ok (.iconst 1, 1) := by decide +kernel
theorem dL_law_770 : decode cL_law 770 = .ok (.if_icmp .ne 10, 3) := by decide +kernel
theorem dL_law_773 : decode cL_law 773 = .ok (.aload_n 1, 1) := by decide +kernel
theorem dL_law_774 : decode cL_law 774 = .ok (.invokevirtual 35, 3) := by decide +kernel
theorem dL_law_777 : decode cL_law 777 = .ok (.ifCond .eq 5, 3) := by decide +kernel
theorem dL_law_780 : decode cL_law 780 = .ok (.iconst 0, 1) := by decide +kernel
theorem dL_law_781 : decode cL_law 781 = .ok (.ireturn, 1) := by decide +kernel
theorem dL_law_782 : decode cL_law 782 = .ok (.aload_n 1, 1) := by decide +kernel
theorem dL_law_783 : decode cL_law 783 = .ok (.iconst 2, 1) := by decide +kernel
theorem dL_law_784 : decode cL_law 784 = .ok (.iconst 4, 1) := by decide +kernel
theorem dL_law_785 : decode cL_law 785 = .ok (.invokestatic 75, 3) := by decide +kernel
theorem dL_law_788 : decode cL_law 788 = .ok (.istore 10, 2) := by decide +kernel
theorem dL_law_790 : decode cL_law 790 = .ok (.aload_n 1, 1) := by decide +kernel
theorem dL_law_791 : decode cL_law 791 = .ok (.iconst 2, 1) := by decide +kernel
theorem dL_law_792 : decode cL_law 792 = .ok (.iconst 3, 1) := by decide +kernel
theorem dL_law_793 : decode cL_law 793 = .ok (.invokevirtual 78, 3) := by decide +kernel
theorem dL_law_796 : decode cL_law 796 = .ok (.iconst 3, 1) := by decide +kernel
theorem dL_law_797 : decode cL_law 797 = .ok (.if_icmp .ne 30, 3) := by decide +kernel
theorem dL_law_800 : decode cL_law 800 = .ok (.aload_n 1, 1) := by decide +kernel
theorem dL_law_801 : decode cL_law 801 = .ok (.iconst 2, 1) := by decide +kernel
theorem dL_law_802 : decode cL_law 802 = .ok (.iconst 4, 1) := by decide +kernel
theorem dL_law_803 : decode cL_law 803 = .ok (.invokestatic 75, 3) := by decide +kernel
theorem dL_law_806 : decode cL_law 806 = .ok (.iload 10, 2) := by decide +kernel
theorem dL_law_808 : decode cL_law 808 = .ok (.if_icmp .ne 19, 3) := by decide +kernel
theorem dL_law_811 : decode cL_law 811 = .ok (.aload_n 1, 1) := by decide +kernel
theorem dL_law_812 : decode cL_law 812 = .ok (.iconst 2, 1) := by decide +kernel
theorem dL_law_813 : decode cL_law 813 = .ok (.invokevirtual 97, 3) := by decide +kernel
theorem dL_law_816 : decode cL_law 816 = .ok (.iconst 1, 1) := by decide +kernel
theorem dL_law_817 : decode cL_law 817 = .ok (.if_icmp .ne 10, 3) := by decide +kernel
theorem dL_law_820 : decode cL_law 820 = .ok (.aload_n 1, 1) := by decide +kernel
theorem dL_law_821 : decode cL_law 821 = .ok (.invokevirtual 35, 3) := by decide +kernel
theorem dL_law_824 : decode cL_law 824 = .ok (.ifCond .eq 5, 3) := by decide +kernel
theorem dL_law_827 : decode cL_law 827 = .ok (.iconst 0, 1) := by decide +kernel
theorem dL_law_828 : decode cL_law 828 = .ok (.ireturn, 1) := by decide +kernel
theorem dL_law_829 : decode cL_law 829 = .ok (.aload_n 1, 1) := by decide +kernel
theorem dL_law_830 : decode cL_law 830 = .ok (.iconst 0, 1) := by decide +kernel
theorem dL_law_831 : decode cL_law 831 = .ok (.iload 9, 2) := by decide +kernel
theorem dL_law_833 : decode cL_law 833 = .ok (.iload_n 2, 1) := by decide +kernel
theorem dL_law_834 : decode cL_law 834 = .ok (.imul, 1) := by decide +kernel
theorem dL_law_835 : decode cL_law 835 = .ok (.iload 8, 2) := by decide +kernel
theorem dL_law_837 : decode cL_law 837 = .ok (.iadd, 1) := by decide +kernel
theorem dL_law_838 : decode cL_law 838 = .ok (.iconst 1, 1) := by decide +kernel
theorem dL_law_839 : decode cL_law 839 = .ok (.invokestatic 81, 3) := by decide +kernel
theorem dL_law_842 : decode cL_law 842 = .ok (.istore 11, 2) := by decide +kernel
theorem dL_law_844 : decode cL_law 844 = .ok (.aload_n 1, 1) := by decide +kernel
theorem dL_law_845 : decode cL_law 845 = .ok (.iconst 0, 1) := by decide +kernel
theorem dL_law_846 : decode cL_law 846 = .ok (.iload 9, 2) := by decide +kernel
theorem dL_law_848 : decode cL_law 848 = .ok (.iload_n 2, 1) := by decide +kernel
theorem dL_law_849 : decode cL_law 849 = .ok (.imul, 1) := by decide +kernel
theorem dL_law_850 : decode cL_law 850 = .ok (.iload 8, 2) := by decide +kernel
theorem dL_law_852 : decode cL_law 852 = .ok (.iadd, 1) := by decide +kernel
theorem dL_law_853 : decode cL_law 853 = .ok (.iload 11, 2) := by decide +kernel
theorem dL_law_855 : decode cL_law 855 = .ok (.bipush 11, 2) := by decide +kernel
theorem dL_law_857 : decode cL_law 857 = .ok (.iadd, 1) := by decide +kernel
theorem dL_law_858 : decode cL_law 858 = .ok (.invokevirtual 25, 3) := by decide +kernel
theorem dL_law_861 : decode cL_law 861 = .ok (.iload 11, 2) := by decide +kernel
theorem dL_law_863 : decode cL_law 863 = .ok (.if_icmp .ne 62, 3) := by decide +kernel
theorem dL_law_866 : decode cL_law 866 = .ok (.aload_n 1, 1) := by decide +kernel
theorem dL_law_867 : decode cL_law 867 = .ok (.iconst 2, 1) := by decide +kernel
theorem dL_law_868 : decode cL_law 868 = .ok (.invokevirtual 100, 3) := by decide +kernel
theorem dL_law_871 : decode cL_law 871 = .ok (.iconst 1, 1) := by decide +kernel
theorem dL_law_872 : decode cL_law 872 = .ok (.if_icmp .ne 53, 3) := by decide +kernel
theorem dL_law_875 : decode cL_law 875 = .ok (.aload_n 1, 1) := by decide +kernel
theorem dL_law_876 : decode cL_law 876 = .ok (.invokevirtual 35, 3) := by decide +kernel
theorem dL_law_879 : decode cL_law 879 = .ok (.bipush 44, 2) := by decide +kernel
theorem dL_law_881 : decode cL_law 881 = .ok (.if_icmp .ne 44, 3) := by decide +kernel
theorem dL_law_884 : decode cL_law 884 = .ok (.aload_n 1, 1) := by decide +kernel
theorem dL_law_885 : decode cL_law 885 = .ok (.iconst 2, 1) := by decide +kernel
theorem dL_law_886 : decode cL_law 886 = .ok (.invokevirtual 97, 3) := by decide +kernel
theorem dL_law_889 : decode cL_law 889 = .ok (.iconst 1, 1) := by decide +kernel
theorem dL_law_890 : decode cL_law 890 = .ok (.if_icmp .ne 35, 3) := by decide +kernel
theorem dL_law_893 : decode cL_law 893 = .ok (.aload_n 1, 1) := by decide +kernel
theorem dL_law_894 : decode cL_law 894 = .ok (.invokevirtual 35, 3) := by decide +kernel
theorem dL_law_897 : decode cL_law 897 = .ok (.ifCond .ne 28, 3) := by decide +kernel
theorem dL_law_900 : decode cL_law 900 = .ok (.aload_n 1, 1) := by decide +kernel
theorem dL_law_901 : decode cL_law 901 = .ok (.iconst 0, 1) := by decide +kernel
theorem dL_law_902 : decode cL_law 902 = .ok (.iload 9, 2) := by decide +kernel
theorem dL_law_904 : decode cL_law 904 = .ok (.iload_n 2, 1) := by decide +kernel
theorem dL_law_905 : decode cL_law 905 = .ok (.imul, 1) := by decide +kernel
theorem dL_law_906 : decode cL_law 906 = .ok (.iload 8, 2) := by decide +kernel
theorem dL_law_908 : decode cL_law 908 = .ok (.iadd, 1) := by decide +kernel
theorem dL_law_909 : decode cL_law 909 = .ok (.iconst 1, 1) := by decide +kernel
theorem dL_law_910 : decode cL_law 910 = .ok (.invokestatic 81, 3) := by decide +kernel
theorem dL_law_913 : decode cL_law 913 = .ok (.iload 11, 2) := by decide +kernel
theorem dL_law_915 : decode cL_law 915 = .ok (.bipush 11, 2) := by decide +kernel
theorem dL_law_917 : decode cL_law 917 = .ok (.iadd, 1) := by decide +kernel
theorem dL_law_918 : decode cL_law 918 = .ok (.if_icmp .ne 7, 3) := by decide +kernel
theorem dL_law_921 : decode cL_law 921 = .ok (.iconst 1, 1) := by decide +kernel
theorem dL_law_922 : decode cL_law 922 = .ok (.goto 4, 3) := by decide +kernel
theorem dL_law_925 : decode cL_law 925 = .ok (.iconst 0, 1) := by decide +kernel
theorem dL_law_926 : decode cL_law 926 = .ok (.ireturn, 1) := by decide +kernel
noncomputable def L_L_law_368 (b0 : Nat) (l0 : Nat) (f0 : Nat → Int32) (x61 : Int32) (x62 : Int32) (x63 : Int32) (x64 : Int32) (x65 : Int32) (x66 : Int32) (x67 : Int32) : Nat → Int32 → qM → (qM → Option (Int32 × qM)) → Option (Int32 × qM)
  | 0, _, _, _ => none
  | n + 1, x73, u46, e1 => if x64 ≤ x73 then e1 u46 else q_bd (f_L_at 0 x73 1 u46) (fun (x74 : Int32) (u47 : qM) => if x74 < 0 then none else if 100000 < x74 then none else q_bd (f_L_at 0 x73 4 u47) (fun (x75 : Int32) (u48 : qM) => if (0 : Int32) ≤ x75 then q_lt (x73 + 1) (fun (x76 : Int32) => L_L_law_368 b0 l0 f0 x61 x62 x63 x64 x65 x66 x67 n x76 u48 e1) else none))
noncomputable def L_L_law_308 (b0 : Nat) (l0 : Nat) (f0 : Nat → Int32) (x61 : Int32) (x62 : Int32) (x63 : Int32) (x64 : Int32) (x65 : Int32) (x66 : Int32) : Nat → Int32 → qM → (qM → Option (Int32 × qM)) → Option (Int32 × qM)
  | 0, _, _, _ => none
  | n + 1, x67, u40, e1 => if 12 ≤ x67 then e1 u40 else q_bd (f_X10_step 0 1 u40) (fun (x68 : Int32) (u41 : qM) => if x68 = 1 then q_bd (f_L_told 0 4 u41) (fun (x69 : Int32) (u42 : qM) => q_bd (f_L_told 0 5 u42) (fun (x70 : Int32) (u43 : qM) => q_bd (f_L_told 0 6 u43) (fun (x71 : Int32) (u44 : qM) => if ((x69 - x70) - x71) = x65 then q_bd (f_L_told 0 8 u44) (fun (x72 : Int32) (u45 : qM) => if x72 = x66 then L_L_law_368 b0 l0 f0 x61 x62 x63 x64 x65 x66 x67 q_fu 0 u45 (fun u49 => q_lt (x67 + 1) (fun (x77 : Int32) => L_L_law_308 b0 l0 f0 x61 x62 x63 x64 x65 x66 n x77 u49 e1)) else none) else none))) else none)
noncomputable def L_L_law_439 (b0 : Nat) (l0 : Nat) (f0 : Nat → Int32) (x83 : Int32) (x84 : Int32) (x85 : Int32) (x86 : Int32) : Nat → Int32 → qM → (qM → Option (Int32 × qM)) → Option (Int32 × qM)
  | 0, _, _, _ => none
  | n + 1, x87, u54, e1 => if x86 ≤ x87 then e1 u54 else q_bd (f_L_at 0 x87 1 u54) (fun (x88 : Int32) (u55 : qM) => q_bd (f_L_at 1 x87 1 u55) (fun (x89 : Int32) (u56 : qM) => if x88 = x89 then q_bd (f_L_at 0 x87 4 u56) (fun (x90 : Int32) (u57 : qM) => q_bd (f_L_at 1 x87 4 u57) (fun (x91 : Int32) (u58 : qM) => if x90 = x91 then q_lt (x87 + 1) (fun (x92 : Int32) => L_L_law_439 b0 l0 f0 x83 x84 x85 x86 n x92 u58 e1) else none)) else none))
noncomputable def C_L_law_900 (b0 l0 : Nat) (f0 : Nat → Int32) (x152 : Int32) (x153 : Int32) (x154 : Int32) (x155 : Int32) (u95 : qM) : Option (Int32 × qM) :=
  q_bd (f_L_at 0 ((x154 * x152) + x153) 1 u95) (fun (x156 : Int32) (u96 : qM) => if x156 = (x155 + 11) then some (1, u96) else none)
noncomputable def C_L_law_884 (b0 l0 : Nat) (f0 : Nat → Int32) (x146 : Int32) (x147 : Int32) (x148 : Int32) (x149 : Int32) (u92 : qM) : Option (Int32 × qM) :=
  q_bd (f_X10_up 2 u92) (fun (x150 : Int32) (u93 : qM) => if x150 = 1 then q_bd (f_X10_asked  u93) (fun (x151 : Int32) (u94 : qM) => if x151 = 0 then C_L_law_900 b0 l0 f0 x146 x147 x148 x149 u94 else none) else none)
noncomputable def C_L_law_866 (b0 l0 : Nat) (f0 : Nat → Int32) (x140 : Int32) (x141 : Int32) (x142 : Int32) (x143 : Int32) (u89 : qM) : Option (Int32 × qM) :=
  q_bd (f_X10_down 2 u89) (fun (x144 : Int32) (u90 : qM) => if x144 = 1 then q_bd (f_X10_asked  u90) (fun (x145 : Int32) (u91 : qM) => if x145 = 44 then C_L_law_884 b0 l0 f0 x140 x141 x142 x143 u91 else none) else none)
noncomputable def C_L_law_829 (b0 l0 : Nat) (f0 : Nat → Int32) (x134 : Int32) (x135 : Int32) (x136 : Int32) (u84 : qM) : Option (Int32 × qM) :=
  q_bd (f_L_at 0 ((x136 * x134) + x135) 1 u84) (fun (x137 : Int32) (u85 : qM) => q_bd (f_X10_water 0 ((x136 * x134) + x135) (x137 + 11) u85) (fun (x138 : Int32) (u86 : qM) => q_jn (fun (x139 : Int32) (u87 : qM) => q_ck (decide (x139 = 1)) (some (1, u87))) (fun j3 => q_jn (fun  (u88 : qM) => j3 0 u88) (fun j4 => if x138 = x137 then C_L_law_866 b0 l0 f0 x134 x135 x136 x137 u86 else j4 u86))))
noncomputable def C_L_law_811 (b0 l0 : Nat) (f0 : Nat → Int32) (x129 : Int32) (x130 : Int32) (x131 : Int32) (u81 : qM) : Option (Int32 × qM) :=
  q_bd (f_X10_up 2 u81) (fun (x132 : Int32) (u82 : qM) => if x132 = 1 then q_bd (f_X10_asked  u82) (fun (x133 : Int32) (u83 : qM) => if x133 = 0 then C_L_law_829 b0 l0 f0 x129 x130 x131 u83 else none) else none)
noncomputable def C_L_law_800 (b0 l0 : Nat) (f0 : Nat → Int32) (x124 : Int32) (x125 : Int32) (x126 : Int32) (x127 : Int32) (u79 : qM) : Option (Int32 × qM) :=
  q_bd (f_L_told 2 4 u79) (fun (x128 : Int32) (u80 : qM) => if x128 = x127 then C_L_law_811 b0 l0 f0 x124 x125 x126 u80 else none)
noncomputable def C_L_law_782 (b0 l0 : Nat) (f0 : Nat → Int32) (x119 : Int32) (x120 : Int32) (x121 : Int32) (u76 : qM) : Option (Int32 × qM) :=
  q_bd (f_L_told 2 4 u76) (fun (x122 : Int32) (u77 : qM) => q_bd (f_X10_step 2 3 u77) (fun (x123 : Int32) (u78 : qM) => if x123 = 3 then C_L_law_800 b0 l0 f0 x119 x120 x121 x122 u78 else none))
noncomputable def C_L_law_763 (b0 l0 : Nat) (f0 : Nat → Int32) (x114 : Int32) (x115 : Int32) (x116 : Int32) (u73 : qM) : Option (Int32 × qM) :=
  q_bd (f_X10_mark 2 2 u73) (fun (x117 : Int32) (u74 : qM) => if x117 = 1 then q_bd (f_X10_asked  u74) (fun (x118 : Int32) (u75 : qM) => if x118 = 0 then C_L_law_782 b0 l0 f0 x114 x115 x116 u75 else none) else none)
noncomputable def C_L_law_747 (b0 l0 : Nat) (f0 : Nat → Int32) (x109 : Int32) (x110 : Int32) (x111 : Int32) (u70 : qM) : Option (Int32 × qM) :=
  q_bd (f_X10_down 2 u70) (fun (x112 : Int32) (u71 : qM) => if x112 = 1 then q_bd (f_X10_asked  u71) (fun (x113 : Int32) (u72 : qM) => if x113 = 0 then C_L_law_763 b0 l0 f0 x109 x110 x111 u72 else none) else none)
noncomputable def C_L_law_731 (b0 l0 : Nat) (f0 : Nat → Int32) (x104 : Int32) (x105 : Int32) (x106 : Int32) (u67 : qM) : Option (Int32 × qM) :=
  q_bd (f_X10_up 2 u67) (fun (x107 : Int32) (u68 : qM) => if x107 = 1 then q_bd (f_X10_asked  u68) (fun (x108 : Int32) (u69 : qM) => if x108 = 0 then C_L_law_747 b0 l0 f0 x104 x105 x106 u69 else none) else none)
noncomputable def C_L_law_691 (b0 l0 : Nat) (f0 : Nat → Int32) (x97 : Int32) (x98 : Int32) (u61 : qM) : Option (Int32 × qM) :=
  q_bd (f_L_cell b0 l0 f0 46 u61) (fun (x99 : Int32) (u62 : qM) => q_bd (f_L_low x99 x97 u62) (fun (x100 : Int32) (u63 : qM) => q_bd (f_L_cell b0 l0 f0 47 u63) (fun (x101 : Int32) (u64 : qM) => q_bd (f_L_low x101 x98 u64) (fun (x102 : Int32) (u65 : qM) => q_bd (f_X10_nest 2 0 x100 x102 1 1 u65) (fun (x103 : Int32) (u66 : qM) => if x103 = 4 then C_L_law_731 b0 l0 f0 x97 x100 x102 u66 else none)))))
noncomputable def L_L_law_542 (b0 : Nat) (l0 : Nat) (f0 : Nat → Int32) (x161 : Int32) (x162 : Int32) (x163 : Int32) (x164 : Int32) : Nat → Int32 → qM → (qM → Option (Int32 × qM)) → Option (Int32 × qM)
  | 0, _, _, _ => none
  | n + 1, x167, u103, e1 => if x163 ≤ x167 then e1 u103 else q_ck (q_nz x161) (q_ck (q_nz x161) (q_lt (((((x167 / x161) * x161) + x161) - 1) - (x167 - x167 / x161 * x161)) (fun (x168 : Int32) => q_bd (f_L_at 0 x167 1 u103) (fun (x169 : Int32) (u104 : qM) => q_bd (f_L_at 1 x168 1 u104) (fun (x170 : Int32) (u105 : qM) => if x169 = x170 then q_bd (f_L_at 0 x167 4 u105) (fun (x171 : Int32) (u106 : qM) => q_bd (f_L_at 1 x168 4 u106) (fun (x172 : Int32) (u107 : qM) => if x171 = x172 then q_lt (x167 + 1) (fun (x173 : Int32) => L_L_law_542 b0 l0 f0 x161 x162 x163 x164 n x173 u107 e1) else none)) else none)))))
noncomputable def L_L_law_511 (b0 : Nat) (l0 : Nat) (f0 : Nat → Int32) (x161 : Int32) (x162 : Int32) (x163 : Int32) : Nat → Int32 → qM → (qM → Option (Int32 × qM)) → Option (Int32 × qM)
  | 0, _, _, _ => none
  | n + 1, x164, u100, e1 => if 5 ≤ x164 then e1 u100 else q_bd (f_X10_step 0 1 u100) (fun (x165 : Int32) (u101 : qM) => if x165 = 1 then q_bd (f_X10_step 1 1 u101) (fun (x166 : Int32) (u102 : qM) => if x166 = 1 then L_L_law_542 b0 l0 f0 x161 x162 x163 x164 q_fu 0 u102 (fun u108 => q_lt (x164 + 1) (fun (x174 : Int32) => L_L_law_511 b0 l0 f0 x161 x162 x163 n x174 u108 e1)) else none) else none)
noncomputable def L_L_law_632 (b0 : Nat) (l0 : Nat) (f0 : Nat → Int32) (x179 : Int32) (x180 : Int32) (x181 : Int32) : Nat → Int32 → qM → (qM → Option (Int32 × qM)) → Option (Int32 × qM)
  | 0, _, _, _ => none
  | n + 1, x182, u113, e1 => if (2 * x181) ≤ x182 then e1 u113 else q_bd (f_X10_flow 0 x182 u113) (fun (x183 : Int32) (u114 : qM) => q_bd (f_X10_asked  u114) (fun (x184 : Int32) (u115 : qM) => q_bd (f_X10_flow 1 x182 u115) (fun (x185 : Int32) (u116 : qM) => if x183 = x185 then q_jn (fun  (u117 : qM) => q_lt (x182 + 1) (fun (x186 : Int32) => L_L_law_632 b0 l0 f0 x179 x180 x181 n x186 u117 e1)) (fun j5 => if x183 = 1 then q_bd (f_X10_asked  u116) (fun (x187 : Int32) (u118 : qM) => if x187 = x184 then j5 u118 else none) else j5 u116) else none)))
noncomputable def C_L_law_629 (b0 l0 : Nat) (f0 : Nat → Int32) (x179 : Int32) (x180 : Int32) (x181 : Int32) (u112 : qM) : Option (Int32 × qM) :=
  L_L_law_632 b0 l0 f0 x179 x180 x181 q_fu 0 u112 (fun u119 => C_L_law_691 b0 l0 f0 x179 x180 u119)
noncomputable def C_L_law_618 (b0 l0 : Nat) (f0 : Nat → Int32) (x175 : Int32) (x176 : Int32) (x177 : Int32) (u110 : qM) : Option (Int32 × qM) :=
  q_bd (f_X10_mirror 1 u110) (fun (x178 : Int32) (u111 : qM) => if x178 = 1 then C_L_law_629 b0 l0 f0 x175 x176 x177 u111 else none)
noncomputable def C_L_law_508 (b0 l0 : Nat) (f0 : Nat → Int32) (x161 : Int32) (x162 : Int32) (x163 : Int32) (u99 : qM) : Option (Int32 × qM) :=
  L_L_law_511 b0 l0 f0 x161 x162 x163 q_fu 0 u99 (fun u109 => C_L_law_618 b0 l0 f0 x161 x162 x163 u109)
noncomputable def C_L_law_497 (b0 l0 : Nat) (f0 : Nat → Int32) (x157 : Int32) (x158 : Int32) (x159 : Int32) (u97 : qM) : Option (Int32 × qM) :=
  q_bd (f_X10_mirror 1 u97) (fun (x160 : Int32) (u98 : qM) => if x160 = 1 then C_L_law_508 b0 l0 f0 x157 x158 x159 u98 else none)
noncomputable def C_L_law_492 (b0 l0 : Nat) (f0 : Nat → Int32) (x93 : Int32) (x94 : Int32) (x95 : Int32) (x96 : Int32) (u60 : qM) : Option (Int32 × qM) :=
  if x95 = 0 then C_L_law_497 b0 l0 f0 x93 x94 x96 u60 else C_L_law_691 b0 l0 f0 x93 x94 u60
noncomputable def C_L_law_436 (b0 l0 : Nat) (f0 : Nat → Int32) (x83 : Int32) (x84 : Int32) (x85 : Int32) (x86 : Int32) (u53 : qM) : Option (Int32 × qM) :=
  L_L_law_439 b0 l0 f0 x83 x84 x85 x86 q_fu 0 u53 (fun u59 => C_L_law_492 b0 l0 f0 x83 x84 x85 x86 u59)
noncomputable def C_L_law_422 (b0 l0 : Nat) (f0 : Nat → Int32) (x78 : Int32) (x79 : Int32) (x80 : Int32) (x81 : Int32) (u51 : qM) : Option (Int32 × qM) :=
  q_bd (f_X10_step 1 12 u51) (fun (x82 : Int32) (u52 : qM) => if x82 = 12 then C_L_law_436 b0 l0 f0 x78 x79 x80 x81 u52 else none)
noncomputable def C_L_law_288 (b0 l0 : Nat) (f0 : Nat → Int32) (x61 : Int32) (x62 : Int32) (x63 : Int32) (x64 : Int32) (u37 : qM) : Option (Int32 × qM) :=
  q_bd (f_L_told 0 4 u37) (fun (x65 : Int32) (u38 : qM) => q_bd (f_L_told 0 8 u38) (fun (x66 : Int32) (u39 : qM) => L_L_law_308 b0 l0 f0 x61 x62 x63 x64 x65 x66 q_fu 0 u39 (fun u50 => C_L_law_422 b0 l0 f0 x61 x62 x63 x64 u50)))
noncomputable def C_L_law_275 (b0 l0 : Nat) (f0 : Nat → Int32) (x56 : Int32) (x57 : Int32) (x58 : Int32) (x59 : Int32) (u35 : qM) : Option (Int32 × qM) :=
  q_bd (f_X10_keep 0 1 u35) (fun (x60 : Int32) (u36 : qM) => if x60 = x59 then C_L_law_288 b0 l0 f0 x56 x57 x58 x59 u36 else none)
noncomputable def C_L_law_248 (b0 l0 : Nat) (f0 : Nat → Int32) (x48 : Int32) (x49 : Int32) (x50 : Int32) (x51 : Int32) (u30 : qM) : Option (Int32 × qM) :=
  q_bd (f_L_cell b0 l0 f0 45 u30) (fun (x52 : Int32) (u31 : qM) => q_bd (f_L_low x52 2 u31) (fun (x53 : Int32) (u32 : qM) => q_jn (fun (x54 : Int32) (u33 : qM) => q_bd (f_X10_gate 0 0 x54 u33) (fun (x55 : Int32) (u34 : qM) => if x55 = 0 then C_L_law_275 b0 l0 f0 x48 x49 x50 x51 u34 else none)) (fun j2 => if x53 = 0 then j2 1 u32 else j2 0 u32)))
noncomputable def C_L_law_235 (b0 l0 : Nat) (f0 : Nat → Int32) (x205 : Int32) (x206 : Int32) (x207 : Int32) (x208 : Int32) (u128 : qM) : Option (Int32 × qM) :=
  q_bd (f_X10_tide 0 1 5 u128) (fun (x209 : Int32) (u129 : qM) => if x209 = 1 then C_L_law_248 b0 l0 f0 x205 x206 x207 x208 u129 else none)
noncomputable def C_L_law_223 (b0 l0 : Nat) (f0 : Nat → Int32) (x200 : Int32) (x201 : Int32) (x202 : Int32) (x203 : Int32) (u126 : qM) : Option (Int32 × qM) :=
  q_bd (f_X10_lay 1 1 30 u126) (fun (x204 : Int32) (u127 : qM) => if x204 = 1 then C_L_law_235 b0 l0 f0 x200 x201 x202 x203 u127 else none)
noncomputable def C_L_law_202 (b0 l0 : Nat) (f0 : Nat → Int32) (x193 : Int32) (x194 : Int32) (x195 : Int32) (x196 : Int32) (u122 : qM) : Option (Int32 × qM) :=
  q_bd (f_L_cell b0 l0 f0 9 u122) (fun (x197 : Int32) (u123 : qM) => q_bd (f_L_low x197 90 u123) (fun (x198 : Int32) (u124 : qM) => q_bd (f_X10_lay 1 0 x198 u124) (fun (x199 : Int32) (u125 : qM) => if x199 = 1 then C_L_law_223 b0 l0 f0 x193 x194 x195 x196 u125 else none)))
noncomputable def C_L_law_192 (b0 l0 : Nat) (f0 : Nat → Int32) (x188 : Int32) (x189 : Int32) (x190 : Int32) (x191 : Int32) (u120 : qM) : Option (Int32 × qM) :=
  q_bd (f_X10_row 1 3 u120) (fun (x192 : Int32) (u121 : qM) => if x192 = 3 then C_L_law_202 b0 l0 f0 x188 x189 x190 x191 u121 else none)
noncomputable def C_L_law_187 (b0 l0 : Nat) (f0 : Nat → Int32) (x44 : Int32) (x45 : Int32) (x46 : Int32) (x47 : Int32) (u29 : qM) : Option (Int32 × qM) :=
  if x46 ≤ 0 then C_L_law_248 b0 l0 f0 x44 x45 x46 x47 u29 else C_L_law_192 b0 l0 f0 x44 x45 x46 x47 u29
noncomputable def C_L_law_154 (b0 l0 : Nat) (f0 : Nat → Int32) (x35 : Int32) (x36 : Int32) (x37 : Int32) (x38 : Int32) (u23 : qM) : Option (Int32 × qM) :=
  q_bd (f_L_cell b0 l0 f0 7 u23) (fun (x39 : Int32) (u24 : qM) => q_bd (f_L_low x39 x38 u24) (fun (x40 : Int32) (u25 : qM) => q_bd (f_L_cell b0 l0 f0 8 u25) (fun (x41 : Int32) (u26 : qM) => q_bd (f_L_low x41 40 u26) (fun (x42 : Int32) (u27 : qM) => q_bd (f_X10_river 0 x40 x42 u27) (fun (x43 : Int32) (u28 : qM) => if x43 = 1 then C_L_law_187 b0 l0 f0 x35 x36 x37 x38 u28 else none)))))
noncomputable def C_L_law_118 (b0 l0 : Nat) (f0 : Nat → Int32) (x26 : Int32) (x27 : Int32) (x28 : Int32) (x29 : Int32) (u17 : qM) : Option (Int32 × qM) :=
  q_bd (f_L_cell b0 l0 f0 5 u17) (fun (x30 : Int32) (u18 : qM) => q_bd (f_L_low x30 31 u18) (fun (x31 : Int32) (u19 : qM) => q_bd (f_L_cell b0 l0 f0 6 u19) (fun (x32 : Int32) (u20 : qM) => q_bd (f_L_low x32 31 u20) (fun (x33 : Int32) (u21 : qM) => q_bd (f_X10_wind 0 (x31 - 15) (x33 - 15) u21) (fun (x34 : Int32) (u22 : qM) => if x34 = 1 then C_L_law_154 b0 l0 f0 x26 x27 x28 x29 u22 else none)))))
noncomputable def C_L_law_85 (b0 l0 : Nat) (f0 : Nat → Int32) (x17 : Int32) (x18 : Int32) (x19 : Int32) (x20 : Int32) (u11 : qM) : Option (Int32 × qM) :=
  q_bd (f_L_cell b0 l0 f0 3 u11) (fun (x21 : Int32) (u12 : qM) => q_bd (f_L_low x21 8 u12) (fun (x22 : Int32) (u13 : qM) => q_bd (f_L_cell b0 l0 f0 4 u13) (fun (x23 : Int32) (u14 : qM) => q_bd (f_L_low x23 40 u14) (fun (x24 : Int32) (u15 : qM) => q_bd (f_X10_law 0 (1 + x22) (2 + x24) u15) (fun (x25 : Int32) (u16 : qM) => if x25 = 1 then C_L_law_118 b0 l0 f0 x17 x18 x19 x20 u16 else none)))))
noncomputable def C_L_law_72 (b0 l0 : Nat) (f0 : Nat → Int32) (x12 : Int32) (x13 : Int32) (x14 : Int32) (x15 : Int32) (u9 : qM) : Option (Int32 × qM) :=
  q_bd (f_L_sea b0 l0 f0 0 10 x15 u9) (fun (x16 : Int32) (u10 : qM) => if x16 = 0 then none else C_L_law_85 b0 l0 f0 x12 x13 x14 x15 u10)
noncomputable def C_L_law_8 (b0 l0 : Nat) (f0 : Nat → Int32) (u0 : qM) : Option (Int32 × qM) :=
  q_bd (f_L_cell b0 l0 f0 0 u0) (fun (x1 : Int32) (u1 : qM) => q_bd (f_L_low x1 5 u1) (fun (x2 : Int32) (u2 : qM) => q_lt (2 + x2) (fun (x3 : Int32) => q_bd (f_L_cell b0 l0 f0 1 u2) (fun (x4 : Int32) (u3 : qM) => q_bd (f_L_low x4 5 u3) (fun (x5 : Int32) (u4 : qM) => q_lt (1 + x5) (fun (x6 : Int32) => q_bd (f_L_cell b0 l0 f0 2 u4) (fun (x7 : Int32) (u5 : qM) => q_bd (f_L_low x7 3 u5) (fun (x8 : Int32) (u6 : qM) => q_lt (x3 * x6) (fun (x9 : Int32) => q_jn (fun (x10 : Int32) (u7 : qM) => q_bd (f_X10_board 0 x10 x3 x6 u7) (fun (x11 : Int32) (u8 : qM) => if x11 = x9 then C_L_law_72 b0 l0 f0 x3 x6 x8 x9 u8 else none)) (fun j1 => if x8 = 2 then j1 3 u6 else j1 x8 u6))))))))))
set_option maxRecDepth 100000 in
set_option maxHeartbeats 4000000 in
theorem TL_L_law_368 (l : Launch) (G : qG) (b0 : Nat) (l0 : Nat) (f0 : Nat → Int32) (x61 : Int32) (x62 : Int32) (x63 : Int32) (x64 : Int32) (x65 : Int32) (x66 : Int32) (x67 : Int32)  (e1 : qM → Option (Int32 × qM)) (he1 : ∀  (v : qM), qAW l G m_L_law (q_xl G b0 l0 f0) 416 [(0, .ref b0), (1, .ref (q_ad G 0 0)), (2, .int x61), (3, .int x62), (4, .int x63), (5, .int x64), (6, .int x65), (7, .int x66), (8, .int x67)] [] v (e1 v)) : ∀ (n : Nat) (x73 : Int32) (u46 : qM), qAW l G m_L_law (q_xl G b0 l0 f0) 368 [(0, .ref b0), (1, .ref (q_ad G 0 0)), (2, .int x61), (3, .int x62), (4, .int x63), (5, .int x64), (6, .int x65), (7, .int x66), (8, .int x67), (9, .int x73)] [] u46 (L_L_law_368 b0 l0 f0 x61 x62 x63 x64 x65 x66 x67 n x73 u46 e1) := by
  intro n
  induction n with
  | zero => intros; exact aw_none
  | succ n ih =>
    intro x73 u46
    unfold L_L_law_368
    refine aw_iload (i := 9) dL_law_368 370 rfl 9 rfl ?_
    refine aw_iload (i := 5) dL_law_370 372 rfl 5 rfl ?_
    refine aw_icmp_ge dL_law_372 375 rfl 416 rfl (fun h15 => ?_) (fun h15 => ?_)
    · exact aw_conv [0, 1, 2, 3, 4, 5, 6, 7, 8] rfl (he1 u46)
    · refine aw_aload_n (i := 1) dL_law_375 376 rfl rfl 1 rfl ?_
      refine aw_iconst (x := 0) dL_law_376 377 rfl rfl ?_
      refine aw_iload (i := 9) dL_law_377 379 rfl 9 rfl ?_
      refine aw_iconst (x := 1) dL_law_379 380 rfl rfl ?_
      refine aw_callS (M2 := m_L_at) (cv := q_cI) dL_law_380 383 rfl (k_L_at l G 0 x73 1  u46) wl_15 wv_L_at pk_L_at rfl ⟨by decide, by decide⟩ ⟨Nat.le_of_ble_eq_true rfl, Nat.le_of_ble_eq_true rfl⟩ rfl (Nat.le_of_ble_eq_true rfl) (fun x74 u47 => ?_)
      show qAW l G m_L_law (q_xl G b0 l0 f0) 383 [(0, .ref b0), (1, .ref (q_ad G 0 0)), (2, .int x61), (3, .int x62), (4, .int x63), (5, .int x64), (6, .int x65), (7, .int x66), (8, .int x67), (9, .int x73)] [.int x74] u47 _
      refine aw_istore dL_law_383 385 rfl [(10, .int x74), (0, .ref b0), (1, .ref (q_ad G 0 0)), (2, .int x61), (3, .int x62), (4, .int x63), (5, .int x64), (6, .int x65), (7, .int x66), (8, .int x67), (9, .int x73)] (by decide) rfl ?_
      refine aw_iload (i := 10) dL_law_385 387 rfl 0 rfl ?_
      refine aw_if_lt dL_law_387 390 rfl 408 rfl (fun h16 => ?_) (fun h16 => ?_)
      · exact aw_none
      · refine aw_iload (i := 10) dL_law_390 392 rfl 0 rfl ?_
        refine aw_ldc (x := 100000) dL_law_392 394 rfl wl_16 ?_
        refine aw_icmp_gt dL_law_394 397 rfl 408 rfl (fun h17 => ?_) (fun h17 => ?_)
        · exact aw_none
        · refine aw_aload_n (i := 1) dL_law_397 398 rfl rfl 2 rfl ?_
          refine aw_iconst (x := 0) dL_law_398 399 rfl rfl ?_
          refine aw_iload (i := 9) dL_law_399 401 rfl 10 rfl ?_
          refine aw_iconst (x := 4) dL_law_401 402 rfl rfl ?_
          refine aw_callS (M2 := m_L_at) (cv := q_cI) dL_law_402 405 rfl (k_L_at l G 0 x73 4  u47) wl_15 wv_L_at pk_L_at rfl ⟨by decide, by decide⟩ ⟨Nat.le_of_ble_eq_true rfl, Nat.le_of_ble_eq_true rfl⟩ rfl (Nat.le_of_ble_eq_true rfl) (fun x75 u48 => ?_)
          show qAW l G m_L_law (q_xl G b0 l0 f0) 405 [(10, .int x74), (0, .ref b0), (1, .ref (q_ad G 0 0)), (2, .int x61), (3, .int x62), (4, .int x63), (5, .int x64), (6, .int x65), (7, .int x66), (8, .int x67), (9, .int x73)] [.int x75] u48 _
          refine aw_if_ge dL_law_405 408 rfl 410 rfl (fun h18 => ?_) (fun h18 => ?_)
          · refine aw_iincx (i := 9) dL_law_410 413 rfl 10 rfl 1 rfl (fun x76 => [(9, .int x76), (10, .int x74), (0, .ref b0), (1, .ref (q_ad G 0 0)), (2, .int x61), (3, .int x62), (4, .int x63), (5, .int x64), (6, .int x65), (7, .int x66), (8, .int x67)]) (by decide) (fun _ => rfl) (fun x76 => ?_)
            refine aw_goto dL_law_413 368 rfl ?_
            exact aw_conv [2, 3, 4, 5, 6, 7, 8, 9, 10, 0] rfl (ih x76 u48)
          · exact aw_none
set_option maxRecDepth 100000 in
set_option maxHeartbeats 4000000 in
theorem TL_L_law_308 (l : Launch) (G : qG) (b0 : Nat) (l0 : Nat) (f0 : Nat → Int32) (x61 : Int32) (x62 : Int32) (x63 : Int32) (x64 : Int32) (x65 : Int32) (x66 : Int32)  (e1 : qM → Option (Int32 × qM)) (he1 : ∀  (v : qM), qAW l G m_L_law (q_xl G b0 l0 f0) 422 [(0, .ref b0), (1, .ref (q_ad G 0 0)), (2, .int x61), (3, .int x62), (4, .int x63), (5, .int x64)] [] v (e1 v)) : ∀ (n : Nat) (x67 : Int32) (u40 : qM), qAW l G m_L_law (q_xl G b0 l0 f0) 308 [(0, .ref b0), (1, .ref (q_ad G 0 0)), (2, .int x61), (3, .int x62), (4, .int x63), (5, .int x64), (6, .int x65), (7, .int x66), (8, .int x67)] [] u40 (L_L_law_308 b0 l0 f0 x61 x62 x63 x64 x65 x66 n x67 u40 e1) := by
  intro n
  induction n with
  | zero => intros; exact aw_none
  | succ n ih =>
    intro x67 u40
    unfold L_L_law_308
    refine aw_iload (i := 8) dL_law_308 310 rfl 8 rfl ?_
    refine aw_bipush (x := 12) dL_law_310 312 rfl rfl ?_
    refine aw_icmp_ge dL_law_312 315 rfl 422 rfl (fun h11 => ?_) (fun h11 => ?_)
    · exact aw_conv [0, 1, 2, 3, 4, 5] rfl (he1 u40)
    · refine aw_aload_n (i := 1) dL_law_315 316 rfl rfl 1 rfl ?_
      refine aw_iconst (x := 0) dL_law_316 317 rfl rfl ?_
      refine aw_iconst (x := 1) dL_law_317 318 rfl rfl ?_
      refine aw_callV (M2 := m_X10_step) (cv := q_cI) dL_law_318 321 rfl (k_X10_step l G 0 1  u40) wl_14 wv_X10_step pk_X10_step rfl rfl ⟨by decide, by decide⟩ ⟨Nat.le_of_ble_eq_true rfl, Nat.le_of_ble_eq_true rfl⟩ at_0 (ok_0 (by decide)) rfl rfl rfl (Nat.le_of_ble_eq_true rfl) (fun x68 u41 => ?_)
      show qAW l G m_L_law (q_xl G b0 l0 f0) 321 [(0, .ref b0), (1, .ref (q_ad G 0 0)), (2, .int x61), (3, .int x62), (4, .int x63), (5, .int x64), (6, .int x65), (7, .int x66), (8, .int x67)] [.int x68] u41 _
      refine aw_iconst (x := 1) dL_law_321 322 rfl rfl ?_
      refine aw_icmp_ne dL_law_322 325 rfl 363 rfl (fun h12 => ?_) (fun h12 => ?_)
      · exact aw_none
      · refine aw_aload_n (i := 1) dL_law_325 326 rfl rfl 1 rfl ?_
        refine aw_iconst (x := 0) dL_law_326 327 rfl rfl ?_
        refine aw_iconst (x := 4) dL_law_327 328 rfl rfl ?_
        refine aw_callS (M2 := m_L_told) (cv := q_cI) dL_law_328 331 rfl (k_L_told l G 0 4  u41) wl_13 wv_L_told pk_L_told rfl ⟨by decide, by decide⟩ ⟨Nat.le_of_ble_eq_true rfl, Nat.le_of_ble_eq_true rfl⟩ rfl (Nat.le_of_ble_eq_true rfl) (fun x69 u42 => ?_)
        show qAW l G m_L_law (q_xl G b0 l0 f0) 331 [(0, .ref b0), (1, .ref (q_ad G 0 0)), (2, .int x61), (3, .int x62), (4, .int x63), (5, .int x64), (6, .int x65), (7, .int x66), (8, .int x67)] [.int x69] u42 _
        refine aw_aload_n (i := 1) dL_law_331 332 rfl rfl 1 rfl ?_
        refine aw_iconst (x := 0) dL_law_332 333 rfl rfl ?_
        refine aw_iconst (x := 5) dL_law_333 334 rfl rfl ?_
        refine aw_callS (M2 := m_L_told) (cv := q_cI) dL_law_334 337 rfl (k_L_told l G 0 5  u42) wl_13 wv_L_told pk_L_told rfl ⟨by decide, by decide⟩ ⟨Nat.le_of_ble_eq_true rfl, Nat.le_of_ble_eq_true rfl⟩ rfl (Nat.le_of_ble_eq_true rfl) (fun x70 u43 => ?_)
        show qAW l G m_L_law (q_xl G b0 l0 f0) 337 [(0, .ref b0), (1, .ref (q_ad G 0 0)), (2, .int x61), (3, .int x62), (4, .int x63), (5, .int x64), (6, .int x65), (7, .int x66), (8, .int x67)] [.int x70, .int x69] u43 _
        refine aw_isub dL_law_337 338 rfl ?_
        refine aw_aload_n (i := 1) dL_law_338 339 rfl rfl 1 rfl ?_
        refine aw_iconst (x := 0) dL_law_339 340 rfl rfl ?_
        refine aw_bipush (x := 6) dL_law_340 342 rfl rfl ?_
        refine aw_callS (M2 := m_L_told) (cv := q_cI) dL_law_342 345 rfl (k_L_told l G 0 6  u43) wl_13 wv_L_told pk_L_told rfl ⟨by decide, by decide⟩ ⟨Nat.le_of_ble_eq_true rfl, Nat.le_of_ble_eq_true rfl⟩ rfl (Nat.le_of_ble_eq_true rfl) (fun x71 u44 => ?_)
        show qAW l G m_L_law (q_xl G b0 l0 f0) 345 [(0, .ref b0), (1, .ref (q_ad G 0 0)), (2, .int x61), (3, .int x62), (4, .int x63), (5, .int x64), (6, .int x65), (7, .int x66), (8, .int x67)] [.int x71, .int (x69 - x70)] u44 _
        refine aw_isub dL_law_345 346 rfl ?_
        refine aw_iload (i := 6) dL_law_346 348 rfl 6 rfl ?_
        refine aw_icmp_ne dL_law_348 351 rfl 363 rfl (fun h13 => ?_) (fun h13 => ?_)
        · exact aw_none
        · refine aw_aload_n (i := 1) dL_law_351 352 rfl rfl 1 rfl ?_
          refine aw_iconst (x := 0) dL_law_352 353 rfl rfl ?_
          refine aw_bipush (x := 8) dL_law_353 355 rfl rfl ?_
          refine aw_callS (M2 := m_L_told) (cv := q_cI) dL_law_355 358 rfl (k_L_told l G 0 8  u44) wl_13 wv_L_told pk_L_told rfl ⟨by decide, by decide⟩ ⟨Nat.le_of_ble_eq_true rfl, Nat.le_of_ble_eq_true rfl⟩ rfl (Nat.le_of_ble_eq_true rfl) (fun x72 u45 => ?_)
          show qAW l G m_L_law (q_xl G b0 l0 f0) 358 [(0, .ref b0), (1, .ref (q_ad G 0 0)), (2, .int x61), (3, .int x62), (4, .int x63), (5, .int x64), (6, .int x65), (7, .int x66), (8, .int x67)] [.int x72] u45 _
          refine aw_iload (i := 7) dL_law_358 360 rfl 7 rfl ?_
          refine aw_icmp_eq dL_law_360 363 rfl 365 rfl (fun h14 => ?_) (fun h14 => ?_)
          · refine aw_iconst (x := 0) dL_law_365 366 rfl rfl ?_
            refine aw_istore dL_law_366 368 rfl [(9, .int 0), (0, .ref b0), (1, .ref (q_ad G 0 0)), (2, .int x61), (3, .int x62), (4, .int x63), (5, .int x64), (6, .int x65), (7, .int x66), (8, .int x67)] (by decide) rfl ?_
            refine aw_conv [1, 2, 3, 4, 5, 6, 7, 8, 9, 0] rfl (TL_L_law_368 l G b0 l0 f0 x61 x62 x63 x64 x65 x66 x67  _ ?_ _ 0 u45)
            · intro u49
              refine aw_iincx (i := 8) dL_law_416 419 rfl 8 rfl 1 rfl (fun x77 => [(8, .int x77), (0, .ref b0), (1, .ref (q_ad G 0 0)), (2, .int x61), (3, .int x62), (4, .int x63), (5, .int x64), (6, .int x65), (7, .int x66)]) (by decide) (fun _ => rfl) (fun x77 => ?_)
              refine aw_goto dL_law_419 308 rfl ?_
              exact aw_conv [1, 2, 3, 4, 5, 6, 7, 8, 0] rfl (ih x77 u49)
          · exact aw_none
set_option maxRecDepth 100000 in
set_option maxHeartbeats 4000000 in
theorem TL_L_law_439 (l : Launch) (G : qG) (b0 : Nat) (l0 : Nat) (f0 : Nat → Int32) (x83 : Int32) (x84 : Int32) (x85 : Int32) (x86 : Int32)  (e1 : qM → Option (Int32 × qM)) (he1 : ∀  (v : qM), qAW l G m_L_law (q_xl G b0 l0 f0) 492 [(0, .ref b0), (1, .ref (q_ad G 0 0)), (2, .int x83), (3, .int x84), (4, .int x85), (5, .int x86)] [] v (e1 v)) : ∀ (n : Nat) (x87 : Int32) (u54 : qM), qAW l G m_L_law (q_xl G b0 l0 f0) 439 [(0, .ref b0), (1, .ref (q_ad G 0 0)), (2, .int x83), (3, .int x84), (4, .int x85), (5, .int x86), (8, .int x87)] [] u54 (L_L_law_439 b0 l0 f0 x83 x84 x85 x86 n x87 u54 e1) := by
  intro n
  induction n with
  | zero => intros; exact aw_none
  | succ n ih =>
    intro x87 u54
    unfold L_L_law_439
    refine aw_iload (i := 8) dL_law_439 441 rfl 6 rfl ?_
    refine aw_iload (i := 5) dL_law_441 443 rfl 5 rfl ?_
    refine aw_icmp_ge dL_law_443 446 rfl 492 rfl (fun h20 => ?_) (fun h20 => ?_)
    · exact aw_conv [0, 1, 2, 3, 4, 5] rfl (he1 u54)
    · refine aw_aload_n (i := 1) dL_law_446 447 rfl rfl 1 rfl ?_
      refine aw_iconst (x := 0) dL_law_447 448 rfl rfl ?_
      refine aw_iload (i := 8) dL_law_448 450 rfl 6 rfl ?_
      refine aw_iconst (x := 1) dL_law_450 451 rfl rfl ?_
      refine aw_callS (M2 := m_L_at) (cv := q_cI) dL_law_451 454 rfl (k_L_at l G 0 x87 1  u54) wl_15 wv_L_at pk_L_at rfl ⟨by decide, by decide⟩ ⟨Nat.le_of_ble_eq_true rfl, Nat.le_of_ble_eq_true rfl⟩ rfl (Nat.le_of_ble_eq_true rfl) (fun x88 u55 => ?_)
      show qAW l G m_L_law (q_xl G b0 l0 f0) 454 [(0, .ref b0), (1, .ref (q_ad G 0 0)), (2, .int x83), (3, .int x84), (4, .int x85), (5, .int x86), (8, .int x87)] [.int x88] u55 _
      refine aw_aload_n (i := 1) dL_law_454 455 rfl rfl 1 rfl ?_
      refine aw_iconst (x := 1) dL_law_455 456 rfl rfl ?_
      refine aw_iload (i := 8) dL_law_456 458 rfl 6 rfl ?_
      refine aw_iconst (x := 1) dL_law_458 459 rfl rfl ?_
      refine aw_callS (M2 := m_L_at) (cv := q_cI) dL_law_459 462 rfl (k_L_at l G 1 x87 1  u55) wl_15 wv_L_at pk_L_at rfl ⟨by decide, by decide⟩ ⟨Nat.le_of_ble_eq_true rfl, Nat.le_of_ble_eq_true rfl⟩ rfl (Nat.le_of_ble_eq_true rfl) (fun x89 u56 => ?_)
      show qAW l G m_L_law (q_xl G b0 l0 f0) 462 [(0, .ref b0), (1, .ref (q_ad G 0 0)), (2, .int x83), (3, .int x84), (4, .int x85), (5, .int x86), (8, .int x87)] [.int x89, .int x88] u56 _
      refine aw_icmp_ne dL_law_462 465 rfl 484 rfl (fun h21 => ?_) (fun h21 => ?_)
      · exact aw_none
      · refine aw_aload_n (i := 1) dL_law_465 466 rfl rfl 1 rfl ?_
        refine aw_iconst (x := 0) dL_law_466 467 rfl rfl ?_
        refine aw_iload (i := 8) dL_law_467 469 rfl 6 rfl ?_
        refine aw_iconst (x := 4) dL_law_469 470 rfl rfl ?_
        refine aw_callS (M2 := m_L_at) (cv := q_cI) dL_law_470 473 rfl (k_L_at l G 0 x87 4  u56) wl_15 wv_L_at pk_L_at rfl ⟨by decide, by decide⟩ ⟨Nat.le_of_ble_eq_true rfl, Nat.le_of_ble_eq_true rfl⟩ rfl (Nat.le_of_ble_eq_true rfl) (fun x90 u57 => ?_)
        show qAW l G m_L_law (q_xl G b0 l0 f0) 473 [(0, .ref b0), (1, .ref (q_ad G 0 0)), (2, .int x83), (3, .int x84), (4, .int x85), (5, .int x86), (8, .int x87)] [.int x90] u57 _
        refine aw_aload_n (i := 1) dL_law_473 474 rfl rfl 1 rfl ?_
        refine aw_iconst (x := 1) dL_law_474 475 rfl rfl ?_
        refine aw_iload (i := 8) dL_law_475 477 rfl 6 rfl ?_
        refine aw_iconst (x := 4) dL_law_477 478 rfl rfl ?_
        refine aw_callS (M2 := m_L_at) (cv := q_cI) dL_law_478 481 rfl (k_L_at l G 1 x87 4  u57) wl_15 wv_L_at pk_L_at rfl ⟨by decide, by decide⟩ ⟨Nat.le_of_ble_eq_true rfl, Nat.le_of_ble_eq_true rfl⟩ rfl (Nat.le_of_ble_eq_true rfl) (fun x91 u58 => ?_)
        show qAW l G m_L_law (q_xl G b0 l0 f0) 481 [(0, .ref b0), (1, .ref (q_ad G 0 0)), (2, .int x83), (3, .int x84), (4, .int x85), (5, .int x86), (8, .int x87)] [.int x91, .int x90] u58 _
        refine aw_icmp_eq dL_law_481 484 rfl 486 rfl (fun h22 => ?_) (fun h22 => ?_)
        · refine aw_iincx (i := 8) dL_law_486 489 rfl 6 rfl 1 rfl (fun x92 => [(8, .int x92), (0, .ref b0), (1, .ref (q_ad G 0 0)), (2, .int x83), (3, .int x84), (4, .int x85), (5, .int x86)]) (by decide) (fun _ => rfl) (fun x92 => ?_)
          refine aw_goto dL_law_489 439 rfl ?_
          exact aw_conv [1, 2, 3, 4, 5, 6, 0] rfl (ih x92 u58)
        · exact aw_none
set_option maxRecDepth 100000 in
set_option maxHeartbeats 4000000 in
theorem TC_L_law_900 (l : Launch) (G : qG) (b0 l0 : Nat) (f0 : Nat → Int32) (x152 : Int32) (x153 : Int32) (x154 : Int32) (x155 : Int32) (u95 : qM) : qAW l G m_L_law (q_xl G b0 l0 f0) 900 [(1, .ref (q_ad G 0 0)), (2, .int x152), (8, .int x153), (9, .int x154), (11, .int x155)] [] u95 (C_L_law_900 b0 l0 f0 x152 x153 x154 x155 u95) := by
  unfold C_L_law_900
  refine aw_aload_n (i := 1) dL_law_900 901 rfl rfl 0 rfl ?_
  refine aw_iconst (x := 0) dL_law_901 902 rfl rfl ?_
  refine aw_iload (i := 9) dL_law_902 904 rfl 3 rfl ?_
  refine aw_iload_n (i := 2) dL_law_904 905 rfl rfl 1 rfl ?_
  refine aw_imul dL_law_905 906 rfl ?_
  refine aw_iload (i := 8) dL_law_906 908 rfl 2 rfl ?_
  refine aw_iadd dL_law_908 909 rfl ?_
  refine aw_iconst (x := 1) dL_law_909 910 rfl rfl ?_
  refine aw_callS (M2 := m_L_at) (cv := q_cI) dL_law_910 913 rfl (k_L_at l G 0 ((x154 * x152) + x153) 1  u95) wl_15 wv_L_at pk_L_at rfl ⟨by decide, by decide⟩ ⟨Nat.le_of_ble_eq_true rfl, Nat.le_of_ble_eq_true rfl⟩ rfl (Nat.le_of_ble_eq_true rfl) (fun x156 u96 => ?_)
  show qAW l G m_L_law (q_xl G b0 l0 f0) 913 [(1, .ref (q_ad G 0 0)), (2, .int x152), (8, .int x153), (9, .int x154), (11, .int x155)] [.int x156] u96 _
  refine aw_iload (i := 11) dL_law_913 915 rfl 4 rfl ?_
  refine aw_bipush (x := 11) dL_law_915 917 rfl rfl ?_
  refine aw_iadd dL_law_917 918 rfl ?_
  refine aw_icmp_ne dL_law_918 921 rfl 925 rfl (fun h41 => ?_) (fun h41 => ?_)
  · refine aw_iconst (x := 0) dL_law_925 926 rfl rfl ?_
    exact aw_none
  · refine aw_iconst (x := 1) dL_law_921 922 rfl rfl ?_
    refine aw_goto dL_law_922 926 rfl ?_
    exact aw_lawret dL_law_926
set_option maxRecDepth 100000 in
set_option maxHeartbeats 4000000 in
theorem TC_L_law_884 (l : Launch) (G : qG) (b0 l0 : Nat) (f0 : Nat → Int32) (x146 : Int32) (x147 : Int32) (x148 : Int32) (x149 : Int32) (u92 : qM) : qAW l G m_L_law (q_xl G b0 l0 f0) 884 [(1, .ref (q_ad G 0 0)), (2, .int x146), (8, .int x147), (9, .int x148), (11, .int x149)] [] u92 (C_L_law_884 b0 l0 f0 x146 x147 x148 x149 u92) := by
  unfold C_L_law_884
  refine aw_aload_n (i := 1) dL_law_884 885 rfl rfl 0 rfl ?_
  refine aw_iconst (x := 2) dL_law_885 886 rfl rfl ?_
  refine aw_callV (M2 := m_X10_up) (cv := q_cI) dL_law_886 889 rfl (k_X10_up l G 2  u92) wl_18 wv_X10_up pk_X10_up rfl rfl ⟨by decide, by decide⟩ ⟨Nat.le_of_ble_eq_true rfl, Nat.le_of_ble_eq_true rfl⟩ at_0 (ok_0 (by decide)) rfl rfl rfl (Nat.le_of_ble_eq_true rfl) (fun x150 u93 => ?_)
  show qAW l G m_L_law (q_xl G b0 l0 f0) 889 [(1, .ref (q_ad G 0 0)), (2, .int x146), (8, .int x147), (9, .int x148), (11, .int x149)] [.int x150] u93 _
  refine aw_iconst (x := 1) dL_law_889 890 rfl rfl ?_
  refine aw_icmp_ne dL_law_890 893 rfl 925 rfl (fun h39 => ?_) (fun h39 => ?_)
  · refine aw_iconst (x := 0) dL_law_925 926 rfl rfl ?_
    exact aw_none
  · refine aw_aload_n (i := 1) dL_law_893 894 rfl rfl 0 rfl ?_
    refine aw_callV (M2 := m_X10_asked) (cv := q_cI) dL_law_894 897 rfl (k_X10_asked l G   u93) wl_19 wv_X10_asked pk_X10_asked rfl rfl ⟨by decide, by decide⟩ ⟨Nat.le_of_ble_eq_true rfl, Nat.le_of_ble_eq_true rfl⟩ at_0 (ok_0 (by decide)) rfl rfl rfl (Nat.le_of_ble_eq_true rfl) (fun x151 u94 => ?_)
    show qAW l G m_L_law (q_xl G b0 l0 f0) 897 [(1, .ref (q_ad G 0 0)), (2, .int x146), (8, .int x147), (9, .int x148), (11, .int x149)] [.int x151] u94 _
    refine aw_if_ne dL_law_897 900 rfl 925 rfl (fun h40 => ?_) (fun h40 => ?_)
    · refine aw_iconst (x := 0) dL_law_925 926 rfl rfl ?_
      exact aw_none
    · exact TC_L_law_900 l G b0 l0 f0 x146 x147 x148 x149 u94
set_option maxRecDepth 100000 in
set_option maxHeartbeats 4000000 in
theorem TC_L_law_866 (l : Launch) (G : qG) (b0 l0 : Nat) (f0 : Nat → Int32) (x140 : Int32) (x141 : Int32) (x142 : Int32) (x143 : Int32) (u89 : qM) : qAW l G m_L_law (q_xl G b0 l0 f0) 866 [(1, .ref (q_ad G 0 0)), (2, .int x140), (8, .int x141), (9, .int x142), (11, .int x143)] [] u89 (C_L_law_866 b0 l0 f0 x140 x141 x142 x143 u89) := by
  unfold C_L_law_866
  refine aw_aload_n (i := 1) dL_law_866 867 rfl rfl 0 rfl ?_
  refine aw_iconst (x := 2) dL_law_867 868 rfl rfl ?_
  refine aw_callV (M2 := m_X10_down) (cv := q_cI) dL_law_868 871 rfl (k_X10_down l G 2  u89) wl_20 wv_X10_down pk_X10_down rfl rfl ⟨by decide, by decide⟩ ⟨Nat.le_of_ble_eq_true rfl, Nat.le_of_ble_eq_true rfl⟩ at_0 (ok_0 (by decide)) rfl rfl rfl (Nat.le_of_ble_eq_true rfl) (fun x144 u90 => ?_)
  show qAW l G m_L_law (q_xl G b0 l0 f0) 871 [(1, .ref (q_ad G 0 0)), (2, .int x140), (8, .int x141), (9, .int x142), (11, .int x143)] [.int x144] u90 _
  refine aw_iconst (x := 1) dL_law_871 872 rfl rfl ?_
  refine aw_icmp_ne dL_law_872 875 rfl 925 rfl (fun h37 => ?_) (fun h37 => ?_)
  · refine aw_iconst (x := 0) dL_law_925 926 rfl rfl ?_
    exact aw_none
  · refine aw_aload_n (i := 1) dL_law_875 876 rfl rfl 0 rfl ?_
    refine aw_callV (M2 := m_X10_asked) (cv := q_cI) dL_law_876 879 rfl (k_X10_asked l G   u90) wl_19 wv_X10_asked pk_X10_asked rfl rfl ⟨by decide, by decide⟩ ⟨Nat.le_of_ble_eq_true rfl, Nat.le_of_ble_eq_true rfl⟩ at_0 (ok_0 (by decide)) rfl rfl rfl (Nat.le_of_ble_eq_true rfl) (fun x145 u91 => ?_)
    show qAW l G m_L_law (q_xl G b0 l0 f0) 879 [(1, .ref (q_ad G 0 0)), (2, .int x140), (8, .int x141), (9, .int x142), (11, .int x143)] [.int x145] u91 _
    refine aw_bipush (x := 44) dL_law_879 881 rfl rfl ?_
    refine aw_icmp_ne dL_law_881 884 rfl 925 rfl (fun h38 => ?_) (fun h38 => ?_)
    · refine aw_iconst (x := 0) dL_law_925 926 rfl rfl ?_
      exact aw_none
    · exact TC_L_law_884 l G b0 l0 f0 x140 x141 x142 x143 u91
set_option maxRecDepth 100000 in
set_option maxHeartbeats 4000000 in
theorem TC_L_law_829 (l : Launch) (G : qG) (b0 l0 : Nat) (f0 : Nat → Int32) (x134 : Int32) (x135 : Int32) (x136 : Int32) (u84 : qM) : qAW l G m_L_law (q_xl G b0 l0 f0) 829 [(1, .ref (q_ad G 0 0)), (2, .int x134), (8, .int x135), (9, .int x136)] [] u84 (C_L_law_829 b0 l0 f0 x134 x135 x136 u84) := by
  unfold C_L_law_829
  refine aw_aload_n (i := 1) dL_law_829 830 rfl rfl 0 rfl ?_
  refine aw_iconst (x := 0) dL_law_830 831 rfl rfl ?_
  refine aw_iload (i := 9) dL_law_831 833 rfl 3 rfl ?_
  refine aw_iload_n (i := 2) dL_law_833 834 rfl rfl 1 rfl ?_
  refine aw_imul dL_law_834 835 rfl ?_
  refine aw_iload (i := 8) dL_law_835 837 rfl 2 rfl ?_
  refine aw_iadd dL_law_837 838 rfl ?_
  refine aw_iconst (x := 1) dL_law_838 839 rfl rfl ?_
  refine aw_callS (M2 := m_L_at) (cv := q_cI) dL_law_839 842 rfl (k_L_at l G 0 ((x136 * x134) + x135) 1  u84) wl_15 wv_L_at pk_L_at rfl ⟨by decide, by decide⟩ ⟨Nat.le_of_ble_eq_true rfl, Nat.le_of_ble_eq_true rfl⟩ rfl (Nat.le_of_ble_eq_true rfl) (fun x137 u85 => ?_)
  show qAW l G m_L_law (q_xl G b0 l0 f0) 842 [(1, .ref (q_ad G 0 0)), (2, .int x134), (8, .int x135), (9, .int x136)] [.int x137] u85 _
  refine aw_istore dL_law_842 844 rfl [(11, .int x137), (1, .ref (q_ad G 0 0)), (2, .int x134), (8, .int x135), (9, .int x136)] (by decide) rfl ?_
  refine aw_aload_n (i := 1) dL_law_844 845 rfl rfl 1 rfl ?_
  refine aw_iconst (x := 0) dL_law_845 846 rfl rfl ?_
  refine aw_iload (i := 9) dL_law_846 848 rfl 4 rfl ?_
  refine aw_iload_n (i := 2) dL_law_848 849 rfl rfl 2 rfl ?_
  refine aw_imul dL_law_849 850 rfl ?_
  refine aw_iload (i := 8) dL_law_850 852 rfl 3 rfl ?_
  refine aw_iadd dL_law_852 853 rfl ?_
  refine aw_iload (i := 11) dL_law_853 855 rfl 0 rfl ?_
  refine aw_bipush (x := 11) dL_law_855 857 rfl rfl ?_
  refine aw_iadd dL_law_857 858 rfl ?_
  refine aw_callV (M2 := m_X10_water) (cv := q_cI) dL_law_858 861 rfl (k_X10_water l G 0 ((x136 * x134) + x135) (x137 + 11)  u85) wl_4 wv_X10_water pk_X10_water rfl rfl ⟨by decide, by decide⟩ ⟨Nat.le_of_ble_eq_true rfl, Nat.le_of_ble_eq_true rfl⟩ at_0 (ok_0 (by decide)) rfl rfl rfl (Nat.le_of_ble_eq_true rfl) (fun x138 u86 => ?_)
  show qAW l G m_L_law (q_xl G b0 l0 f0) 861 [(11, .int x137), (1, .ref (q_ad G 0 0)), (2, .int x134), (8, .int x135), (9, .int x136)] [.int x138] u86 _
  refine aw_iload (i := 11) dL_law_861 863 rfl 0 rfl ?_
  refine aw_jn (fun k => ∀ (x139 : Int32) (u87 : qM), qAW l G m_L_law (q_xl G b0 l0 f0) 926 [] [.int x139] u87 (k x139 u87)) ?_ ?_
  · intro x139 u87
    refine aw_ck (fun h36 => ?_)
    exact aw_lawret1 dL_law_926 (of_decide_eq_true h36)
  · intro j3 hj3
    refine aw_jn (fun k => ∀  (u88 : qM), qAW l G m_L_law (q_xl G b0 l0 f0) 925 [] [] u88 (k u88)) ?_ ?_
    · intro u88
      refine aw_iconst (x := 0) dL_law_925 926 rfl rfl ?_
      exact hj3 0 u88
    · intro j4 hj4
      refine aw_icmp_ne dL_law_863 866 rfl 925 rfl (fun h35 => ?_) (fun h35 => ?_)
      · exact aw_conv [] rfl (hj4 u86)
      · exact aw_conv [1, 2, 3, 4, 0] rfl (TC_L_law_866 l G b0 l0 f0 x134 x135 x136 x137 u86)
set_option maxRecDepth 100000 in
set_option maxHeartbeats 4000000 in
theorem TC_L_law_811 (l : Launch) (G : qG) (b0 l0 : Nat) (f0 : Nat → Int32) (x129 : Int32) (x130 : Int32) (x131 : Int32) (u81 : qM) : qAW l G m_L_law (q_xl G b0 l0 f0) 811 [(1, .ref (q_ad G 0 0)), (2, .int x129), (8, .int x130), (9, .int x131)] [] u81 (C_L_law_811 b0 l0 f0 x129 x130 x131 u81) := by
  unfold C_L_law_811
  refine aw_aload_n (i := 1) dL_law_811 812 rfl rfl 0 rfl ?_
  refine aw_iconst (x := 2) dL_law_812 813 rfl rfl ?_
  refine aw_callV (M2 := m_X10_up) (cv := q_cI) dL_law_813 816 rfl (k_X10_up l G 2  u81) wl_18 wv_X10_up pk_X10_up rfl rfl ⟨by decide, by decide⟩ ⟨Nat.le_of_ble_eq_true rfl, Nat.le_of_ble_eq_true rfl⟩ at_0 (ok_0 (by decide)) rfl rfl rfl (Nat.le_of_ble_eq_true rfl) (fun x132 u82 => ?_)
  show qAW l G m_L_law (q_xl G b0 l0 f0) 816 [(1, .ref (q_ad G 0 0)), (2, .int x129), (8, .int x130), (9, .int x131)] [.int x132] u82 _
  refine aw_iconst (x := 1) dL_law_816 817 rfl rfl ?_
  refine aw_icmp_ne dL_law_817 820 rfl 827 rfl (fun h33 => ?_) (fun h33 => ?_)
  · exact aw_none
  · refine aw_aload_n (i := 1) dL_law_820 821 rfl rfl 0 rfl ?_
    refine aw_callV (M2 := m_X10_asked) (cv := q_cI) dL_law_821 824 rfl (k_X10_asked l G   u82) wl_19 wv_X10_asked pk_X10_asked rfl rfl ⟨by decide, by decide⟩ ⟨Nat.le_of_ble_eq_true rfl, Nat.le_of_ble_eq_true rfl⟩ at_0 (ok_0 (by decide)) rfl rfl rfl (Nat.le_of_ble_eq_true rfl) (fun x133 u83 => ?_)
    show qAW l G m_L_law (q_xl G b0 l0 f0) 824 [(1, .ref (q_ad G 0 0)), (2, .int x129), (8, .int x130), (9, .int x131)] [.int x133] u83 _
    refine aw_if_eq dL_law_824 827 rfl 829 rfl (fun h34 => ?_) (fun h34 => ?_)
    · exact TC_L_law_829 l G b0 l0 f0 x129 x130 x131 u83
    · exact aw_none
set_option maxRecDepth 100000 in
set_option maxHeartbeats 4000000 in
theorem TC_L_law_800 (l : Launch) (G : qG) (b0 l0 : Nat) (f0 : Nat → Int32) (x124 : Int32) (x125 : Int32) (x126 : Int32) (x127 : Int32) (u79 : qM) : qAW l G m_L_law (q_xl G b0 l0 f0) 800 [(1, .ref (q_ad G 0 0)), (2, .int x124), (8, .int x125), (9, .int x126), (10, .int x127)] [] u79 (C_L_law_800 b0 l0 f0 x124 x125 x126 x127 u79) := by
  unfold C_L_law_800
  refine aw_aload_n (i := 1) dL_law_800 801 rfl rfl 0 rfl ?_
  refine aw_iconst (x := 2) dL_law_801 802 rfl rfl ?_
  refine aw_iconst (x := 4) dL_law_802 803 rfl rfl ?_
  refine aw_callS (M2 := m_L_told) (cv := q_cI) dL_law_803 806 rfl (k_L_told l G 2 4  u79) wl_13 wv_L_told pk_L_told rfl ⟨by decide, by decide⟩ ⟨Nat.le_of_ble_eq_true rfl, Nat.le_of_ble_eq_true rfl⟩ rfl (Nat.le_of_ble_eq_true rfl) (fun x128 u80 => ?_)
  show qAW l G m_L_law (q_xl G b0 l0 f0) 806 [(1, .ref (q_ad G 0 0)), (2, .int x124), (8, .int x125), (9, .int x126), (10, .int x127)] [.int x128] u80 _
  refine aw_iload (i := 10) dL_law_806 808 rfl 4 rfl ?_
  refine aw_icmp_ne dL_law_808 811 rfl 827 rfl (fun h32 => ?_) (fun h32 => ?_)
  · exact aw_none
  · exact aw_conv [0, 1, 2, 3] rfl (TC_L_law_811 l G b0 l0 f0 x124 x125 x126 u80)
set_option maxRecDepth 100000 in
set_option maxHeartbeats 4000000 in
theorem TC_L_law_782 (l : Launch) (G : qG) (b0 l0 : Nat) (f0 : Nat → Int32) (x119 : Int32) (x120 : Int32) (x121 : Int32) (u76 : qM) : qAW l G m_L_law (q_xl G b0 l0 f0) 782 [(1, .ref (q_ad G 0 0)), (2, .int x119), (8, .int x120), (9, .int x121)] [] u76 (C_L_law_782 b0 l0 f0 x119 x120 x121 u76) := by
  unfold C_L_law_782
  refine aw_aload_n (i := 1) dL_law_782 783 rfl rfl 0 rfl ?_
  refine aw_iconst (x := 2) dL_law_783 784 rfl rfl ?_
  refine aw_iconst (x := 4) dL_law_784 785 rfl rfl ?_
  refine aw_callS (M2 := m_L_told) (cv := q_cI) dL_law_785 788 rfl (k_L_told l G 2 4  u76) wl_13 wv_L_told pk_L_told rfl ⟨by decide, by decide⟩ ⟨Nat.le_of_ble_eq_true rfl, Nat.le_of_ble_eq_true rfl⟩ rfl (Nat.le_of_ble_eq_true rfl) (fun x122 u77 => ?_)
  show qAW l G m_L_law (q_xl G b0 l0 f0) 788 [(1, .ref (q_ad G 0 0)), (2, .int x119), (8, .int x120), (9, .int x121)] [.int x122] u77 _
  refine aw_istore dL_law_788 790 rfl [(10, .int x122), (1, .ref (q_ad G 0 0)), (2, .int x119), (8, .int x120), (9, .int x121)] (by decide) rfl ?_
  refine aw_aload_n (i := 1) dL_law_790 791 rfl rfl 1 rfl ?_
  refine aw_iconst (x := 2) dL_law_791 792 rfl rfl ?_
  refine aw_iconst (x := 3) dL_law_792 793 rfl rfl ?_
  refine aw_callV (M2 := m_X10_step) (cv := q_cI) dL_law_793 796 rfl (k_X10_step l G 2 3  u77) wl_14 wv_X10_step pk_X10_step rfl rfl ⟨by decide, by decide⟩ ⟨Nat.le_of_ble_eq_true rfl, Nat.le_of_ble_eq_true rfl⟩ at_0 (ok_0 (by decide)) rfl rfl rfl (Nat.le_of_ble_eq_true rfl) (fun x123 u78 => ?_)
  show qAW l G m_L_law (q_xl G b0 l0 f0) 796 [(10, .int x122), (1, .ref (q_ad G 0 0)), (2, .int x119), (8, .int x120), (9, .int x121)] [.int x123] u78 _
  refine aw_iconst (x := 3) dL_law_796 797 rfl rfl ?_
  refine aw_icmp_ne dL_law_797 800 rfl 827 rfl (fun h31 => ?_) (fun h31 => ?_)
  · exact aw_none
  · exact aw_conv [1, 2, 3, 4, 0] rfl (TC_L_law_800 l G b0 l0 f0 x119 x120 x121 x122 u78)
set_option maxRecDepth 100000 in
set_option maxHeartbeats 4000000 in
theorem TC_L_law_763 (l : Launch) (G : qG) (b0 l0 : Nat) (f0 : Nat → Int32) (x114 : Int32) (x115 : Int32) (x116 : Int32) (u73 : qM) : qAW l G m_L_law (q_xl G b0 l0 f0) 763 [(1, .ref (q_ad G 0 0)), (2, .int x114), (8, .int x115), (9, .int x116)] [] u73 (C_L_law_763 b0 l0 f0 x114 x115 x116 u73) := by
  unfold C_L_law_763
  refine aw_aload_n (i := 1) dL_law_763 764 rfl rfl 0 rfl ?_
  refine aw_iconst (x := 2) dL_law_764 765 rfl rfl ?_
  refine aw_iconst (x := 2) dL_law_765 766 rfl rfl ?_
  refine aw_callV (M2 := m_X10_mark) (cv := q_cI) dL_law_766 769 rfl (k_X10_mark l G 2 2  u73) wl_21 wv_X10_mark pk_X10_mark rfl rfl ⟨by decide, by decide⟩ ⟨Nat.le_of_ble_eq_true rfl, Nat.le_of_ble_eq_true rfl⟩ at_0 (ok_0 (by decide)) rfl rfl rfl (Nat.le_of_ble_eq_true rfl) (fun x117 u74 => ?_)
  show qAW l G m_L_law (q_xl G b0 l0 f0) 769 [(1, .ref (q_ad G 0 0)), (2, .int x114), (8, .int x115), (9, .int x116)] [.int x117] u74 _
  refine aw_iconst (x := 1) dL_law_769 770 rfl rfl ?_
  refine aw_icmp_ne dL_law_770 773 rfl 780 rfl (fun h29 => ?_) (fun h29 => ?_)
  · exact aw_none
  · refine aw_aload_n (i := 1) dL_law_773 774 rfl rfl 0 rfl ?_
    refine aw_callV (M2 := m_X10_asked) (cv := q_cI) dL_law_774 777 rfl (k_X10_asked l G   u74) wl_19 wv_X10_asked pk_X10_asked rfl rfl ⟨by decide, by decide⟩ ⟨Nat.le_of_ble_eq_true rfl, Nat.le_of_ble_eq_true rfl⟩ at_0 (ok_0 (by decide)) rfl rfl rfl (Nat.le_of_ble_eq_true rfl) (fun x118 u75 => ?_)
    show qAW l G m_L_law (q_xl G b0 l0 f0) 777 [(1, .ref (q_ad G 0 0)), (2, .int x114), (8, .int x115), (9, .int x116)] [.int x118] u75 _
    refine aw_if_eq dL_law_777 780 rfl 782 rfl (fun h30 => ?_) (fun h30 => ?_)
    · exact TC_L_law_782 l G b0 l0 f0 x114 x115 x116 u75
    · exact aw_none
set_option maxRecDepth 100000 in
set_option maxHeartbeats 4000000 in
theorem TC_L_law_747 (l : Launch) (G : qG) (b0 l0 : Nat) (f0 : Nat → Int32) (x109 : Int32) (x110 : Int32) (x111 : Int32) (u70 : qM) : qAW l G m_L_law (q_xl G b0 l0 f0) 747 [(1, .ref (q_ad G 0 0)), (2, .int x109), (8, .int x110), (9, .int x111)] [] u70 (C_L_law_747 b0 l0 f0 x109 x110 x111 u70) := by
  unfold C_L_law_747
  refine aw_aload_n (i := 1) dL_law_747 748 rfl rfl 0 rfl ?_
  refine aw_iconst (x := 2) dL_law_748 749 rfl rfl ?_
  refine aw_callV (M2 := m_X10_down) (cv := q_cI) dL_law_749 752 rfl (k_X10_down l G 2  u70) wl_20 wv_X10_down pk_X10_down rfl rfl ⟨by decide, by decide⟩ ⟨Nat.le_of_ble_eq_true rfl, Nat.le_of_ble_eq_true rfl⟩ at_0 (ok_0 (by decide)) rfl rfl rfl (Nat.le_of_ble_eq_true rfl) (fun x112 u71 => ?_)
  show qAW l G m_L_law (q_xl G b0 l0 f0) 752 [(1, .ref (q_ad G 0 0)), (2, .int x109), (8, .int x110), (9, .int x111)] [.int x112] u71 _
  refine aw_iconst (x := 1) dL_law_752 753 rfl rfl ?_
  refine aw_icmp_ne dL_law_753 756 rfl 780 rfl (fun h27 => ?_) (fun h27 => ?_)
  · exact aw_none
  · refine aw_aload_n (i := 1) dL_law_756 757 rfl rfl 0 rfl ?_
    refine aw_callV (M2 := m_X10_asked) (cv := q_cI) dL_law_757 760 rfl (k_X10_asked l G   u71) wl_19 wv_X10_asked pk_X10_asked rfl rfl ⟨by decide, by decide⟩ ⟨Nat.le_of_ble_eq_true rfl, Nat.le_of_ble_eq_true rfl⟩ at_0 (ok_0 (by decide)) rfl rfl rfl (Nat.le_of_ble_eq_true rfl) (fun x113 u72 => ?_)
    show qAW l G m_L_law (q_xl G b0 l0 f0) 760 [(1, .ref (q_ad G 0 0)), (2, .int x109), (8, .int x110), (9, .int x111)] [.int x113] u72 _
    refine aw_if_ne dL_law_760 763 rfl 780 rfl (fun h28 => ?_) (fun h28 => ?_)
    · exact aw_none
    · exact TC_L_law_763 l G b0 l0 f0 x109 x110 x111 u72
set_option maxRecDepth 100000 in
set_option maxHeartbeats 4000000 in
theorem TC_L_law_731 (l : Launch) (G : qG) (b0 l0 : Nat) (f0 : Nat → Int32) (x104 : Int32) (x105 : Int32) (x106 : Int32) (u67 : qM) : qAW l G m_L_law (q_xl G b0 l0 f0) 731 [(1, .ref (q_ad G 0 0)), (2, .int x104), (8, .int x105), (9, .int x106)] [] u67 (C_L_law_731 b0 l0 f0 x104 x105 x106 u67) := by
  unfold C_L_law_731
  refine aw_aload_n (i := 1) dL_law_731 732 rfl rfl 0 rfl ?_
  refine aw_iconst (x := 2) dL_law_732 733 rfl rfl ?_
  refine aw_callV (M2 := m_X10_up) (cv := q_cI) dL_law_733 736 rfl (k_X10_up l G 2  u67) wl_18 wv_X10_up pk_X10_up rfl rfl ⟨by decide, by decide⟩ ⟨Nat.le_of_ble_eq_true rfl, Nat.le_of_ble_eq_true rfl⟩ at_0 (ok_0 (by decide)) rfl rfl rfl (Nat.le_of_ble_eq_true rfl) (fun x107 u68 => ?_)
  show qAW l G m_L_law (q_xl G b0 l0 f0) 736 [(1, .ref (q_ad G 0 0)), (2, .int x104), (8, .int x105), (9, .int x106)] [.int x107] u68 _
  refine aw_iconst (x := 1) dL_law_736 737 rfl rfl ?_
  refine aw_icmp_ne dL_law_737 740 rfl 780 rfl (fun h25 => ?_) (fun h25 => ?_)
  · exact aw_none
  · refine aw_aload_n (i := 1) dL_law_740 741 rfl rfl 0 rfl ?_
    refine aw_callV (M2 := m_X10_asked) (cv := q_cI) dL_law_741 744 rfl (k_X10_asked l G   u68) wl_19 wv_X10_asked pk_X10_asked rfl rfl ⟨by decide, by decide⟩ ⟨Nat.le_of_ble_eq_true rfl, Nat.le_of_ble_eq_true rfl⟩ at_0 (ok_0 (by decide)) rfl rfl rfl (Nat.le_of_ble_eq_true rfl) (fun x108 u69 => ?_)
    show qAW l G m_L_law (q_xl G b0 l0 f0) 744 [(1, .ref (q_ad G 0 0)), (2, .int x104), (8, .int x105), (9, .int x106)] [.int x108] u69 _
    refine aw_if_ne dL_law_744 747 rfl 780 rfl (fun h26 => ?_) (fun h26 => ?_)
    · exact aw_none
    · exact TC_L_law_747 l G b0 l0 f0 x104 x105 x106 u69
set_option maxRecDepth 100000 in
set_option maxHeartbeats 4000000 in
theorem TC_L_law_691 (l : Launch) (G : qG) (b0 l0 : Nat) (f0 : Nat → Int32) (x97 : Int32) (x98 : Int32) (u61 : qM) : qAW l G m_L_law (q_xl G b0 l0 f0) 691 [(0, .ref b0), (1, .ref (q_ad G 0 0)), (2, .int x97), (3, .int x98)] [] u61 (C_L_law_691 b0 l0 f0 x97 x98 u61) := by
  unfold C_L_law_691
  refine aw_aload_n (i := 0) dL_law_691 692 rfl rfl 0 rfl ?_
  refine aw_bipush (x := 46) dL_law_692 694 rfl rfl ?_
  refine aw_callSx (M2 := m_L_cell) (cv := q_cI) (fun _ _ h => q_xl_pre h) dL_law_694 697 rfl (kx_L_cell l G b0 l0 f0 46 u61) wl_1 wv_L_cell pk_L_cell rfl ⟨by decide, by decide⟩ ⟨Nat.le_of_ble_eq_true rfl, Nat.le_of_ble_eq_true rfl⟩ rfl (Nat.le_of_ble_eq_true rfl) (fun x99 u62 => ?_)
  show qAW l G m_L_law (q_xl G b0 l0 f0) 697 [(0, .ref b0), (1, .ref (q_ad G 0 0)), (2, .int x97), (3, .int x98)] [.int x99] u62 _
  refine aw_iload_n (i := 2) dL_law_697 698 rfl rfl 2 rfl ?_
  refine aw_callS (M2 := m_L_low) (cv := q_cI) dL_law_698 701 rfl (k_L_low l G x99 x97  u62) wl_2 wv_L_low pk_L_low rfl ⟨by decide, by decide⟩ ⟨Nat.le_of_ble_eq_true rfl, Nat.le_of_ble_eq_true rfl⟩ rfl (Nat.le_of_ble_eq_true rfl) (fun x100 u63 => ?_)
  show qAW l G m_L_law (q_xl G b0 l0 f0) 701 [(0, .ref b0), (1, .ref (q_ad G 0 0)), (2, .int x97), (3, .int x98)] [.int x100] u63 _
  refine aw_istore dL_law_701 703 rfl [(8, .int x100), (0, .ref b0), (1, .ref (q_ad G 0 0)), (2, .int x97), (3, .int x98)] (by decide) rfl ?_
  refine aw_aload_n (i := 0) dL_law_703 704 rfl rfl 1 rfl ?_
  refine aw_bipush (x := 47) dL_law_704 706 rfl rfl ?_
  refine aw_callSx (M2 := m_L_cell) (cv := q_cI) (fun _ _ h => q_xl_pre h) dL_law_706 709 rfl (kx_L_cell l G b0 l0 f0 47 u63) wl_1 wv_L_cell pk_L_cell rfl ⟨by decide, by decide⟩ ⟨Nat.le_of_ble_eq_true rfl, Nat.le_of_ble_eq_true rfl⟩ rfl (Nat.le_of_ble_eq_true rfl) (fun x101 u64 => ?_)
  show qAW l G m_L_law (q_xl G b0 l0 f0) 709 [(8, .int x100), (0, .ref b0), (1, .ref (q_ad G 0 0)), (2, .int x97), (3, .int x98)] [.int x101] u64 _
  refine aw_iload_n (i := 3) dL_law_709 710 rfl rfl 4 rfl ?_
  refine aw_callS (M2 := m_L_low) (cv := q_cI) dL_law_710 713 rfl (k_L_low l G x101 x98  u64) wl_2 wv_L_low pk_L_low rfl ⟨by decide, by decide⟩ ⟨Nat.le_of_ble_eq_true rfl, Nat.le_of_ble_eq_true rfl⟩ rfl (Nat.le_of_ble_eq_true rfl) (fun x102 u65 => ?_)
  show qAW l G m_L_law (q_xl G b0 l0 f0) 713 [(8, .int x100), (0, .ref b0), (1, .ref (q_ad G 0 0)), (2, .int x97), (3, .int x98)] [.int x102] u65 _
  refine aw_istore dL_law_713 715 rfl [(9, .int x102), (8, .int x100), (0, .ref b0), (1, .ref (q_ad G 0 0)), (2, .int x97), (3, .int x98)] (by decide) rfl ?_
  refine aw_aload_n (i := 1) dL_law_715 716 rfl rfl 3 rfl ?_
  refine aw_iconst (x := 2) dL_law_716 717 rfl rfl ?_
  refine aw_iconst (x := 0) dL_law_717 718 rfl rfl ?_
  refine aw_iload (i := 8) dL_law_718 720 rfl 1 rfl ?_
  refine aw_iload (i := 9) dL_law_720 722 rfl 0 rfl ?_
  refine aw_iconst (x := 1) dL_law_722 723 rfl rfl ?_
  refine aw_iconst (x := 1) dL_law_723 724 rfl rfl ?_
  refine aw_callV (M2 := m_X10_nest) (cv := q_cI) dL_law_724 727 rfl (k_X10_nest l G 2 0 x100 x102 1 1  u65) wl_17 wv_X10_nest pk_X10_nest rfl rfl ⟨by decide, by decide⟩ ⟨Nat.le_of_ble_eq_true rfl, Nat.le_of_ble_eq_true rfl⟩ at_0 (ok_0 (by decide)) rfl rfl rfl (Nat.le_of_ble_eq_true rfl) (fun x103 u66 => ?_)
  show qAW l G m_L_law (q_xl G b0 l0 f0) 727 [(9, .int x102), (8, .int x100), (0, .ref b0), (1, .ref (q_ad G 0 0)), (2, .int x97), (3, .int x98)] [.int x103] u66 _
  refine aw_iconst (x := 4) dL_law_727 728 rfl rfl ?_
  refine aw_icmp_ne dL_law_728 731 rfl 780 rfl (fun h24 => ?_) (fun h24 => ?_)
  · exact aw_none
  · exact aw_conv [3, 4, 1, 0] rfl (TC_L_law_731 l G b0 l0 f0 x97 x100 x102 u66)
set_option maxRecDepth 100000 in
set_option maxHeartbeats 4000000 in
theorem TL_L_law_542 (l : Launch) (G : qG) (b0 : Nat) (l0 : Nat) (f0 : Nat → Int32) (x161 : Int32) (x162 : Int32) (x163 : Int32) (x164 : Int32)  (e1 : qM → Option (Int32 × qM)) (he1 : ∀  (v : qM), qAW l G m_L_law (q_xl G b0 l0 f0) 612 [(0, .ref b0), (1, .ref (q_ad G 0 0)), (2, .int x161), (3, .int x162), (5, .int x163), (8, .int x164)] [] v (e1 v)) : ∀ (n : Nat) (x167 : Int32) (u103 : qM), qAW l G m_L_law (q_xl G b0 l0 f0) 542 [(0, .ref b0), (1, .ref (q_ad G 0 0)), (2, .int x161), (3, .int x162), (5, .int x163), (8, .int x164), (9, .int x167)] [] u103 (L_L_law_542 b0 l0 f0 x161 x162 x163 x164 n x167 u103 e1) := by
  intro n
  induction n with
  | zero => intros; exact aw_none
  | succ n ih =>
    intro x167 u103
    unfold L_L_law_542
    refine aw_iload (i := 9) dL_law_542 544 rfl 6 rfl ?_
    refine aw_iload (i := 5) dL_law_544 546 rfl 4 rfl ?_
    refine aw_icmp_ge dL_law_546 549 rfl 612 rfl (fun h46 => ?_) (fun h46 => ?_)
    · exact aw_conv [0, 1, 2, 3, 4, 5] rfl (he1 u103)
    · refine aw_iload (i := 9) dL_law_549 551 rfl 6 rfl ?_
      refine aw_iload_n (i := 2) dL_law_551 552 rfl rfl 2 rfl ?_
      refine aw_ck (fun h47 => ?_)
      refine aw_idiv dL_law_552 553 rfl (of_decide_eq_true h47) ?_
      refine aw_iload_n (i := 2) dL_law_553 554 rfl rfl 2 rfl ?_
      refine aw_imul dL_law_554 555 rfl ?_
      refine aw_iload_n (i := 2) dL_law_555 556 rfl rfl 2 rfl ?_
      refine aw_iadd dL_law_556 557 rfl ?_
      refine aw_iconst (x := 1) dL_law_557 558 rfl rfl ?_
      refine aw_isub dL_law_558 559 rfl ?_
      refine aw_iload (i := 9) dL_law_559 561 rfl 6 rfl ?_
      refine aw_iload_n (i := 2) dL_law_561 562 rfl rfl 2 rfl ?_
      refine aw_ck (fun h48 => ?_)
      refine aw_irem dL_law_562 563 rfl (of_decide_eq_true h48) ?_
      refine aw_isub dL_law_563 564 rfl ?_
      refine aw_lti (fun x168 => ?_)
      refine aw_istore dL_law_564 566 rfl [(10, .int x168), (0, .ref b0), (1, .ref (q_ad G 0 0)), (2, .int x161), (3, .int x162), (5, .int x163), (8, .int x164), (9, .int x167)] (by decide) rfl ?_
      refine aw_aload_n (i := 1) dL_law_566 567 rfl rfl 2 rfl ?_
      refine aw_iconst (x := 0) dL_law_567 568 rfl rfl ?_
      refine aw_iload (i := 9) dL_law_568 570 rfl 7 rfl ?_
      refine aw_iconst (x := 1) dL_law_570 571 rfl rfl ?_
      refine aw_callS (M2 := m_L_at) (cv := q_cI) dL_law_571 574 rfl (k_L_at l G 0 x167 1  u103) wl_15 wv_L_at pk_L_at rfl ⟨by decide, by decide⟩ ⟨Nat.le_of_ble_eq_true rfl, Nat.le_of_ble_eq_true rfl⟩ rfl (Nat.le_of_ble_eq_true rfl) (fun x169 u104 => ?_)
      show qAW l G m_L_law (q_xl G b0 l0 f0) 574 [(10, .int x168), (0, .ref b0), (1, .ref (q_ad G 0 0)), (2, .int x161), (3, .int x162), (5, .int x163), (8, .int x164), (9, .int x167)] [.int x169] u104 _
      refine aw_aload_n (i := 1) dL_law_574 575 rfl rfl 2 rfl ?_
      refine aw_iconst (x := 1) dL_law_575 576 rfl rfl ?_
      refine aw_iload (i := 10) dL_law_576 578 rfl 0 rfl ?_
      refine aw_iconst (x := 1) dL_law_578 579 rfl rfl ?_
      refine aw_callS (M2 := m_L_at) (cv := q_cI) dL_law_579 582 rfl (k_L_at l G 1 x168 1  u104) wl_15 wv_L_at pk_L_at rfl ⟨by decide, by decide⟩ ⟨Nat.le_of_ble_eq_true rfl, Nat.le_of_ble_eq_true rfl⟩ rfl (Nat.le_of_ble_eq_true rfl) (fun x170 u105 => ?_)
      show qAW l G m_L_law (q_xl G b0 l0 f0) 582 [(10, .int x168), (0, .ref b0), (1, .ref (q_ad G 0 0)), (2, .int x161), (3, .int x162), (5, .int x163), (8, .int x164), (9, .int x167)] [.int x170, .int x169] u105 _
      refine aw_icmp_ne dL_law_582 585 rfl 604 rfl (fun h49 => ?_) (fun h49 => ?_)
      · exact aw_none
      · refine aw_aload_n (i := 1) dL_law_585 586 rfl rfl 2 rfl ?_
        refine aw_iconst (x := 0) dL_law_586 587 rfl rfl ?_
        refine aw_iload (i := 9) dL_law_587 589 rfl 7 rfl ?_
        refine aw_iconst (x := 4) dL_law_589 590 rfl rfl ?_
        refine aw_callS (M2 := m_L_at) (cv := q_cI) dL_law_590 593 rfl (k_L_at l G 0 x167 4  u105) wl_15 wv_L_at pk_L_at rfl ⟨by decide, by decide⟩ ⟨Nat.le_of_ble_eq_true rfl, Nat.le_of_ble_eq_true rfl⟩ rfl (Nat.le_of_ble_eq_true rfl) (fun x171 u106 => ?_)
        show qAW l G m_L_law (q_xl G b0 l0 f0) 593 [(10, .int x168), (0, .ref b0), (1, .ref (q_ad G 0 0)), (2, .int x161), (3, .int x162), (5, .int x163), (8, .int x164), (9, .int x167)] [.int x171] u106 _
        refine aw_aload_n (i := 1) dL_law_593 594 rfl rfl 2 rfl ?_
        refine aw_iconst (x := 1) dL_law_594 595 rfl rfl ?_
        refine aw_iload (i := 10) dL_law_595 597 rfl 0 rfl ?_
        refine aw_iconst (x := 4) dL_law_597 598 rfl rfl ?_
        refine aw_callS (M2 := m_L_at) (cv := q_cI) dL_law_598 601 rfl (k_L_at l G 1 x168 4  u106) wl_15 wv_L_at pk_L_at rfl ⟨by decide, by decide⟩ ⟨Nat.le_of_ble_eq_true rfl, Nat.le_of_ble_eq_true rfl⟩ rfl (Nat.le_of_ble_eq_true rfl) (fun x172 u107 => ?_)
        show qAW l G m_L_law (q_xl G b0 l0 f0) 601 [(10, .int x168), (0, .ref b0), (1, .ref (q_ad G 0 0)), (2, .int x161), (3, .int x162), (5, .int x163), (8, .int x164), (9, .int x167)] [.int x172, .int x171] u107 _
        refine aw_icmp_eq dL_law_601 604 rfl 606 rfl (fun h50 => ?_) (fun h50 => ?_)
        · refine aw_iincx (i := 9) dL_law_606 609 rfl 7 rfl 1 rfl (fun x173 => [(9, .int x173), (10, .int x168), (0, .ref b0), (1, .ref (q_ad G 0 0)), (2, .int x161), (3, .int x162), (5, .int x163), (8, .int x164)]) (by decide) (fun _ => rfl) (fun x173 => ?_)
          refine aw_goto dL_law_609 542 rfl ?_
          exact aw_conv [2, 3, 4, 5, 6, 7, 0] rfl (ih x173 u107)
        · exact aw_none
set_option maxRecDepth 100000 in
set_option maxHeartbeats 4000000 in
theorem TL_L_law_511 (l : Launch) (G : qG) (b0 : Nat) (l0 : Nat) (f0 : Nat → Int32) (x161 : Int32) (x162 : Int32) (x163 : Int32)  (e1 : qM → Option (Int32 × qM)) (he1 : ∀  (v : qM), qAW l G m_L_law (q_xl G b0 l0 f0) 618 [(0, .ref b0), (1, .ref (q_ad G 0 0)), (2, .int x161), (3, .int x162), (5, .int x163)] [] v (e1 v)) : ∀ (n : Nat) (x164 : Int32) (u100 : qM), qAW l G m_L_law (q_xl G b0 l0 f0) 511 [(0, .ref b0), (1, .ref (q_ad G 0 0)), (2, .int x161), (3, .int x162), (5, .int x163), (8, .int x164)] [] u100 (L_L_law_511 b0 l0 f0 x161 x162 x163 n x164 u100 e1) := by
  intro n
  induction n with
  | zero => intros; exact aw_none
  | succ n ih =>
    intro x164 u100
    unfold L_L_law_511
    refine aw_iload (i := 8) dL_law_511 513 rfl 5 rfl ?_
    refine aw_iconst (x := 5) dL_law_513 514 rfl rfl ?_
    refine aw_icmp_ge dL_law_514 517 rfl 618 rfl (fun h43 => ?_) (fun h43 => ?_)
    · exact aw_conv [0, 1, 2, 3, 4] rfl (he1 u100)
    · refine aw_aload_n (i := 1) dL_law_517 518 rfl rfl 1 rfl ?_
      refine aw_iconst (x := 0) dL_law_518 519 rfl rfl ?_
      refine aw_iconst (x := 1) dL_law_519 520 rfl rfl ?_
      refine aw_callV (M2 := m_X10_step) (cv := q_cI) dL_law_520 523 rfl (k_X10_step l G 0 1  u100) wl_14 wv_X10_step pk_X10_step rfl rfl ⟨by decide, by decide⟩ ⟨Nat.le_of_ble_eq_true rfl, Nat.le_of_ble_eq_true rfl⟩ at_0 (ok_0 (by decide)) rfl rfl rfl (Nat.le_of_ble_eq_true rfl) (fun x165 u101 => ?_)
      show qAW l G m_L_law (q_xl G b0 l0 f0) 523 [(0, .ref b0), (1, .ref (q_ad G 0 0)), (2, .int x161), (3, .int x162), (5, .int x163), (8, .int x164)] [.int x165] u101 _
      refine aw_iconst (x := 1) dL_law_523 524 rfl rfl ?_
      refine aw_icmp_ne dL_law_524 527 rfl 537 rfl (fun h44 => ?_) (fun h44 => ?_)
      · exact aw_none
      · refine aw_aload_n (i := 1) dL_law_527 528 rfl rfl 1 rfl ?_
        refine aw_iconst (x := 1) dL_law_528 529 rfl rfl ?_
        refine aw_iconst (x := 1) dL_law_529 530 rfl rfl ?_
        refine aw_callV (M2 := m_X10_step) (cv := q_cI) dL_law_530 533 rfl (k_X10_step l G 1 1  u101) wl_14 wv_X10_step pk_X10_step rfl rfl ⟨by decide, by decide⟩ ⟨Nat.le_of_ble_eq_true rfl, Nat.le_of_ble_eq_true rfl⟩ at_0 (ok_0 (by decide)) rfl rfl rfl (Nat.le_of_ble_eq_true rfl) (fun x166 u102 => ?_)
        show qAW l G m_L_law (q_xl G b0 l0 f0) 533 [(0, .ref b0), (1, .ref (q_ad G 0 0)), (2, .int x161), (3, .int x162), (5, .int x163), (8, .int x164)] [.int x166] u102 _
        refine aw_iconst (x := 1) dL_law_533 534 rfl rfl ?_
        refine aw_icmp_eq dL_law_534 537 rfl 539 rfl (fun h45 => ?_) (fun h45 => ?_)
        · refine aw_iconst (x := 0) dL_law_539 540 rfl rfl ?_
          refine aw_istore dL_law_540 542 rfl [(9, .int 0), (0, .ref b0), (1, .ref (q_ad G 0 0)), (2, .int x161), (3, .int x162), (5, .int x163), (8, .int x164)] (by decide) rfl ?_
          refine aw_conv [1, 2, 3, 4, 5, 6, 0] rfl (TL_L_law_542 l G b0 l0 f0 x161 x162 x163 x164  _ ?_ _ 0 u102)
          · intro u108
            refine aw_iincx (i := 8) dL_law_612 615 rfl 5 rfl 1 rfl (fun x174 => [(8, .int x174), (0, .ref b0), (1, .ref (q_ad G 0 0)), (2, .int x161), (3, .int x162), (5, .int x163)]) (by decide) (fun _ => rfl) (fun x174 => ?_)
            refine aw_goto dL_law_615 511 rfl ?_
            exact aw_conv [1, 2, 3, 4, 5, 0] rfl (ih x174 u108)
        · exact aw_none
set_option maxRecDepth 100000 in
set_option maxHeartbeats 4000000 in
theorem TL_L_law_632 (l : Launch) (G : qG) (b0 : Nat) (l0 : Nat) (f0 : Nat → Int32) (x179 : Int32) (x180 : Int32) (x181 : Int32)  (e1 : qM → Option (Int32 × qM)) (he1 : ∀  (v : qM), qAW l G m_L_law (q_xl G b0 l0 f0) 691 [(0, .ref b0), (1, .ref (q_ad G 0 0)), (2, .int x179), (3, .int x180)] [] v (e1 v)) : ∀ (n : Nat) (x182 : Int32) (u113 : qM), qAW l G m_L_law (q_xl G b0 l0 f0) 632 [(0, .ref b0), (1, .ref (q_ad G 0 0)), (2, .int x179), (3, .int x180), (5, .int x181), (8, .int x182)] [] u113 (L_L_law_632 b0 l0 f0 x179 x180 x181 n x182 u113 e1) := by
  intro n
  induction n with
  | zero => intros; exact aw_none
  | succ n ih =>
    intro x182 u113
    unfold L_L_law_632
    refine aw_iload (i := 8) dL_law_632 634 rfl 5 rfl ?_
    refine aw_iconst (x := 2) dL_law_634 635 rfl rfl ?_
    refine aw_iload (i := 5) dL_law_635 637 rfl 4 rfl ?_
    refine aw_imul dL_law_637 638 rfl ?_
    refine aw_icmp_ge dL_law_638 641 rfl 691 rfl (fun h52 => ?_) (fun h52 => ?_)
    · exact aw_conv [0, 1, 2, 3] rfl (he1 u113)
    · refine aw_aload_n (i := 1) dL_law_641 642 rfl rfl 1 rfl ?_
      refine aw_iconst (x := 0) dL_law_642 643 rfl rfl ?_
      refine aw_iload (i := 8) dL_law_643 645 rfl 5 rfl ?_
      refine aw_callV (M2 := m_X10_flow) (cv := q_cI) dL_law_645 648 rfl (k_X10_flow l G 0 x182  u113) wl_23 wv_X10_flow pk_X10_flow rfl rfl ⟨by decide, by decide⟩ ⟨Nat.le_of_ble_eq_true rfl, Nat.le_of_ble_eq_true rfl⟩ at_0 (ok_0 (by decide)) rfl rfl rfl (Nat.le_of_ble_eq_true rfl) (fun x183 u114 => ?_)
      show qAW l G m_L_law (q_xl G b0 l0 f0) 648 [(0, .ref b0), (1, .ref (q_ad G 0 0)), (2, .int x179), (3, .int x180), (5, .int x181), (8, .int x182)] [.int x183] u114 _
      refine aw_istore dL_law_648 650 rfl [(9, .int x183), (0, .ref b0), (1, .ref (q_ad G 0 0)), (2, .int x179), (3, .int x180), (5, .int x181), (8, .int x182)] (by decide) rfl ?_
      refine aw_aload_n (i := 1) dL_law_650 651 rfl rfl 2 rfl ?_
      refine aw_callV (M2 := m_X10_asked) (cv := q_cI) dL_law_651 654 rfl (k_X10_asked l G   u114) wl_19 wv_X10_asked pk_X10_asked rfl rfl ⟨by decide, by decide⟩ ⟨Nat.le_of_ble_eq_true rfl, Nat.le_of_ble_eq_true rfl⟩ at_0 (ok_0 (by decide)) rfl rfl rfl (Nat.le_of_ble_eq_true rfl) (fun x184 u115 => ?_)
      show qAW l G m_L_law (q_xl G b0 l0 f0) 654 [(9, .int x183), (0, .ref b0), (1, .ref (q_ad G 0 0)), (2, .int x179), (3, .int x180), (5, .int x181), (8, .int x182)] [.int x184] u115 _
      refine aw_istore dL_law_654 656 rfl [(10, .int x184), (9, .int x183), (0, .ref b0), (1, .ref (q_ad G 0 0)), (2, .int x179), (3, .int x180), (5, .int x181), (8, .int x182)] (by decide) rfl ?_
      refine aw_iload (i := 9) dL_law_656 658 rfl 1 rfl ?_
      refine aw_aload_n (i := 1) dL_law_658 659 rfl rfl 3 rfl ?_
      refine aw_iconst (x := 1) dL_law_659 660 rfl rfl ?_
      refine aw_iload (i := 8) dL_law_660 662 rfl 7 rfl ?_
      refine aw_callV (M2 := m_X10_flow) (cv := q_cI) dL_law_662 665 rfl (k_X10_flow l G 1 x182  u115) wl_23 wv_X10_flow pk_X10_flow rfl rfl ⟨by decide, by decide⟩ ⟨Nat.le_of_ble_eq_true rfl, Nat.le_of_ble_eq_true rfl⟩ at_0 (ok_0 (by decide)) rfl rfl rfl (Nat.le_of_ble_eq_true rfl) (fun x185 u116 => ?_)
      show qAW l G m_L_law (q_xl G b0 l0 f0) 665 [(10, .int x184), (9, .int x183), (0, .ref b0), (1, .ref (q_ad G 0 0)), (2, .int x179), (3, .int x180), (5, .int x181), (8, .int x182)] [.int x185, .int x183] u116 _
      refine aw_icmp_ne dL_law_665 668 rfl 683 rfl (fun h53 => ?_) (fun h53 => ?_)
      · exact aw_none
      · refine aw_iload (i := 9) dL_law_668 670 rfl 1 rfl ?_
        refine aw_iconst (x := 1) dL_law_670 671 rfl rfl ?_
        refine aw_jn (fun k => ∀  (u117 : qM), qAW l G m_L_law (q_xl G b0 l0 f0) 685 [(0, .ref b0), (1, .ref (q_ad G 0 0)), (2, .int x179), (3, .int x180), (5, .int x181), (8, .int x182)] [] u117 (k u117)) ?_ ?_
        · intro u117
          refine aw_iincx (i := 8) dL_law_685 688 rfl 5 rfl 1 rfl (fun x186 => [(8, .int x186), (0, .ref b0), (1, .ref (q_ad G 0 0)), (2, .int x179), (3, .int x180), (5, .int x181)]) (by decide) (fun _ => rfl) (fun x186 => ?_)
          refine aw_goto dL_law_688 632 rfl ?_
          exact aw_conv [1, 2, 3, 4, 5, 0] rfl (ih x186 u117)
        · intro j5 hj5
          refine aw_icmp_ne dL_law_671 674 rfl 685 rfl (fun h54 => ?_) (fun h54 => ?_)
          · exact aw_conv [2, 3, 4, 5, 6, 7] rfl (hj5 u116)
          · refine aw_aload_n (i := 1) dL_law_674 675 rfl rfl 3 rfl ?_
            refine aw_callV (M2 := m_X10_asked) (cv := q_cI) dL_law_675 678 rfl (k_X10_asked l G   u116) wl_19 wv_X10_asked pk_X10_asked rfl rfl ⟨by decide, by decide⟩ ⟨Nat.le_of_ble_eq_true rfl, Nat.le_of_ble_eq_true rfl⟩ at_0 (ok_0 (by decide)) rfl rfl rfl (Nat.le_of_ble_eq_true rfl) (fun x187 u118 => ?_)
            show qAW l G m_L_law (q_xl G b0 l0 f0) 678 [(10, .int x184), (9, .int x183), (0, .ref b0), (1, .ref (q_ad G 0 0)), (2, .int x179), (3, .int x180), (5, .int x181), (8, .int x182)] [.int x187] u118 _
            refine aw_iload (i := 10) dL_law_678 680 rfl 0 rfl ?_
            refine aw_icmp_eq dL_law_680 683 rfl 685 rfl (fun h55 => ?_) (fun h55 => ?_)
            · exact aw_conv [2, 3, 4, 5, 6, 7] rfl (hj5 u118)
            · exact aw_none
set_option maxRecDepth 100000 in
set_option maxHeartbeats 4000000 in
theorem TC_L_law_629 (l : Launch) (G : qG) (b0 l0 : Nat) (f0 : Nat → Int32) (x179 : Int32) (x180 : Int32) (x181 : Int32) (u112 : qM) : qAW l G m_L_law (q_xl G b0 l0 f0) 629 [(0, .ref b0), (1, .ref (q_ad G 0 0)), (2, .int x179), (3, .int x180), (5, .int x181)] [] u112 (C_L_law_629 b0 l0 f0 x179 x180 x181 u112) := by
  unfold C_L_law_629
  refine aw_iconst (x := 0) dL_law_629 630 rfl rfl ?_
  refine aw_istore dL_law_630 632 rfl [(8, .int 0), (0, .ref b0), (1, .ref (q_ad G 0 0)), (2, .int x179), (3, .int x180), (5, .int x181)] (by decide) rfl ?_
  refine aw_conv [1, 2, 3, 4, 5, 0] rfl (TL_L_law_632 l G b0 l0 f0 x179 x180 x181  _ ?_ _ 0 u112)
  · intro u119
    exact TC_L_law_691 l G b0 l0 f0 x179 x180 u119
set_option maxRecDepth 100000 in
set_option maxHeartbeats 4000000 in
theorem TC_L_law_618 (l : Launch) (G : qG) (b0 l0 : Nat) (f0 : Nat → Int32) (x175 : Int32) (x176 : Int32) (x177 : Int32) (u110 : qM) : qAW l G m_L_law (q_xl G b0 l0 f0) 618 [(0, .ref b0), (1, .ref (q_ad G 0 0)), (2, .int x175), (3, .int x176), (5, .int x177)] [] u110 (C_L_law_618 b0 l0 f0 x175 x176 x177 u110) := by
  unfold C_L_law_618
  refine aw_aload_n (i := 1) dL_law_618 619 rfl rfl 1 rfl ?_
  refine aw_iconst (x := 1) dL_law_619 620 rfl rfl ?_
  refine aw_callV (M2 := m_X10_mirror) (cv := q_cI) dL_law_620 623 rfl (k_X10_mirror l G 1  u110) wl_22 wv_X10_mirror pk_X10_mirror rfl rfl ⟨by decide, by decide⟩ ⟨Nat.le_of_ble_eq_true rfl, Nat.le_of_ble_eq_true rfl⟩ at_0 (ok_0 (by decide)) rfl rfl rfl (Nat.le_of_ble_eq_true rfl) (fun x178 u111 => ?_)
  show qAW l G m_L_law (q_xl G b0 l0 f0) 623 [(0, .ref b0), (1, .ref (q_ad G 0 0)), (2, .int x175), (3, .int x176), (5, .int x177)] [.int x178] u111 _
  refine aw_iconst (x := 1) dL_law_623 624 rfl rfl ?_
  refine aw_icmp_eq dL_law_624 627 rfl 629 rfl (fun h51 => ?_) (fun h51 => ?_)
  · exact TC_L_law_629 l G b0 l0 f0 x175 x176 x177 u111
  · exact aw_none
set_option maxRecDepth 100000 in
set_option maxHeartbeats 4000000 in
theorem TC_L_law_508 (l : Launch) (G : qG) (b0 l0 : Nat) (f0 : Nat → Int32) (x161 : Int32) (x162 : Int32) (x163 : Int32) (u99 : qM) : qAW l G m_L_law (q_xl G b0 l0 f0) 508 [(0, .ref b0), (1, .ref (q_ad G 0 0)), (2, .int x161), (3, .int x162), (5, .int x163)] [] u99 (C_L_law_508 b0 l0 f0 x161 x162 x163 u99) := by
  unfold C_L_law_508
  refine aw_iconst (x := 0) dL_law_508 509 rfl rfl ?_
  refine aw_istore dL_law_509 511 rfl [(8, .int 0), (0, .ref b0), (1, .ref (q_ad G 0 0)), (2, .int x161), (3, .int x162), (5, .int x163)] (by decide) rfl ?_
  refine aw_conv [1, 2, 3, 4, 5, 0] rfl (TL_L_law_511 l G b0 l0 f0 x161 x162 x163  _ ?_ _ 0 u99)
  · intro u109
    exact TC_L_law_618 l G b0 l0 f0 x161 x162 x163 u109
set_option maxRecDepth 100000 in
set_option maxHeartbeats 4000000 in
theorem TC_L_law_497 (l : Launch) (G : qG) (b0 l0 : Nat) (f0 : Nat → Int32) (x157 : Int32) (x158 : Int32) (x159 : Int32) (u97 : qM) : qAW l G m_L_law (q_xl G b0 l0 f0) 497 [(0, .ref b0), (1, .ref (q_ad G 0 0)), (2, .int x157), (3, .int x158), (5, .int x159)] [] u97 (C_L_law_497 b0 l0 f0 x157 x158 x159 u97) := by
  unfold C_L_law_497
  refine aw_aload_n (i := 1) dL_law_497 498 rfl rfl 1 rfl ?_
  refine aw_iconst (x := 1) dL_law_498 499 rfl rfl ?_
  refine aw_callV (M2 := m_X10_mirror) (cv := q_cI) dL_law_499 502 rfl (k_X10_mirror l G 1  u97) wl_22 wv_X10_mirror pk_X10_mirror rfl rfl ⟨by decide, by decide⟩ ⟨Nat.le_of_ble_eq_true rfl, Nat.le_of_ble_eq_true rfl⟩ at_0 (ok_0 (by decide)) rfl rfl rfl (Nat.le_of_ble_eq_true rfl) (fun x160 u98 => ?_)
  show qAW l G m_L_law (q_xl G b0 l0 f0) 502 [(0, .ref b0), (1, .ref (q_ad G 0 0)), (2, .int x157), (3, .int x158), (5, .int x159)] [.int x160] u98 _
  refine aw_iconst (x := 1) dL_law_502 503 rfl rfl ?_
  refine aw_icmp_eq dL_law_503 506 rfl 508 rfl (fun h42 => ?_) (fun h42 => ?_)
  · exact TC_L_law_508 l G b0 l0 f0 x157 x158 x159 u98
  · exact aw_none
set_option maxRecDepth 100000 in
set_option maxHeartbeats 4000000 in
theorem TC_L_law_492 (l : Launch) (G : qG) (b0 l0 : Nat) (f0 : Nat → Int32) (x93 : Int32) (x94 : Int32) (x95 : Int32) (x96 : Int32) (u60 : qM) : qAW l G m_L_law (q_xl G b0 l0 f0) 492 [(0, .ref b0), (1, .ref (q_ad G 0 0)), (2, .int x93), (3, .int x94), (4, .int x95), (5, .int x96)] [] u60 (C_L_law_492 b0 l0 f0 x93 x94 x95 x96 u60) := by
  unfold C_L_law_492
  refine aw_iload (i := 4) dL_law_492 494 rfl 4 rfl ?_
  refine aw_if_ne dL_law_494 497 rfl 691 rfl (fun h23 => ?_) (fun h23 => ?_)
  · exact aw_conv [0, 1, 2, 3] rfl (TC_L_law_691 l G b0 l0 f0 x93 x94 u60)
  · exact aw_conv [0, 1, 2, 3, 5] rfl (TC_L_law_497 l G b0 l0 f0 x93 x94 x96 u60)
set_option maxRecDepth 100000 in
set_option maxHeartbeats 4000000 in
theorem TC_L_law_436 (l : Launch) (G : qG) (b0 l0 : Nat) (f0 : Nat → Int32) (x83 : Int32) (x84 : Int32) (x85 : Int32) (x86 : Int32) (u53 : qM) : qAW l G m_L_law (q_xl G b0 l0 f0) 436 [(0, .ref b0), (1, .ref (q_ad G 0 0)), (2, .int x83), (3, .int x84), (4, .int x85), (5, .int x86)] [] u53 (C_L_law_436 b0 l0 f0 x83 x84 x85 x86 u53) := by
  unfold C_L_law_436
  refine aw_iconst (x := 0) dL_law_436 437 rfl rfl ?_
  refine aw_istore dL_law_437 439 rfl [(8, .int 0), (0, .ref b0), (1, .ref (q_ad G 0 0)), (2, .int x83), (3, .int x84), (4, .int x85), (5, .int x86)] (by decide) rfl ?_
  refine aw_conv [1, 2, 3, 4, 5, 6, 0] rfl (TL_L_law_439 l G b0 l0 f0 x83 x84 x85 x86  _ ?_ _ 0 u53)
  · intro u59
    exact TC_L_law_492 l G b0 l0 f0 x83 x84 x85 x86 u59
set_option maxRecDepth 100000 in
set_option maxHeartbeats 4000000 in
theorem TC_L_law_422 (l : Launch) (G : qG) (b0 l0 : Nat) (f0 : Nat → Int32) (x78 : Int32) (x79 : Int32) (x80 : Int32) (x81 : Int32) (u51 : qM) : qAW l G m_L_law (q_xl G b0 l0 f0) 422 [(0, .ref b0), (1, .ref (q_ad G 0 0)), (2, .int x78), (3, .int x79), (4, .int x80), (5, .int x81)] [] u51 (C_L_law_422 b0 l0 f0 x78 x79 x80 x81 u51) := by
  unfold C_L_law_422
  refine aw_aload_n (i := 1) dL_law_422 423 rfl rfl 1 rfl ?_
  refine aw_iconst (x := 1) dL_law_423 424 rfl rfl ?_
  refine aw_bipush (x := 12) dL_law_424 426 rfl rfl ?_
  refine aw_callV (M2 := m_X10_step) (cv := q_cI) dL_law_426 429 rfl (k_X10_step l G 1 12  u51) wl_14 wv_X10_step pk_X10_step rfl rfl ⟨by decide, by decide⟩ ⟨Nat.le_of_ble_eq_true rfl, Nat.le_of_ble_eq_true rfl⟩ at_0 (ok_0 (by decide)) rfl rfl rfl (Nat.le_of_ble_eq_true rfl) (fun x82 u52 => ?_)
  show qAW l G m_L_law (q_xl G b0 l0 f0) 429 [(0, .ref b0), (1, .ref (q_ad G 0 0)), (2, .int x78), (3, .int x79), (4, .int x80), (5, .int x81)] [.int x82] u52 _
  refine aw_bipush (x := 12) dL_law_429 431 rfl rfl ?_
  refine aw_icmp_eq dL_law_431 434 rfl 436 rfl (fun h19 => ?_) (fun h19 => ?_)
  · exact TC_L_law_436 l G b0 l0 f0 x78 x79 x80 x81 u52
  · exact aw_none
set_option maxRecDepth 100000 in
set_option maxHeartbeats 4000000 in
theorem TC_L_law_288 (l : Launch) (G : qG) (b0 l0 : Nat) (f0 : Nat → Int32) (x61 : Int32) (x62 : Int32) (x63 : Int32) (x64 : Int32) (u37 : qM) : qAW l G m_L_law (q_xl G b0 l0 f0) 288 [(0, .ref b0), (1, .ref (q_ad G 0 0)), (2, .int x61), (3, .int x62), (4, .int x63), (5, .int x64)] [] u37 (C_L_law_288 b0 l0 f0 x61 x62 x63 x64 u37) := by
  unfold C_L_law_288
  refine aw_aload_n (i := 1) dL_law_288 289 rfl rfl 1 rfl ?_
  refine aw_iconst (x := 0) dL_law_289 290 rfl rfl ?_
  refine aw_iconst (x := 4) dL_law_290 291 rfl rfl ?_
  refine aw_callS (M2 := m_L_told) (cv := q_cI) dL_law_291 294 rfl (k_L_told l G 0 4  u37) wl_13 wv_L_told pk_L_told rfl ⟨by decide, by decide⟩ ⟨Nat.le_of_ble_eq_true rfl, Nat.le_of_ble_eq_true rfl⟩ rfl (Nat.le_of_ble_eq_true rfl) (fun x65 u38 => ?_)
  show qAW l G m_L_law (q_xl G b0 l0 f0) 294 [(0, .ref b0), (1, .ref (q_ad G 0 0)), (2, .int x61), (3, .int x62), (4, .int x63), (5, .int x64)] [.int x65] u38 _
  refine aw_istore dL_law_294 296 rfl [(6, .int x65), (0, .ref b0), (1, .ref (q_ad G 0 0)), (2, .int x61), (3, .int x62), (4, .int x63), (5, .int x64)] (by decide) rfl ?_
  refine aw_aload_n (i := 1) dL_law_296 297 rfl rfl 2 rfl ?_
  refine aw_iconst (x := 0) dL_law_297 298 rfl rfl ?_
  refine aw_bipush (x := 8) dL_law_298 300 rfl rfl ?_
  refine aw_callS (M2 := m_L_told) (cv := q_cI) dL_law_300 303 rfl (k_L_told l G 0 8  u38) wl_13 wv_L_told pk_L_told rfl ⟨by decide, by decide⟩ ⟨Nat.le_of_ble_eq_true rfl, Nat.le_of_ble_eq_true rfl⟩ rfl (Nat.le_of_ble_eq_true rfl) (fun x66 u39 => ?_)
  show qAW l G m_L_law (q_xl G b0 l0 f0) 303 [(6, .int x65), (0, .ref b0), (1, .ref (q_ad G 0 0)), (2, .int x61), (3, .int x62), (4, .int x63), (5, .int x64)] [.int x66] u39 _
  refine aw_istore dL_law_303 305 rfl [(7, .int x66), (6, .int x65), (0, .ref b0), (1, .ref (q_ad G 0 0)), (2, .int x61), (3, .int x62), (4, .int x63), (5, .int x64)] (by decide) rfl ?_
  refine aw_iconst (x := 0) dL_law_305 306 rfl rfl ?_
  refine aw_istore dL_law_306 308 rfl [(8, .int 0), (7, .int x66), (6, .int x65), (0, .ref b0), (1, .ref (q_ad G 0 0)), (2, .int x61), (3, .int x62), (4, .int x63), (5, .int x64)] (by decide) rfl ?_
  refine aw_conv [3, 4, 5, 6, 7, 8, 2, 1, 0] rfl (TL_L_law_308 l G b0 l0 f0 x61 x62 x63 x64 x65 x66  _ ?_ _ 0 u39)
  · intro u50
    exact TC_L_law_422 l G b0 l0 f0 x61 x62 x63 x64 u50
set_option maxRecDepth 100000 in
set_option maxHeartbeats 4000000 in
theorem TC_L_law_275 (l : Launch) (G : qG) (b0 l0 : Nat) (f0 : Nat → Int32) (x56 : Int32) (x57 : Int32) (x58 : Int32) (x59 : Int32) (u35 : qM) : qAW l G m_L_law (q_xl G b0 l0 f0) 275 [(0, .ref b0), (1, .ref (q_ad G 0 0)), (2, .int x56), (3, .int x57), (4, .int x58), (5, .int x59)] [] u35 (C_L_law_275 b0 l0 f0 x56 x57 x58 x59 u35) := by
  unfold C_L_law_275
  refine aw_aload_n (i := 1) dL_law_275 276 rfl rfl 1 rfl ?_
  refine aw_iconst (x := 0) dL_law_276 277 rfl rfl ?_
  refine aw_iconst (x := 1) dL_law_277 278 rfl rfl ?_
  refine aw_callV (M2 := m_X10_keep) (cv := q_cI) dL_law_278 281 rfl (k_X10_keep l G 0 1  u35) wl_12 wv_X10_keep pk_X10_keep rfl rfl ⟨by decide, by decide⟩ ⟨Nat.le_of_ble_eq_true rfl, Nat.le_of_ble_eq_true rfl⟩ at_0 (ok_0 (by decide)) rfl rfl rfl (Nat.le_of_ble_eq_true rfl) (fun x60 u36 => ?_)
  show qAW l G m_L_law (q_xl G b0 l0 f0) 281 [(0, .ref b0), (1, .ref (q_ad G 0 0)), (2, .int x56), (3, .int x57), (4, .int x58), (5, .int x59)] [.int x60] u36 _
  refine aw_iload (i := 5) dL_law_281 283 rfl 5 rfl ?_
  refine aw_icmp_eq dL_law_283 286 rfl 288 rfl (fun h10 => ?_) (fun h10 => ?_)
  · exact TC_L_law_288 l G b0 l0 f0 x56 x57 x58 x59 u36
  · exact aw_none
set_option maxRecDepth 100000 in
set_option maxHeartbeats 4000000 in
theorem TC_L_law_248 (l : Launch) (G : qG) (b0 l0 : Nat) (f0 : Nat → Int32) (x48 : Int32) (x49 : Int32) (x50 : Int32) (x51 : Int32) (u30 : qM) : qAW l G m_L_law (q_xl G b0 l0 f0) 248 [(0, .ref b0), (1, .ref (q_ad G 0 0)), (2, .int x48), (3, .int x49), (4, .int x50), (5, .int x51)] [] u30 (C_L_law_248 b0 l0 f0 x48 x49 x50 x51 u30) := by
  unfold C_L_law_248
  refine aw_aload_n (i := 1) dL_law_248 249 rfl rfl 1 rfl ?_
  refine aw_iconst (x := 0) dL_law_249 250 rfl rfl ?_
  refine aw_iconst (x := 0) dL_law_250 251 rfl rfl ?_
  refine aw_aload_n (i := 0) dL_law_251 252 rfl rfl 0 rfl ?_
  refine aw_bipush (x := 45) dL_law_252 254 rfl rfl ?_
  refine aw_callSx (M2 := m_L_cell) (cv := q_cI) (fun _ _ h => q_xl_pre h) dL_law_254 257 rfl (kx_L_cell l G b0 l0 f0 45 u30) wl_1 wv_L_cell pk_L_cell rfl ⟨by decide, by decide⟩ ⟨Nat.le_of_ble_eq_true rfl, Nat.le_of_ble_eq_true rfl⟩ rfl (Nat.le_of_ble_eq_true rfl) (fun x52 u31 => ?_)
  show qAW l G m_L_law (q_xl G b0 l0 f0) 257 [(0, .ref b0), (1, .ref (q_ad G 0 0)), (2, .int x48), (3, .int x49), (4, .int x50), (5, .int x51)] [.int x52, .int 0, .int 0, .ref (q_ad G 0 0)] u31 _
  refine aw_iconst (x := 2) dL_law_257 258 rfl rfl ?_
  refine aw_callS (M2 := m_L_low) (cv := q_cI) dL_law_258 261 rfl (k_L_low l G x52 2  u31) wl_2 wv_L_low pk_L_low rfl ⟨by decide, by decide⟩ ⟨Nat.le_of_ble_eq_true rfl, Nat.le_of_ble_eq_true rfl⟩ rfl (Nat.le_of_ble_eq_true rfl) (fun x53 u32 => ?_)
  show qAW l G m_L_law (q_xl G b0 l0 f0) 261 [(0, .ref b0), (1, .ref (q_ad G 0 0)), (2, .int x48), (3, .int x49), (4, .int x50), (5, .int x51)] [.int x53, .int 0, .int 0, .ref (q_ad G 0 0)] u32 _
  refine aw_jn (fun k => ∀ (x54 : Int32) (u33 : qM), qAW l G m_L_law (q_xl G b0 l0 f0) 269 [(0, .ref b0), (1, .ref (q_ad G 0 0)), (2, .int x48), (3, .int x49), (4, .int x50), (5, .int x51)] [.int x54, .int 0, .int 0, .ref (q_ad G 0 0)] u33 (k x54 u33)) ?_ ?_
  · intro x54 u33
    refine aw_callV (M2 := m_X10_gate) (cv := q_cI) dL_law_269 272 rfl (k_X10_gate l G 0 0 x54  u33) wl_11 wv_X10_gate pk_X10_gate rfl rfl ⟨by decide, by decide⟩ ⟨Nat.le_of_ble_eq_true rfl, Nat.le_of_ble_eq_true rfl⟩ at_0 (ok_0 (by decide)) rfl rfl rfl (Nat.le_of_ble_eq_true rfl) (fun x55 u34 => ?_)
    show qAW l G m_L_law (q_xl G b0 l0 f0) 272 [(0, .ref b0), (1, .ref (q_ad G 0 0)), (2, .int x48), (3, .int x49), (4, .int x50), (5, .int x51)] [.int x55] u34 _
    refine aw_if_ne dL_law_272 275 rfl 286 rfl (fun h9 => ?_) (fun h9 => ?_)
    · exact aw_none
    · exact TC_L_law_275 l G b0 l0 f0 x48 x49 x50 x51 u34
  · intro j2 hj2
    refine aw_if_ne dL_law_261 264 rfl 268 rfl (fun h8 => ?_) (fun h8 => ?_)
    · refine aw_iconst (x := 0) dL_law_268 269 rfl rfl ?_
      exact hj2 0 u32
    · refine aw_iconst (x := 1) dL_law_264 265 rfl rfl ?_
      refine aw_goto dL_law_265 269 rfl ?_
      exact hj2 1 u32
set_option maxRecDepth 100000 in
set_option maxHeartbeats 4000000 in
theorem TC_L_law_235 (l : Launch) (G : qG) (b0 l0 : Nat) (f0 : Nat → Int32) (x205 : Int32) (x206 : Int32) (x207 : Int32) (x208 : Int32) (u128 : qM) : qAW l G m_L_law (q_xl G b0 l0 f0) 235 [(0, .ref b0), (1, .ref (q_ad G 0 0)), (2, .int x205), (3, .int x206), (4, .int x207), (5, .int x208)] [] u128 (C_L_law_235 b0 l0 f0 x205 x206 x207 x208 u128) := by
  unfold C_L_law_235
  refine aw_aload_n (i := 1) dL_law_235 236 rfl rfl 1 rfl ?_
  refine aw_iconst (x := 0) dL_law_236 237 rfl rfl ?_
  refine aw_iconst (x := 1) dL_law_237 238 rfl rfl ?_
  refine aw_iconst (x := 5) dL_law_238 239 rfl rfl ?_
  refine aw_callV (M2 := m_X10_tide) (cv := q_cI) dL_law_239 242 rfl (k_X10_tide l G 0 1 5  u128) wl_26 wv_X10_tide pk_X10_tide rfl rfl ⟨by decide, by decide⟩ ⟨Nat.le_of_ble_eq_true rfl, Nat.le_of_ble_eq_true rfl⟩ at_0 (ok_0 (by decide)) rfl rfl rfl (Nat.le_of_ble_eq_true rfl) (fun x209 u129 => ?_)
  show qAW l G m_L_law (q_xl G b0 l0 f0) 242 [(0, .ref b0), (1, .ref (q_ad G 0 0)), (2, .int x205), (3, .int x206), (4, .int x207), (5, .int x208)] [.int x209] u129 _
  refine aw_iconst (x := 1) dL_law_242 243 rfl rfl ?_
  refine aw_icmp_eq dL_law_243 246 rfl 248 rfl (fun h59 => ?_) (fun h59 => ?_)
  · exact TC_L_law_248 l G b0 l0 f0 x205 x206 x207 x208 u129
  · exact aw_none
set_option maxRecDepth 100000 in
set_option maxHeartbeats 4000000 in
theorem TC_L_law_223 (l : Launch) (G : qG) (b0 l0 : Nat) (f0 : Nat → Int32) (x200 : Int32) (x201 : Int32) (x202 : Int32) (x203 : Int32) (u126 : qM) : qAW l G m_L_law (q_xl G b0 l0 f0) 223 [(0, .ref b0), (1, .ref (q_ad G 0 0)), (2, .int x200), (3, .int x201), (4, .int x202), (5, .int x203)] [] u126 (C_L_law_223 b0 l0 f0 x200 x201 x202 x203 u126) := by
  unfold C_L_law_223
  refine aw_aload_n (i := 1) dL_law_223 224 rfl rfl 1 rfl ?_
  refine aw_iconst (x := 1) dL_law_224 225 rfl rfl ?_
  refine aw_iconst (x := 1) dL_law_225 226 rfl rfl ?_
  refine aw_bipush (x := 30) dL_law_226 228 rfl rfl ?_
  refine aw_callV (M2 := m_X10_lay) (cv := q_cI) dL_law_228 231 rfl (k_X10_lay l G 1 1 30  u126) wl_25 wv_X10_lay pk_X10_lay rfl rfl ⟨by decide, by decide⟩ ⟨Nat.le_of_ble_eq_true rfl, Nat.le_of_ble_eq_true rfl⟩ at_0 (ok_0 (by decide)) rfl rfl rfl (Nat.le_of_ble_eq_true rfl) (fun x204 u127 => ?_)
  show qAW l G m_L_law (q_xl G b0 l0 f0) 231 [(0, .ref b0), (1, .ref (q_ad G 0 0)), (2, .int x200), (3, .int x201), (4, .int x202), (5, .int x203)] [.int x204] u127 _
  refine aw_iconst (x := 1) dL_law_231 232 rfl rfl ?_
  refine aw_icmp_ne dL_law_232 235 rfl 246 rfl (fun h58 => ?_) (fun h58 => ?_)
  · exact aw_none
  · exact TC_L_law_235 l G b0 l0 f0 x200 x201 x202 x203 u127
set_option maxRecDepth 100000 in
set_option maxHeartbeats 4000000 in
theorem TC_L_law_202 (l : Launch) (G : qG) (b0 l0 : Nat) (f0 : Nat → Int32) (x193 : Int32) (x194 : Int32) (x195 : Int32) (x196 : Int32) (u122 : qM) : qAW l G m_L_law (q_xl G b0 l0 f0) 202 [(0, .ref b0), (1, .ref (q_ad G 0 0)), (2, .int x193), (3, .int x194), (4, .int x195), (5, .int x196)] [] u122 (C_L_law_202 b0 l0 f0 x193 x194 x195 x196 u122) := by
  unfold C_L_law_202
  refine aw_aload_n (i := 1) dL_law_202 203 rfl rfl 1 rfl ?_
  refine aw_iconst (x := 1) dL_law_203 204 rfl rfl ?_
  refine aw_iconst (x := 0) dL_law_204 205 rfl rfl ?_
  refine aw_aload_n (i := 0) dL_law_205 206 rfl rfl 0 rfl ?_
  refine aw_bipush (x := 9) dL_law_206 208 rfl rfl ?_
  refine aw_callSx (M2 := m_L_cell) (cv := q_cI) (fun _ _ h => q_xl_pre h) dL_law_208 211 rfl (kx_L_cell l G b0 l0 f0 9 u122) wl_1 wv_L_cell pk_L_cell rfl ⟨by decide, by decide⟩ ⟨Nat.le_of_ble_eq_true rfl, Nat.le_of_ble_eq_true rfl⟩ rfl (Nat.le_of_ble_eq_true rfl) (fun x197 u123 => ?_)
  show qAW l G m_L_law (q_xl G b0 l0 f0) 211 [(0, .ref b0), (1, .ref (q_ad G 0 0)), (2, .int x193), (3, .int x194), (4, .int x195), (5, .int x196)] [.int x197, .int 0, .int 1, .ref (q_ad G 0 0)] u123 _
  refine aw_bipush (x := 90) dL_law_211 213 rfl rfl ?_
  refine aw_callS (M2 := m_L_low) (cv := q_cI) dL_law_213 216 rfl (k_L_low l G x197 90  u123) wl_2 wv_L_low pk_L_low rfl ⟨by decide, by decide⟩ ⟨Nat.le_of_ble_eq_true rfl, Nat.le_of_ble_eq_true rfl⟩ rfl (Nat.le_of_ble_eq_true rfl) (fun x198 u124 => ?_)
  show qAW l G m_L_law (q_xl G b0 l0 f0) 216 [(0, .ref b0), (1, .ref (q_ad G 0 0)), (2, .int x193), (3, .int x194), (4, .int x195), (5, .int x196)] [.int x198, .int 0, .int 1, .ref (q_ad G 0 0)] u124 _
  refine aw_callV (M2 := m_X10_lay) (cv := q_cI) dL_law_216 219 rfl (k_X10_lay l G 1 0 x198  u124) wl_25 wv_X10_lay pk_X10_lay rfl rfl ⟨by decide, by decide⟩ ⟨Nat.le_of_ble_eq_true rfl, Nat.le_of_ble_eq_true rfl⟩ at_0 (ok_0 (by decide)) rfl rfl rfl (Nat.le_of_ble_eq_true rfl) (fun x199 u125 => ?_)
  show qAW l G m_L_law (q_xl G b0 l0 f0) 219 [(0, .ref b0), (1, .ref (q_ad G 0 0)), (2, .int x193), (3, .int x194), (4, .int x195), (5, .int x196)] [.int x199] u125 _
  refine aw_iconst (x := 1) dL_law_219 220 rfl rfl ?_
  refine aw_icmp_ne dL_law_220 223 rfl 246 rfl (fun h57 => ?_) (fun h57 => ?_)
  · exact aw_none
  · exact TC_L_law_223 l G b0 l0 f0 x193 x194 x195 x196 u125
set_option maxRecDepth 100000 in
set_option maxHeartbeats 4000000 in
theorem TC_L_law_192 (l : Launch) (G : qG) (b0 l0 : Nat) (f0 : Nat → Int32) (x188 : Int32) (x189 : Int32) (x190 : Int32) (x191 : Int32) (u120 : qM) : qAW l G m_L_law (q_xl G b0 l0 f0) 192 [(0, .ref b0), (1, .ref (q_ad G 0 0)), (2, .int x188), (3, .int x189), (4, .int x190), (5, .int x191)] [] u120 (C_L_law_192 b0 l0 f0 x188 x189 x190 x191 u120) := by
  unfold C_L_law_192
  refine aw_aload_n (i := 1) dL_law_192 193 rfl rfl 1 rfl ?_
  refine aw_iconst (x := 1) dL_law_193 194 rfl rfl ?_
  refine aw_iconst (x := 3) dL_law_194 195 rfl rfl ?_
  refine aw_callV (M2 := m_X10_row) (cv := q_cI) dL_law_195 198 rfl (k_X10_row l G 1 3  u120) wl_24 wv_X10_row pk_X10_row rfl rfl ⟨by decide, by decide⟩ ⟨Nat.le_of_ble_eq_true rfl, Nat.le_of_ble_eq_true rfl⟩ at_0 (ok_0 (by decide)) rfl rfl rfl (Nat.le_of_ble_eq_true rfl) (fun x192 u121 => ?_)
  show qAW l G m_L_law (q_xl G b0 l0 f0) 198 [(0, .ref b0), (1, .ref (q_ad G 0 0)), (2, .int x188), (3, .int x189), (4, .int x190), (5, .int x191)] [.int x192] u121 _
  refine aw_iconst (x := 3) dL_law_198 199 rfl rfl ?_
  refine aw_icmp_ne dL_law_199 202 rfl 246 rfl (fun h56 => ?_) (fun h56 => ?_)
  · exact aw_none
  · exact TC_L_law_202 l G b0 l0 f0 x188 x189 x190 x191 u121
set_option maxRecDepth 100000 in
set_option maxHeartbeats 4000000 in
theorem TC_L_law_187 (l : Launch) (G : qG) (b0 l0 : Nat) (f0 : Nat → Int32) (x44 : Int32) (x45 : Int32) (x46 : Int32) (x47 : Int32) (u29 : qM) : qAW l G m_L_law (q_xl G b0 l0 f0) 187 [(0, .ref b0), (1, .ref (q_ad G 0 0)), (2, .int x44), (3, .int x45), (4, .int x46), (5, .int x47)] [] u29 (C_L_law_187 b0 l0 f0 x44 x45 x46 x47 u29) := by
  unfold C_L_law_187
  refine aw_iload (i := 4) dL_law_187 189 rfl 4 rfl ?_
  refine aw_if_le dL_law_189 192 rfl 248 rfl (fun h7 => ?_) (fun h7 => ?_)
  · exact TC_L_law_248 l G b0 l0 f0 x44 x45 x46 x47 u29
  · exact TC_L_law_192 l G b0 l0 f0 x44 x45 x46 x47 u29
set_option maxRecDepth 100000 in
set_option maxHeartbeats 4000000 in
theorem TC_L_law_154 (l : Launch) (G : qG) (b0 l0 : Nat) (f0 : Nat → Int32) (x35 : Int32) (x36 : Int32) (x37 : Int32) (x38 : Int32) (u23 : qM) : qAW l G m_L_law (q_xl G b0 l0 f0) 154 [(0, .ref b0), (1, .ref (q_ad G 0 0)), (2, .int x35), (3, .int x36), (4, .int x37), (5, .int x38)] [] u23 (C_L_law_154 b0 l0 f0 x35 x36 x37 x38 u23) := by
  unfold C_L_law_154
  refine aw_aload_n (i := 1) dL_law_154 155 rfl rfl 1 rfl ?_
  refine aw_iconst (x := 0) dL_law_155 156 rfl rfl ?_
  refine aw_aload_n (i := 0) dL_law_156 157 rfl rfl 0 rfl ?_
  refine aw_bipush (x := 7) dL_law_157 159 rfl rfl ?_
  refine aw_callSx (M2 := m_L_cell) (cv := q_cI) (fun _ _ h => q_xl_pre h) dL_law_159 162 rfl (kx_L_cell l G b0 l0 f0 7 u23) wl_1 wv_L_cell pk_L_cell rfl ⟨by decide, by decide⟩ ⟨Nat.le_of_ble_eq_true rfl, Nat.le_of_ble_eq_true rfl⟩ rfl (Nat.le_of_ble_eq_true rfl) (fun x39 u24 => ?_)
  show qAW l G m_L_law (q_xl G b0 l0 f0) 162 [(0, .ref b0), (1, .ref (q_ad G 0 0)), (2, .int x35), (3, .int x36), (4, .int x37), (5, .int x38)] [.int x39, .int 0, .ref (q_ad G 0 0)] u24 _
  refine aw_iload (i := 5) dL_law_162 164 rfl 5 rfl ?_
  refine aw_callS (M2 := m_L_low) (cv := q_cI) dL_law_164 167 rfl (k_L_low l G x39 x38  u24) wl_2 wv_L_low pk_L_low rfl ⟨by decide, by decide⟩ ⟨Nat.le_of_ble_eq_true rfl, Nat.le_of_ble_eq_true rfl⟩ rfl (Nat.le_of_ble_eq_true rfl) (fun x40 u25 => ?_)
  show qAW l G m_L_law (q_xl G b0 l0 f0) 167 [(0, .ref b0), (1, .ref (q_ad G 0 0)), (2, .int x35), (3, .int x36), (4, .int x37), (5, .int x38)] [.int x40, .int 0, .ref (q_ad G 0 0)] u25 _
  refine aw_aload_n (i := 0) dL_law_167 168 rfl rfl 0 rfl ?_
  refine aw_bipush (x := 8) dL_law_168 170 rfl rfl ?_
  refine aw_callSx (M2 := m_L_cell) (cv := q_cI) (fun _ _ h => q_xl_pre h) dL_law_170 173 rfl (kx_L_cell l G b0 l0 f0 8 u25) wl_1 wv_L_cell pk_L_cell rfl ⟨by decide, by decide⟩ ⟨Nat.le_of_ble_eq_true rfl, Nat.le_of_ble_eq_true rfl⟩ rfl (Nat.le_of_ble_eq_true rfl) (fun x41 u26 => ?_)
  show qAW l G m_L_law (q_xl G b0 l0 f0) 173 [(0, .ref b0), (1, .ref (q_ad G 0 0)), (2, .int x35), (3, .int x36), (4, .int x37), (5, .int x38)] [.int x41, .int x40, .int 0, .ref (q_ad G 0 0)] u26 _
  refine aw_bipush (x := 40) dL_law_173 175 rfl rfl ?_
  refine aw_callS (M2 := m_L_low) (cv := q_cI) dL_law_175 178 rfl (k_L_low l G x41 40  u26) wl_2 wv_L_low pk_L_low rfl ⟨by decide, by decide⟩ ⟨Nat.le_of_ble_eq_true rfl, Nat.le_of_ble_eq_true rfl⟩ rfl (Nat.le_of_ble_eq_true rfl) (fun x42 u27 => ?_)
  show qAW l G m_L_law (q_xl G b0 l0 f0) 178 [(0, .ref b0), (1, .ref (q_ad G 0 0)), (2, .int x35), (3, .int x36), (4, .int x37), (5, .int x38)] [.int x42, .int x40, .int 0, .ref (q_ad G 0 0)] u27 _
  refine aw_callV (M2 := m_X10_river) (cv := q_cI) dL_law_178 181 rfl (k_X10_river l G 0 x40 x42  u27) wl_10 wv_X10_river pk_X10_river rfl rfl ⟨by decide, by decide⟩ ⟨Nat.le_of_ble_eq_true rfl, Nat.le_of_ble_eq_true rfl⟩ at_0 (ok_0 (by decide)) rfl rfl rfl (Nat.le_of_ble_eq_true rfl) (fun x43 u28 => ?_)
  show qAW l G m_L_law (q_xl G b0 l0 f0) 181 [(0, .ref b0), (1, .ref (q_ad G 0 0)), (2, .int x35), (3, .int x36), (4, .int x37), (5, .int x38)] [.int x43] u28 _
  refine aw_iconst (x := 1) dL_law_181 182 rfl rfl ?_
  refine aw_icmp_eq dL_law_182 185 rfl 187 rfl (fun h6 => ?_) (fun h6 => ?_)
  · exact TC_L_law_187 l G b0 l0 f0 x35 x36 x37 x38 u28
  · exact aw_none
set_option maxRecDepth 100000 in
set_option maxHeartbeats 4000000 in
theorem TC_L_law_118 (l : Launch) (G : qG) (b0 l0 : Nat) (f0 : Nat → Int32) (x26 : Int32) (x27 : Int32) (x28 : Int32) (x29 : Int32) (u17 : qM) : qAW l G m_L_law (q_xl G b0 l0 f0) 118 [(0, .ref b0), (1, .ref (q_ad G 0 0)), (2, .int x26), (3, .int x27), (4, .int x28), (5, .int x29)] [] u17 (C_L_law_118 b0 l0 f0 x26 x27 x28 x29 u17) := by
  unfold C_L_law_118
  refine aw_aload_n (i := 1) dL_law_118 119 rfl rfl 1 rfl ?_
  refine aw_iconst (x := 0) dL_law_119 120 rfl rfl ?_
  refine aw_aload_n (i := 0) dL_law_120 121 rfl rfl 0 rfl ?_
  refine aw_iconst (x := 5) dL_law_121 122 rfl rfl ?_
  refine aw_callSx (M2 := m_L_cell) (cv := q_cI) (fun _ _ h => q_xl_pre h) dL_law_122 125 rfl (kx_L_cell l G b0 l0 f0 5 u17) wl_1 wv_L_cell pk_L_cell rfl ⟨by decide, by decide⟩ ⟨Nat.le_of_ble_eq_true rfl, Nat.le_of_ble_eq_true rfl⟩ rfl (Nat.le_of_ble_eq_true rfl) (fun x30 u18 => ?_)
  show qAW l G m_L_law (q_xl G b0 l0 f0) 125 [(0, .ref b0), (1, .ref (q_ad G 0 0)), (2, .int x26), (3, .int x27), (4, .int x28), (5, .int x29)] [.int x30, .int 0, .ref (q_ad G 0 0)] u18 _
  refine aw_bipush (x := 31) dL_law_125 127 rfl rfl ?_
  refine aw_callS (M2 := m_L_low) (cv := q_cI) dL_law_127 130 rfl (k_L_low l G x30 31  u18) wl_2 wv_L_low pk_L_low rfl ⟨by decide, by decide⟩ ⟨Nat.le_of_ble_eq_true rfl, Nat.le_of_ble_eq_true rfl⟩ rfl (Nat.le_of_ble_eq_true rfl) (fun x31 u19 => ?_)
  show qAW l G m_L_law (q_xl G b0 l0 f0) 130 [(0, .ref b0), (1, .ref (q_ad G 0 0)), (2, .int x26), (3, .int x27), (4, .int x28), (5, .int x29)] [.int x31, .int 0, .ref (q_ad G 0 0)] u19 _
  refine aw_bipush (x := 15) dL_law_130 132 rfl rfl ?_
  refine aw_isub dL_law_132 133 rfl ?_
  refine aw_aload_n (i := 0) dL_law_133 134 rfl rfl 0 rfl ?_
  refine aw_bipush (x := 6) dL_law_134 136 rfl rfl ?_
  refine aw_callSx (M2 := m_L_cell) (cv := q_cI) (fun _ _ h => q_xl_pre h) dL_law_136 139 rfl (kx_L_cell l G b0 l0 f0 6 u19) wl_1 wv_L_cell pk_L_cell rfl ⟨by decide, by decide⟩ ⟨Nat.le_of_ble_eq_true rfl, Nat.le_of_ble_eq_true rfl⟩ rfl (Nat.le_of_ble_eq_true rfl) (fun x32 u20 => ?_)
  show qAW l G m_L_law (q_xl G b0 l0 f0) 139 [(0, .ref b0), (1, .ref (q_ad G 0 0)), (2, .int x26), (3, .int x27), (4, .int x28), (5, .int x29)] [.int x32, .int (x31 - 15), .int 0, .ref (q_ad G 0 0)] u20 _
  refine aw_bipush (x := 31) dL_law_139 141 rfl rfl ?_
  refine aw_callS (M2 := m_L_low) (cv := q_cI) dL_law_141 144 rfl (k_L_low l G x32 31  u20) wl_2 wv_L_low pk_L_low rfl ⟨by decide, by decide⟩ ⟨Nat.le_of_ble_eq_true rfl, Nat.le_of_ble_eq_true rfl⟩ rfl (Nat.le_of_ble_eq_true rfl) (fun x33 u21 => ?_)
  show qAW l G m_L_law (q_xl G b0 l0 f0) 144 [(0, .ref b0), (1, .ref (q_ad G 0 0)), (2, .int x26), (3, .int x27), (4, .int x28), (5, .int x29)] [.int x33, .int (x31 - 15), .int 0, .ref (q_ad G 0 0)] u21 _
  refine aw_bipush (x := 15) dL_law_144 146 rfl rfl ?_
  refine aw_isub dL_law_146 147 rfl ?_
  refine aw_callV (M2 := m_X10_wind) (cv := q_cI) dL_law_147 150 rfl (k_X10_wind l G 0 (x31 - 15) (x33 - 15)  u21) wl_9 wv_X10_wind pk_X10_wind rfl rfl ⟨by decide, by decide⟩ ⟨Nat.le_of_ble_eq_true rfl, Nat.le_of_ble_eq_true rfl⟩ at_0 (ok_0 (by decide)) rfl rfl rfl (Nat.le_of_ble_eq_true rfl) (fun x34 u22 => ?_)
  show qAW l G m_L_law (q_xl G b0 l0 f0) 150 [(0, .ref b0), (1, .ref (q_ad G 0 0)), (2, .int x26), (3, .int x27), (4, .int x28), (5, .int x29)] [.int x34] u22 _
  refine aw_iconst (x := 1) dL_law_150 151 rfl rfl ?_
  refine aw_icmp_ne dL_law_151 154 rfl 185 rfl (fun h5 => ?_) (fun h5 => ?_)
  · exact aw_none
  · exact TC_L_law_154 l G b0 l0 f0 x26 x27 x28 x29 u22
set_option maxRecDepth 100000 in
set_option maxHeartbeats 4000000 in
theorem TC_L_law_85 (l : Launch) (G : qG) (b0 l0 : Nat) (f0 : Nat → Int32) (x17 : Int32) (x18 : Int32) (x19 : Int32) (x20 : Int32) (u11 : qM) : qAW l G m_L_law (q_xl G b0 l0 f0) 85 [(0, .ref b0), (1, .ref (q_ad G 0 0)), (2, .int x17), (3, .int x18), (4, .int x19), (5, .int x20)] [] u11 (C_L_law_85 b0 l0 f0 x17 x18 x19 x20 u11) := by
  unfold C_L_law_85
  refine aw_aload_n (i := 1) dL_law_85 86 rfl rfl 1 rfl ?_
  refine aw_iconst (x := 0) dL_law_86 87 rfl rfl ?_
  refine aw_iconst (x := 1) dL_law_87 88 rfl rfl ?_
  refine aw_aload_n (i := 0) dL_law_88 89 rfl rfl 0 rfl ?_
  refine aw_iconst (x := 3) dL_law_89 90 rfl rfl ?_
  refine aw_callSx (M2 := m_L_cell) (cv := q_cI) (fun _ _ h => q_xl_pre h) dL_law_90 93 rfl (kx_L_cell l G b0 l0 f0 3 u11) wl_1 wv_L_cell pk_L_cell rfl ⟨by decide, by decide⟩ ⟨Nat.le_of_ble_eq_true rfl, Nat.le_of_ble_eq_true rfl⟩ rfl (Nat.le_of_ble_eq_true rfl) (fun x21 u12 => ?_)
  show qAW l G m_L_law (q_xl G b0 l0 f0) 93 [(0, .ref b0), (1, .ref (q_ad G 0 0)), (2, .int x17), (3, .int x18), (4, .int x19), (5, .int x20)] [.int x21, .int 1, .int 0, .ref (q_ad G 0 0)] u12 _
  refine aw_bipush (x := 8) dL_law_93 95 rfl rfl ?_
  refine aw_callS (M2 := m_L_low) (cv := q_cI) dL_law_95 98 rfl (k_L_low l G x21 8  u12) wl_2 wv_L_low pk_L_low rfl ⟨by decide, by decide⟩ ⟨Nat.le_of_ble_eq_true rfl, Nat.le_of_ble_eq_true rfl⟩ rfl (Nat.le_of_ble_eq_true rfl) (fun x22 u13 => ?_)
  show qAW l G m_L_law (q_xl G b0 l0 f0) 98 [(0, .ref b0), (1, .ref (q_ad G 0 0)), (2, .int x17), (3, .int x18), (4, .int x19), (5, .int x20)] [.int x22, .int 1, .int 0, .ref (q_ad G 0 0)] u13 _
  refine aw_iadd dL_law_98 99 rfl ?_
  refine aw_iconst (x := 2) dL_law_99 100 rfl rfl ?_
  refine aw_aload_n (i := 0) dL_law_100 101 rfl rfl 0 rfl ?_
  refine aw_iconst (x := 4) dL_law_101 102 rfl rfl ?_
  refine aw_callSx (M2 := m_L_cell) (cv := q_cI) (fun _ _ h => q_xl_pre h) dL_law_102 105 rfl (kx_L_cell l G b0 l0 f0 4 u13) wl_1 wv_L_cell pk_L_cell rfl ⟨by decide, by decide⟩ ⟨Nat.le_of_ble_eq_true rfl, Nat.le_of_ble_eq_true rfl⟩ rfl (Nat.le_of_ble_eq_true rfl) (fun x23 u14 => ?_)
  show qAW l G m_L_law (q_xl G b0 l0 f0) 105 [(0, .ref b0), (1, .ref (q_ad G 0 0)), (2, .int x17), (3, .int x18), (4, .int x19), (5, .int x20)] [.int x23, .int 2, .int (1 + x22), .int 0, .ref (q_ad G 0 0)] u14 _
  refine aw_bipush (x := 40) dL_law_105 107 rfl rfl ?_
  refine aw_callS (M2 := m_L_low) (cv := q_cI) dL_law_107 110 rfl (k_L_low l G x23 40  u14) wl_2 wv_L_low pk_L_low rfl ⟨by decide, by decide⟩ ⟨Nat.le_of_ble_eq_true rfl, Nat.le_of_ble_eq_true rfl⟩ rfl (Nat.le_of_ble_eq_true rfl) (fun x24 u15 => ?_)
  show qAW l G m_L_law (q_xl G b0 l0 f0) 110 [(0, .ref b0), (1, .ref (q_ad G 0 0)), (2, .int x17), (3, .int x18), (4, .int x19), (5, .int x20)] [.int x24, .int 2, .int (1 + x22), .int 0, .ref (q_ad G 0 0)] u15 _
  refine aw_iadd dL_law_110 111 rfl ?_
  refine aw_callV (M2 := m_X10_law) (cv := q_cI) dL_law_111 114 rfl (k_X10_law l G 0 (1 + x22) (2 + x24)  u15) wl_8 wv_X10_law pk_X10_law rfl rfl ⟨by decide, by decide⟩ ⟨Nat.le_of_ble_eq_true rfl, Nat.le_of_ble_eq_true rfl⟩ at_0 (ok_0 (by decide)) rfl rfl rfl (Nat.le_of_ble_eq_true rfl) (fun x25 u16 => ?_)
  show qAW l G m_L_law (q_xl G b0 l0 f0) 114 [(0, .ref b0), (1, .ref (q_ad G 0 0)), (2, .int x17), (3, .int x18), (4, .int x19), (5, .int x20)] [.int x25] u16 _
  refine aw_iconst (x := 1) dL_law_114 115 rfl rfl ?_
  refine aw_icmp_ne dL_law_115 118 rfl 185 rfl (fun h4 => ?_) (fun h4 => ?_)
  · exact aw_none
  · exact TC_L_law_118 l G b0 l0 f0 x17 x18 x19 x20 u16
set_option maxRecDepth 100000 in
set_option maxHeartbeats 4000000 in
theorem TC_L_law_72 (l : Launch) (G : qG) (b0 l0 : Nat) (f0 : Nat → Int32) (x12 : Int32) (x13 : Int32) (x14 : Int32) (x15 : Int32) (u9 : qM) : qAW l G m_L_law (q_xl G b0 l0 f0) 72 [(0, .ref b0), (1, .ref (q_ad G 0 0)), (2, .int x12), (3, .int x13), (4, .int x14), (5, .int x15)] [] u9 (C_L_law_72 b0 l0 f0 x12 x13 x14 x15 u9) := by
  unfold C_L_law_72
  refine aw_aload_n (i := 1) dL_law_72 73 rfl rfl 1 rfl ?_
  refine aw_iconst (x := 0) dL_law_73 74 rfl rfl ?_
  refine aw_aload_n (i := 0) dL_law_74 75 rfl rfl 0 rfl ?_
  refine aw_bipush (x := 10) dL_law_75 77 rfl rfl ?_
  refine aw_iload (i := 5) dL_law_77 79 rfl 5 rfl ?_
  refine aw_callSx (M2 := m_L_sea) (cv := q_cI) (fun _ _ h => q_xl_pre h) dL_law_79 82 rfl (kx_L_sea l G b0 l0 f0 0 10 x15 u9) wl_7 wv_L_sea pk_L_sea rfl ⟨by decide, by decide⟩ ⟨Nat.le_of_ble_eq_true rfl, Nat.le_of_ble_eq_true rfl⟩ rfl (Nat.le_of_ble_eq_true rfl) (fun x16 u10 => ?_)
  show qAW l G m_L_law (q_xl G b0 l0 f0) 82 [(0, .ref b0), (1, .ref (q_ad G 0 0)), (2, .int x12), (3, .int x13), (4, .int x14), (5, .int x15)] [.int x16] u10 _
  refine aw_if_eq dL_law_82 85 rfl 185 rfl (fun h3 => ?_) (fun h3 => ?_)
  · exact aw_none
  · exact TC_L_law_85 l G b0 l0 f0 x12 x13 x14 x15 u10
set_option maxRecDepth 100000 in
set_option maxHeartbeats 4000000 in
theorem TC_L_law_8 (l : Launch) (G : qG) (b0 l0 : Nat) (f0 : Nat → Int32) (u0 : qM) : qAW l G m_L_law (q_xl G b0 l0 f0) 8 [(1, .ref (q_ad G 0 0)), (0, .ref b0)] [] u0 (C_L_law_8 b0 l0 f0 u0) := by
  unfold C_L_law_8
  refine aw_iconst (x := 2) dL_law_8 9 rfl rfl ?_
  refine aw_aload_n (i := 0) dL_law_9 10 rfl rfl 1 rfl ?_
  refine aw_iconst (x := 0) dL_law_10 11 rfl rfl ?_
  refine aw_callSx (M2 := m_L_cell) (cv := q_cI) (fun _ _ h => q_xl_pre h) dL_law_11 14 rfl (kx_L_cell l G b0 l0 f0 0 u0) wl_1 wv_L_cell pk_L_cell rfl ⟨by decide, by decide⟩ ⟨Nat.le_of_ble_eq_true rfl, Nat.le_of_ble_eq_true rfl⟩ rfl (Nat.le_of_ble_eq_true rfl) (fun x1 u1 => ?_)
  show qAW l G m_L_law (q_xl G b0 l0 f0) 14 [(1, .ref (q_ad G 0 0)), (0, .ref b0)] [.int x1, .int 2] u1 _
  refine aw_iconst (x := 5) dL_law_14 15 rfl rfl ?_
  refine aw_callS (M2 := m_L_low) (cv := q_cI) dL_law_15 18 rfl (k_L_low l G x1 5  u1) wl_2 wv_L_low pk_L_low rfl ⟨by decide, by decide⟩ ⟨Nat.le_of_ble_eq_true rfl, Nat.le_of_ble_eq_true rfl⟩ rfl (Nat.le_of_ble_eq_true rfl) (fun x2 u2 => ?_)
  show qAW l G m_L_law (q_xl G b0 l0 f0) 18 [(1, .ref (q_ad G 0 0)), (0, .ref b0)] [.int x2, .int 2] u2 _
  refine aw_iadd dL_law_18 19 rfl ?_
  refine aw_lti (fun x3 => ?_)
  refine aw_istore_n dL_law_19 20 rfl rfl [(2, .int x3), (1, .ref (q_ad G 0 0)), (0, .ref b0)] (by decide) rfl ?_
  refine aw_iconst (x := 1) dL_law_20 21 rfl rfl ?_
  refine aw_aload_n (i := 0) dL_law_21 22 rfl rfl 2 rfl ?_
  refine aw_iconst (x := 1) dL_law_22 23 rfl rfl ?_
  refine aw_callSx (M2 := m_L_cell) (cv := q_cI) (fun _ _ h => q_xl_pre h) dL_law_23 26 rfl (kx_L_cell l G b0 l0 f0 1 u2) wl_1 wv_L_cell pk_L_cell rfl ⟨by decide, by decide⟩ ⟨Nat.le_of_ble_eq_true rfl, Nat.le_of_ble_eq_true rfl⟩ rfl (Nat.le_of_ble_eq_true rfl) (fun x4 u3 => ?_)
  show qAW l G m_L_law (q_xl G b0 l0 f0) 26 [(2, .int x3), (1, .ref (q_ad G 0 0)), (0, .ref b0)] [.int x4, .int 1] u3 _
  refine aw_iconst (x := 5) dL_law_26 27 rfl rfl ?_
  refine aw_callS (M2 := m_L_low) (cv := q_cI) dL_law_27 30 rfl (k_L_low l G x4 5  u3) wl_2 wv_L_low pk_L_low rfl ⟨by decide, by decide⟩ ⟨Nat.le_of_ble_eq_true rfl, Nat.le_of_ble_eq_true rfl⟩ rfl (Nat.le_of_ble_eq_true rfl) (fun x5 u4 => ?_)
  show qAW l G m_L_law (q_xl G b0 l0 f0) 30 [(2, .int x3), (1, .ref (q_ad G 0 0)), (0, .ref b0)] [.int x5, .int 1] u4 _
  refine aw_iadd dL_law_30 31 rfl ?_
  refine aw_lti (fun x6 => ?_)
  refine aw_istore_n dL_law_31 32 rfl rfl [(3, .int x6), (2, .int x3), (1, .ref (q_ad G 0 0)), (0, .ref b0)] (by decide) rfl ?_
  refine aw_aload_n (i := 0) dL_law_32 33 rfl rfl 3 rfl ?_
  refine aw_iconst (x := 2) dL_law_33 34 rfl rfl ?_
  refine aw_callSx (M2 := m_L_cell) (cv := q_cI) (fun _ _ h => q_xl_pre h) dL_law_34 37 rfl (kx_L_cell l G b0 l0 f0 2 u4) wl_1 wv_L_cell pk_L_cell rfl ⟨by decide, by decide⟩ ⟨Nat.le_of_ble_eq_true rfl, Nat.le_of_ble_eq_true rfl⟩ rfl (Nat.le_of_ble_eq_true rfl) (fun x7 u5 => ?_)
  show qAW l G m_L_law (q_xl G b0 l0 f0) 37 [(3, .int x6), (2, .int x3), (1, .ref (q_ad G 0 0)), (0, .ref b0)] [.int x7] u5 _
  refine aw_iconst (x := 3) dL_law_37 38 rfl rfl ?_
  refine aw_callS (M2 := m_L_low) (cv := q_cI) dL_law_38 41 rfl (k_L_low l G x7 3  u5) wl_2 wv_L_low pk_L_low rfl ⟨by decide, by decide⟩ ⟨Nat.le_of_ble_eq_true rfl, Nat.le_of_ble_eq_true rfl⟩ rfl (Nat.le_of_ble_eq_true rfl) (fun x8 u6 => ?_)
  show qAW l G m_L_law (q_xl G b0 l0 f0) 41 [(3, .int x6), (2, .int x3), (1, .ref (q_ad G 0 0)), (0, .ref b0)] [.int x8] u6 _
  refine aw_istore dL_law_41 43 rfl [(4, .int x8), (3, .int x6), (2, .int x3), (1, .ref (q_ad G 0 0)), (0, .ref b0)] (by decide) rfl ?_
  refine aw_iload_n (i := 2) dL_law_43 44 rfl rfl 2 rfl ?_
  refine aw_iload_n (i := 3) dL_law_44 45 rfl rfl 1 rfl ?_
  refine aw_imul dL_law_45 46 rfl ?_
  refine aw_lti (fun x9 => ?_)
  refine aw_istore dL_law_46 48 rfl [(5, .int x9), (4, .int x8), (3, .int x6), (2, .int x3), (1, .ref (q_ad G 0 0)), (0, .ref b0)] (by decide) rfl ?_
  refine aw_aload_n (i := 1) dL_law_48 49 rfl rfl 4 rfl ?_
  refine aw_iconst (x := 0) dL_law_49 50 rfl rfl ?_
  refine aw_iload (i := 4) dL_law_50 52 rfl 1 rfl ?_
  refine aw_iconst (x := 2) dL_law_52 53 rfl rfl ?_
  refine aw_jn (fun k => ∀ (x10 : Int32) (u7 : qM), qAW l G m_L_law (q_xl G b0 l0 f0) 62 [(0, .ref b0), (1, .ref (q_ad G 0 0)), (2, .int x3), (3, .int x6), (4, .int x8), (5, .int x9)] [.int x10, .int 0, .ref (q_ad G 0 0)] u7 (k x10 u7)) ?_ ?_
  · intro x10 u7
    refine aw_iload_n (i := 2) dL_law_62 63 rfl rfl 2 rfl ?_
    refine aw_iload_n (i := 3) dL_law_63 64 rfl rfl 3 rfl ?_
    refine aw_callV (M2 := m_X10_board) (cv := q_cI) dL_law_64 67 rfl (k_X10_board l G 0 x10 x3 x6  u7) wl_6 wv_X10_board pk_X10_board rfl rfl ⟨by decide, by decide⟩ ⟨Nat.le_of_ble_eq_true rfl, Nat.le_of_ble_eq_true rfl⟩ at_0 (ok_0 (by decide)) rfl rfl rfl (Nat.le_of_ble_eq_true rfl) (fun x11 u8 => ?_)
    show qAW l G m_L_law (q_xl G b0 l0 f0) 67 [(0, .ref b0), (1, .ref (q_ad G 0 0)), (2, .int x3), (3, .int x6), (4, .int x8), (5, .int x9)] [.int x11] u8 _
    refine aw_iload (i := 5) dL_law_67 69 rfl 5 rfl ?_
    refine aw_icmp_ne dL_law_69 72 rfl 185 rfl (fun h2 => ?_) (fun h2 => ?_)
    · exact aw_none
    · exact TC_L_law_72 l G b0 l0 f0 x3 x6 x8 x9 u8
  · intro j1 hj1
    refine aw_icmp_ne dL_law_53 56 rfl 60 rfl (fun h1 => ?_) (fun h1 => ?_)
    · refine aw_iload (i := 4) dL_law_60 62 rfl 1 rfl ?_
      exact aw_conv [5, 4, 3, 2, 1, 0] rfl (hj1 x8 u6)
    · refine aw_iconst (x := 3) dL_law_56 57 rfl rfl ?_
      refine aw_goto dL_law_57 62 rfl ?_
      exact aw_conv [5, 4, 3, 2, 1, 0] rfl (hj1 3 u6)
