/-! The law's own walk: its script is no cell of the memory; its end is the claim's. -/
def q_xl (G : qG) (b L : Nat) (xs : Nat → Int32) : qX Int32 := (fun s args => args = #[Value.ref b] ∧ va_X b L xs s s.heap ∧ b < s.heap.size ∧ G.2.2.2 = s.heap.size, 400, 20000, fun below args s _ _ => lw_Z below args s)
def m_L_law : qMd := (room_1, RL, yL_law, cL_law, 4, some .boolean)
theorem q_xl_nA {G : qG} {b L : Nat} {xs : Nat → Int32} {s : State} {args : Array Value} (h : (q_xl G b L xs).1 s args) : ¬ q_A G b := by
  obtain ⟨-, -, h3, h4⟩ := h
  show ¬ (G.2.2.2 ≤ b)
  omega
section QLW
variable {l : Launch} {G : qG} {M : qMd} {pc : Nat} {lv : List (Nat × Value)} {st : List Value} {μ : qM} {r : Option (Int32 × qM)} {b L : Nat} {xs : Nat → Int32}
theorem aw_sld {X : qX Int32} (hX : ∀ s args, X.1 s args → (q_xl G b L xs).1 s args) {j : Int32} (d : decode M.2.2.2.1 pc = .ok (.iaload, 1)) (n : Nat) (hn : pc + 1 = n) (K : q_in j L = true → qAW l G M X n lv (.int (xs j.toNatClampNeg) :: st) μ r) : qAW l G M X pc lv (.int j :: .ref b :: st) μ (q_ck (q_in j L) r) := by
  refine aw_ck (fun hj => ?_)
  subst hn
  intro p e s m args below meth c hc v μ' hr H locs ls hP hS hl
  have hE := hX _ _ hc.2.2.2.2.2.2.2
  exact va_sld hc.1.1 hc.1.2.1 hE.2.1 hE.2.2.1 (q_xl_nA hE) hS (q_in_vp hj) d (K hj p e s m args below meth c hc v μ' hr H locs ls hP hS hl)
theorem aw_sln {X : qX Int32} (hX : ∀ s args, X.1 s args → (q_xl G b L xs).1 s args) (d : decode M.2.2.2.1 pc = .ok (.arraylength, 1)) (n : Nat) (hn : pc + 1 = n) (K : qAW l G M X n lv (.int (Int32.ofNat L) :: st) μ r) : qAW l G M X pc lv (.ref b :: st) μ r := by
  subst hn
  intro p e s m args below meth c hc v μ' hr H locs ls hP hS hl
  have hE := hX _ _ hc.2.2.2.2.2.2.2
  exact va_slen hc.1.1 hc.1.2.1 hE.2.1 hE.2.2.1 (q_xl_nA hE) hS d (K p e s m args below meth c hc v μ' hr H locs ls hP hS hl)
theorem aw_lawret (d : decode m_L_law.2.2.2.1 pc = .ok (.ireturn, 1)) : qAW l G m_L_law (q_xl G b L xs) pc lv [.int 1] μ (some (1, μ)) := by
  intro p e s m args below meth c hc v μ' hr H locs ls hP hS hl
  obtain ⟨rfl, h2, h3, h4⟩ := hc.2.2.2.2.2.2.2
  refine va_forget (fun q hq => ?_) (W.widen (k := 600000) (n := 7302250) (Nat.le_of_ble_eq_true rfl) (Nat.le_of_ble_eq_true rfl) ?_)
  · have h := hS.2.2 q hq
    have h5 : G.2.2.2 ≤ q.base := h
    omega
  · exact lw_ret hc.1.1 hc.1.2.1 hc.2.1 hc.2.2.1 d
end QLW

theorem wl_0 : Cond.methodLink RL 13 yX10_row ∈ q_tb := q_tb_of (q_t2 160 (by decide +kernel)) rfl
theorem wl_1 : Cond.methodLink RL 17 yX11_row ∈ q_tb := q_tb_of (q_t6 60 (by decide +kernel)) rfl
theorem wl_2 : Cond.methodLink RL 18 yX10_lay ∈ q_tb := q_tb_of (q_t2 176 (by decide +kernel)) rfl
theorem wl_3 : Cond.methodLink RL 22 yX11_lay ∈ q_tb := q_tb_of (q_t6 74 (by decide +kernel)) rfl
theorem wl_4 : Cond.methodLink RL 23 yX10_tear ∈ q_tb := q_tb_of (q_t2 193 (by decide +kernel)) rfl
theorem wl_5 : Cond.methodLink RL 27 yX11_tear ∈ q_tb := q_tb_of (q_t6 84 (by decide +kernel)) rfl
theorem wl_6 : Cond.methodLink RL 28 yX10_copy ∈ q_tb := q_tb_of (q_t2 205 (by decide +kernel)) rfl
theorem wl_7 : Cond.methodLink RL 32 yX11_copy ∈ q_tb := q_tb_of (q_t6 88 (by decide +kernel)) rfl
theorem wl_8 : Cond.methodLink RL 33 yX10_mean ∈ q_tb := q_tb_of (q_t2 216 (by decide +kernel)) rfl
theorem wl_9 : Cond.methodLink RL 36 yX11_mean ∈ q_tb := q_tb_of (q_t6 92 (by decide +kernel)) rfl
theorem wl_10 : Cond.methodLink RL 37 yX10_text ∈ q_tb := q_tb_of (q_t2 224 (by decide +kernel)) rfl
theorem wl_11 : Cond.methodLink RL 40 yX11_text ∈ q_tb := q_tb_of (q_t6 104 (by decide +kernel)) rfl
theorem wl_12 : Cond.methodLink RL 41 yX10_put ∈ q_tb := q_tb_of (q_t2 228 (by decide +kernel)) rfl
theorem wl_13 : Cond.methodLink RL 44 yX11_put ∈ q_tb := q_tb_of (q_t6 108 (by decide +kernel)) rfl
theorem wl_14 : Cond.methodLink RL 45 yX10_burn ∈ q_tb := q_tb_of (q_t2 232 (by decide +kernel)) rfl
theorem wl_15 : Cond.methodLink RL 48 yX11_burn ∈ q_tb := q_tb_of (q_t6 116 (by decide +kernel)) rfl
theorem wl_16 : Cond.methodLink RL 49 yX10_fault ∈ q_tb := q_tb_of (q_t2 236 (by decide +kernel)) rfl
theorem wl_17 : Cond.methodLink RL 52 yX11_fault ∈ q_tb := q_tb_of (q_t6 120 (by decide +kernel)) rfl
theorem wl_18 : Cond.methodLink RL 53 yX10_board ∈ q_tb := q_tb_of (q_t3 32 (by decide +kernel)) rfl
theorem wl_19 : Cond.methodLink RL 57 yX11_board ∈ q_tb := q_tb_of (q_t6 134 (by decide +kernel)) rfl
theorem wl_20 : Cond.methodLink RL 58 yX10_drop ∈ q_tb := q_tb_of (q_t3 63 (by decide +kernel)) rfl
theorem wl_21 : Cond.methodLink RL 61 yX11_drop ∈ q_tb := q_tb_of (q_t6 146 (by decide +kernel)) rfl
theorem wl_22 : Cond.methodLink RL 62 yX10_bottom ∈ q_tb := q_tb_of (q_t3 71 (by decide +kernel)) rfl
theorem wl_23 : Cond.methodLink RL 65 yX11_bottom ∈ q_tb := q_tb_of (q_t6 154 (by decide +kernel)) rfl
theorem wl_24 : Cond.methodLink RL 66 yX10_water ∈ q_tb := q_tb_of (q_t3 83 (by decide +kernel)) rfl
theorem wl_25 : Cond.methodLink RL 69 yX11_water ∈ q_tb := q_tb_of (q_t6 170 (by decide +kernel)) rfl
theorem wl_26 : Cond.methodLink RL 70 yX10_spill ∈ q_tb := q_tb_of (q_t3 87 (by decide +kernel)) rfl
theorem wl_27 : Cond.methodLink RL 73 yX11_spill ∈ q_tb := q_tb_of (q_t6 174 (by decide +kernel)) rfl
theorem wl_28 : Cond.methodLink RL 74 yX10_cell ∈ q_tb := q_tb_of (q_t3 91 (by decide +kernel)) rfl
theorem wl_29 : Cond.methodLink RL 77 yX11_cell ∈ q_tb := q_tb_of (q_t6 178 (by decide +kernel)) rfl
theorem wl_30 : Cond.methodLink RL 78 yX10_flow ∈ q_tb := q_tb_of (q_t3 99 (by decide +kernel)) rfl
theorem wl_31 : Cond.methodLink RL 81 yX11_flow ∈ q_tb := q_tb_of (q_t6 186 (by decide +kernel)) rfl
theorem wl_32 : Cond.methodLink RL 82 yX10_gate ∈ q_tb := q_tb_of (q_t3 111 (by decide +kernel)) rfl
theorem wl_33 : Cond.methodLink RL 86 yX11_gate ∈ q_tb := q_tb_of (q_t6 198 (by decide +kernel)) rfl
theorem wl_34 : Cond.methodLink RL 87 yX10_law ∈ q_tb := q_tb_of (q_t3 115 (by decide +kernel)) rfl
theorem wl_35 : Cond.methodLink RL 90 yX11_law ∈ q_tb := q_tb_of (q_t6 202 (by decide +kernel)) rfl
theorem wl_36 : Cond.methodLink RL 91 yX10_wind ∈ q_tb := q_tb_of (q_t3 119 (by decide +kernel)) rfl
theorem wl_37 : Cond.methodLink RL 94 yX11_wind ∈ q_tb := q_tb_of (q_t6 206 (by decide +kernel)) rfl
theorem wl_38 : Cond.methodLink RL 95 yX10_river ∈ q_tb := q_tb_of (q_t3 123 (by decide +kernel)) rfl
theorem wl_39 : Cond.methodLink RL 98 yX11_river ∈ q_tb := q_tb_of (q_t6 210 (by decide +kernel)) rfl
theorem wl_40 : Cond.methodLink RL 99 yX10_tide ∈ q_tb := q_tb_of (q_t3 127 (by decide +kernel)) rfl
theorem wl_41 : Cond.methodLink RL 102 yX11_tide ∈ q_tb := q_tb_of (q_t6 214 (by decide +kernel)) rfl
theorem wl_42 : Cond.methodLink RL 103 yX10_step ∈ q_tb := q_tb_of (q_t3 135 (by decide +kernel)) rfl
theorem wl_43 : Cond.methodLink RL 106 yX11_step ∈ q_tb := q_tb_of (q_t6 222 (by decide +kernel)) rfl
theorem wl_44 : Cond.methodLink RL 107 yX10_told ∈ q_tb := q_tb_of (q_t3 233 (by decide +kernel)) rfl
theorem wl_45 : Cond.methodLink RL 110 yX11_told ∈ q_tb := q_tb_of (q_t7 26 (by decide +kernel)) rfl
theorem wl_46 : Cond.methodLink RL 111 yX10_mark ∈ q_tb := q_tb_of (q_t4 10 (by decide +kernel)) rfl
theorem wl_47 : Cond.methodLink RL 114 yX11_mark ∈ q_tb := q_tb_of (q_t7 42 (by decide +kernel)) rfl
theorem wl_48 : Cond.methodLink RL 115 yX10_keep ∈ q_tb := q_tb_of (q_t4 25 (by decide +kernel)) rfl
theorem wl_49 : Cond.methodLink RL 118 yX11_keep ∈ q_tb := q_tb_of (q_t7 46 (by decide +kernel)) rfl
theorem wl_50 : Cond.methodLink RL 119 yX10_mirror ∈ q_tb := q_tb_of (q_t4 46 (by decide +kernel)) rfl
theorem wl_51 : Cond.methodLink RL 122 yX11_mirror ∈ q_tb := q_tb_of (q_t7 58 (by decide +kernel)) rfl
theorem wl_52 : Cond.methodLink RL 123 yX10_boat ∈ q_tb := q_tb_of (q_t4 79 (by decide +kernel)) rfl
theorem wl_53 : Cond.methodLink RL 126 yX11_boat ∈ q_tb := q_tb_of (q_t7 66 (by decide +kernel)) rfl
theorem wl_54 : Cond.methodLink RL 127 yX10_where ∈ q_tb := q_tb_of (q_t4 83 (by decide +kernel)) rfl
theorem wl_55 : Cond.methodLink RL 130 yX11_where ∈ q_tb := q_tb_of (q_t7 73 (by decide +kernel)) rfl
theorem wl_56 : Cond.methodLink RL 131 yX10_gauge ∈ q_tb := q_tb_of (q_t4 87 (by decide +kernel)) rfl
theorem wl_57 : Cond.methodLink RL 134 yX11_gauge ∈ q_tb := q_tb_of (q_t7 77 (by decide +kernel)) rfl
theorem wl_58 : Cond.methodLink RL 135 yX10_reading ∈ q_tb := q_tb_of (q_t4 98 (by decide +kernel)) rfl
theorem wl_59 : Cond.methodLink RL 138 yX11_reading ∈ q_tb := q_tb_of (q_t7 81 (by decide +kernel)) rfl
theorem wl_60 : Cond.methodLink RL 139 yX10_lose ∈ q_tb := q_tb_of (q_t4 106 (by decide +kernel)) rfl
theorem wl_61 : Cond.methodLink RL 142 yX11_lose ∈ q_tb := q_tb_of (q_t7 89 (by decide +kernel)) rfl
theorem wl_62 : Cond.methodLink RL 143 yX10_tone ∈ q_tb := q_tb_of (q_t4 110 (by decide +kernel)) rfl
theorem wl_63 : Cond.methodLink RL 146 yX11_tone ∈ q_tb := q_tb_of (q_t7 93 (by decide +kernel)) rfl
theorem wl_64 : Cond.methodLink RL 147 yX10_theTone ∈ q_tb := q_tb_of (q_t4 130 (by decide +kernel)) rfl
theorem wl_65 : Cond.methodLink RL 150 yX11_theTone ∈ q_tb := q_tb_of (q_t7 105 (by decide +kernel)) rfl
theorem wl_66 : Cond.methodLink RL 151 yX10_part ∈ q_tb := q_tb_of (q_t4 139 (by decide +kernel)) rfl
theorem wl_67 : Cond.methodLink RL 155 yX11_part ∈ q_tb := q_tb_of (q_t7 109 (by decide +kernel)) rfl
theorem wl_68 : Cond.methodLink RL 156 yX10_nest ∈ q_tb := q_tb_of (q_t4 143 (by decide +kernel)) rfl
theorem wl_69 : Cond.methodLink RL 160 yX11_nest ∈ q_tb := q_tb_of (q_t7 113 (by decide +kernel)) rfl
theorem wl_70 : Cond.methodLink RL 161 yX10_up ∈ q_tb := q_tb_of (q_t4 159 (by decide +kernel)) rfl
theorem wl_71 : Cond.methodLink RL 164 yX11_up ∈ q_tb := q_tb_of (q_t7 125 (by decide +kernel)) rfl
theorem wl_72 : Cond.methodLink RL 165 yX10_down ∈ q_tb := q_tb_of (q_t4 177 (by decide +kernel)) rfl
theorem wl_73 : Cond.methodLink RL 168 yX11_down ∈ q_tb := q_tb_of (q_t7 133 (by decide +kernel)) rfl
theorem wl_74 : Cond.methodLink RL 169 yX10_fit ∈ q_tb := q_tb_of (q_t4 189 (by decide +kernel)) rfl
theorem wl_75 : Cond.methodLink RL 172 yX11_fit ∈ q_tb := q_tb_of (q_t7 137 (by decide +kernel)) rfl
theorem wl_76 : Cond.methodLink RL 173 yX10_ends ∈ q_tb := q_tb_of (q_t4 206 (by decide +kernel)) rfl
theorem wl_77 : Cond.methodLink RL 176 yX11_ends ∈ q_tb := q_tb_of (q_t7 154 (by decide +kernel)) rfl
theorem wl_78 : Cond.methodLink RL 177 yX10_play ∈ q_tb := q_tb_of (q_t4 210 (by decide +kernel)) rfl
theorem wl_79 : Cond.methodLink RL 180 yX11_play ∈ q_tb := q_tb_of (q_t7 158 (by decide +kernel)) rfl
theorem wl_80 : Cond.methodLink RL 181 yX10_world ∈ q_tb := q_tb_of (q_t4 224 (by decide +kernel)) rfl
theorem wl_81 : Cond.methodLink RL 184 yX11_world ∈ q_tb := q_tb_of (q_t7 170 (by decide +kernel)) rfl
theorem wl_82 : Cond.methodLink RL 185 yX10_forget ∈ q_tb := q_tb_of (q_t4 228 (by decide +kernel)) rfl
theorem wl_83 : Cond.methodLink RL 189 yX11_forget ∈ q_tb := q_tb_of (q_t7 174 (by decide +kernel)) rfl
theorem wl_84 : Cond.methodLink RL 190 yX10_alarm ∈ q_tb := q_tb_of (q_t4 232 (by decide +kernel)) rfl
theorem wl_85 : Cond.methodLink RL 193 yX11_alarm ∈ q_tb := q_tb_of (q_t7 178 (by decide +kernel)) rfl
theorem wl_86 : Cond.methodLink RL 194 yX10_post ∈ q_tb := q_tb_of (q_t5 21 (by decide +kernel)) rfl
theorem wl_87 : Cond.methodLink RL 197 yX11_post ∈ q_tb := q_tb_of (q_t7 199 (by decide +kernel)) rfl
theorem wl_88 : Cond.methodLink RL 198 yX10_gates ∈ q_tb := q_tb_of (q_t5 25 (by decide +kernel)) rfl
theorem wl_89 : Cond.methodLink RL 201 yX11_gates ∈ q_tb := q_tb_of (q_t7 203 (by decide +kernel)) rfl
theorem wl_90 : Cond.methodLink RL 202 yX10_asked ∈ q_tb := q_tb_of (q_t5 35 (by decide +kernel)) rfl
theorem wl_91 : Cond.methodLink RL 205 yX11_asked ∈ q_tb := q_tb_of (q_t7 210 (by decide +kernel)) rfl
theorem wl_92 : Cond.methodLink RL 206 yX10_strength ∈ q_tb := q_tb_of (q_t5 39 (by decide +kernel)) rfl
theorem wl_93 : Cond.methodLink RL 210 yX11_strength ∈ q_tb := q_tb_of (q_t7 214 (by decide +kernel)) rfl
theorem wl_94 : Cond.methodLink RL 211 yX10_upper ∈ q_tb := q_tb_of (q_t5 43 (by decide +kernel)) rfl
theorem wl_95 : Cond.methodLink RL 214 yX11_upper ∈ q_tb := q_tb_of (q_t7 218 (by decide +kernel)) rfl
theorem wl_96 : Cond.methodLink RL 215 yX10_lower ∈ q_tb := q_tb_of (q_t5 47 (by decide +kernel)) rfl
theorem wl_97 : Cond.methodLink RL 218 yX11_lower ∈ q_tb := q_tb_of (q_t7 222 (by decide +kernel)) rfl
theorem wl_98 : Cond.methodLink RL 219 yX10_count ∈ q_tb := q_tb_of (q_t5 51 (by decide +kernel)) rfl
theorem wl_99 : Cond.methodLink RL 222 yX11_count ∈ q_tb := q_tb_of (q_t7 226 (by decide +kernel)) rfl
theorem wl_100 : Cond.methodLink RL 223 yX10_finding ∈ q_tb := q_tb_of (q_t5 60 (by decide +kernel)) rfl
theorem wl_101 : Cond.methodLink RL 226 yX11_finding ∈ q_tb := q_tb_of (q_t7 230 (by decide +kernel)) rfl
theorem wl_102 : Cond.methodLink RL 227 yX10_findings ∈ q_tb := q_tb_of (q_t5 64 (by decide +kernel)) rfl
theorem wl_103 : Cond.methodLink RL 230 yX11_findings ∈ q_tb := q_tb_of (q_t7 234 (by decide +kernel)) rfl
theorem wl_104 : Cond.methodLink RL 231 yX10_digest ∈ q_tb := q_tb_of (q_t5 68 (by decide +kernel)) rfl
theorem wl_105 : Cond.methodLink RL 234 yX11_digest ∈ q_tb := q_tb_of (q_t7 238 (by decide +kernel)) rfl
theorem dL_law_18 : decode cL_law 18 = .ok (.iload_n 3, 1) := by decide +kernel
theorem dL_law_19 : decode cL_law 19 = .ok (.aload_n 0, 1) := by decide +kernel
theorem dL_law_20 : decode cL_law 20 = .ok (.arraylength, 1) := by decide +kernel
theorem dL_law_21 : decode cL_law 21 = .ok (.bipush 7, 2) := by decide +kernel
theorem dL_law_23 : decode cL_law 23 = .ok (.isub, 1) := by decide +kernel
theorem dL_law_24 : decode cL_law 24 = .ok (.if_icmp .gt 2049, 3) := by decide +kernel
theorem dL_law_27 : decode cL_law 27 = .ok (.aload_n 0, 1) := by decide +kernel
theorem dL_law_28 : decode cL_law 28 = .ok (.iload_n 3, 1) := by decide +kernel
theorem dL_law_29 : decode cL_law 29 = .ok (.iaload, 1) := by decide +kernel
theorem dL_law_30 : decode cL_law 30 = .ok (.bipush 63, 2) := by decide +kernel
theorem dL_law_32 : decode cL_law 32 = .ok (.iand, 1) := by decide +kernel
theorem dL_law_33 : decode cL_law 33 = .ok (.tableswitch 2034 0 52 #[227, 260, 303, 326, 389, 412, 445, 488, 511, 534, 587, 610, 653, 696, 749, 792, 825, 884, 927, 970, 1013, 1056, 1089, 1122, 1155, 1188, 1211, 1264, 1287, 1330, 1363, 1396, 1429, 1452, 1491, 1566, 1589, 1612, 1655, 1708, 1741, 1774, 1787, 1830, 1863, 1906, 1919, 1933, 1947, 1961, 1984, 1997, 2020], 227) := by decide +kernel
theorem dL_law_260 : decode cL_law 260 = .ok (.aload_n 1, 1) := by decide +kernel
theorem dL_law_261 : decode cL_law 261 = .ok (.aload_n 0, 1) := by decide +kernel
theorem dL_law_262 : decode cL_law 262 = .ok (.iload_n 3, 1) := by decide +kernel
theorem dL_law_263 : decode cL_law 263 = .ok (.iconst 1, 1) := by decide +kernel
theorem dL_law_264 : decode cL_law 264 = .ok (.iadd, 1) := by decide +kernel
theorem dL_law_265 : decode cL_law 265 = .ok (.iaload, 1) := by decide +kernel
theorem dL_law_266 : decode cL_law 266 = .ok (.aload_n 0, 1) := by decide +kernel
theorem dL_law_267 : decode cL_law 267 = .ok (.iload_n 3, 1) := by decide +kernel
theorem dL_law_268 : decode cL_law 268 = .ok (.iconst 2, 1) := by decide +kernel
theorem dL_law_269 : decode cL_law 269 = .ok (.iadd, 1) := by decide +kernel
theorem dL_law_270 : decode cL_law 270 = .ok (.iaload, 1) := by decide +kernel
theorem dL_law_271 : decode cL_law 271 = .ok (.invokevirtual 13, 3) := by decide +kernel
theorem dL_law_274 : decode cL_law 274 = .ok (.aload_n 2, 1) := by decide +kernel
theorem dL_law_275 : decode cL_law 275 = .ok (.aload_n 0, 1) := by decide +kernel
theorem dL_law_276 : decode cL_law 276 = .ok (.iload_n 3, 1) := by decide +kernel
theorem dL_law_277 : decode cL_law 277 = .ok (.iconst 1, 1) := by decide +kernel
theorem dL_law_278 : decode cL_law 278 = .ok (.iadd, 1) := by decide +kernel
theorem dL_law_279 : decode cL_law 279 = .ok (.iaload, 1) := by decide +kernel
theorem dL_law_280 : decode cL_law 280 = .ok (.aload_n 0, 1) := by decide +kernel
theorem dL_law_281 : decode cL_law 281 = .ok (.iload_n 3, 1) := by decide +kernel
theorem dL_law_282 : decode cL_law 282 = .ok (.iconst 2, 1) := by decide +kernel
theorem dL_law_283 : decode cL_law 283 = .ok (.iadd, 1) := by decide +kernel
theorem dL_law_284 : decode cL_law 284 = .ok (.iaload, 1) := by decide +kernel
theorem dL_law_285 : decode cL_law 285 = .ok (.invokevirtual 17, 3) := by decide +kernel
theorem dL_law_288 : decode cL_law 288 = .ok (.if_icmp .eq 1779, 3) := by decide +kernel
theorem dL_law_291 : decode cL_law 291 = .ok (.iconst 0, 1) := by decide +kernel
theorem dL_law_292 : decode cL_law 292 = .ok (.ireturn, 1) := by decide +kernel
theorem dL_law_293 : decode cL_law 293 = .ok (.aload_n 1, 1) := by decide +kernel
theorem dL_law_294 : decode cL_law 294 = .ok (.aload_n 0, 1) := by decide +kernel
theorem dL_law_295 : decode cL_law 295 = .ok (.iload_n 3, 1) := by decide +kernel
theorem dL_law_296 : decode cL_law 296 = .ok (.iconst 1, 1) := by decide +kernel
theorem dL_law_297 : decode cL_law 297 = .ok (.iadd, 1) := by decide +kernel
theorem dL_law_298 : decode cL_law 298 = .ok (.iaload, 1) := by decide +kernel
theorem dL_law_299 : decode cL_law 299 = .ok (.aload_n 0, 1) := by decide +kernel
theorem dL_law_300 : decode cL_law 300 = .ok (.iload_n 3, 1) := by decide +kernel
theorem dL_law_301 : decode cL_law 301 = .ok (.iconst 2, 1) := by decide +kernel
theorem dL_law_302 : decode cL_law 302 = .ok (.iadd, 1) := by decide +kernel
theorem dL_law_303 : decode cL_law 303 = .ok (.iaload, 1) := by decide +kernel
theorem dL_law_304 : decode cL_law 304 = .ok (.aload_n 0, 1) := by decide +kernel
theorem dL_law_305 : decode cL_law 305 = .ok (.iload_n 3, 1) := by decide +kernel
theorem dL_law_306 : decode cL_law 306 = .ok (.iconst 3, 1) := by decide +kernel
theorem dL_law_307 : decode cL_law 307 = .ok (.iadd, 1) := by decide +kernel
theorem dL_law_308 : decode cL_law 308 = .ok (.iaload, 1) := by decide +kernel
theorem dL_law_309 : decode cL_law 309 = .ok (.invokevirtual 18, 3) := by decide +kernel
theorem dL_law_312 : decode cL_law 312 = .ok (.aload_n 2, 1) := by decide +kernel
theorem dL_law_313 : decode cL_law 313 = .ok (.aload_n 0, 1) := by decide +kernel
theorem dL_law_314 : decode cL_law 314 = .ok (.iload_n 3, 1) := by decide +kernel
theorem dL_law_315 : decode cL_law 315 = .ok (.iconst 1, 1) := by decide +kernel
theorem dL_law_316 : decode cL_law 316 = .ok (.iadd, 1) := by decide +kernel
theorem dL_law_317 : decode cL_law 317 = .ok (.iaload, 1) := by decide +kernel
theorem dL_law_318 : decode cL_law 318 = .ok (.aload_n 0, 1) := by decide +kernel
theorem dL_law_319 : decode cL_law 319 = .ok (.iload_n 3, 1) := by decide +kernel
theorem dL_law_320 : decode cL_law 320 = .ok (.iconst 2, 1) := by decide +kernel
theorem dL_law_321 : decode cL_law 321 = .ok (.iadd, 1) := by decide +kernel
theorem dL_law_322 : decode cL_law 322 = .ok (.iaload, 1) := by decide +kernel
theorem dL_law_323 : decode cL_law 323 = .ok (.aload_n 0, 1) := by decide +kernel
theorem dL_law_324 : decode cL_law 324 = .ok (.iload_n 3, 1) := by decide +kernel
theorem dL_law_325 : decode cL_law 325 = .ok (.iconst 3, 1) := by decide +kernel
theorem dL_law_326 : decode cL_law 326 = .ok (.iadd, 1) := by decide +kernel
theorem dL_law_327 : decode cL_law 327 = .ok (.iaload, 1) := by decide +kernel
theorem dL_law_328 : decode cL_law 328 = .ok (.invokevirtual 22, 3) := by decide +kernel
theorem dL_law_331 : decode cL_law 331 = .ok (.if_icmp .eq 1736, 3) := by decide +kernel
theorem dL_law_334 : decode cL_law 334 = .ok (.iconst 0, 1) := by decide +kernel
theorem dL_law_335 : decode cL_law 335 = .ok (.ireturn, 1) := by decide +kernel
theorem dL_law_336 : decode cL_law 336 = .ok (.aload_n 1, 1) := by decide +kernel
theorem dL_law_337 : decode cL_law 337 = .ok (.aload_n 0, 1) := by decide +kernel
theorem dL_law_338 : decode cL_law 338 = .ok (.iload_n 3, 1) := by decide +kernel
theorem dL_law_339 : decode cL_law 339 = .ok (.iconst 1, 1) := by decide +kernel
theorem dL_law_340 : decode cL_law 340 = .ok (.iadd, 1) := by decide +kernel
theorem dL_law_341 : decode cL_law 341 = .ok (.iaload, 1) := by decide +kernel
theorem dL_law_342 : decode cL_law 342 = .ok (.invokevirtual 23, 3) := by decide +kernel
theorem dL_law_345 : decode cL_law 345 = .ok (.aload_n 2, 1) := by decide +kernel
theorem dL_law_346 : decode cL_law 346 = .ok (.aload_n 0, 1) := by decide +kernel
theorem dL_law_347 : decode cL_law 347 = .ok (.iload_n 3, 1) := by decide +kernel
theorem dL_law_348 : decode cL_law 348 = .ok (.iconst 1, 1) := by decide +kernel
theorem dL_law_349 : decode cL_law 349 = .ok (.iadd, 1) := by decide +kernel
theorem dL_law_350 : decode cL_law 350 = .ok (.iaload, 1) := by decide +kernel
theorem dL_law_351 : decode cL_law 351 = .ok (.invokevirtual 27, 3) := by decide +kernel
theorem dL_law_354 : decode cL_law 354 = .ok (.if_icmp .eq 1713, 3) := by decide +kernel
theorem dL_law_357 : decode cL_law 357 = .ok (.iconst 0, 1) := by decide +kernel
theorem dL_law_358 : decode cL_law 358 = .ok (.ireturn, 1) := by decide +kernel
theorem dL_law_359 : decode cL_law 359 = .ok (.aload_n 1, 1) := by decide +kernel
theorem dL_law_360 : decode cL_law 360 = .ok (.aload_n 0, 1) := by decide +kernel
theorem dL_law_361 : decode cL_law 361 = .ok (.iload_n 3, 1) := by decide +kernel
theorem dL_law_362 : decode cL_law 362 = .ok (.iconst 1, 1) := by decide +kernel
theorem dL_law_363 : decode cL_law 363 = .ok (.iadd, 1) := by decide +kernel
theorem dL_law_364 : decode cL_law 364 = .ok (.iaload, 1) := by decide +kernel
theorem dL_law_365 : decode cL_law 365 = .ok (.aload_n 0, 1) := by decide +kernel
theorem dL_law_366 : decode cL_law 366 = .ok (.iload_n 3, 1) := by decide +kernel
theorem dL_law_367 : decode cL_law 367 = .ok (.iconst 2, 1) := by decide +kernel
theorem dL_law_368 : decode cL_law 368 = .ok (.iadd, 1) := by decide +kernel
theorem dL_law_369 : decode cL_law 369 = .ok (.iaload, 1) := by decide +kernel
theorem dL_law_370 : decode cL_law 370 = .ok (.aload_n 0, 1) := by decide +kernel
theorem dL_law_371 : decode cL_law 371 = .ok (.iload_n 3, 1) := by decide +kernel
theorem dL_law_372 : decode cL_law 372 = .ok (.iconst 3, 1) := by decide +kernel
theorem dL_law_373 : decode cL_law 373 = .ok (.iadd, 1) := by decide +kernel
theorem dL_law_374 : decode cL_law 374 = .ok (.iaload, 1) := by decide +kernel
theorem dL_law_375 : decode cL_law 375 = .ok (.aload_n 0, 1) := by decide +kernel
theorem dL_law_376 : decode cL_law 376 = .ok (.iload_n 3, 1) := by decide +kernel
theorem dL_law_377 : decode cL_law 377 = .ok (.iconst 4, 1) := by decide +kernel
theorem dL_law_378 : decode cL_law 378 = .ok (.iadd, 1) := by decide +kernel
theorem dL_law_379 : decode cL_law 379 = .ok (.iaload, 1) := by decide +kernel
theorem dL_law_380 : decode cL_law 380 = .ok (.aload_n 0, 1) := by decide +kernel
theorem dL_law_381 : decode cL_law 381 = .ok (.iload_n 3, 1) := by decide +kernel
theorem dL_law_382 : decode cL_law 382 = .ok (.iconst 5, 1) := by decide +kernel
theorem dL_law_383 : decode cL_law 383 = .ok (.iadd, 1) := by decide +kernel
theorem dL_law_384 : decode cL_law 384 = .ok (.iaload, 1) := by decide +kernel
theorem dL_law_385 : decode cL_law 385 = .ok (.invokevirtual 28, 3) := by decide +kernel
theorem dL_law_388 : decode cL_law 388 = .ok (.aload_n 2, 1) := by decide +kernel
theorem dL_law_389 : decode cL_law 389 = .ok (.aload_n 0, 1) := by decide +kernel
theorem dL_law_390 : decode cL_law 390 = .ok (.iload_n 3, 1) := by decide +kernel
theorem dL_law_391 : decode cL_law 391 = .ok (.iconst 1, 1) := by decide +kernel
theorem dL_law_392 : decode cL_law 392 = .ok (.iadd, 1) := by decide +kernel
theorem dL_law_393 : decode cL_law 393 = .ok (.iaload, 1) := by decide +kernel
theorem dL_law_394 : decode cL_law 394 = .ok (.aload_n 0, 1) := by decide +kernel
theorem dL_law_395 : decode cL_law 395 = .ok (.iload_n 3, 1) := by decide +kernel
theorem dL_law_396 : decode cL_law 396 = .ok (.iconst 2, 1) := by decide +kernel
theorem dL_law_397 : decode cL_law 397 = .ok (.iadd, 1) := by decide +kernel
theorem dL_law_398 : decode cL_law 398 = .ok (.iaload, 1) := by decide +kernel
theorem dL_law_399 : decode cL_law 399 = .ok (.aload_n 0, 1) := by decide +kernel
theorem dL_law_400 : decode cL_law 400 = .ok (.iload_n 3, 1) := by decide +kernel
theorem dL_law_401 : decode cL_law 401 = .ok (.iconst 3, 1) := by decide +kernel
theorem dL_law_402 : decode cL_law 402 = .ok (.iadd, 1) := by decide +kernel
theorem dL_law_403 : decode cL_law 403 = .ok (.iaload, 1) := by decide +kernel
theorem dL_law_404 : decode cL_law 404 = .ok (.aload_n 0, 1) := by decide +kernel
theorem dL_law_405 : decode cL_law 405 = .ok (.iload_n 3, 1) := by decide +kernel
theorem dL_law_406 : decode cL_law 406 = .ok (.iconst 4, 1) := by decide +kernel
theorem dL_law_407 : decode cL_law 407 = .ok (.iadd, 1) := by decide +kernel
theorem dL_law_408 : decode cL_law 408 = .ok (.iaload, 1) := by decide +kernel
theorem dL_law_409 : decode cL_law 409 = .ok (.aload_n 0, 1) := by decide +kernel
theorem dL_law_410 : decode cL_law 410 = .ok (.iload_n 3, 1) := by decide +kernel
theorem dL_law_411 : decode cL_law 411 = .ok (.iconst 5, 1) := by decide +kernel
theorem dL_law_412 : decode cL_law 412 = .ok (.iadd, 1) := by decide +kernel
theorem dL_law_413 : decode cL_law 413 = .ok (.iaload, 1) := by decide +kernel
theorem dL_law_414 : decode cL_law 414 = .ok (.invokevirtual 32, 3) := by decide +kernel
theorem dL_law_417 : decode cL_law 417 = .ok (.if_icmp .eq 1650, 3) := by decide +kernel
theorem dL_law_420 : decode cL_law 420 = .ok (.iconst 0, 1) := by decide +kernel
theorem dL_law_421 : decode cL_law 421 = .ok (.ireturn, 1) := by decide +kernel
theorem dL_law_422 : decode cL_law 422 = .ok (.aload_n 1, 1) := by decide +kernel
theorem dL_law_423 : decode cL_law 423 = .ok (.aload_n 0, 1) := by decide +kernel
theorem dL_law_424 : decode cL_law 424 = .ok (.iload_n 3, 1) := by decide +kernel
theorem dL_law_425 : decode cL_law 425 = .ok (.iconst 1, 1) := by decide +kernel
theorem dL_law_426 : decode cL_law 426 = .ok (.iadd, 1) := by decide +kernel
theorem dL_law_427 : decode cL_law 427 = .ok (.iaload, 1) := by decide +kernel
theorem dL_law_428 : decode cL_law 428 = .ok (.invokevirtual 33, 3) := by decide +kernel
theorem dL_law_431 : decode cL_law 431 = .ok (.aload_n 2, 1) := by decide +kernel
theorem dL_law_432 : decode cL_law 432 = .ok (.aload_n 0, 1) := by decide +kernel
theorem dL_law_433 : decode cL_law 433 = .ok (.iload_n 3, 1) := by decide +kernel
theorem dL_law_434 : decode cL_law 434 = .ok (.iconst 1, 1) := by decide +kernel
theorem dL_law_435 : decode cL_law 435 = .ok (.iadd, 1) := by decide +kernel
theorem dL_law_436 : decode cL_law 436 = .ok (.iaload, 1) := by decide +kernel
theorem dL_law_437 : decode cL_law 437 = .ok (.invokevirtual 36, 3) := by decide +kernel
theorem dL_law_440 : decode cL_law 440 = .ok (.if_icmp .eq 1627, 3) := by decide +kernel
theorem dL_law_443 : decode cL_law 443 = .ok (.iconst 0, 1) := by decide +kernel
theorem dL_law_444 : decode cL_law 444 = .ok (.ireturn, 1) := by decide +kernel
theorem dL_law_445 : decode cL_law 445 = .ok (.aload_n 1, 1) := by decide +kernel
theorem dL_law_446 : decode cL_law 446 = .ok (.aload_n 0, 1) := by decide +kernel
theorem dL_law_447 : decode cL_law 447 = .ok (.iload_n 3, 1) := by decide +kernel
theorem dL_law_448 : decode cL_law 448 = .ok (.iconst 1, 1) := by decide +kernel
theorem dL_law_449 : decode cL_law 449 = .ok (.iadd, 1) := by decide +kernel
theorem dL_law_450 : decode cL_law 450 = .ok (.iaload, 1) := by decide +kernel
theorem dL_law_451 : decode cL_law 451 = .ok (.aload_n 0, 1) := by decide +kernel
theorem dL_law_452 : decode cL_law 452 = .ok (.iload_n 3, 1) := by decide +kernel
theorem dL_law_453 : decode cL_law 453 = .ok (.iconst 2, 1) := by decide +kernel
theorem dL_law_454 : decode cL_law 454 = .ok (.iadd, 1) := by decide +kernel
theorem dL_law_455 : decode cL_law 455 = .ok (.iaload, 1) := by decide +kernel
theorem dL_law_456 : decode cL_law 456 = .ok (.invokevirtual 37, 3) := by decide +kernel
theorem dL_law_459 : decode cL_law 459 = .ok (.aload_n 2, 1) := by decide +kernel
theorem dL_law_460 : decode cL_law 460 = .ok (.aload_n 0, 1) := by decide +kernel
theorem dL_law_461 : decode cL_law 461 = .ok (.iload_n 3, 1) := by decide +kernel
theorem dL_law_462 : decode cL_law 462 = .ok (.iconst 1, 1) := by decide +kernel
theorem dL_law_463 : decode cL_law 463 = .ok (.iadd, 1) := by decide +kernel
theorem dL_law_464 : decode cL_law 464 = .ok (.iaload, 1) := by decide +kernel
theorem dL_law_465 : decode cL_law 465 = .ok (.aload_n 0, 1) := by decide +kernel
theorem dL_law_466 : decode cL_law 466 = .ok (.iload_n 3, 1) := by decide +kernel
theorem dL_law_467 : decode cL_law 467 = .ok (.iconst 2, 1) := by decide +kernel
theorem dL_law_468 : decode cL_law 468 = .ok (.iadd, 1) := by decide +kernel
theorem dL_law_469 : decode cL_law 469 = .ok (.iaload, 1) := by decide +kernel
theorem dL_law_470 : decode cL_law 470 = .ok (.invokevirtual 40, 3) := by decide +kernel
theorem dL_law_473 : decode cL_law 473 = .ok (.if_icmp .eq 1594, 3) := by decide +kernel
theorem dL_law_476 : decode cL_law 476 = .ok (.iconst 0, 1) := by decide +kernel
theorem dL_law_477 : decode cL_law 477 = .ok (.ireturn, 1) := by decide +kernel
theorem dL_law_478 : decode cL_law 478 = .ok (.aload_n 1, 1) := by decide +kernel
theorem dL_law_479 : decode cL_law 479 = .ok (.aload_n 0, 1) := by decide +kernel
theorem dL_law_480 : decode cL_law 480 = .ok (.iload_n 3, 1) := by decide +kernel
theorem dL_law_481 : decode cL_law 481 = .ok (.iconst 1, 1) := by decide +kernel
theorem dL_law_482 : decode cL_law 482 = .ok (.iadd, 1) := by decide +kernel
theorem dL_law_483 : decode cL_law 483 = .ok (.iaload, 1) := by decide +kernel
theorem dL_law_484 : decode cL_law 484 = .ok (.aload_n 0, 1) := by decide +kernel
theorem dL_law_485 : decode cL_law 485 = .ok (.iload_n 3, 1) := by decide +kernel
theorem dL_law_486 : decode cL_law 486 = .ok (.iconst 2, 1) := by decide +kernel
theorem dL_law_487 : decode cL_law 487 = .ok (.iadd, 1) := by decide +kernel
theorem dL_law_488 : decode cL_law 488 = .ok (.iaload, 1) := by decide +kernel
theorem dL_law_489 : decode cL_law 489 = .ok (.aload_n 0, 1) := by decide +kernel
theorem dL_law_490 : decode cL_law 490 = .ok (.iload_n 3, 1) := by decide +kernel
theorem dL_law_491 : decode cL_law 491 = .ok (.iconst 3, 1) := by decide +kernel
theorem dL_law_492 : decode cL_law 492 = .ok (.iadd, 1) := by decide +kernel
theorem dL_law_493 : decode cL_law 493 = .ok (.iaload, 1) := by decide +kernel
theorem dL_law_494 : decode cL_law 494 = .ok (.invokevirtual 41, 3) := by decide +kernel
theorem dL_law_497 : decode cL_law 497 = .ok (.aload_n 2, 1) := by decide +kernel
theorem dL_law_498 : decode cL_law 498 = .ok (.aload_n 0, 1) := by decide +kernel
theorem dL_law_499 : decode cL_law 499 = .ok (.iload_n 3, 1) := by decide +kernel
theorem dL_law_500 : decode cL_law 500 = .ok (.iconst 1, 1) := by decide +kernel
theorem dL_law_501 : decode cL_law 501 = .ok (.iadd, 1) := by decide +kernel
theorem dL_law_502 : decode cL_law 502 = .ok (.iaload, 1) := by decide +kernel
theorem dL_law_503 : decode cL_law 503 = .ok (.aload_n 0, 1) := by decide +kernel
theorem dL_law_504 : decode cL_law 504 = .ok (.iload_n 3, 1) := by decide +kernel
theorem dL_law_505 : decode cL_law 505 = .ok (.iconst 2, 1) := by decide +kernel
theorem dL_law_506 : decode cL_law 506 = .ok (.iadd, 1) := by decide +kernel
theorem dL_law_507 : decode cL_law 507 = .ok (.iaload, 1) := by decide +kernel
theorem dL_law_508 : decode cL_law 508 = .ok (.aload_n 0, 1) := by decide +kernel
theorem dL_law_509 : decode cL_law 509 = .ok (.iload_n 3, 1) := by decide +kernel
theorem dL_law_510 : decode cL_law 510 = .ok (.iconst 3, 1) := by decide +kernel
theorem dL_law_511 : decode cL_law 511 = .ok (.iadd, 1) := by decide +kernel
theorem dL_law_512 : decode cL_law 512 = .ok (.iaload, 1) := by decide +kernel
theorem dL_law_513 : decode cL_law 513 = .ok (.invokevirtual 44, 3) := by decide +kernel
theorem dL_law_516 : decode cL_law 516 = .ok (.if_icmp .eq 1551, 3) := by decide +kernel
theorem dL_law_519 : decode cL_law 519 = .ok (.iconst 0, 1) := by decide +kernel
theorem dL_law_520 : decode cL_law 520 = .ok (.ireturn, 1) := by decide +kernel
theorem dL_law_521 : decode cL_law 521 = .ok (.aload_n 1, 1) := by decide +kernel
theorem dL_law_522 : decode cL_law 522 = .ok (.aload_n 0, 1) := by decide +kernel
theorem dL_law_523 : decode cL_law 523 = .ok (.iload_n 3, 1) := by decide +kernel
theorem dL_law_524 : decode cL_law 524 = .ok (.iconst 1, 1) := by decide +kernel
theorem dL_law_525 : decode cL_law 525 = .ok (.iadd, 1) := by decide +kernel
theorem dL_law_526 : decode cL_law 526 = .ok (.iaload, 1) := by decide +kernel
theorem dL_law_527 : decode cL_law 527 = .ok (.invokevirtual 45, 3) := by decide +kernel
theorem dL_law_530 : decode cL_law 530 = .ok (.aload_n 2, 1) := by decide +kernel
theorem dL_law_531 : decode cL_law 531 = .ok (.aload_n 0, 1) := by decide +kernel
theorem dL_law_532 : decode cL_law 532 = .ok (.iload_n 3, 1) := by decide +kernel
theorem dL_law_533 : decode cL_law 533 = .ok (.iconst 1, 1) := by decide +kernel
theorem dL_law_534 : decode cL_law 534 = .ok (.iadd, 1) := by decide +kernel
theorem dL_law_535 : decode cL_law 535 = .ok (.iaload, 1) := by decide +kernel
theorem dL_law_536 : decode cL_law 536 = .ok (.invokevirtual 48, 3) := by decide +kernel
theorem dL_law_539 : decode cL_law 539 = .ok (.if_icmp .eq 1528, 3) := by decide +kernel
theorem dL_law_542 : decode cL_law 542 = .ok (.iconst 0, 1) := by decide +kernel
theorem dL_law_543 : decode cL_law 543 = .ok (.ireturn, 1) := by decide +kernel
theorem dL_law_544 : decode cL_law 544 = .ok (.aload_n 1, 1) := by decide +kernel
theorem dL_law_545 : decode cL_law 545 = .ok (.aload_n 0, 1) := by decide +kernel
theorem dL_law_546 : decode cL_law 546 = .ok (.iload_n 3, 1) := by decide +kernel
theorem dL_law_547 : decode cL_law 547 = .ok (.iconst 1, 1) := by decide +kernel
theorem dL_law_548 : decode cL_law 548 = .ok (.iadd, 1) := by decide +kernel
theorem dL_law_549 : decode cL_law 549 = .ok (.iaload, 1) := by decide +kernel
theorem dL_law_550 : decode cL_law 550 = .ok (.invokevirtual 49, 3) := by decide +kernel
theorem dL_law_553 : decode cL_law 553 = .ok (.aload_n 2, 1) := by decide +kernel
theorem dL_law_554 : decode cL_law 554 = .ok (.aload_n 0, 1) := by decide +kernel
theorem dL_law_555 : decode cL_law 555 = .ok (.iload_n 3, 1) := by decide +kernel
theorem dL_law_556 : decode cL_law 556 = .ok (.iconst 1, 1) := by decide +kernel
theorem dL_law_557 : decode cL_law 557 = .ok (.iadd, 1) := by decide +kernel
theorem dL_law_558 : decode cL_law 558 = .ok (.iaload, 1) := by decide +kernel
theorem dL_law_559 : decode cL_law 559 = .ok (.invokevirtual 52, 3) := by decide +kernel
theorem dL_law_562 : decode cL_law 562 = .ok (.if_icmp .eq 1505, 3) := by decide +kernel
theorem dL_law_565 : decode cL_law 565 = .ok (.iconst 0, 1) := by decide +kernel
theorem dL_law_566 : decode cL_law 566 = .ok (.ireturn, 1) := by decide +kernel
theorem dL_law_567 : decode cL_law 567 = .ok (.aload_n 1, 1) := by decide +kernel
theorem dL_law_568 : decode cL_law 568 = .ok (.aload_n 0, 1) := by decide +kernel
theorem dL_law_569 : decode cL_law 569 = .ok (.iload_n 3, 1) := by decide +kernel
theorem dL_law_570 : decode cL_law 570 = .ok (.iconst 1, 1) := by decide +kernel
theorem dL_law_571 : decode cL_law 571 = .ok (.iadd, 1) := by decide +kernel
theorem dL_law_572 : decode cL_law 572 = .ok (.iaload, 1) := by decide +kernel
theorem dL_law_573 : decode cL_law 573 = .ok (.aload_n 0, 1) := by decide +kernel
theorem dL_law_574 : decode cL_law 574 = .ok (.iload_n 3, 1) := by decide +kernel
theorem dL_law_575 : decode cL_law 575 = .ok (.iconst 2, 1) := by decide +kernel
theorem dL_law_576 : decode cL_law 576 = .ok (.iadd, 1) := by decide +kernel
theorem dL_law_577 : decode cL_law 577 = .ok (.iaload, 1) := by decide +kernel
theorem dL_law_578 : decode cL_law 578 = .ok (.aload_n 0, 1) := by decide +kernel
theorem dL_law_579 : decode cL_law 579 = .ok (.iload_n 3, 1) := by decide +kernel
theorem dL_law_580 : decode cL_law 580 = .ok (.iconst 3, 1) := by decide +kernel
theorem dL_law_581 : decode cL_law 581 = .ok (.iadd, 1) := by decide +kernel
theorem dL_law_582 : decode cL_law 582 = .ok (.iaload, 1) := by decide +kernel
theorem dL_law_583 : decode cL_law 583 = .ok (.aload_n 0, 1) := by decide +kernel
theorem dL_law_584 : decode cL_law 584 = .ok (.iload_n 3, 1) := by decide +kernel
theorem dL_law_585 : decode cL_law 585 = .ok (.iconst 4, 1) := by decide +kernel
theorem dL_law_586 : decode cL_law 586 = .ok (.iadd, 1) := by decide +kernel
theorem dL_law_587 : decode cL_law 587 = .ok (.iaload, 1) := by decide +kernel
theorem dL_law_588 : decode cL_law 588 = .ok (.invokevirtual 53, 3) := by decide +kernel
theorem dL_law_591 : decode cL_law 591 = .ok (.aload_n 2, 1) := by decide +kernel
theorem dL_law_592 : decode cL_law 592 = .ok (.aload_n 0, 1) := by decide +kernel
theorem dL_law_593 : decode cL_law 593 = .ok (.iload_n 3, 1) := by decide +kernel
theorem dL_law_594 : decode cL_law 594 = .ok (.iconst 1, 1) := by decide +kernel
theorem dL_law_595 : decode cL_law 595 = .ok (.iadd, 1) := by decide +kernel
theorem dL_law_596 : decode cL_law 596 = .ok (.iaload, 1) := by decide +kernel
theorem dL_law_597 : decode cL_law 597 = .ok (.aload_n 0, 1) := by decide +kernel
theorem dL_law_598 : decode cL_law 598 = .ok (.iload_n 3, 1) := by decide +kernel
theorem dL_law_599 : decode cL_law 599 = .ok (.iconst 2, 1) := by decide +kernel
theorem dL_law_600 : decode cL_law 600 = .ok (.iadd, 1) := by decide +kernel
theorem dL_law_601 : decode cL_law 601 = .ok (.iaload, 1) := by decide +kernel
theorem dL_law_602 : decode cL_law 602 = .ok (.aload_n 0, 1) := by decide +kernel
theorem dL_law_603 : decode cL_law 603 = .ok (.iload_n 3, 1) := by decide +kernel
theorem dL_law_604 : decode cL_law 604 = .ok (.iconst 3, 1) := by decide +kernel
theorem dL_law_605 : decode cL_law 605 = .ok (.iadd, 1) := by decide +kernel
theorem dL_law_606 : decode cL_law 606 = .ok (.iaload, 1) := by decide +kernel
theorem dL_law_607 : decode cL_law 607 = .ok (.aload_n 0, 1) := by decide +kernel
theorem dL_law_608 : decode cL_law 608 = .ok (.iload_n 3, 1) := by decide +kernel
theorem dL_law_609 : decode cL_law 609 = .ok (.iconst 4, 1) := by decide +kernel
theorem dL_law_610 : decode cL_law 610 = .ok (.iadd, 1) := by decide +kernel
theorem dL_law_611 : decode cL_law 611 = .ok (.iaload, 1) := by decide +kernel
theorem dL_law_612 : decode cL_law 612 = .ok (.invokevirtual 57, 3) := by decide +kernel
theorem dL_law_615 : decode cL_law 615 = .ok (.if_icmp .eq 1452, 3) := by decide +kernel
theorem dL_law_618 : decode cL_law 618 = .ok (.iconst 0, 1) := by decide +kernel
theorem dL_law_619 : decode cL_law 619 = .ok (.ireturn, 1) := by decide +kernel
theorem dL_law_620 : decode cL_law 620 = .ok (.aload_n 1, 1) := by decide +kernel
theorem dL_law_621 : decode cL_law 621 = .ok (.aload_n 0, 1) := by decide +kernel
theorem dL_law_622 : decode cL_law 622 = .ok (.iload_n 3, 1) := by decide +kernel
theorem dL_law_623 : decode cL_law 623 = .ok (.iconst 1, 1) := by decide +kernel
theorem dL_law_624 : decode cL_law 624 = .ok (.iadd, 1) := by decide +kernel
theorem dL_law_625 : decode cL_law 625 = .ok (.iaload, 1) := by decide +kernel
theorem dL_law_626 : decode cL_law 626 = .ok (.invokevirtual 58, 3) := by decide +kernel
theorem dL_law_629 : decode cL_law 629 = .ok (.aload_n 2, 1) := by decide +kernel
theorem dL_law_630 : decode cL_law 630 = .ok (.aload_n 0, 1) := by decide +kernel
theorem dL_law_631 : decode cL_law 631 = .ok (.iload_n 3, 1) := by decide +kernel
theorem dL_law_632 : decode cL_law 632 = .ok (.iconst 1, 1) := by decide +kernel
theorem dL_law_633 : decode cL_law 633 = .ok (.iadd, 1) := by decide +kernel
theorem dL_law_634 : decode cL_law 634 = .ok (.iaload, 1) := by decide +kernel
theorem dL_law_635 : decode cL_law 635 = .ok (.invokevirtual 61, 3) := by decide +kernel
theorem dL_law_638 : decode cL_law 638 = .ok (.if_icmp .eq 1429, 3) := by decide +kernel
theorem dL_law_641 : decode cL_law 641 = .ok (.iconst 0, 1) := by decide +kernel
theorem dL_law_642 : decode cL_law 642 = .ok (.ireturn, 1) := by decide +kernel
theorem dL_law_643 : decode cL_law 643 = .ok (.aload_n 1, 1) := by decide +kernel
theorem dL_law_644 : decode cL_law 644 = .ok (.aload_n 0, 1) := by decide +kernel
theorem dL_law_645 : decode cL_law 645 = .ok (.iload_n 3, 1) := by decide +kernel
theorem dL_law_646 : decode cL_law 646 = .ok (.iconst 1, 1) := by decide +kernel
theorem dL_law_647 : decode cL_law 647 = .ok (.iadd, 1) := by decide +kernel
theorem dL_law_648 : decode cL_law 648 = .ok (.iaload, 1) := by decide +kernel
theorem dL_law_649 : decode cL_law 649 = .ok (.aload_n 0, 1) := by decide +kernel
theorem dL_law_650 : decode cL_law 650 = .ok (.iload_n 3, 1) := by decide +kernel
theorem dL_law_651 : decode cL_law 651 = .ok (.iconst 2, 1) := by decide +kernel
theorem dL_law_652 : decode cL_law 652 = .ok (.iadd, 1) := by decide +kernel
theorem dL_law_653 : decode cL_law 653 = .ok (.iaload, 1) := by decide +kernel
theorem dL_law_654 : decode cL_law 654 = .ok (.aload_n 0, 1) := by decide +kernel
theorem dL_law_655 : decode cL_law 655 = .ok (.iload_n 3, 1) := by decide +kernel
theorem dL_law_656 : decode cL_law 656 = .ok (.iconst 3, 1) := by decide +kernel
theorem dL_law_657 : decode cL_law 657 = .ok (.iadd, 1) := by decide +kernel
theorem dL_law_658 : decode cL_law 658 = .ok (.iaload, 1) := by decide +kernel
theorem dL_law_659 : decode cL_law 659 = .ok (.invokevirtual 62, 3) := by decide +kernel
theorem dL_law_662 : decode cL_law 662 = .ok (.aload_n 2, 1) := by decide +kernel
theorem dL_law_663 : decode cL_law 663 = .ok (.aload_n 0, 1) := by decide +kernel
theorem dL_law_664 : decode cL_law 664 = .ok (.iload_n 3, 1) := by decide +kernel
theorem dL_law_665 : decode cL_law 665 = .ok (.iconst 1, 1) := by decide +kernel
theorem dL_law_666 : decode cL_law 666 = .ok (.iadd, 1) := by decide +kernel
theorem dL_law_667 : decode cL_law 667 = .ok (.iaload, 1) := by decide +kernel
theorem dL_law_668 : decode cL_law 668 = .ok (.aload_n 0, 1) := by decide +kernel
theorem dL_law_669 : decode cL_law 669 = .ok (.iload_n 3, 1) := by decide +kernel
theorem dL_law_670 : decode cL_law 670 = .ok (.iconst 2, 1) := by decide +kernel
theorem dL_law_671 : decode cL_law 671 = .ok (.iadd, 1) := by decide +kernel
theorem dL_law_672 : decode cL_law 672 = .ok (.iaload, 1) := by decide +kernel
theorem dL_law_673 : decode cL_law 673 = .ok (.aload_n 0, 1) := by decide +kernel
theorem dL_law_674 : decode cL_law 674 = .ok (.iload_n 3, 1) := by decide +kernel
theorem dL_law_675 : decode cL_law 675 = .ok (.iconst 3, 1) := by decide +kernel
theorem dL_law_676 : decode cL_law 676 = .ok (.iadd, 1) := by decide +kernel
theorem dL_law_677 : decode cL_law 677 = .ok (.iaload, 1) := by decide +kernel
theorem dL_law_678 : decode cL_law 678 = .ok (.invokevirtual 65, 3) := by decide +kernel
theorem dL_law_681 : decode cL_law 681 = .ok (.if_icmp .eq 1386, 3) := by decide +kernel
theorem dL_law_684 : decode cL_law 684 = .ok (.iconst 0, 1) := by decide +kernel
theorem dL_law_685 : decode cL_law 685 = .ok (.ireturn, 1) := by decide +kernel
theorem dL_law_686 : decode cL_law 686 = .ok (.aload_n 1, 1) := by decide +kernel
theorem dL_law_687 : decode cL_law 687 = .ok (.aload_n 0, 1) := by decide +kernel
theorem dL_law_688 : decode cL_law 688 = .ok (.iload_n 3, 1) := by decide +kernel
theorem dL_law_689 : decode cL_law 689 = .ok (.iconst 1, 1) := by decide +kernel
theorem dL_law_690 : decode cL_law 690 = .ok (.iadd, 1) := by decide +kernel
theorem dL_law_691 : decode cL_law 691 = .ok (.iaload, 1) := by decide +kernel
theorem dL_law_692 : decode cL_law 692 = .ok (.aload_n 0, 1) := by decide +kernel
theorem dL_law_693 : decode cL_law 693 = .ok (.iload_n 3, 1) := by decide +kernel
theorem dL_law_694 : decode cL_law 694 = .ok (.iconst 2, 1) := by decide +kernel
theorem dL_law_695 : decode cL_law 695 = .ok (.iadd, 1) := by decide +kernel
theorem dL_law_696 : decode cL_law 696 = .ok (.iaload, 1) := by decide +kernel
theorem dL_law_697 : decode cL_law 697 = .ok (.aload_n 0, 1) := by decide +kernel
theorem dL_law_698 : decode cL_law 698 = .ok (.iload_n 3, 1) := by decide +kernel
theorem dL_law_699 : decode cL_law 699 = .ok (.iconst 3, 1) := by decide +kernel
theorem dL_law_700 : decode cL_law 700 = .ok (.iadd, 1) := by decide +kernel
theorem dL_law_701 : decode cL_law 701 = .ok (.iaload, 1) := by decide +kernel
theorem dL_law_702 : decode cL_law 702 = .ok (.invokevirtual 66, 3) := by decide +kernel
theorem dL_law_705 : decode cL_law 705 = .ok (.aload_n 2, 1) := by decide +kernel
theorem dL_law_706 : decode cL_law 706 = .ok (.aload_n 0, 1) := by decide +kernel
theorem dL_law_707 : decode cL_law 707 = .ok (.iload_n 3, 1) := by decide +kernel
theorem dL_law_708 : decode cL_law 708 = .ok (.iconst 1, 1) := by decide +kernel
theorem dL_law_709 : decode cL_law 709 = .ok (.iadd, 1) := by decide +kernel
theorem dL_law_710 : decode cL_law 710 = .ok (.iaload, 1) := by decide +kernel
theorem dL_law_711 : decode cL_law 711 = .ok (.aload_n 0, 1) := by decide +kernel
theorem dL_law_712 : decode cL_law 712 = .ok (.iload_n 3, 1) := by decide +kernel
theorem dL_law_713 : decode cL_law 713 = .ok (.iconst 2, 1) := by decide +kernel
theorem dL_law_714 : decode cL_law 714 = .ok (.iadd, 1) := by decide +kernel
theorem dL_law_715 : decode cL_law 715 = .ok (.iaload, 1) := by decide +kernel
theorem dL_law_716 : decode cL_law 716 = .ok (.aload_n 0, 1) := by decide +kernel
theorem dL_law_717 : decode cL_law 717 = .ok (.iload_n 3, 1) := by decide +kernel
theorem dL_law_718 : decode cL_law 718 = .ok (.iconst 3, 1) := by decide +kernel
theorem dL_law_719 : decode cL_law 719 = .ok (.iadd, 1) := by decide +kernel
theorem dL_law_720 : decode cL_law 720 = .ok (.iaload, 1) := by decide +kernel
theorem dL_law_721 : decode cL_law 721 = .ok (.invokevirtual 69, 3) := by decide +kernel
theorem dL_law_724 : decode cL_law 724 = .ok (.if_icmp .eq 1343, 3) := by decide +kernel
theorem dL_law_727 : decode cL_law 727 = .ok (.iconst 0, 1) := by decide +kernel
theorem dL_law_728 : decode cL_law 728 = .ok (.ireturn, 1) := by decide +kernel
theorem dL_law_729 : decode cL_law 729 = .ok (.aload_n 1, 1) := by decide +kernel
theorem dL_law_730 : decode cL_law 730 = .ok (.aload_n 0, 1) := by decide +kernel
theorem dL_law_731 : decode cL_law 731 = .ok (.iload_n 3, 1) := by decide +kernel
theorem dL_law_732 : decode cL_law 732 = .ok (.iconst 1, 1) := by decide +kernel
theorem dL_law_733 : decode cL_law 733 = .ok (.iadd, 1) := by decide +kernel
theorem dL_law_734 : decode cL_law 734 = .ok (.iaload, 1) := by decide +kernel
theorem dL_law_735 : decode cL_law 735 = .ok (.aload_n 0, 1) := by decide +kernel
theorem dL_law_736 : decode cL_law 736 = .ok (.iload_n 3, 1) := by decide +kernel
theorem dL_law_737 : decode cL_law 737 = .ok (.iconst 2, 1) := by decide +kernel
theorem dL_law_738 : decode cL_law 738 = .ok (.iadd, 1) := by decide +kernel
theorem dL_law_739 : decode cL_law 739 = .ok (.iaload, 1) := by decide +kernel
theorem dL_law_740 : decode cL_law 740 = .ok (.aload_n 0, 1) := by decide +kernel
theorem dL_law_741 : decode cL_law 741 = .ok (.iload_n 3, 1) := by decide +kernel
theorem dL_law_742 : decode cL_law 742 = .ok (.iconst 3, 1) := by decide +kernel
theorem dL_law_743 : decode cL_law 743 = .ok (.iadd, 1) := by decide +kernel
theorem dL_law_744 : decode cL_law 744 = .ok (.iaload, 1) := by decide +kernel
theorem dL_law_745 : decode cL_law 745 = .ok (.aload_n 0, 1) := by decide +kernel
theorem dL_law_746 : decode cL_law 746 = .ok (.iload_n 3, 1) := by decide +kernel
theorem dL_law_747 : decode cL_law 747 = .ok (.iconst 4, 1) := by decide +kernel
theorem dL_law_748 : decode cL_law 748 = .ok (.iadd, 1) := by decide +kernel
theorem dL_law_749 : decode cL_law 749 = .ok (.iaload, 1) := by decide +kernel
theorem dL_law_750 : decode cL_law 750 = .ok (.invokevirtual 70, 3) := by decide +kernel
theorem dL_law_753 : decode cL_law 753 = .ok (.aload_n 2, 1) := by decide +kernel
theorem dL_law_754 : decode cL_law 754 = .ok (.aload_n 0, 1) := by decide +kernel
theorem dL_law_755 : decode cL_law 755 = .ok (.iload_n 3, 1) := by decide +kernel
theorem dL_law_756 : decode cL_law 756 = .ok (.iconst 1, 1) := by decide +kernel
theorem dL_law_757 : decode cL_law 757 = .ok (.iadd, 1) := by decide +kernel
theorem dL_law_758 : decode cL_law 758 = .ok (.iaload, 1) := by decide +kernel
theorem dL_law_759 : decode cL_law 759 = .ok (.aload_n 0, 1) := by decide +kernel
theorem dL_law_760 : decode cL_law 760 = .ok (.iload_n 3, 1) := by decide +kernel
theorem dL_law_761 : decode cL_law 761 = .ok (.iconst 2, 1) := by decide +kernel
theorem dL_law_762 : decode cL_law 762 = .ok (.iadd, 1) := by decide +kernel
theorem dL_law_763 : decode cL_law 763 = .ok (.iaload, 1) := by decide +kernel
theorem dL_law_764 : decode cL_law 764 = .ok (.aload_n 0, 1) := by decide +kernel
theorem dL_law_765 : decode cL_law 765 = .ok (.iload_n 3, 1) := by decide +kernel
theorem dL_law_766 : decode cL_law 766 = .ok (.iconst 3, 1) := by decide +kernel
theorem dL_law_767 : decode cL_law 767 = .ok (.iadd, 1) := by decide +kernel
theorem dL_law_768 : decode cL_law 768 = .ok (.iaload, 1) := by decide +kernel
theorem dL_law_769 : decode cL_law 769 = .ok (.aload_n 0, 1) := by decide +kernel
theorem dL_law_770 : decode cL_law 770 = .ok (.iload_n 3, 1) := by decide +kernel
theorem dL_law_771 : decode cL_law 771 = .ok (.iconst 4, 1) := by decide +kernel
theorem dL_law_772 : decode cL_law 772 = .ok (.iadd, 1) := by decide +kernel
theorem dL_law_773 : decode cL_law 773 = .ok (.iaload, 1) := by decide +kernel
theorem dL_law_774 : decode cL_law 774 = .ok (.invokevirtual 73, 3) := by decide +kernel
theorem dL_law_777 : decode cL_law 777 = .ok (.if_icmp .eq 1290, 3) := by decide +kernel
theorem dL_law_780 : decode cL_law 780 = .ok (.iconst 0, 1) := by decide +kernel
theorem dL_law_781 : decode cL_law 781 = .ok (.ireturn, 1) := by decide +kernel
theorem dL_law_782 : decode cL_law 782 = .ok (.aload_n 1, 1) := by decide +kernel
theorem dL_law_783 : decode cL_law 783 = .ok (.aload_n 0, 1) := by decide +kernel
theorem dL_law_784 : decode cL_law 784 = .ok (.iload_n 3, 1) := by decide +kernel
theorem dL_law_785 : decode cL_law 785 = .ok (.iconst 1, 1) := by decide +kernel
theorem dL_law_786 : decode cL_law 786 = .ok (.iadd, 1) := by decide +kernel
theorem dL_law_787 : decode cL_law 787 = .ok (.iaload, 1) := by decide +kernel
theorem dL_law_788 : decode cL_law 788 = .ok (.aload_n 0, 1) := by decide +kernel
theorem dL_law_789 : decode cL_law 789 = .ok (.iload_n 3, 1) := by decide +kernel
theorem dL_law_790 : decode cL_law 790 = .ok (.iconst 2, 1) := by decide +kernel
theorem dL_law_791 : decode cL_law 791 = .ok (.iadd, 1) := by decide +kernel
theorem dL_law_792 : decode cL_law 792 = .ok (.iaload, 1) := by decide +kernel
theorem dL_law_793 : decode cL_law 793 = .ok (.aload_n 0, 1) := by decide +kernel
theorem dL_law_794 : decode cL_law 794 = .ok (.iload_n 3, 1) := by decide +kernel
theorem dL_law_795 : decode cL_law 795 = .ok (.iconst 3, 1) := by decide +kernel
theorem dL_law_796 : decode cL_law 796 = .ok (.iadd, 1) := by decide +kernel
theorem dL_law_797 : decode cL_law 797 = .ok (.iaload, 1) := by decide +kernel
theorem dL_law_798 : decode cL_law 798 = .ok (.invokevirtual 74, 3) := by decide +kernel
theorem dL_law_801 : decode cL_law 801 = .ok (.aload_n 2, 1) := by decide +kernel
theorem dL_law_802 : decode cL_law 802 = .ok (.aload_n 0, 1) := by decide +kernel
theorem dL_law_803 : decode cL_law 803 = .ok (.iload_n 3, 1) := by decide +kernel
theorem dL_law_804 : decode cL_law 804 = .ok (.iconst 1, 1) := by decide +kernel
theorem dL_law_805 : decode cL_law 805 = .ok (.iadd, 1) := by decide +kernel
theorem dL_law_806 : decode cL_law 806 = .ok (.iaload, 1) := by decide +kernel
theorem dL_law_807 : decode cL_law 807 = .ok (.aload_n 0, 1) := by decide +kernel
theorem dL_law_808 : decode cL_law 808 = .ok (.iload_n 3, 1) := by decide +kernel
theorem dL_law_809 : decode cL_law 809 = .ok (.iconst 2, 1) := by decide +kernel
theorem dL_law_810 : decode cL_law 810 = .ok (.iadd, 1) := by decide +kernel
theorem dL_law_811 : decode cL_law 811 = .ok (.iaload, 1) := by decide +kernel
theorem dL_law_812 : decode cL_law 812 = .ok (.aload_n 0, 1) := by decide +kernel
theorem dL_law_813 : decode cL_law 813 = .ok (.iload_n 3, 1) := by decide +kernel
theorem dL_law_814 : decode cL_law 814 = .ok (.iconst 3, 1) := by decide +kernel
theorem dL_law_815 : decode cL_law 815 = .ok (.iadd, 1) := by decide +kernel
theorem dL_law_816 : decode cL_law 816 = .ok (.iaload, 1) := by decide +kernel
theorem dL_law_817 : decode cL_law 817 = .ok (.invokevirtual 77, 3) := by decide +kernel
theorem dL_law_820 : decode cL_law 820 = .ok (.if_icmp .eq 1247, 3) := by decide +kernel
theorem dL_law_823 : decode cL_law 823 = .ok (.iconst 0, 1) := by decide +kernel
theorem dL_law_824 : decode cL_law 824 = .ok (.ireturn, 1) := by decide +kernel
theorem dL_law_825 : decode cL_law 825 = .ok (.aload_n 1, 1) := by decide +kernel
theorem dL_law_826 : decode cL_law 826 = .ok (.aload_n 0, 1) := by decide +kernel
theorem dL_law_827 : decode cL_law 827 = .ok (.iload_n 3, 1) := by decide +kernel
theorem dL_law_828 : decode cL_law 828 = .ok (.iconst 1, 1) := by decide +kernel
theorem dL_law_829 : decode cL_law 829 = .ok (.iadd, 1) := by decide +kernel
theorem dL_law_830 : decode cL_law 830 = .ok (.iaload, 1) := by decide +kernel
theorem dL_law_831 : decode cL_law 831 = .ok (.aload_n 0, 1) := by decide +kernel
theorem dL_law_832 : decode cL_law 832 = .ok (.iload_n 3, 1) := by decide +kernel
theorem dL_law_833 : decode cL_law 833 = .ok (.iconst 2, 1) := by decide +kernel
theorem dL_law_834 : decode cL_law 834 = .ok (.iadd, 1) := by decide +kernel
theorem dL_law_835 : decode cL_law 835 = .ok (.iaload, 1) := by decide +kernel
theorem dL_law_836 : decode cL_law 836 = .ok (.invokevirtual 78, 3) := by decide +kernel
theorem dL_law_839 : decode cL_law 839 = .ok (.aload_n 2, 1) := by decide +kernel
theorem dL_law_840 : decode cL_law 840 = .ok (.aload_n 0, 1) := by decide +kernel
theorem dL_law_841 : decode cL_law 841 = .ok (.iload_n 3, 1) := by decide +kernel
theorem dL_law_842 : decode cL_law 842 = .ok (.iconst 1, 1) := by decide +kernel
theorem dL_law_843 : decode cL_law 843 = .ok (.iadd, 1) := by decide +kernel
theorem dL_law_844 : decode cL_law 844 = .ok (.iaload, 1) := by decide +kernel
theorem dL_law_845 : decode cL_law 845 = .ok (.aload_n 0, 1) := by decide +kernel
theorem dL_law_846 : decode cL_law 846 = .ok (.iload_n 3, 1) := by decide +kernel
theorem dL_law_847 : decode cL_law 847 = .ok (.iconst 2, 1) := by decide +kernel
theorem dL_law_848 : decode cL_law 848 = .ok (.iadd, 1) := by decide +kernel
theorem dL_law_849 : decode cL_law 849 = .ok (.iaload, 1) := by decide +kernel
theorem dL_law_850 : decode cL_law 850 = .ok (.invokevirtual 81, 3) := by decide +kernel
theorem dL_law_853 : decode cL_law 853 = .ok (.if_icmp .eq 1214, 3) := by decide +kernel
theorem dL_law_856 : decode cL_law 856 = .ok (.iconst 0, 1) := by decide +kernel
theorem dL_law_857 : decode cL_law 857 = .ok (.ireturn, 1) := by decide +kernel
theorem dL_law_858 : decode cL_law 858 = .ok (.aload_n 1, 1) := by decide +kernel
theorem dL_law_859 : decode cL_law 859 = .ok (.aload_n 0, 1) := by decide +kernel
theorem dL_law_860 : decode cL_law 860 = .ok (.iload_n 3, 1) := by decide +kernel
theorem dL_law_861 : decode cL_law 861 = .ok (.iconst 1, 1) := by decide +kernel
theorem dL_law_862 : decode cL_law 862 = .ok (.iadd, 1) := by decide +kernel
theorem dL_law_863 : decode cL_law 863 = .ok (.iaload, 1) := by decide +kernel
theorem dL_law_864 : decode cL_law 864 = .ok (.aload_n 0, 1) := by decide +kernel
theorem dL_law_865 : decode cL_law 865 = .ok (.iload_n 3, 1) := by decide +kernel
theorem dL_law_866 : decode cL_law 866 = .ok (.iconst 2, 1) := by decide +kernel
theorem dL_law_867 : decode cL_law 867 = .ok (.iadd, 1) := by decide +kernel
theorem dL_law_868 : decode cL_law 868 = .ok (.iaload, 1) := by decide +kernel
theorem dL_law_869 : decode cL_law 869 = .ok (.aload_n 0, 1) := by decide +kernel
theorem dL_law_870 : decode cL_law 870 = .ok (.iload_n 3, 1) := by decide +kernel
theorem dL_law_871 : decode cL_law 871 = .ok (.iconst 3, 1) := by decide +kernel
theorem dL_law_872 : decode cL_law 872 = .ok (.iadd, 1) := by decide +kernel
theorem dL_law_873 : decode cL_law 873 = .ok (.iaload, 1) := by decide +kernel
theorem dL_law_874 : decode cL_law 874 = .ok (.ifCond .eq 7, 3) := by decide +kernel
theorem dL_law_877 : decode cL_law 877 = .ok (.iconst 1, 1) := by decide +kernel
theorem dL_law_878 : decode cL_law 878 = .ok (.goto 4, 3) := by decide +kernel
theorem dL_law_881 : decode cL_law 881 = .ok (.iconst 0, 1) := by decide +kernel
theorem dL_law_882 : decode cL_law 882 = .ok (.invokevirtual 82, 3) := by decide +kernel
theorem dL_law_885 : decode cL_law 885 = .ok (.aload_n 2, 1) := by decide +kernel
theorem dL_law_886 : decode cL_law 886 = .ok (.aload_n 0, 1) := by decide +kernel
theorem dL_law_887 : decode cL_law 887 = .ok (.iload_n 3, 1) := by decide +kernel
theorem dL_law_888 : decode cL_law 888 = .ok (.iconst 1, 1) := by decide +kernel
theorem dL_law_889 : decode cL_law 889 = .ok (.iadd, 1) := by decide +kernel
theorem dL_law_890 : decode cL_law 890 = .ok (.iaload, 1) := by decide +kernel
theorem dL_law_891 : decode cL_law 891 = .ok (.aload_n 0, 1) := by decide +kernel
theorem dL_law_892 : decode cL_law 892 = .ok (.iload_n 3, 1) := by decide +kernel
theorem dL_law_893 : decode cL_law 893 = .ok (.iconst 2, 1) := by decide +kernel
theorem dL_law_894 : decode cL_law 894 = .ok (.iadd, 1) := by decide +kernel
theorem dL_law_895 : decode cL_law 895 = .ok (.iaload, 1) := by decide +kernel
theorem dL_law_896 : decode cL_law 896 = .ok (.aload_n 0, 1) := by decide +kernel
theorem dL_law_897 : decode cL_law 897 = .ok (.iload_n 3, 1) := by decide +kernel
theorem dL_law_898 : decode cL_law 898 = .ok (.iconst 3, 1) := by decide +kernel
theorem dL_law_899 : decode cL_law 899 = .ok (.iadd, 1) := by decide +kernel
theorem dL_law_900 : decode cL_law 900 = .ok (.iaload, 1) := by decide +kernel
theorem dL_law_901 : decode cL_law 901 = .ok (.ifCond .eq 7, 3) := by decide +kernel
theorem dL_law_904 : decode cL_law 904 = .ok (.iconst 1, 1) := by decide +kernel
theorem dL_law_905 : decode cL_law 905 = .ok (.goto 4, 3) := by decide +kernel
theorem dL_law_908 : decode cL_law 908 = .ok (.iconst 0, 1) := by decide +kernel
theorem dL_law_909 : decode cL_law 909 = .ok (.invokevirtual 86, 3) := by decide +kernel
theorem dL_law_912 : decode cL_law 912 = .ok (.if_icmp .eq 1155, 3) := by decide +kernel
theorem dL_law_915 : decode cL_law 915 = .ok (.iconst 0, 1) := by decide +kernel
theorem dL_law_916 : decode cL_law 916 = .ok (.ireturn, 1) := by decide +kernel
theorem dL_law_917 : decode cL_law 917 = .ok (.aload_n 1, 1) := by decide +kernel
theorem dL_law_918 : decode cL_law 918 = .ok (.aload_n 0, 1) := by decide +kernel
theorem dL_law_919 : decode cL_law 919 = .ok (.iload_n 3, 1) := by decide +kernel
theorem dL_law_920 : decode cL_law 920 = .ok (.iconst 1, 1) := by decide +kernel
theorem dL_law_921 : decode cL_law 921 = .ok (.iadd, 1) := by decide +kernel
theorem dL_law_922 : decode cL_law 922 = .ok (.iaload, 1) := by decide +kernel
theorem dL_law_923 : decode cL_law 923 = .ok (.aload_n 0, 1) := by decide +kernel
theorem dL_law_924 : decode cL_law 924 = .ok (.iload_n 3, 1) := by decide +kernel
theorem dL_law_925 : decode cL_law 925 = .ok (.iconst 2, 1) := by decide +kernel
theorem dL_law_926 : decode cL_law 926 = .ok (.iadd, 1) := by decide +kernel
theorem dL_law_927 : decode cL_law 927 = .ok (.iaload, 1) := by decide +kernel
theorem dL_law_928 : decode cL_law 928 = .ok (.aload_n 0, 1) := by decide +kernel
theorem dL_law_929 : decode cL_law 929 = .ok (.iload_n 3, 1) := by decide +kernel
theorem dL_law_930 : decode cL_law 930 = .ok (.iconst 3, 1) := by decide +kernel
theorem dL_law_931 : decode cL_law 931 = .ok (.iadd, 1) := by decide +kernel
theorem dL_law_932 : decode cL_law 932 = .ok (.iaload, 1) := by decide +kernel
theorem dL_law_933 : decode cL_law 933 = .ok (.invokevirtual 87, 3) := by decide +kernel
theorem dL_law_936 : decode cL_law 936 = .ok (.aload_n 2, 1) := by decide +kernel
theorem dL_law_937 : decode cL_law 937 = .ok (.aload_n 0, 1) := by decide +kernel
theorem dL_law_938 : decode cL_law 938 = .ok (.iload_n 3, 1) := by decide +kernel
theorem dL_law_939 : decode cL_law 939 = .ok (.iconst 1, 1) := by decide +kernel
theorem dL_law_940 : decode cL_law 940 = .ok (.iadd, 1) := by decide +kernel
theorem dL_law_941 : decode cL_law 941 = .ok (.iaload, 1) := by decide +kernel
theorem dL_law_942 : decode cL_law 942 = .ok (.aload_n 0, 1) := by decide +kernel
theorem dL_law_943 : decode cL_law 943 = .ok (.iload_n 3, 1) := by decide +kernel
theorem dL_law_944 : decode cL_law 944 = .ok (.iconst 2, 1) := by decide +kernel
theorem dL_law_945 : decode cL_law 945 = .ok (.iadd, 1) := by decide +kernel
theorem dL_law_946 : decode cL_law 946 = .ok (.iaload, 1) := by decide +kernel
theorem dL_law_947 : decode cL_law 947 = .ok (.aload_n 0, 1) := by decide +kernel
theorem dL_law_948 : decode cL_law 948 = .ok (.iload_n 3, 1) := by decide +kernel
theorem dL_law_949 : decode cL_law 949 = .ok (.iconst 3, 1) := by decide +kernel
theorem dL_law_950 : decode cL_law 950 = .ok (.iadd, 1) := by decide +kernel
theorem dL_law_951 : decode cL_law 951 = .ok (.iaload, 1) := by decide +kernel
theorem dL_law_952 : decode cL_law 952 = .ok (.invokevirtual 90, 3) := by decide +kernel
theorem dL_law_955 : decode cL_law 955 = .ok (.if_icmp .eq 1112, 3) := by decide +kernel
theorem dL_law_958 : decode cL_law 958 = .ok (.iconst 0, 1) := by decide +kernel
theorem dL_law_959 : decode cL_law 959 = .ok (.ireturn, 1) := by decide +kernel
theorem dL_law_960 : decode cL_law 960 = .ok (.aload_n 1, 1) := by decide +kernel
theorem dL_law_961 : decode cL_law 961 = .ok (.aload_n 0, 1) := by decide +kernel
theorem dL_law_962 : decode cL_law 962 = .ok (.iload_n 3, 1) := by decide +kernel
theorem dL_law_963 : decode cL_law 963 = .ok (.iconst 1, 1) := by decide +kernel
theorem dL_law_964 : decode cL_law 964 = .ok (.iadd, 1) := by decide +kernel
theorem dL_law_965 : decode cL_law 965 = .ok (.iaload, 1) := by decide +kernel
theorem dL_law_966 : decode cL_law 966 = .ok (.aload_n 0, 1) := by decide +kernel
theorem dL_law_967 : decode cL_law 967 = .ok (.iload_n 3, 1) := by decide +kernel
theorem dL_law_968 : decode cL_law 968 = .ok (.iconst 2, 1) := by decide +kernel
theorem dL_law_969 : decode cL_law 969 = .ok (.iadd, 1) := by decide +kernel
theorem dL_law_970 : decode cL_law 970 = .ok (.iaload, 1) := by decide +kernel
theorem dL_law_971 : decode cL_law 971 = .ok (.aload_n 0, 1) := by decide +kernel
theorem dL_law_972 : decode cL_law 972 = .ok (.iload_n 3, 1) := by decide +kernel
theorem dL_law_973 : decode cL_law 973 = .ok (.iconst 3, 1) := by decide +kernel
theorem dL_law_974 : decode cL_law 974 = .ok (.iadd, 1) := by decide +kernel
theorem dL_law_975 : decode cL_law 975 = .ok (.iaload, 1) := by decide +kernel
theorem dL_law_976 : decode cL_law 976 = .ok (.invokevirtual 91, 3) := by decide +kernel
theorem dL_law_979 : decode cL_law 979 = .ok (.aload_n 2, 1) := by decide +kernel
theorem dL_law_980 : decode cL_law 980 = .ok (.aload_n 0, 1) := by decide +kernel
theorem dL_law_981 : decode cL_law 981 = .ok (.iload_n 3, 1) := by decide +kernel
theorem dL_law_982 : decode cL_law 982 = .ok (.iconst 1, 1) := by decide +kernel
theorem dL_law_983 : decode cL_law 983 = .ok (.iadd, 1) := by decide +kernel
theorem dL_law_984 : decode cL_law 984 = .ok (.iaload, 1) := by decide +kernel
theorem dL_law_985 : decode cL_law 985 = .ok (.aload_n 0, 1) := by decide +kernel
theorem dL_law_986 : decode cL_law 986 = .ok (.iload_n 3, 1) := by decide +kernel
theorem dL_law_987 : decode cL_law 987 = .ok (.iconst 2, 1) := by decide +kernel
theorem dL_law_988 : decode cL_law 988 = .ok (.iadd, 1) := by decide +kernel
theorem dL_law_989 : decode cL_law 989 = .ok (.iaload, 1) := by decide +kernel
theorem dL_law_990 : decode cL_law 990 = .ok (.aload_n 0, 1) := by decide +kernel
theorem dL_law_991 : decode cL_law 991 = .ok (.iload_n 3, 1) := by decide +kernel
theorem dL_law_992 : decode cL_law 992 = .ok (.iconst 3, 1) := by decide +kernel
theorem dL_law_993 : decode cL_law 993 = .ok (.iadd, 1) := by decide +kernel
theorem dL_law_994 : decode cL_law 994 = .ok (.iaload, 1) := by decide +kernel
theorem dL_law_995 : decode cL_law 995 = .ok (.invokevirtual 94, 3) := by decide +kernel
theorem dL_law_998 : decode cL_law 998 = .ok (.if_icmp .eq 1069, 3) := by decide +kernel
theorem dL_law_1001 : decode cL_law 1001 = .ok (.iconst 0, 1) := by decide +kernel
theorem dL_law_1002 : decode cL_law 1002 = .ok (.ireturn, 1) := by decide +kernel
theorem dL_law_1003 : decode cL_law 1003 = .ok (.aload_n 1, 1) := by decide +kernel
theorem dL_law_1004 : decode cL_law 1004 = .ok (.aload_n 0, 1) := by decide +kernel
theorem dL_law_1005 : decode cL_law 1005 = .ok (.iload_n 3, 1) := by decide +kernel
theorem dL_law_1006 : decode cL_law 1006 = .ok (.iconst 1, 1) := by decide +kernel
theorem dL_law_1007 : decode cL_law 1007 = .ok (.iadd, 1) := by decide +kernel
theorem dL_law_1008 : decode cL_law 1008 = .ok (.iaload, 1) := by decide +kernel
theorem dL_law_1009 : decode cL_law 1009 = .ok (.aload_n 0, 1) := by decide +kernel
theorem dL_law_1010 : decode cL_law 1010 = .ok (.iload_n 3, 1) := by decide +kernel
theorem dL_law_1011 : decode cL_law 1011 = .ok (.iconst 2, 1) := by decide +kernel
theorem dL_law_1012 : decode cL_law 1012 = .ok (.iadd, 1) := by decide +kernel
theorem dL_law_1013 : decode cL_law 1013 = .ok (.iaload, 1) := by decide +kernel
theorem dL_law_1014 : decode cL_law 1014 = .ok (.aload_n 0, 1) := by decide +kernel
theorem dL_law_1015 : decode cL_law 1015 = .ok (.iload_n 3, 1) := by decide +kernel
theorem dL_law_1016 : decode cL_law 1016 = .ok (.iconst 3, 1) := by decide +kernel
theorem dL_law_1017 : decode cL_law 1017 = .ok (.iadd, 1) := by decide +kernel
theorem dL_law_1018 : decode cL_law 1018 = .ok (.iaload, 1) := by decide +kernel
theorem dL_law_1019 : decode cL_law 1019 = .ok (.invokevirtual 95, 3) := by decide +kernel
theorem dL_law_1022 : decode cL_law 1022 = .ok (.aload_n 2, 1) := by decide +kernel
theorem dL_law_1023 : decode cL_law 1023 = .ok (.aload_n 0, 1) := by decide +kernel
theorem dL_law_1024 : decode cL_law 1024 = .ok (.iload_n 3, 1) := by decide +kernel
theorem dL_law_1025 : decode cL_law 1025 = .ok (.iconst 1, 1) := by decide +kernel
theorem dL_law_1026 : decode cL_law 1026 = .ok (.iadd, 1) := by decide +kernel
theorem dL_law_1027 : decode cL_law 1027 = .ok (.iaload, 1) := by decide +kernel
theorem dL_law_1028 : decode cL_law 1028 = .ok (.aload_n 0, 1) := by decide +kernel
theorem dL_law_1029 : decode cL_law 1029 = .ok (.iload_n 3, 1) := by decide +kernel
theorem dL_law_1030 : decode cL_law 1030 = .ok (.iconst 2, 1) := by decide +kernel
theorem dL_law_1031 : decode cL_law 1031 = .ok (.iadd, 1) := by decide +kernel
theorem dL_law_1032 : decode cL_law 1032 = .ok (.iaload, 1) := by decide +kernel
theorem dL_law_1033 : decode cL_law 1033 = .ok (.aload_n 0, 1) := by decide +kernel
theorem dL_law_1034 : decode cL_law 1034 = .ok (.iload_n 3, 1) := by decide +kernel
theorem dL_law_1035 : decode cL_law 1035 = .ok (.iconst 3, 1) := by decide +kernel
theorem dL_law_1036 : decode cL_law 1036 = .ok (.iadd, 1) := by decide +kernel
theorem dL_law_1037 : decode cL_law 1037 = .ok (.iaload, 1) := by decide +kernel
theorem dL_law_1038 : decode cL_law 1038 = .ok (.invokevirtual 98, 3) := by decide +kernel
theorem dL_law_1041 : decode cL_law 1041 = .ok (.if_icmp .eq 1026, 3) := by decide +kernel
theorem dL_law_1044 : decode cL_law 1044 = .ok (.iconst 0, 1) := by decide +kernel
theorem dL_law_1045 : decode cL_law 1045 = .ok (.ireturn, 1) := by decide +kernel
theorem dL_law_1046 : decode cL_law 1046 = .ok (.aload_n 1, 1) := by decide +kernel
theorem dL_law_1047 : decode cL_law 1047 = .ok (.aload_n 0, 1) := by decide +kernel
theorem dL_law_1048 : decode cL_law 1048 = .ok (.iload_n 3, 1) := by decide +kernel
theorem dL_law_1049 : decode cL_law 1049 = .ok (.iconst 1, 1) := by decide +kernel
theorem dL_law_1050 : decode cL_law 1050 = .ok (.iadd, 1) := by decide +kernel
theorem dL_law_1051 : decode cL_law 1051 = .ok (.iaload, 1) := by decide +kernel
theorem dL_law_1052 : decode cL_law 1052 = .ok (.aload_n 0, 1) := by decide +kernel
theorem dL_law_1053 : decode cL_law 1053 = .ok (.iload_n 3, 1) := by decide +kernel
theorem dL_law_1054 : decode cL_law 1054 = .ok (.iconst 2, 1) := by decide +kernel
theorem dL_law_1055 : decode cL_law 1055 = .ok (.iadd, 1) := by decide +kernel
theorem dL_law_1056 : decode cL_law 1056 = .ok (.iaload, 1) := by decide +kernel
theorem dL_law_1057 : decode cL_law 1057 = .ok (.aload_n 0, 1) := by decide +kernel
theorem dL_law_1058 : decode cL_law 1058 = .ok (.iload_n 3, 1) := by decide +kernel
theorem dL_law_1059 : decode cL_law 1059 = .ok (.iconst 3, 1) := by decide +kernel
theorem dL_law_1060 : decode cL_law 1060 = .ok (.iadd, 1) := by decide +kernel
theorem dL_law_1061 : decode cL_law 1061 = .ok (.iaload, 1) := by decide +kernel
theorem dL_law_1062 : decode cL_law 1062 = .ok (.invokevirtual 99, 3) := by decide +kernel
theorem dL_law_1065 : decode cL_law 1065 = .ok (.aload_n 2, 1) := by decide +kernel
theorem dL_law_1066 : decode cL_law 1066 = .ok (.aload_n 0, 1) := by decide +kernel
theorem dL_law_1067 : decode cL_law 1067 = .ok (.iload_n 3, 1) := by decide +kernel
theorem dL_law_1068 : decode cL_law 1068 = .ok (.iconst 1, 1) := by decide +kernel
theorem dL_law_1069 : decode cL_law 1069 = .ok (.iadd, 1) := by decide +kernel
theorem dL_law_1070 : decode cL_law 1070 = .ok (.iaload, 1) := by decide +kernel
theorem dL_law_1071 : decode cL_law 1071 = .ok (.aload_n 0, 1) := by decide +kernel
theorem dL_law_1072 : decode cL_law 1072 = .ok (.iload_n 3, 1) := by decide +kernel
theorem dL_law_1073 : decode cL_law 1073 = .ok (.iconst 2, 1) := by decide +kernel
theorem dL_law_1074 : decode cL_law 1074 = .ok (.iadd, 1) := by decide +kernel
theorem dL_law_1075 : decode cL_law 1075 = .ok (.iaload, 1) := by decide +kernel
theorem dL_law_1076 : decode cL_law 1076 = .ok (.aload_n 0, 1) := by decide +kernel
theorem dL_law_1077 : decode cL_law 1077 = .ok (.iload_n 3, 1) := by decide +kernel
theorem dL_law_1078 : decode cL_law 1078 = .ok (.iconst 3, 1) := by decide +kernel
theorem dL_law_1079 : decode cL_law 1079 = .ok (.iadd, 1) := by decide +kernel
theorem dL_law_1080 : decode cL_law 1080 = .ok (.iaload, 1) := by decide +kernel
theorem dL_law_1081 : decode cL_law 1081 = .ok (.invokevirtual 102, 3) := by decide +kernel
theorem dL_law_1084 : decode cL_law 1084 = .ok (.if_icmp .eq 983, 3) := by decide +kernel
theorem dL_law_1087 : decode cL_law 1087 = .ok (.iconst 0, 1) := by decide +kernel
theorem dL_law_1088 : decode cL_law 1088 = .ok (.ireturn, 1) := by decide +kernel
theorem dL_law_1089 : decode cL_law 1089 = .ok (.aload_n 1, 1) := by decide +kernel
theorem dL_law_1090 : decode cL_law 1090 = .ok (.aload_n 0, 1) := by decide +kernel
theorem dL_law_1091 : decode cL_law 1091 = .ok (.iload_n 3, 1) := by decide +kernel
theorem dL_law_1092 : decode cL_law 1092 = .ok (.iconst 1, 1) := by decide +kernel
theorem dL_law_1093 : decode cL_law 1093 = .ok (.iadd, 1) := by decide +kernel
theorem dL_law_1094 : decode cL_law 1094 = .ok (.iaload, 1) := by decide +kernel
theorem dL_law_1095 : decode cL_law 1095 = .ok (.aload_n 0, 1) := by decide +kernel
theorem dL_law_1096 : decode cL_law 1096 = .ok (.iload_n 3, 1) := by decide +kernel
theorem dL_law_1097 : decode cL_law 1097 = .ok (.iconst 2, 1) := by decide +kernel
theorem dL_law_1098 : decode cL_law 1098 = .ok (.iadd, 1) := by decide +kernel
theorem dL_law_1099 : decode cL_law 1099 = .ok (.iaload, 1) := by decide +kernel
theorem dL_law_1100 : decode cL_law 1100 = .ok (.invokevirtual 103, 3) := by decide +kernel
theorem dL_law_1103 : decode cL_law 1103 = .ok (.aload_n 2, 1) := by decide +kernel
theorem dL_law_1104 : decode cL_law 1104 = .ok (.aload_n 0, 1) := by decide +kernel
theorem dL_law_1105 : decode cL_law 1105 = .ok (.iload_n 3, 1) := by decide +kernel
theorem dL_law_1106 : decode cL_law 1106 = .ok (.iconst 1, 1) := by decide +kernel
theorem dL_law_1107 : decode cL_law 1107 = .ok (.iadd, 1) := by decide +kernel
theorem dL_law_1108 : decode cL_law 1108 = .ok (.iaload, 1) := by decide +kernel
theorem dL_law_1109 : decode cL_law 1109 = .ok (.aload_n 0, 1) := by decide +kernel
theorem dL_law_1110 : decode cL_law 1110 = .ok (.iload_n 3, 1) := by decide +kernel
theorem dL_law_1111 : decode cL_law 1111 = .ok (.iconst 2, 1) := by decide +kernel
theorem dL_law_1112 : decode cL_law 1112 = .ok (.iadd, 1) := by decide +kernel
theorem dL_law_1113 : decode cL_law 1113 = .ok (.iaload, 1) := by decide +kernel
theorem dL_law_1114 : decode cL_law 1114 = .ok (.invokevirtual 106, 3) := by decide +kernel
theorem dL_law_1117 : decode cL_law 1117 = .ok (.if_icmp .eq 950, 3) := by decide +kernel
theorem dL_law_1120 : decode cL_law 1120 = .ok (.iconst 0, 1) := by decide +kernel
theorem dL_law_1121 : decode cL_law 1121 = .ok (.ireturn, 1) := by decide +kernel
theorem dL_law_1122 : decode cL_law 1122 = .ok (.aload_n 1, 1) := by decide +kernel
theorem dL_law_1123 : decode cL_law 1123 = .ok (.aload_n 0, 1) := by decide +kernel
theorem dL_law_1124 : decode cL_law 1124 = .ok (.iload_n 3, 1) := by decide +kernel
theorem dL_law_1125 : decode cL_law 1125 = .ok (.iconst 1, 1) := by decide +kernel
theorem dL_law_1126 : decode cL_law 1126 = .ok (.iadd, 1) := by decide +kernel
theorem dL_law_1127 : decode cL_law 1127 = .ok (.iaload, 1) := by decide +kernel
theorem dL_law_1128 : decode cL_law 1128 = .ok (.aload_n 0, 1) := by decide +kernel
theorem dL_law_1129 : decode cL_law 1129 = .ok (.iload_n 3, 1) := by decide +kernel
theorem dL_law_1130 : decode cL_law 1130 = .ok (.iconst 2, 1) := by decide +kernel
theorem dL_law_1131 : decode cL_law 1131 = .ok (.iadd, 1) := by decide +kernel
theorem dL_law_1132 : decode cL_law 1132 = .ok (.iaload, 1) := by decide +kernel
theorem dL_law_1133 : decode cL_law 1133 = .ok (.invokevirtual 107, 3) := by decide +kernel
theorem dL_law_1136 : decode cL_law 1136 = .ok (.aload_n 2, 1) := by decide +kernel
theorem dL_law_1137 : decode cL_law 1137 = .ok (.aload_n 0, 1) := by decide +kernel
theorem dL_law_1138 : decode cL_law 1138 = .ok (.iload_n 3, 1) := by decide +kernel
theorem dL_law_1139 : decode cL_law 1139 = .ok (.iconst 1, 1) := by decide +kernel
theorem dL_law_1140 : decode cL_law 1140 = .ok (.iadd, 1) := by decide +kernel
theorem dL_law_1141 : decode cL_law 1141 = .ok (.iaload, 1) := by decide +kernel
theorem dL_law_1142 : decode cL_law 1142 = .ok (.aload_n 0, 1) := by decide +kernel
theorem dL_law_1143 : decode cL_law 1143 = .ok (.iload_n 3, 1) := by decide +kernel
theorem dL_law_1144 : decode cL_law 1144 = .ok (.iconst 2, 1) := by decide +kernel
theorem dL_law_1145 : decode cL_law 1145 = .ok (.iadd, 1) := by decide +kernel
theorem dL_law_1146 : decode cL_law 1146 = .ok (.iaload, 1) := by decide +kernel
theorem dL_law_1147 : decode cL_law 1147 = .ok (.invokevirtual 110, 3) := by decide +kernel
theorem dL_law_1150 : decode cL_law 1150 = .ok (.if_icmp .eq 917, 3) := by decide +kernel
theorem dL_law_1153 : decode cL_law 1153 = .ok (.iconst 0, 1) := by decide +kernel
theorem dL_law_1154 : decode cL_law 1154 = .ok (.ireturn, 1) := by decide +kernel
theorem dL_law_1155 : decode cL_law 1155 = .ok (.aload_n 1, 1) := by decide +kernel
theorem dL_law_1156 : decode cL_law 1156 = .ok (.aload_n 0, 1) := by decide +kernel
theorem dL_law_1157 : decode cL_law 1157 = .ok (.iload_n 3, 1) := by decide +kernel
theorem dL_law_1158 : decode cL_law 1158 = .ok (.iconst 1, 1) := by decide +kernel
theorem dL_law_1159 : decode cL_law 1159 = .ok (.iadd, 1) := by decide +kernel
theorem dL_law_1160 : decode cL_law 1160 = .ok (.iaload, 1) := by decide +kernel
theorem dL_law_1161 : decode cL_law 1161 = .ok (.aload_n 0, 1) := by decide +kernel
theorem dL_law_1162 : decode cL_law 1162 = .ok (.iload_n 3, 1) := by decide +kernel
theorem dL_law_1163 : decode cL_law 1163 = .ok (.iconst 2, 1) := by decide +kernel
theorem dL_law_1164 : decode cL_law 1164 = .ok (.iadd, 1) := by decide +kernel
theorem dL_law_1165 : decode cL_law 1165 = .ok (.iaload, 1) := by decide +kernel
theorem dL_law_1166 : decode cL_law 1166 = .ok (.invokevirtual 111, 3) := by decide +kernel
theorem dL_law_1169 : decode cL_law 1169 = .ok (.aload_n 2, 1) := by decide +kernel
theorem dL_law_1170 : decode cL_law 1170 = .ok (.aload_n 0, 1) := by decide +kernel
theorem dL_law_1171 : decode cL_law 1171 = .ok (.iload_n 3, 1) := by decide +kernel
theorem dL_law_1172 : decode cL_law 1172 = .ok (.iconst 1, 1) := by decide +kernel
theorem dL_law_1173 : decode cL_law 1173 = .ok (.iadd, 1) := by decide +kernel
theorem dL_law_1174 : decode cL_law 1174 = .ok (.iaload, 1) := by decide +kernel
theorem dL_law_1175 : decode cL_law 1175 = .ok (.aload_n 0, 1) := by decide +kernel
theorem dL_law_1176 : decode cL_law 1176 = .ok (.iload_n 3, 1) := by decide +kernel
theorem dL_law_1177 : decode cL_law 1177 = .ok (.iconst 2, 1) := by decide +kernel
theorem dL_law_1178 : decode cL_law 1178 = .ok (.iadd, 1) := by decide +kernel
theorem dL_law_1179 : decode cL_law 1179 = .ok (.iaload, 1) := by decide +kernel
theorem dL_law_1180 : decode cL_law 1180 = .ok (.invokevirtual 114, 3) := by decide +kernel
theorem dL_law_1183 : decode cL_law 1183 = .ok (.if_icmp .eq 884, 3) := by decide +kernel
theorem dL_law_1186 : decode cL_law 1186 = .ok (.iconst 0, 1) := by decide +kernel
theorem dL_law_1187 : decode cL_law 1187 = .ok (.ireturn, 1) := by decide +kernel
theorem dL_law_1188 : decode cL_law 1188 = .ok (.aload_n 1, 1) := by decide +kernel
theorem dL_law_1189 : decode cL_law 1189 = .ok (.aload_n 0, 1) := by decide +kernel
theorem dL_law_1190 : decode cL_law 1190 = .ok (.iload_n 3, 1) := by decide +kernel
theorem dL_law_1191 : decode cL_law 1191 = .ok (.iconst 1, 1) := by decide +kernel
theorem dL_law_1192 : decode cL_law 1192 = .ok (.iadd, 1) := by decide +kernel
theorem dL_law_1193 : decode cL_law 1193 = .ok (.iaload, 1) := by decide +kernel
theorem dL_law_1194 : decode cL_law 1194 = .ok (.aload_n 0, 1) := by decide +kernel
theorem dL_law_1195 : decode cL_law 1195 = .ok (.iload_n 3, 1) := by decide +kernel
theorem dL_law_1196 : decode cL_law 1196 = .ok (.iconst 2, 1) := by decide +kernel
theorem dL_law_1197 : decode cL_law 1197 = .ok (.iadd, 1) := by decide +kernel
theorem dL_law_1198 : decode cL_law 1198 = .ok (.iaload, 1) := by decide +kernel
theorem dL_law_1199 : decode cL_law 1199 = .ok (.invokevirtual 115, 3) := by decide +kernel
theorem dL_law_1202 : decode cL_law 1202 = .ok (.aload_n 2, 1) := by decide +kernel
theorem dL_law_1203 : decode cL_law 1203 = .ok (.aload_n 0, 1) := by decide +kernel
theorem dL_law_1204 : decode cL_law 1204 = .ok (.iload_n 3, 1) := by decide +kernel
theorem dL_law_1205 : decode cL_law 1205 = .ok (.iconst 1, 1) := by decide +kernel
theorem dL_law_1206 : decode cL_law 1206 = .ok (.iadd, 1) := by decide +kernel
theorem dL_law_1207 : decode cL_law 1207 = .ok (.iaload, 1) := by decide +kernel
theorem dL_law_1208 : decode cL_law 1208 = .ok (.aload_n 0, 1) := by decide +kernel
theorem dL_law_1209 : decode cL_law 1209 = .ok (.iload_n 3, 1) := by decide +kernel
theorem dL_law_1210 : decode cL_law 1210 = .ok (.iconst 2, 1) := by decide +kernel
theorem dL_law_1211 : decode cL_law 1211 = .ok (.iadd, 1) := by decide +kernel
theorem dL_law_1212 : decode cL_law 1212 = .ok (.iaload, 1) := by decide +kernel
theorem dL_law_1213 : decode cL_law 1213 = .ok (.invokevirtual 118, 3) := by decide +kernel
theorem dL_law_1216 : decode cL_law 1216 = .ok (.if_icmp .eq 851, 3) := by decide +kernel
theorem dL_law_1219 : decode cL_law 1219 = .ok (.iconst 0, 1) := by decide +kernel
theorem dL_law_1220 : decode cL_law 1220 = .ok (.ireturn, 1) := by decide +kernel
theorem dL_law_1221 : decode cL_law 1221 = .ok (.aload_n 1, 1) := by decide +kernel
theorem dL_law_1222 : decode cL_law 1222 = .ok (.aload_n 0, 1) := by decide +kernel
theorem dL_law_1223 : decode cL_law 1223 = .ok (.iload_n 3, 1) := by decide +kernel
theorem dL_law_1224 : decode cL_law 1224 = .ok (.iconst 1, 1) := by decide +kernel
theorem dL_law_1225 : decode cL_law 1225 = .ok (.iadd, 1) := by decide +kernel
theorem dL_law_1226 : decode cL_law 1226 = .ok (.iaload, 1) := by decide +kernel
theorem dL_law_1227 : decode cL_law 1227 = .ok (.invokevirtual 119, 3) := by decide +kernel
theorem dL_law_1230 : decode cL_law 1230 = .ok (.aload_n 2, 1) := by decide +kernel
theorem dL_law_1231 : decode cL_law 1231 = .ok (.aload_n 0, 1) := by decide +kernel
theorem dL_law_1232 : decode cL_law 1232 = .ok (.iload_n 3, 1) := by decide +kernel
theorem dL_law_1233 : decode cL_law 1233 = .ok (.iconst 1, 1) := by decide +kernel
theorem dL_law_1234 : decode cL_law 1234 = .ok (.iadd, 1) := by decide +kernel
theorem dL_law_1235 : decode cL_law 1235 = .ok (.iaload, 1) := by decide +kernel
theorem dL_law_1236 : decode cL_law 1236 = .ok (.invokevirtual 122, 3) := by decide +kernel
theorem dL_law_1239 : decode cL_law 1239 = .ok (.if_icmp .eq 828, 3) := by decide +kernel
theorem dL_law_1242 : decode cL_law 1242 = .ok (.iconst 0, 1) := by decide +kernel
theorem dL_law_1243 : decode cL_law 1243 = .ok (.ireturn, 1) := by decide +kernel
theorem dL_law_1244 : decode cL_law 1244 = .ok (.aload_n 1, 1) := by decide +kernel
theorem dL_law_1245 : decode cL_law 1245 = .ok (.aload_n 0, 1) := by decide +kernel
theorem dL_law_1246 : decode cL_law 1246 = .ok (.iload_n 3, 1) := by decide +kernel
theorem dL_law_1247 : decode cL_law 1247 = .ok (.iconst 1, 1) := by decide +kernel
theorem dL_law_1248 : decode cL_law 1248 = .ok (.iadd, 1) := by decide +kernel
theorem dL_law_1249 : decode cL_law 1249 = .ok (.iaload, 1) := by decide +kernel
theorem dL_law_1250 : decode cL_law 1250 = .ok (.aload_n 0, 1) := by decide +kernel
theorem dL_law_1251 : decode cL_law 1251 = .ok (.iload_n 3, 1) := by decide +kernel
theorem dL_law_1252 : decode cL_law 1252 = .ok (.iconst 2, 1) := by decide +kernel
theorem dL_law_1253 : decode cL_law 1253 = .ok (.iadd, 1) := by decide +kernel
theorem dL_law_1254 : decode cL_law 1254 = .ok (.iaload, 1) := by decide +kernel
theorem dL_law_1255 : decode cL_law 1255 = .ok (.aload_n 0, 1) := by decide +kernel
theorem dL_law_1256 : decode cL_law 1256 = .ok (.iload_n 3, 1) := by decide +kernel
theorem dL_law_1257 : decode cL_law 1257 = .ok (.iconst 3, 1) := by decide +kernel
theorem dL_law_1258 : decode cL_law 1258 = .ok (.iadd, 1) := by decide +kernel
theorem dL_law_1259 : decode cL_law 1259 = .ok (.iaload, 1) := by decide +kernel
theorem dL_law_1260 : decode cL_law 1260 = .ok (.aload_n 0, 1) := by decide +kernel
theorem dL_law_1261 : decode cL_law 1261 = .ok (.iload_n 3, 1) := by decide +kernel
theorem dL_law_1262 : decode cL_law 1262 = .ok (.iconst 4, 1) := by decide +kernel
theorem dL_law_1263 : decode cL_law 1263 = .ok (.iadd, 1) := by decide +kernel
theorem dL_law_1264 : decode cL_law 1264 = .ok (.iaload, 1) := by decide +kernel
theorem dL_law_1265 : decode cL_law 1265 = .ok (.invokevirtual 123, 3) := by decide +kernel
theorem dL_law_1268 : decode cL_law 1268 = .ok (.aload_n 2, 1) := by decide +kernel
theorem dL_law_1269 : decode cL_law 1269 = .ok (.aload_n 0, 1) := by decide +kernel
theorem dL_law_1270 : decode cL_law 1270 = .ok (.iload_n 3, 1) := by decide +kernel
theorem dL_law_1271 : decode cL_law 1271 = .ok (.iconst 1, 1) := by decide +kernel
theorem dL_law_1272 : decode cL_law 1272 = .ok (.iadd, 1) := by decide +kernel
theorem dL_law_1273 : decode cL_law 1273 = .ok (.iaload, 1) := by decide +kernel
theorem dL_law_1274 : decode cL_law 1274 = .ok (.aload_n 0, 1) := by decide +kernel
theorem dL_law_1275 : decode cL_law 1275 = .ok (.iload_n 3, 1) := by decide +kernel
theorem dL_law_1276 : decode cL_law 1276 = .ok (.iconst 2, 1) := by decide +kernel
theorem dL_law_1277 : decode cL_law 1277 = .ok (.iadd, 1) := by decide +kernel
theorem dL_law_1278 : decode cL_law 1278 = .ok (.iaload, 1) := by decide +kernel
theorem dL_law_1279 : decode cL_law 1279 = .ok (.aload_n 0, 1) := by decide +kernel
theorem dL_law_1280 : decode cL_law 1280 = .ok (.iload_n 3, 1) := by decide +kernel
theorem dL_law_1281 : decode cL_law 1281 = .ok (.iconst 3, 1) := by decide +kernel
theorem dL_law_1282 : decode cL_law 1282 = .ok (.iadd, 1) := by decide +kernel
theorem dL_law_1283 : decode cL_law 1283 = .ok (.iaload, 1) := by decide +kernel
theorem dL_law_1284 : decode cL_law 1284 = .ok (.aload_n 0, 1) := by decide +kernel
theorem dL_law_1285 : decode cL_law 1285 = .ok (.iload_n 3, 1) := by decide +kernel
theorem dL_law_1286 : decode cL_law 1286 = .ok (.iconst 4, 1) := by decide +kernel
theorem dL_law_1287 : decode cL_law 1287 = .ok (.iadd, 1) := by decide +kernel
theorem dL_law_1288 : decode cL_law 1288 = .ok (.iaload, 1) := by decide +kernel
theorem dL_law_1289 : decode cL_law 1289 = .ok (.invokevirtual 126, 3) := by decide +kernel
theorem dL_law_1292 : decode cL_law 1292 = .ok (.if_icmp .eq 775, 3) := by decide +kernel
theorem dL_law_1295 : decode cL_law 1295 = .ok (.iconst 0, 1) := by decide +kernel
theorem dL_law_1296 : decode cL_law 1296 = .ok (.ireturn, 1) := by decide +kernel
theorem dL_law_1297 : decode cL_law 1297 = .ok (.aload_n 1, 1) := by decide +kernel
theorem dL_law_1298 : decode cL_law 1298 = .ok (.aload_n 0, 1) := by decide +kernel
theorem dL_law_1299 : decode cL_law 1299 = .ok (.iload_n 3, 1) := by decide +kernel
theorem dL_law_1300 : decode cL_law 1300 = .ok (.iconst 1, 1) := by decide +kernel
theorem dL_law_1301 : decode cL_law 1301 = .ok (.iadd, 1) := by decide +kernel
theorem dL_law_1302 : decode cL_law 1302 = .ok (.iaload, 1) := by decide +kernel
theorem dL_law_1303 : decode cL_law 1303 = .ok (.invokevirtual 127, 3) := by decide +kernel
theorem dL_law_1306 : decode cL_law 1306 = .ok (.aload_n 2, 1) := by decide +kernel
theorem dL_law_1307 : decode cL_law 1307 = .ok (.aload_n 0, 1) := by decide +kernel
theorem dL_law_1308 : decode cL_law 1308 = .ok (.iload_n 3, 1) := by decide +kernel
theorem dL_law_1309 : decode cL_law 1309 = .ok (.iconst 1, 1) := by decide +kernel
theorem dL_law_1310 : decode cL_law 1310 = .ok (.iadd, 1) := by decide +kernel
theorem dL_law_1311 : decode cL_law 1311 = .ok (.iaload, 1) := by decide +kernel
theorem dL_law_1312 : decode cL_law 1312 = .ok (.invokevirtual 130, 3) := by decide +kernel
theorem dL_law_1315 : decode cL_law 1315 = .ok (.if_icmp .eq 752, 3) := by decide +kernel
theorem dL_law_1318 : decode cL_law 1318 = .ok (.iconst 0, 1) := by decide +kernel
theorem dL_law_1319 : decode cL_law 1319 = .ok (.ireturn, 1) := by decide +kernel
theorem dL_law_1320 : decode cL_law 1320 = .ok (.aload_n 1, 1) := by decide +kernel
theorem dL_law_1321 : decode cL_law 1321 = .ok (.aload_n 0, 1) := by decide +kernel
theorem dL_law_1322 : decode cL_law 1322 = .ok (.iload_n 3, 1) := by decide +kernel
theorem dL_law_1323 : decode cL_law 1323 = .ok (.iconst 1, 1) := by decide +kernel
theorem dL_law_1324 : decode cL_law 1324 = .ok (.iadd, 1) := by decide +kernel
theorem dL_law_1325 : decode cL_law 1325 = .ok (.iaload, 1) := by decide +kernel
theorem dL_law_1326 : decode cL_law 1326 = .ok (.aload_n 0, 1) := by decide +kernel
theorem dL_law_1327 : decode cL_law 1327 = .ok (.iload_n 3, 1) := by decide +kernel
theorem dL_law_1328 : decode cL_law 1328 = .ok (.iconst 2, 1) := by decide +kernel
theorem dL_law_1329 : decode cL_law 1329 = .ok (.iadd, 1) := by decide +kernel
theorem dL_law_1330 : decode cL_law 1330 = .ok (.iaload, 1) := by decide +kernel
theorem dL_law_1331 : decode cL_law 1331 = .ok (.aload_n 0, 1) := by decide +kernel
theorem dL_law_1332 : decode cL_law 1332 = .ok (.iload_n 3, 1) := by decide +kernel
theorem dL_law_1333 : decode cL_law 1333 = .ok (.iconst 3, 1) := by decide +kernel
theorem dL_law_1334 : decode cL_law 1334 = .ok (.iadd, 1) := by decide +kernel
theorem dL_law_1335 : decode cL_law 1335 = .ok (.iaload, 1) := by decide +kernel
theorem dL_law_1336 : decode cL_law 1336 = .ok (.invokevirtual 131, 3) := by decide +kernel
theorem dL_law_1339 : decode cL_law 1339 = .ok (.aload_n 2, 1) := by decide +kernel
theorem dL_law_1340 : decode cL_law 1340 = .ok (.aload_n 0, 1) := by decide +kernel
theorem dL_law_1341 : decode cL_law 1341 = .ok (.iload_n 3, 1) := by decide +kernel
theorem dL_law_1342 : decode cL_law 1342 = .ok (.iconst 1, 1) := by decide +kernel
theorem dL_law_1343 : decode cL_law 1343 = .ok (.iadd, 1) := by decide +kernel
theorem dL_law_1344 : decode cL_law 1344 = .ok (.iaload, 1) := by decide +kernel
theorem dL_law_1345 : decode cL_law 1345 = .ok (.aload_n 0, 1) := by decide +kernel
theorem dL_law_1346 : decode cL_law 1346 = .ok (.iload_n 3, 1) := by decide +kernel
theorem dL_law_1347 : decode cL_law 1347 = .ok (.iconst 2, 1) := by decide +kernel
theorem dL_law_1348 : decode cL_law 1348 = .ok (.iadd, 1) := by decide +kernel
theorem dL_law_1349 : decode cL_law 1349 = .ok (.iaload, 1) := by decide +kernel
theorem dL_law_1350 : decode cL_law 1350 = .ok (.aload_n 0, 1) := by decide +kernel
theorem dL_law_1351 : decode cL_law 1351 = .ok (.iload_n 3, 1) := by decide +kernel
theorem dL_law_1352 : decode cL_law 1352 = .ok (.iconst 3, 1) := by decide +kernel
theorem dL_law_1353 : decode cL_law 1353 = .ok (.iadd, 1) := by decide +kernel
theorem dL_law_1354 : decode cL_law 1354 = .ok (.iaload, 1) := by decide +kernel
theorem dL_law_1355 : decode cL_law 1355 = .ok (.invokevirtual 134, 3) := by decide +kernel
theorem dL_law_1358 : decode cL_law 1358 = .ok (.if_icmp .eq 709, 3) := by decide +kernel
theorem dL_law_1361 : decode cL_law 1361 = .ok (.iconst 0, 1) := by decide +kernel
theorem dL_law_1362 : decode cL_law 1362 = .ok (.ireturn, 1) := by decide +kernel
theorem dL_law_1363 : decode cL_law 1363 = .ok (.aload_n 1, 1) := by decide +kernel
theorem dL_law_1364 : decode cL_law 1364 = .ok (.aload_n 0, 1) := by decide +kernel
theorem dL_law_1365 : decode cL_law 1365 = .ok (.iload_n 3, 1) := by decide +kernel
theorem dL_law_1366 : decode cL_law 1366 = .ok (.iconst 1, 1) := by decide +kernel
theorem dL_law_1367 : decode cL_law 1367 = .ok (.iadd, 1) := by decide +kernel
theorem dL_law_1368 : decode cL_law 1368 = .ok (.iaload, 1) := by decide +kernel
theorem dL_law_1369 : decode cL_law 1369 = .ok (.aload_n 0, 1) := by decide +kernel
theorem dL_law_1370 : decode cL_law 1370 = .ok (.iload_n 3, 1) := by decide +kernel
theorem dL_law_1371 : decode cL_law 1371 = .ok (.iconst 2, 1) := by decide +kernel
theorem dL_law_1372 : decode cL_law 1372 = .ok (.iadd, 1) := by decide +kernel
theorem dL_law_1373 : decode cL_law 1373 = .ok (.iaload, 1) := by decide +kernel
theorem dL_law_1374 : decode cL_law 1374 = .ok (.invokevirtual 135, 3) := by decide +kernel
theorem dL_law_1377 : decode cL_law 1377 = .ok (.aload_n 2, 1) := by decide +kernel
theorem dL_law_1378 : decode cL_law 1378 = .ok (.aload_n 0, 1) := by decide +kernel
theorem dL_law_1379 : decode cL_law 1379 = .ok (.iload_n 3, 1) := by decide +kernel
theorem dL_law_1380 : decode cL_law 1380 = .ok (.iconst 1, 1) := by decide +kernel
theorem dL_law_1381 : decode cL_law 1381 = .ok (.iadd, 1) := by decide +kernel
theorem dL_law_1382 : decode cL_law 1382 = .ok (.iaload, 1) := by decide +kernel
theorem dL_law_1383 : decode cL_law 1383 = .ok (.aload_n 0, 1) := by decide +kernel
theorem dL_law_1384 : decode cL_law 1384 = .ok (.iload_n 3, 1) := by decide +kernel
theorem dL_law_1385 : decode cL_law 1385 = .ok (.iconst 2, 1) := by decide +kernel
theorem dL_law_1386 : decode cL_law 1386 = .ok (.iadd, 1) := by decide +kernel
theorem dL_law_1387 : decode cL_law 1387 = .ok (.iaload, 1) := by decide +kernel
theorem dL_law_1388 : decode cL_law 1388 = .ok (.invokevirtual 138, 3) := by decide +kernel
theorem dL_law_1391 : decode cL_law 1391 = .ok (.if_icmp .eq 676, 3) := by decide +kernel
theorem dL_law_1394 : decode cL_law 1394 = .ok (.iconst 0, 1) := by decide +kernel
theorem dL_law_1395 : decode cL_law 1395 = .ok (.ireturn, 1) := by decide +kernel
theorem dL_law_1396 : decode cL_law 1396 = .ok (.aload_n 1, 1) := by decide +kernel
theorem dL_law_1397 : decode cL_law 1397 = .ok (.aload_n 0, 1) := by decide +kernel
theorem dL_law_1398 : decode cL_law 1398 = .ok (.iload_n 3, 1) := by decide +kernel
theorem dL_law_1399 : decode cL_law 1399 = .ok (.iconst 1, 1) := by decide +kernel
theorem dL_law_1400 : decode cL_law 1400 = .ok (.iadd, 1) := by decide +kernel
theorem dL_law_1401 : decode cL_law 1401 = .ok (.iaload, 1) := by decide +kernel
theorem dL_law_1402 : decode cL_law 1402 = .ok (.aload_n 0, 1) := by decide +kernel
theorem dL_law_1403 : decode cL_law 1403 = .ok (.iload_n 3, 1) := by decide +kernel
theorem dL_law_1404 : decode cL_law 1404 = .ok (.iconst 2, 1) := by decide +kernel
theorem dL_law_1405 : decode cL_law 1405 = .ok (.iadd, 1) := by decide +kernel
theorem dL_law_1406 : decode cL_law 1406 = .ok (.iaload, 1) := by decide +kernel
theorem dL_law_1407 : decode cL_law 1407 = .ok (.invokevirtual 139, 3) := by decide +kernel
theorem dL_law_1410 : decode cL_law 1410 = .ok (.aload_n 2, 1) := by decide +kernel
theorem dL_law_1411 : decode cL_law 1411 = .ok (.aload_n 0, 1) := by decide +kernel
theorem dL_law_1412 : decode cL_law 1412 = .ok (.iload_n 3, 1) := by decide +kernel
theorem dL_law_1413 : decode cL_law 1413 = .ok (.iconst 1, 1) := by decide +kernel
theorem dL_law_1414 : decode cL_law 1414 = .ok (.iadd, 1) := by decide +kernel
theorem dL_law_1415 : decode cL_law 1415 = .ok (.iaload, 1) := by decide +kernel
theorem dL_law_1416 : decode cL_law 1416 = .ok (.aload_n 0, 1) := by decide +kernel
theorem dL_law_1417 : decode cL_law 1417 = .ok (.iload_n 3, 1) := by decide +kernel
theorem dL_law_1418 : decode cL_law 1418 = .ok (.iconst 2, 1) := by decide +kernel
theorem dL_law_1419 : decode cL_law 1419 = .ok (.iadd, 1) := by decide +kernel
theorem dL_law_1420 : decode cL_law 1420 = .ok (.iaload, 1) := by decide +kernel
theorem dL_law_1421 : decode cL_law 1421 = .ok (.invokevirtual 142, 3) := by decide +kernel
theorem dL_law_1424 : decode cL_law 1424 = .ok (.if_icmp .eq 643, 3) := by decide +kernel
theorem dL_law_1427 : decode cL_law 1427 = .ok (.iconst 0, 1) := by decide +kernel
theorem dL_law_1428 : decode cL_law 1428 = .ok (.ireturn, 1) := by decide +kernel
theorem dL_law_1429 : decode cL_law 1429 = .ok (.aload_n 1, 1) := by decide +kernel
theorem dL_law_1430 : decode cL_law 1430 = .ok (.aload_n 0, 1) := by decide +kernel
theorem dL_law_1431 : decode cL_law 1431 = .ok (.iload_n 3, 1) := by decide +kernel
theorem dL_law_1432 : decode cL_law 1432 = .ok (.iconst 1, 1) := by decide +kernel
theorem dL_law_1433 : decode cL_law 1433 = .ok (.iadd, 1) := by decide +kernel
theorem dL_law_1434 : decode cL_law 1434 = .ok (.iaload, 1) := by decide +kernel
theorem dL_law_1435 : decode cL_law 1435 = .ok (.aload_n 0, 1) := by decide +kernel
theorem dL_law_1436 : decode cL_law 1436 = .ok (.iload_n 3, 1) := by decide +kernel
theorem dL_law_1437 : decode cL_law 1437 = .ok (.iconst 2, 1) := by decide +kernel
theorem dL_law_1438 : decode cL_law 1438 = .ok (.iadd, 1) := by decide +kernel
theorem dL_law_1439 : decode cL_law 1439 = .ok (.iaload, 1) := by decide +kernel
theorem dL_law_1440 : decode cL_law 1440 = .ok (.invokevirtual 143, 3) := by decide +kernel
theorem dL_law_1443 : decode cL_law 1443 = .ok (.aload_n 2, 1) := by decide +kernel
theorem dL_law_1444 : decode cL_law 1444 = .ok (.aload_n 0, 1) := by decide +kernel
theorem dL_law_1445 : decode cL_law 1445 = .ok (.iload_n 3, 1) := by decide +kernel
theorem dL_law_1446 : decode cL_law 1446 = .ok (.iconst 1, 1) := by decide +kernel
theorem dL_law_1447 : decode cL_law 1447 = .ok (.iadd, 1) := by decide +kernel
theorem dL_law_1448 : decode cL_law 1448 = .ok (.iaload, 1) := by decide +kernel
theorem dL_law_1449 : decode cL_law 1449 = .ok (.aload_n 0, 1) := by decide +kernel
theorem dL_law_1450 : decode cL_law 1450 = .ok (.iload_n 3, 1) := by decide +kernel
theorem dL_law_1451 : decode cL_law 1451 = .ok (.iconst 2, 1) := by decide +kernel
theorem dL_law_1452 : decode cL_law 1452 = .ok (.iadd, 1) := by decide +kernel
theorem dL_law_1453 : decode cL_law 1453 = .ok (.iaload, 1) := by decide +kernel
theorem dL_law_1454 : decode cL_law 1454 = .ok (.invokevirtual 146, 3) := by decide +kernel
theorem dL_law_1457 : decode cL_law 1457 = .ok (.if_icmp .eq 610, 3) := by decide +kernel
theorem dL_law_1460 : decode cL_law 1460 = .ok (.iconst 0, 1) := by decide +kernel
theorem dL_law_1461 : decode cL_law 1461 = .ok (.ireturn, 1) := by decide +kernel
theorem dL_law_1462 : decode cL_law 1462 = .ok (.aload_n 1, 1) := by decide +kernel
theorem dL_law_1463 : decode cL_law 1463 = .ok (.aload_n 0, 1) := by decide +kernel
theorem dL_law_1464 : decode cL_law 1464 = .ok (.iload_n 3, 1) := by decide +kernel
theorem dL_law_1465 : decode cL_law 1465 = .ok (.iconst 1, 1) := by decide +kernel
theorem dL_law_1466 : decode cL_law 1466 = .ok (.iadd, 1) := by decide +kernel
theorem dL_law_1467 : decode cL_law 1467 = .ok (.iaload, 1) := by decide +kernel
theorem dL_law_1468 : decode cL_law 1468 = .ok (.invokevirtual 147, 3) := by decide +kernel
theorem dL_law_1471 : decode cL_law 1471 = .ok (.aload_n 2, 1) := by decide +kernel
theorem dL_law_1472 : decode cL_law 1472 = .ok (.aload_n 0, 1) := by decide +kernel
theorem dL_law_1473 : decode cL_law 1473 = .ok (.iload_n 3, 1) := by decide +kernel
theorem dL_law_1474 : decode cL_law 1474 = .ok (.iconst 1, 1) := by decide +kernel
theorem dL_law_1475 : decode cL_law 1475 = .ok (.iadd, 1) := by decide +kernel
theorem dL_law_1476 : decode cL_law 1476 = .ok (.iaload, 1) := by decide +kernel
theorem dL_law_1477 : decode cL_law 1477 = .ok (.invokevirtual 150, 3) := by decide +kernel
theorem dL_law_1480 : decode cL_law 1480 = .ok (.if_icmp .eq 587, 3) := by decide +kernel
theorem dL_law_1483 : decode cL_law 1483 = .ok (.iconst 0, 1) := by decide +kernel
theorem dL_law_1484 : decode cL_law 1484 = .ok (.ireturn, 1) := by decide +kernel
theorem dL_law_1485 : decode cL_law 1485 = .ok (.aload_n 1, 1) := by decide +kernel
theorem dL_law_1486 : decode cL_law 1486 = .ok (.aload_n 0, 1) := by decide +kernel
theorem dL_law_1487 : decode cL_law 1487 = .ok (.iload_n 3, 1) := by decide +kernel
theorem dL_law_1488 : decode cL_law 1488 = .ok (.iconst 1, 1) := by decide +kernel
theorem dL_law_1489 : decode cL_law 1489 = .ok (.iadd, 1) := by decide +kernel
theorem dL_law_1490 : decode cL_law 1490 = .ok (.iaload, 1) := by decide +kernel
theorem dL_law_1491 : decode cL_law 1491 = .ok (.ifCond .eq 7, 3) := by decide +kernel
theorem dL_law_1494 : decode cL_law 1494 = .ok (.iconst 1, 1) := by decide +kernel
theorem dL_law_1495 : decode cL_law 1495 = .ok (.goto 4, 3) := by decide +kernel
theorem dL_law_1498 : decode cL_law 1498 = .ok (.iconst 0, 1) := by decide +kernel
theorem dL_law_1499 : decode cL_law 1499 = .ok (.invokevirtual 151, 3) := by decide +kernel
theorem dL_law_1502 : decode cL_law 1502 = .ok (.aload_n 2, 1) := by decide +kernel
theorem dL_law_1503 : decode cL_law 1503 = .ok (.aload_n 0, 1) := by decide +kernel
theorem dL_law_1504 : decode cL_law 1504 = .ok (.iload_n 3, 1) := by decide +kernel
theorem dL_law_1505 : decode cL_law 1505 = .ok (.iconst 1, 1) := by decide +kernel
theorem dL_law_1506 : decode cL_law 1506 = .ok (.iadd, 1) := by decide +kernel
theorem dL_law_1507 : decode cL_law 1507 = .ok (.iaload, 1) := by decide +kernel
theorem dL_law_1508 : decode cL_law 1508 = .ok (.ifCond .eq 7, 3) := by decide +kernel
theorem dL_law_1511 : decode cL_law 1511 = .ok (.iconst 1, 1) := by decide +kernel
theorem dL_law_1512 : decode cL_law 1512 = .ok (.goto 4, 3) := by decide +kernel
theorem dL_law_1515 : decode cL_law 1515 = .ok (.iconst 0, 1) := by decide +kernel
theorem dL_law_1516 : decode cL_law 1516 = .ok (.invokevirtual 155, 3) := by decide +kernel
theorem dL_law_1519 : decode cL_law 1519 = .ok (.if_icmp .eq 548, 3) := by decide +kernel
theorem dL_law_1522 : decode cL_law 1522 = .ok (.iconst 0, 1) := by decide +kernel
theorem dL_law_1523 : decode cL_law 1523 = .ok (.ireturn, 1) := by decide +kernel
theorem dL_law_1524 : decode cL_law 1524 = .ok (.aload_n 1, 1) := by decide +kernel
theorem dL_law_1525 : decode cL_law 1525 = .ok (.aload_n 0, 1) := by decide +kernel
theorem dL_law_1526 : decode cL_law 1526 = .ok (.iload_n 3, 1) := by decide +kernel
theorem dL_law_1527 : decode cL_law 1527 = .ok (.iconst 1, 1) := by decide +kernel
theorem dL_law_1528 : decode cL_law 1528 = .ok (.iadd, 1) := by decide +kernel
theorem dL_law_1529 : decode cL_law 1529 = .ok (.iaload, 1) := by decide +kernel
theorem dL_law_1530 : decode cL_law 1530 = .ok (.aload_n 0, 1) := by decide +kernel
theorem dL_law_1531 : decode cL_law 1531 = .ok (.iload_n 3, 1) := by decide +kernel
theorem dL_law_1532 : decode cL_law 1532 = .ok (.iconst 2, 1) := by decide +kernel
theorem dL_law_1533 : decode cL_law 1533 = .ok (.iadd, 1) := by decide +kernel
theorem dL_law_1534 : decode cL_law 1534 = .ok (.iaload, 1) := by decide +kernel
theorem dL_law_1535 : decode cL_law 1535 = .ok (.aload_n 0, 1) := by decide +kernel
theorem dL_law_1536 : decode cL_law 1536 = .ok (.iload_n 3, 1) := by decide +kernel
theorem dL_law_1537 : decode cL_law 1537 = .ok (.iconst 3, 1) := by decide +kernel
theorem dL_law_1538 : decode cL_law 1538 = .ok (.iadd, 1) := by decide +kernel
theorem dL_law_1539 : decode cL_law 1539 = .ok (.iaload, 1) := by decide +kernel
theorem dL_law_1540 : decode cL_law 1540 = .ok (.aload_n 0, 1) := by decide +kernel
theorem dL_law_1541 : decode cL_law 1541 = .ok (.iload_n 3, 1) := by decide +kernel
theorem dL_law_1542 : decode cL_law 1542 = .ok (.iconst 4, 1) := by decide +kernel
theorem dL_law_1543 : decode cL_law 1543 = .ok (.iadd, 1) := by decide +kernel
theorem dL_law_1544 : decode cL_law 1544 = .ok (.iaload, 1) := by decide +kernel
theorem dL_law_1545 : decode cL_law 1545 = .ok (.aload_n 0, 1) := by decide +kernel
theorem dL_law_1546 : decode cL_law 1546 = .ok (.iload_n 3, 1) := by decide +kernel
theorem dL_law_1547 : decode cL_law 1547 = .ok (.iconst 5, 1) := by decide +kernel
theorem dL_law_1548 : decode cL_law 1548 = .ok (.iadd, 1) := by decide +kernel
theorem dL_law_1549 : decode cL_law 1549 = .ok (.iaload, 1) := by decide +kernel
theorem dL_law_1550 : decode cL_law 1550 = .ok (.aload_n 0, 1) := by decide +kernel
theorem dL_law_1551 : decode cL_law 1551 = .ok (.iload_n 3, 1) := by decide +kernel
theorem dL_law_1552 : decode cL_law 1552 = .ok (.bipush 6, 2) := by decide +kernel
theorem dL_law_1554 : decode cL_law 1554 = .ok (.iadd, 1) := by decide +kernel
theorem dL_law_1555 : decode cL_law 1555 = .ok (.iaload, 1) := by decide +kernel
theorem dL_law_1556 : decode cL_law 1556 = .ok (.invokevirtual 156, 3) := by decide +kernel
theorem dL_law_1559 : decode cL_law 1559 = .ok (.aload_n 2, 1) := by decide +kernel
theorem dL_law_1560 : decode cL_law 1560 = .ok (.aload_n 0, 1) := by decide +kernel
theorem dL_law_1561 : decode cL_law 1561 = .ok (.iload_n 3, 1) := by decide +kernel
theorem dL_law_1562 : decode cL_law 1562 = .ok (.iconst 1, 1) := by decide +kernel
theorem dL_law_1563 : decode cL_law 1563 = .ok (.iadd, 1) := by decide +kernel
theorem dL_law_1564 : decode cL_law 1564 = .ok (.iaload, 1) := by decide +kernel
theorem dL_law_1565 : decode cL_law 1565 = .ok (.aload_n 0, 1) := by decide +kernel
theorem dL_law_1566 : decode cL_law 1566 = .ok (.iload_n 3, 1) := by decide +kernel
theorem dL_law_1567 : decode cL_law 1567 = .ok (.iconst 2, 1) := by decide +kernel
theorem dL_law_1568 : decode cL_law 1568 = .ok (.iadd, 1) := by decide +kernel
theorem dL_law_1569 : decode cL_law 1569 = .ok (.iaload, 1) := by decide +kernel
theorem dL_law_1570 : decode cL_law 1570 = .ok (.aload_n 0, 1) := by decide +kernel
theorem dL_law_1571 : decode cL_law 1571 = .ok (.iload_n 3, 1) := by decide +kernel
theorem dL_law_1572 : decode cL_law 1572 = .ok (.iconst 3, 1) := by decide +kernel
theorem dL_law_1573 : decode cL_law 1573 = .ok (.iadd, 1) := by decide +kernel
theorem dL_law_1574 : decode cL_law 1574 = .ok (.iaload, 1) := by decide +kernel
theorem dL_law_1575 : decode cL_law 1575 = .ok (.aload_n 0, 1) := by decide +kernel
theorem dL_law_1576 : decode cL_law 1576 = .ok (.iload_n 3, 1) := by decide +kernel
theorem dL_law_1577 : decode cL_law 1577 = .ok (.iconst 4, 1) := by decide +kernel
theorem dL_law_1578 : decode cL_law 1578 = .ok (.iadd, 1) := by decide +kernel
theorem dL_law_1579 : decode cL_law 1579 = .ok (.iaload, 1) := by decide +kernel
theorem dL_law_1580 : decode cL_law 1580 = .ok (.aload_n 0, 1) := by decide +kernel
theorem dL_law_1581 : decode cL_law 1581 = .ok (.iload_n 3, 1) := by decide +kernel
theorem dL_law_1582 : decode cL_law 1582 = .ok (.iconst 5, 1) := by decide +kernel
theorem dL_law_1583 : decode cL_law 1583 = .ok (.iadd, 1) := by decide +kernel
theorem dL_law_1584 : decode cL_law 1584 = .ok (.iaload, 1) := by decide +kernel
theorem dL_law_1585 : decode cL_law 1585 = .ok (.aload_n 0, 1) := by decide +kernel
theorem dL_law_1586 : decode cL_law 1586 = .ok (.iload_n 3, 1) := by decide +kernel
theorem dL_law_1587 : decode cL_law 1587 = .ok (.bipush 6, 2) := by decide +kernel
theorem dL_law_1589 : decode cL_law 1589 = .ok (.iadd, 1) := by decide +kernel
theorem dL_law_1590 : decode cL_law 1590 = .ok (.iaload, 1) := by decide +kernel
theorem dL_law_1591 : decode cL_law 1591 = .ok (.invokevirtual 160, 3) := by decide +kernel
theorem dL_law_1594 : decode cL_law 1594 = .ok (.if_icmp .eq 473, 3) := by decide +kernel
theorem dL_law_1597 : decode cL_law 1597 = .ok (.iconst 0, 1) := by decide +kernel
theorem dL_law_1598 : decode cL_law 1598 = .ok (.ireturn, 1) := by decide +kernel
theorem dL_law_1599 : decode cL_law 1599 = .ok (.aload_n 1, 1) := by decide +kernel
theorem dL_law_1600 : decode cL_law 1600 = .ok (.aload_n 0, 1) := by decide +kernel
theorem dL_law_1601 : decode cL_law 1601 = .ok (.iload_n 3, 1) := by decide +kernel
theorem dL_law_1602 : decode cL_law 1602 = .ok (.iconst 1, 1) := by decide +kernel
theorem dL_law_1603 : decode cL_law 1603 = .ok (.iadd, 1) := by decide +kernel
theorem dL_law_1604 : decode cL_law 1604 = .ok (.iaload, 1) := by decide +kernel
theorem dL_law_1605 : decode cL_law 1605 = .ok (.invokevirtual 161, 3) := by decide +kernel
theorem dL_law_1608 : decode cL_law 1608 = .ok (.aload_n 2, 1) := by decide +kernel
theorem dL_law_1609 : decode cL_law 1609 = .ok (.aload_n 0, 1) := by decide +kernel
theorem dL_law_1610 : decode cL_law 1610 = .ok (.iload_n 3, 1) := by decide +kernel
theorem dL_law_1611 : decode cL_law 1611 = .ok (.iconst 1, 1) := by decide +kernel
theorem dL_law_1612 : decode cL_law 1612 = .ok (.iadd, 1) := by decide +kernel
theorem dL_law_1613 : decode cL_law 1613 = .ok (.iaload, 1) := by decide +kernel
theorem dL_law_1614 : decode cL_law 1614 = .ok (.invokevirtual 164, 3) := by decide +kernel
theorem dL_law_1617 : decode cL_law 1617 = .ok (.if_icmp .eq 450, 3) := by decide +kernel
theorem dL_law_1620 : decode cL_law 1620 = .ok (.iconst 0, 1) := by decide +kernel
theorem dL_law_1621 : decode cL_law 1621 = .ok (.ireturn, 1) := by decide +kernel
theorem dL_law_1622 : decode cL_law 1622 = .ok (.aload_n 1, 1) := by decide +kernel
theorem dL_law_1623 : decode cL_law 1623 = .ok (.aload_n 0, 1) := by decide +kernel
theorem dL_law_1624 : decode cL_law 1624 = .ok (.iload_n 3, 1) := by decide +kernel
theorem dL_law_1625 : decode cL_law 1625 = .ok (.iconst 1, 1) := by decide +kernel
theorem dL_law_1626 : decode cL_law 1626 = .ok (.iadd, 1) := by decide +kernel
theorem dL_law_1627 : decode cL_law 1627 = .ok (.iaload, 1) := by decide +kernel
theorem dL_law_1628 : decode cL_law 1628 = .ok (.invokevirtual 165, 3) := by decide +kernel
theorem dL_law_1631 : decode cL_law 1631 = .ok (.aload_n 2, 1) := by decide +kernel
theorem dL_law_1632 : decode cL_law 1632 = .ok (.aload_n 0, 1) := by decide +kernel
theorem dL_law_1633 : decode cL_law 1633 = .ok (.iload_n 3, 1) := by decide +kernel
theorem dL_law_1634 : decode cL_law 1634 = .ok (.iconst 1, 1) := by decide +kernel
theorem dL_law_1635 : decode cL_law 1635 = .ok (.iadd, 1) := by decide +kernel
theorem dL_law_1636 : decode cL_law 1636 = .ok (.iaload, 1) := by decide +kernel
theorem dL_law_1637 : decode cL_law 1637 = .ok (.invokevirtual 168, 3) := by decide +kernel
theorem dL_law_1640 : decode cL_law 1640 = .ok (.if_icmp .eq 427, 3) := by decide +kernel
theorem dL_law_1643 : decode cL_law 1643 = .ok (.iconst 0, 1) := by decide +kernel
theorem dL_law_1644 : decode cL_law 1644 = .ok (.ireturn, 1) := by decide +kernel
theorem dL_law_1645 : decode cL_law 1645 = .ok (.aload_n 1, 1) := by decide +kernel
theorem dL_law_1646 : decode cL_law 1646 = .ok (.aload_n 0, 1) := by decide +kernel
theorem dL_law_1647 : decode cL_law 1647 = .ok (.iload_n 3, 1) := by decide +kernel
theorem dL_law_1648 : decode cL_law 1648 = .ok (.iconst 1, 1) := by decide +kernel
theorem dL_law_1649 : decode cL_law 1649 = .ok (.iadd, 1) := by decide +kernel
theorem dL_law_1650 : decode cL_law 1650 = .ok (.iaload, 1) := by decide +kernel
theorem dL_law_1651 : decode cL_law 1651 = .ok (.aload_n 0, 1) := by decide +kernel
theorem dL_law_1652 : decode cL_law 1652 = .ok (.iload_n 3, 1) := by decide +kernel
theorem dL_law_1653 : decode cL_law 1653 = .ok (.iconst 2, 1) := by decide +kernel
theorem dL_law_1654 : decode cL_law 1654 = .ok (.iadd, 1) := by decide +kernel
theorem dL_law_1655 : decode cL_law 1655 = .ok (.iaload, 1) := by decide +kernel
theorem dL_law_1656 : decode cL_law 1656 = .ok (.aload_n 0, 1) := by decide +kernel
theorem dL_law_1657 : decode cL_law 1657 = .ok (.iload_n 3, 1) := by decide +kernel
theorem dL_law_1658 : decode cL_law 1658 = .ok (.iconst 3, 1) := by decide +kernel
theorem dL_law_1659 : decode cL_law 1659 = .ok (.iadd, 1) := by decide +kernel
theorem dL_law_1660 : decode cL_law 1660 = .ok (.iaload, 1) := by decide +kernel
theorem dL_law_1661 : decode cL_law 1661 = .ok (.invokevirtual 169, 3) := by decide +kernel
theorem dL_law_1664 : decode cL_law 1664 = .ok (.aload_n 2, 1) := by decide +kernel
theorem dL_law_1665 : decode cL_law 1665 = .ok (.aload_n 0, 1) := by decide +kernel
theorem dL_law_1666 : decode cL_law 1666 = .ok (.iload_n 3, 1) := by decide +kernel
theorem dL_law_1667 : decode cL_law 1667 = .ok (.iconst 1, 1) := by decide +kernel
theorem dL_law_1668 : decode cL_law 1668 = .ok (.iadd, 1) := by decide +kernel
theorem dL_law_1669 : decode cL_law 1669 = .ok (.iaload, 1) := by decide +kernel
theorem dL_law_1670 : decode cL_law 1670 = .ok (.aload_n 0, 1) := by decide +kernel
theorem dL_law_1671 : decode cL_law 1671 = .ok (.iload_n 3, 1) := by decide +kernel
theorem dL_law_1672 : decode cL_law 1672 = .ok (.iconst 2, 1) := by decide +kernel
theorem dL_law_1673 : decode cL_law 1673 = .ok (.iadd, 1) := by decide +kernel
theorem dL_law_1674 : decode cL_law 1674 = .ok (.iaload, 1) := by decide +kernel
theorem dL_law_1675 : decode cL_law 1675 = .ok (.aload_n 0, 1) := by decide +kernel
theorem dL_law_1676 : decode cL_law 1676 = .ok (.iload_n 3, 1) := by decide +kernel
theorem dL_law_1677 : decode cL_law 1677 = .ok (.iconst 3, 1) := by decide +kernel
theorem dL_law_1678 : decode cL_law 1678 = .ok (.iadd, 1) := by decide +kernel
theorem dL_law_1679 : decode cL_law 1679 = .ok (.iaload, 1) := by decide +kernel
theorem dL_law_1680 : decode cL_law 1680 = .ok (.invokevirtual 172, 3) := by decide +kernel
theorem dL_law_1683 : decode cL_law 1683 = .ok (.if_icmp .eq 384, 3) := by decide +kernel
theorem dL_law_1686 : decode cL_law 1686 = .ok (.iconst 0, 1) := by decide +kernel
theorem dL_law_1687 : decode cL_law 1687 = .ok (.ireturn, 1) := by decide +kernel
theorem dL_law_1688 : decode cL_law 1688 = .ok (.aload_n 1, 1) := by decide +kernel
theorem dL_law_1689 : decode cL_law 1689 = .ok (.aload_n 0, 1) := by decide +kernel
theorem dL_law_1690 : decode cL_law 1690 = .ok (.iload_n 3, 1) := by decide +kernel
theorem dL_law_1691 : decode cL_law 1691 = .ok (.iconst 1, 1) := by decide +kernel
theorem dL_law_1692 : decode cL_law 1692 = .ok (.iadd, 1) := by decide +kernel
theorem dL_law_1693 : decode cL_law 1693 = .ok (.iaload, 1) := by decide +kernel
theorem dL_law_1694 : decode cL_law 1694 = .ok (.aload_n 0, 1) := by decide +kernel
theorem dL_law_1695 : decode cL_law 1695 = .ok (.iload_n 3, 1) := by decide +kernel
theorem dL_law_1696 : decode cL_law 1696 = .ok (.iconst 2, 1) := by decide +kernel
theorem dL_law_1697 : decode cL_law 1697 = .ok (.iadd, 1) := by decide +kernel
theorem dL_law_1698 : decode cL_law 1698 = .ok (.iaload, 1) := by decide +kernel
theorem dL_law_1699 : decode cL_law 1699 = .ok (.aload_n 0, 1) := by decide +kernel
theorem dL_law_1700 : decode cL_law 1700 = .ok (.iload_n 3, 1) := by decide +kernel
theorem dL_law_1701 : decode cL_law 1701 = .ok (.iconst 3, 1) := by decide +kernel
theorem dL_law_1702 : decode cL_law 1702 = .ok (.iadd, 1) := by decide +kernel
theorem dL_law_1703 : decode cL_law 1703 = .ok (.iaload, 1) := by decide +kernel
theorem dL_law_1704 : decode cL_law 1704 = .ok (.aload_n 0, 1) := by decide +kernel
theorem dL_law_1705 : decode cL_law 1705 = .ok (.iload_n 3, 1) := by decide +kernel
theorem dL_law_1706 : decode cL_law 1706 = .ok (.iconst 4, 1) := by decide +kernel
theorem dL_law_1707 : decode cL_law 1707 = .ok (.iadd, 1) := by decide +kernel
theorem dL_law_1708 : decode cL_law 1708 = .ok (.iaload, 1) := by decide +kernel
theorem dL_law_1709 : decode cL_law 1709 = .ok (.invokevirtual 173, 3) := by decide +kernel
theorem dL_law_1712 : decode cL_law 1712 = .ok (.aload_n 2, 1) := by decide +kernel
theorem dL_law_1713 : decode cL_law 1713 = .ok (.aload_n 0, 1) := by decide +kernel
theorem dL_law_1714 : decode cL_law 1714 = .ok (.iload_n 3, 1) := by decide +kernel
theorem dL_law_1715 : decode cL_law 1715 = .ok (.iconst 1, 1) := by decide +kernel
theorem dL_law_1716 : decode cL_law 1716 = .ok (.iadd, 1) := by decide +kernel
theorem dL_law_1717 : decode cL_law 1717 = .ok (.iaload, 1) := by decide +kernel
theorem dL_law_1718 : decode cL_law 1718 = .ok (.aload_n 0, 1) := by decide +kernel
theorem dL_law_1719 : decode cL_law 1719 = .ok (.iload_n 3, 1) := by decide +kernel
theorem dL_law_1720 : decode cL_law 1720 = .ok (.iconst 2, 1) := by decide +kernel
theorem dL_law_1721 : decode cL_law 1721 = .ok (.iadd, 1) := by decide +kernel
theorem dL_law_1722 : decode cL_law 1722 = .ok (.iaload, 1) := by decide +kernel
theorem dL_law_1723 : decode cL_law 1723 = .ok (.aload_n 0, 1) := by decide +kernel
theorem dL_law_1724 : decode cL_law 1724 = .ok (.iload_n 3, 1) := by decide +kernel
theorem dL_law_1725 : decode cL_law 1725 = .ok (.iconst 3, 1) := by decide +kernel
theorem dL_law_1726 : decode cL_law 1726 = .ok (.iadd, 1) := by decide +kernel
theorem dL_law_1727 : decode cL_law 1727 = .ok (.iaload, 1) := by decide +kernel
theorem dL_law_1728 : decode cL_law 1728 = .ok (.aload_n 0, 1) := by decide +kernel
theorem dL_law_1729 : decode cL_law 1729 = .ok (.iload_n 3, 1) := by decide +kernel
theorem dL_law_1730 : decode cL_law 1730 = .ok (.iconst 4, 1) := by decide +kernel
theorem dL_law_1731 : decode cL_law 1731 = .ok (.iadd, 1) := by decide +kernel
theorem dL_law_1732 : decode cL_law 1732 = .ok (.iaload, 1) := by decide +kernel
theorem dL_law_1733 : decode cL_law 1733 = .ok (.invokevirtual 176, 3) := by decide +kernel
theorem dL_law_1736 : decode cL_law 1736 = .ok (.if_icmp .eq 331, 3) := by decide +kernel
theorem dL_law_1739 : decode cL_law 1739 = .ok (.iconst 0, 1) := by decide +kernel
theorem dL_law_1740 : decode cL_law 1740 = .ok (.ireturn, 1) := by decide +kernel
theorem dL_law_1741 : decode cL_law 1741 = .ok (.aload_n 1, 1) := by decide +kernel
theorem dL_law_1742 : decode cL_law 1742 = .ok (.aload_n 0, 1) := by decide +kernel
theorem dL_law_1743 : decode cL_law 1743 = .ok (.iload_n 3, 1) := by decide +kernel
theorem dL_law_1744 : decode cL_law 1744 = .ok (.iconst 1, 1) := by decide +kernel
theorem dL_law_1745 : decode cL_law 1745 = .ok (.iadd, 1) := by decide +kernel
theorem dL_law_1746 : decode cL_law 1746 = .ok (.iaload, 1) := by decide +kernel
theorem dL_law_1747 : decode cL_law 1747 = .ok (.aload_n 0, 1) := by decide +kernel
theorem dL_law_1748 : decode cL_law 1748 = .ok (.iload_n 3, 1) := by decide +kernel
theorem dL_law_1749 : decode cL_law 1749 = .ok (.iconst 2, 1) := by decide +kernel
theorem dL_law_1750 : decode cL_law 1750 = .ok (.iadd, 1) := by decide +kernel
theorem dL_law_1751 : decode cL_law 1751 = .ok (.iaload, 1) := by decide +kernel
theorem dL_law_1752 : decode cL_law 1752 = .ok (.invokevirtual 177, 3) := by decide +kernel
theorem dL_law_1755 : decode cL_law 1755 = .ok (.aload_n 2, 1) := by decide +kernel
theorem dL_law_1756 : decode cL_law 1756 = .ok (.aload_n 0, 1) := by decide +kernel
theorem dL_law_1757 : decode cL_law 1757 = .ok (.iload_n 3, 1) := by decide +kernel
theorem dL_law_1758 : decode cL_law 1758 = .ok (.iconst 1, 1) := by decide +kernel
theorem dL_law_1759 : decode cL_law 1759 = .ok (.iadd, 1) := by decide +kernel
theorem dL_law_1760 : decode cL_law 1760 = .ok (.iaload, 1) := by decide +kernel
theorem dL_law_1761 : decode cL_law 1761 = .ok (.aload_n 0, 1) := by decide +kernel
theorem dL_law_1762 : decode cL_law 1762 = .ok (.iload_n 3, 1) := by decide +kernel
theorem dL_law_1763 : decode cL_law 1763 = .ok (.iconst 2, 1) := by decide +kernel
theorem dL_law_1764 : decode cL_law 1764 = .ok (.iadd, 1) := by decide +kernel
theorem dL_law_1765 : decode cL_law 1765 = .ok (.iaload, 1) := by decide +kernel
theorem dL_law_1766 : decode cL_law 1766 = .ok (.invokevirtual 180, 3) := by decide +kernel
theorem dL_law_1769 : decode cL_law 1769 = .ok (.if_icmp .eq 298, 3) := by decide +kernel
theorem dL_law_1772 : decode cL_law 1772 = .ok (.iconst 0, 1) := by decide +kernel
theorem dL_law_1773 : decode cL_law 1773 = .ok (.ireturn, 1) := by decide +kernel
theorem dL_law_1774 : decode cL_law 1774 = .ok (.aload_n 1, 1) := by decide +kernel
theorem dL_law_1775 : decode cL_law 1775 = .ok (.aload_n 0, 1) := by decide +kernel
theorem dL_law_1776 : decode cL_law 1776 = .ok (.iload_n 3, 1) := by decide +kernel
theorem dL_law_1777 : decode cL_law 1777 = .ok (.iconst 1, 1) := by decide +kernel
theorem dL_law_1778 : decode cL_law 1778 = .ok (.iadd, 1) := by decide +kernel
theorem dL_law_1779 : decode cL_law 1779 = .ok (.iaload, 1) := by decide +kernel
theorem dL_law_1780 : decode cL_law 1780 = .ok (.aload_n 0, 1) := by decide +kernel
theorem dL_law_1781 : decode cL_law 1781 = .ok (.iload_n 3, 1) := by decide +kernel
theorem dL_law_1782 : decode cL_law 1782 = .ok (.iconst 2, 1) := by decide +kernel
theorem dL_law_1783 : decode cL_law 1783 = .ok (.iadd, 1) := by decide +kernel
theorem dL_law_1784 : decode cL_law 1784 = .ok (.iaload, 1) := by decide +kernel
theorem dL_law_1785 : decode cL_law 1785 = .ok (.invokevirtual 181, 3) := by decide +kernel
theorem dL_law_1788 : decode cL_law 1788 = .ok (.aload_n 2, 1) := by decide +kernel
theorem dL_law_1789 : decode cL_law 1789 = .ok (.aload_n 0, 1) := by decide +kernel
theorem dL_law_1790 : decode cL_law 1790 = .ok (.iload_n 3, 1) := by decide +kernel
theorem dL_law_1791 : decode cL_law 1791 = .ok (.iconst 1, 1) := by decide +kernel
theorem dL_law_1792 : decode cL_law 1792 = .ok (.iadd, 1) := by decide +kernel
theorem dL_law_1793 : decode cL_law 1793 = .ok (.iaload, 1) := by decide +kernel
theorem dL_law_1794 : decode cL_law 1794 = .ok (.aload_n 0, 1) := by decide +kernel
theorem dL_law_1795 : decode cL_law 1795 = .ok (.iload_n 3, 1) := by decide +kernel
theorem dL_law_1796 : decode cL_law 1796 = .ok (.iconst 2, 1) := by decide +kernel
theorem dL_law_1797 : decode cL_law 1797 = .ok (.iadd, 1) := by decide +kernel
theorem dL_law_1798 : decode cL_law 1798 = .ok (.iaload, 1) := by decide +kernel
theorem dL_law_1799 : decode cL_law 1799 = .ok (.invokevirtual 184, 3) := by decide +kernel
theorem dL_law_1802 : decode cL_law 1802 = .ok (.if_icmp .eq 265, 3) := by decide +kernel
theorem dL_law_1805 : decode cL_law 1805 = .ok (.iconst 0, 1) := by decide +kernel
theorem dL_law_1806 : decode cL_law 1806 = .ok (.ireturn, 1) := by decide +kernel
theorem dL_law_1807 : decode cL_law 1807 = .ok (.aload_n 1, 1) := by decide +kernel
theorem dL_law_1808 : decode cL_law 1808 = .ok (.invokevirtual 185, 3) := by decide +kernel
theorem dL_law_1811 : decode cL_law 1811 = .ok (.aload_n 2, 1) := by decide +kernel
theorem dL_law_1812 : decode cL_law 1812 = .ok (.invokevirtual 189, 3) := by decide +kernel
theorem dL_law_1815 : decode cL_law 1815 = .ok (.if_icmp .eq 252, 3) := by decide +kernel
theorem dL_law_1818 : decode cL_law 1818 = .ok (.iconst 0, 1) := by decide +kernel
theorem dL_law_1819 : decode cL_law 1819 = .ok (.ireturn, 1) := by decide +kernel
theorem dL_law_1820 : decode cL_law 1820 = .ok (.aload_n 1, 1) := by decide +kernel
theorem dL_law_1821 : decode cL_law 1821 = .ok (.aload_n 0, 1) := by decide +kernel
theorem dL_law_1822 : decode cL_law 1822 = .ok (.iload_n 3, 1) := by decide +kernel
theorem dL_law_1823 : decode cL_law 1823 = .ok (.iconst 1, 1) := by decide +kernel
theorem dL_law_1824 : decode cL_law 1824 = .ok (.iadd, 1) := by decide +kernel
theorem dL_law_1825 : decode cL_law 1825 = .ok (.iaload, 1) := by decide +kernel
theorem dL_law_1826 : decode cL_law 1826 = .ok (.aload_n 0, 1) := by decide +kernel
theorem dL_law_1827 : decode cL_law 1827 = .ok (.iload_n 3, 1) := by decide +kernel
theorem dL_law_1828 : decode cL_law 1828 = .ok (.iconst 2, 1) := by decide +kernel
theorem dL_law_1829 : decode cL_law 1829 = .ok (.iadd, 1) := by decide +kernel
theorem dL_law_1830 : decode cL_law 1830 = .ok (.iaload, 1) := by decide +kernel
theorem dL_law_1831 : decode cL_law 1831 = .ok (.aload_n 0, 1) := by decide +kernel
theorem dL_law_1832 : decode cL_law 1832 = .ok (.iload_n 3, 1) := by decide +kernel
theorem dL_law_1833 : decode cL_law 1833 = .ok (.iconst 3, 1) := by decide +kernel
theorem dL_law_1834 : decode cL_law 1834 = .ok (.iadd, 1) := by decide +kernel
theorem dL_law_1835 : decode cL_law 1835 = .ok (.iaload, 1) := by decide +kernel
theorem dL_law_1836 : decode cL_law 1836 = .ok (.invokevirtual 190, 3) := by decide +kernel
theorem dL_law_1839 : decode cL_law 1839 = .ok (.aload_n 2, 1) := by decide +kernel
theorem dL_law_1840 : decode cL_law 1840 = .ok (.aload_n 0, 1) := by decide +kernel
theorem dL_law_1841 : decode cL_law 1841 = .ok (.iload_n 3, 1) := by decide +kernel
theorem dL_law_1842 : decode cL_law 1842 = .ok (.iconst 1, 1) := by decide +kernel
theorem dL_law_1843 : decode cL_law 1843 = .ok (.iadd, 1) := by decide +kernel
theorem dL_law_1844 : decode cL_law 1844 = .ok (.iaload, 1) := by decide +kernel
theorem dL_law_1845 : decode cL_law 1845 = .ok (.aload_n 0, 1) := by decide +kernel
theorem dL_law_1846 : decode cL_law 1846 = .ok (.iload_n 3, 1) := by decide +kernel
theorem dL_law_1847 : decode cL_law 1847 = .ok (.iconst 2, 1) := by decide +kernel
theorem dL_law_1848 : decode cL_law 1848 = .ok (.iadd, 1) := by decide +kernel
theorem dL_law_1849 : decode cL_law 1849 = .ok (.iaload, 1) := by decide +kernel
theorem dL_law_1850 : decode cL_law 1850 = .ok (.aload_n 0, 1) := by decide +kernel
theorem dL_law_1851 : decode cL_law 1851 = .ok (.iload_n 3, 1) := by decide +kernel
theorem dL_law_1852 : decode cL_law 1852 = .ok (.iconst 3, 1) := by decide +kernel
theorem dL_law_1853 : decode cL_law 1853 = .ok (.iadd, 1) := by decide +kernel
theorem dL_law_1854 : decode cL_law 1854 = .ok (.iaload, 1) := by decide +kernel
theorem dL_law_1855 : decode cL_law 1855 = .ok (.invokevirtual 193, 3) := by decide +kernel
theorem dL_law_1858 : decode cL_law 1858 = .ok (.if_icmp .eq 209, 3) := by decide +kernel
theorem dL_law_1861 : decode cL_law 1861 = .ok (.iconst 0, 1) := by decide +kernel
theorem dL_law_1862 : decode cL_law 1862 = .ok (.ireturn, 1) := by decide +kernel
theorem dL_law_1863 : decode cL_law 1863 = .ok (.aload_n 1, 1) := by decide +kernel
theorem dL_law_1864 : decode cL_law 1864 = .ok (.aload_n 0, 1) := by decide +kernel
theorem dL_law_1865 : decode cL_law 1865 = .ok (.iload_n 3, 1) := by decide +kernel
theorem dL_law_1866 : decode cL_law 1866 = .ok (.iconst 1, 1) := by decide +kernel
theorem dL_law_1867 : decode cL_law 1867 = .ok (.iadd, 1) := by decide +kernel
theorem dL_law_1868 : decode cL_law 1868 = .ok (.iaload, 1) := by decide +kernel
theorem dL_law_1869 : decode cL_law 1869 = .ok (.aload_n 0, 1) := by decide +kernel
theorem dL_law_1870 : decode cL_law 1870 = .ok (.iload_n 3, 1) := by decide +kernel
theorem dL_law_1871 : decode cL_law 1871 = .ok (.iconst 2, 1) := by decide +kernel
theorem dL_law_1872 : decode cL_law 1872 = .ok (.iadd, 1) := by decide +kernel
theorem dL_law_1873 : decode cL_law 1873 = .ok (.iaload, 1) := by decide +kernel
theorem dL_law_1874 : decode cL_law 1874 = .ok (.invokevirtual 194, 3) := by decide +kernel
theorem dL_law_1877 : decode cL_law 1877 = .ok (.aload_n 2, 1) := by decide +kernel
theorem dL_law_1878 : decode cL_law 1878 = .ok (.aload_n 0, 1) := by decide +kernel
theorem dL_law_1879 : decode cL_law 1879 = .ok (.iload_n 3, 1) := by decide +kernel
theorem dL_law_1880 : decode cL_law 1880 = .ok (.iconst 1, 1) := by decide +kernel
theorem dL_law_1881 : decode cL_law 1881 = .ok (.iadd, 1) := by decide +kernel
theorem dL_law_1882 : decode cL_law 1882 = .ok (.iaload, 1) := by decide +kernel
theorem dL_law_1883 : decode cL_law 1883 = .ok (.aload_n 0, 1) := by decide +kernel
theorem dL_law_1884 : decode cL_law 1884 = .ok (.iload_n 3, 1) := by decide +kernel
theorem dL_law_1885 : decode cL_law 1885 = .ok (.iconst 2, 1) := by decide +kernel
theorem dL_law_1886 : decode cL_law 1886 = .ok (.iadd, 1) := by decide +kernel
theorem dL_law_1887 : decode cL_law 1887 = .ok (.iaload, 1) := by decide +kernel
theorem dL_law_1888 : decode cL_law 1888 = .ok (.invokevirtual 197, 3) := by decide +kernel
theorem dL_law_1891 : decode cL_law 1891 = .ok (.if_icmp .eq 176, 3) := by decide +kernel
theorem dL_law_1894 : decode cL_law 1894 = .ok (.iconst 0, 1) := by decide +kernel
theorem dL_law_1895 : decode cL_law 1895 = .ok (.ireturn, 1) := by decide +kernel
theorem dL_law_1896 : decode cL_law 1896 = .ok (.aload_n 1, 1) := by decide +kernel
theorem dL_law_1897 : decode cL_law 1897 = .ok (.aload_n 0, 1) := by decide +kernel
theorem dL_law_1898 : decode cL_law 1898 = .ok (.iload_n 3, 1) := by decide +kernel
theorem dL_law_1899 : decode cL_law 1899 = .ok (.iconst 1, 1) := by decide +kernel
theorem dL_law_1900 : decode cL_law 1900 = .ok (.iadd, 1) := by decide +kernel
theorem dL_law_1901 : decode cL_law 1901 = .ok (.iaload, 1) := by decide +kernel
theorem dL_law_1902 : decode cL_law 1902 = .ok (.aload_n 0, 1) := by decide +kernel
theorem dL_law_1903 : decode cL_law 1903 = .ok (.iload_n 3, 1) := by decide +kernel
theorem dL_law_1904 : decode cL_law 1904 = .ok (.iconst 2, 1) := by decide +kernel
theorem dL_law_1905 : decode cL_law 1905 = .ok (.iadd, 1) := by decide +kernel
theorem dL_law_1906 : decode cL_law 1906 = .ok (.iaload, 1) := by decide +kernel
theorem dL_law_1907 : decode cL_law 1907 = .ok (.aload_n 0, 1) := by decide +kernel
theorem dL_law_1908 : decode cL_law 1908 = .ok (.iload_n 3, 1) := by decide +kernel
theorem dL_law_1909 : decode cL_law 1909 = .ok (.iconst 3, 1) := by decide +kernel
theorem dL_law_1910 : decode cL_law 1910 = .ok (.iadd, 1) := by decide +kernel
theorem dL_law_1911 : decode cL_law 1911 = .ok (.iaload, 1) := by decide +kernel
theorem dL_law_1912 : decode cL_law 1912 = .ok (.invokevirtual 198, 3) := by decide +kernel
theorem dL_law_1915 : decode cL_law 1915 = .ok (.aload_n 2, 1) := by decide +kernel
theorem dL_law_1916 : decode cL_law 1916 = .ok (.aload_n 0, 1) := by decide +kernel
theorem dL_law_1917 : decode cL_law 1917 = .ok (.iload_n 3, 1) := by decide +kernel
theorem dL_law_1918 : decode cL_law 1918 = .ok (.iconst 1, 1) := by decide +kernel
theorem dL_law_1919 : decode cL_law 1919 = .ok (.iadd, 1) := by decide +kernel
theorem dL_law_1920 : decode cL_law 1920 = .ok (.iaload, 1) := by decide +kernel
theorem dL_law_1921 : decode cL_law 1921 = .ok (.aload_n 0, 1) := by decide +kernel
theorem dL_law_1922 : decode cL_law 1922 = .ok (.iload_n 3, 1) := by decide +kernel
theorem dL_law_1923 : decode cL_law 1923 = .ok (.iconst 2, 1) := by decide +kernel
theorem dL_law_1924 : decode cL_law 1924 = .ok (.iadd, 1) := by decide +kernel
theorem dL_law_1925 : decode cL_law 1925 = .ok (.iaload, 1) := by decide +kernel
theorem dL_law_1926 : decode cL_law 1926 = .ok (.aload_n 0, 1) := by decide +kernel
theorem dL_law_1927 : decode cL_law 1927 = .ok (.iload_n 3, 1) := by decide +kernel
theorem dL_law_1928 : decode cL_law 1928 = .ok (.iconst 3, 1) := by decide +kernel
theorem dL_law_1929 : decode cL_law 1929 = .ok (.iadd, 1) := by decide +kernel
theorem dL_law_1930 : decode cL_law 1930 = .ok (.iaload, 1) := by decide +kernel
theorem dL_law_1931 : decode cL_law 1931 = .ok (.invokevirtual 201, 3) := by decide +kernel
theorem dL_law_1934 : decode cL_law 1934 = .ok (.if_icmp .eq 133, 3) := by decide +kernel
theorem dL_law_1937 : decode cL_law 1937 = .ok (.iconst 0, 1) := by decide +kernel
theorem dL_law_1938 : decode cL_law 1938 = .ok (.ireturn, 1) := by decide +kernel
theorem dL_law_1939 : decode cL_law 1939 = .ok (.aload_n 1, 1) := by decide +kernel
theorem dL_law_1940 : decode cL_law 1940 = .ok (.invokevirtual 202, 3) := by decide +kernel
theorem dL_law_1943 : decode cL_law 1943 = .ok (.aload_n 2, 1) := by decide +kernel
theorem dL_law_1944 : decode cL_law 1944 = .ok (.invokevirtual 205, 3) := by decide +kernel
theorem dL_law_1947 : decode cL_law 1947 = .ok (.if_icmp .eq 120, 3) := by decide +kernel
theorem dL_law_1950 : decode cL_law 1950 = .ok (.iconst 0, 1) := by decide +kernel
theorem dL_law_1951 : decode cL_law 1951 = .ok (.ireturn, 1) := by decide +kernel
theorem dL_law_1952 : decode cL_law 1952 = .ok (.aload_n 1, 1) := by decide +kernel
theorem dL_law_1953 : decode cL_law 1953 = .ok (.invokevirtual 206, 3) := by decide +kernel
theorem dL_law_1956 : decode cL_law 1956 = .ok (.aload_n 2, 1) := by decide +kernel
theorem dL_law_1957 : decode cL_law 1957 = .ok (.invokevirtual 210, 3) := by decide +kernel
theorem dL_law_1960 : decode cL_law 1960 = .ok (.lcmp, 1) := by decide +kernel
theorem dL_law_1961 : decode cL_law 1961 = .ok (.ifCond .eq 106, 3) := by decide +kernel
theorem dL_law_1964 : decode cL_law 1964 = .ok (.iconst 0, 1) := by decide +kernel
theorem dL_law_1965 : decode cL_law 1965 = .ok (.ireturn, 1) := by decide +kernel
theorem dL_law_1966 : decode cL_law 1966 = .ok (.aload_n 1, 1) := by decide +kernel
theorem dL_law_1967 : decode cL_law 1967 = .ok (.invokevirtual 211, 3) := by decide +kernel
theorem dL_law_1970 : decode cL_law 1970 = .ok (.aload_n 2, 1) := by decide +kernel
theorem dL_law_1971 : decode cL_law 1971 = .ok (.invokevirtual 214, 3) := by decide +kernel
theorem dL_law_1974 : decode cL_law 1974 = .ok (.lcmp, 1) := by decide +kernel
theorem dL_law_1975 : decode cL_law 1975 = .ok (.ifCond .eq 92, 3) := by decide +kernel
theorem dL_law_1978 : decode cL_law 1978 = .ok (.iconst 0, 1) := by decide +kernel
theorem dL_law_1979 : decode cL_law 1979 = .ok (.ireturn, 1) := by decide +kernel
theorem dL_law_1980 : decode cL_law 1980 = .ok (.aload_n 1, 1) := by decide +kernel
theorem dL_law_1981 : decode cL_law 1981 = .ok (.invokevirtual 215, 3) := by decide +kernel
theorem dL_law_1984 : decode cL_law 1984 = .ok (.aload_n 2, 1) := by decide +kernel
theorem dL_law_1985 : decode cL_law 1985 = .ok (.invokevirtual 218, 3) := by decide +kernel
theorem dL_law_1988 : decode cL_law 1988 = .ok (.lcmp, 1) := by decide +kernel
theorem dL_law_1989 : decode cL_law 1989 = .ok (.ifCond .eq 78, 3) := by decide +kernel
theorem dL_law_1992 : decode cL_law 1992 = .ok (.iconst 0, 1) := by decide +kernel
theorem dL_law_1993 : decode cL_law 1993 = .ok (.ireturn, 1) := by decide +kernel
theorem dL_law_1994 : decode cL_law 1994 = .ok (.aload_n 1, 1) := by decide +kernel
theorem dL_law_1995 : decode cL_law 1995 = .ok (.aload_n 0, 1) := by decide +kernel
theorem dL_law_1996 : decode cL_law 1996 = .ok (.iload_n 3, 1) := by decide +kernel
theorem dL_law_1997 : decode cL_law 1997 = .ok (.iconst 1, 1) := by decide +kernel
theorem dL_law_1998 : decode cL_law 1998 = .ok (.iadd, 1) := by decide +kernel
theorem dL_law_1999 : decode cL_law 1999 = .ok (.iaload, 1) := by decide +kernel
theorem dL_law_2000 : decode cL_law 2000 = .ok (.invokevirtual 219, 3) := by decide +kernel
theorem dL_law_2003 : decode cL_law 2003 = .ok (.aload_n 2, 1) := by decide +kernel
theorem dL_law_2004 : decode cL_law 2004 = .ok (.aload_n 0, 1) := by decide +kernel
theorem dL_law_2005 : decode cL_law 2005 = .ok (.iload_n 3, 1) := by decide +kernel
theorem dL_law_2006 : decode cL_law 2006 = .ok (.iconst 1, 1) := by decide +kernel
theorem dL_law_2007 : decode cL_law 2007 = .ok (.iadd, 1) := by decide +kernel
theorem dL_law_2008 : decode cL_law 2008 = .ok (.iaload, 1) := by decide +kernel
theorem dL_law_2009 : decode cL_law 2009 = .ok (.invokevirtual 222, 3) := by decide +kernel
theorem dL_law_2012 : decode cL_law 2012 = .ok (.if_icmp .eq 55, 3) := by decide +kernel
theorem dL_law_2015 : decode cL_law 2015 = .ok (.iconst 0, 1) := by decide +kernel
theorem dL_law_2016 : decode cL_law 2016 = .ok (.ireturn, 1) := by decide +kernel
theorem dL_law_2017 : decode cL_law 2017 = .ok (.aload_n 1, 1) := by decide +kernel
theorem dL_law_2018 : decode cL_law 2018 = .ok (.invokevirtual 223, 3) := by decide +kernel
theorem dL_law_2021 : decode cL_law 2021 = .ok (.aload_n 2, 1) := by decide +kernel
theorem dL_law_2022 : decode cL_law 2022 = .ok (.invokevirtual 226, 3) := by decide +kernel
theorem dL_law_2025 : decode cL_law 2025 = .ok (.if_icmp .eq 42, 3) := by decide +kernel
theorem dL_law_2028 : decode cL_law 2028 = .ok (.iconst 0, 1) := by decide +kernel
theorem dL_law_2029 : decode cL_law 2029 = .ok (.ireturn, 1) := by decide +kernel
theorem dL_law_2030 : decode cL_law 2030 = .ok (.aload_n 1, 1) := by decide +kernel
theorem dL_law_2031 : decode cL_law 2031 = .ok (.aload_n 0, 1) := by decide +kernel
theorem dL_law_2032 : decode cL_law 2032 = .ok (.iload_n 3, 1) := by decide +kernel
theorem dL_law_2033 : decode cL_law 2033 = .ok (.iconst 1, 1) := by decide +kernel
theorem dL_law_2034 : decode cL_law 2034 = .ok (.iadd, 1) := by decide +kernel
theorem dL_law_2035 : decode cL_law 2035 = .ok (.iaload, 1) := by decide +kernel
theorem dL_law_2036 : decode cL_law 2036 = .ok (.invokevirtual 227, 3) := by decide +kernel
theorem dL_law_2039 : decode cL_law 2039 = .ok (.aload_n 2, 1) := by decide +kernel
theorem dL_law_2040 : decode cL_law 2040 = .ok (.aload_n 0, 1) := by decide +kernel
theorem dL_law_2041 : decode cL_law 2041 = .ok (.iload_n 3, 1) := by decide +kernel
theorem dL_law_2042 : decode cL_law 2042 = .ok (.iconst 1, 1) := by decide +kernel
theorem dL_law_2043 : decode cL_law 2043 = .ok (.iadd, 1) := by decide +kernel
theorem dL_law_2044 : decode cL_law 2044 = .ok (.iaload, 1) := by decide +kernel
theorem dL_law_2045 : decode cL_law 2045 = .ok (.invokevirtual 230, 3) := by decide +kernel
theorem dL_law_2048 : decode cL_law 2048 = .ok (.if_icmp .eq 19, 3) := by decide +kernel
theorem dL_law_2051 : decode cL_law 2051 = .ok (.iconst 0, 1) := by decide +kernel
theorem dL_law_2052 : decode cL_law 2052 = .ok (.ireturn, 1) := by decide +kernel
theorem dL_law_2053 : decode cL_law 2053 = .ok (.aload_n 1, 1) := by decide +kernel
theorem dL_law_2054 : decode cL_law 2054 = .ok (.invokevirtual 231, 3) := by decide +kernel
theorem dL_law_2057 : decode cL_law 2057 = .ok (.aload_n 2, 1) := by decide +kernel
theorem dL_law_2058 : decode cL_law 2058 = .ok (.invokevirtual 234, 3) := by decide +kernel
theorem dL_law_2061 : decode cL_law 2061 = .ok (.lcmp, 1) := by decide +kernel
theorem dL_law_2062 : decode cL_law 2062 = .ok (.ifCond .eq 5, 3) := by decide +kernel
theorem dL_law_2065 : decode cL_law 2065 = .ok (.iconst 0, 1) := by decide +kernel
theorem dL_law_2066 : decode cL_law 2066 = .ok (.ireturn, 1) := by decide +kernel
theorem dL_law_2067 : decode cL_law 2067 = .ok (.iinc 3 7, 3) := by decide +kernel
theorem dL_law_2070 : decode cL_law 2070 = .ok (.goto (-2052), 3) := by decide +kernel
theorem dL_law_2073 : decode cL_law 2073 = .ok (.iconst 1, 1) := by decide +kernel
theorem dL_law_2074 : decode cL_law 2074 = .ok (.ireturn, 1) := by decide +kernel
noncomputable def L_L_law_18 (b0 : Nat) (l0 : Nat) (f0 : Nat → Int32) : Nat → Int32 → qM → (qM → Option (Int32 × qM)) → Option (Int32 × qM)
  | 0, _, _, _ => none
  | n + 1, x1, u1, e1 => if ((Int32.ofNat l0) - 7) < x1 then e1 u1 else q_ck (q_in x1 l0) (q_lt ((f0 (Int32.toNatClampNeg x1)) &&& 63) (fun (x2 : Int32) => q_jn (fun  (u2 : qM) => q_lt (x1 + 7) (fun (x3 : Int32) => L_L_law_18 b0 l0 f0 n x3 u2 e1)) (fun j1 => if x2 = 0 then q_ck (q_in (x1 + 1) l0) (q_ck (q_in (x1 + 2) l0) (q_bd (f_X10_row (f0 (Int32.toNatClampNeg (x1 + 1))) (f0 (Int32.toNatClampNeg (x1 + 2))) u1) (fun (x4 : Int32) (u3 : qM) => q_ck (q_in (x1 + 1) l0) (q_ck (q_in (x1 + 2) l0) (q_bd (f_X11_row (f0 (Int32.toNatClampNeg (x1 + 1))) (f0 (Int32.toNatClampNeg (x1 + 2))) u3) (fun (x5 : Int32) (u4 : qM) => if x4 = x5 then j1 u4 else none)))))) else if x2 = 1 then q_ck (q_in (x1 + 1) l0) (q_ck (q_in (x1 + 2) l0) (q_ck (q_in (x1 + 3) l0) (q_bd (f_X10_lay (f0 (Int32.toNatClampNeg (x1 + 1))) (f0 (Int32.toNatClampNeg (x1 + 2))) (f0 (Int32.toNatClampNeg (x1 + 3))) u1) (fun (x6 : Int32) (u5 : qM) => q_ck (q_in (x1 + 1) l0) (q_ck (q_in (x1 + 2) l0) (q_ck (q_in (x1 + 3) l0) (q_bd (f_X11_lay (f0 (Int32.toNatClampNeg (x1 + 1))) (f0 (Int32.toNatClampNeg (x1 + 2))) (f0 (Int32.toNatClampNeg (x1 + 3))) u5) (fun (x7 : Int32) (u6 : qM) => if x6 = x7 then j1 u6 else none)))))))) else if x2 = 2 then q_ck (q_in (x1 + 1) l0) (q_bd (f_X10_tear (f0 (Int32.toNatClampNeg (x1 + 1))) u1) (fun (x8 : Int32) (u7 : qM) => q_ck (q_in (x1 + 1) l0) (q_bd (f_X11_tear (f0 (Int32.toNatClampNeg (x1 + 1))) u7) (fun (x9 : Int32) (u8 : qM) => if x8 = x9 then j1 u8 else none)))) else if x2 = 3 then q_ck (q_in (x1 + 1) l0) (q_ck (q_in (x1 + 2) l0) (q_ck (q_in (x1 + 3) l0) (q_ck (q_in (x1 + 4) l0) (q_ck (q_in (x1 + 5) l0) (q_bd (f_X10_copy (f0 (Int32.toNatClampNeg (x1 + 1))) (f0 (Int32.toNatClampNeg (x1 + 2))) (f0 (Int32.toNatClampNeg (x1 + 3))) (f0 (Int32.toNatClampNeg (x1 + 4))) (f0 (Int32.toNatClampNeg (x1 + 5))) u1) (fun (x10 : Int32) (u9 : qM) => q_ck (q_in (x1 + 1) l0) (q_ck (q_in (x1 + 2) l0) (q_ck (q_in (x1 + 3) l0) (q_ck (q_in (x1 + 4) l0) (q_ck (q_in (x1 + 5) l0) (q_bd (f_X11_copy (f0 (Int32.toNatClampNeg (x1 + 1))) (f0 (Int32.toNatClampNeg (x1 + 2))) (f0 (Int32.toNatClampNeg (x1 + 3))) (f0 (Int32.toNatClampNeg (x1 + 4))) (f0 (Int32.toNatClampNeg (x1 + 5))) u9) (fun (x11 : Int32) (u10 : qM) => if x10 = x11 then j1 u10 else none)))))))))))) else if x2 = 4 then q_ck (q_in (x1 + 1) l0) (q_bd (f_X10_mean (f0 (Int32.toNatClampNeg (x1 + 1))) u1) (fun (x12 : Int32) (u11 : qM) => q_ck (q_in (x1 + 1) l0) (q_bd (f_X11_mean (f0 (Int32.toNatClampNeg (x1 + 1))) u11) (fun (x13 : Int32) (u12 : qM) => if x12 = x13 then j1 u12 else none)))) else if x2 = 5 then q_ck (q_in (x1 + 1) l0) (q_ck (q_in (x1 + 2) l0) (q_bd (f_X10_text (f0 (Int32.toNatClampNeg (x1 + 1))) (f0 (Int32.toNatClampNeg (x1 + 2))) u1) (fun (x14 : Int32) (u13 : qM) => q_ck (q_in (x1 + 1) l0) (q_ck (q_in (x1 + 2) l0) (q_bd (f_X11_text (f0 (Int32.toNatClampNeg (x1 + 1))) (f0 (Int32.toNatClampNeg (x1 + 2))) u13) (fun (x15 : Int32) (u14 : qM) => if x14 = x15 then j1 u14 else none)))))) else if x2 = 6 then q_ck (q_in (x1 + 1) l0) (q_ck (q_in (x1 + 2) l0) (q_ck (q_in (x1 + 3) l0) (q_bd (f_X10_put (f0 (Int32.toNatClampNeg (x1 + 1))) (f0 (Int32.toNatClampNeg (x1 + 2))) (f0 (Int32.toNatClampNeg (x1 + 3))) u1) (fun (x16 : Int32) (u15 : qM) => q_ck (q_in (x1 + 1) l0) (q_ck (q_in (x1 + 2) l0) (q_ck (q_in (x1 + 3) l0) (q_bd (f_X11_put (f0 (Int32.toNatClampNeg (x1 + 1))) (f0 (Int32.toNatClampNeg (x1 + 2))) (f0 (Int32.toNatClampNeg (x1 + 3))) u15) (fun (x17 : Int32) (u16 : qM) => if x16 = x17 then j1 u16 else none)))))))) else if x2 = 7 then q_ck (q_in (x1 + 1) l0) (q_bd (f_X10_burn (f0 (Int32.toNatClampNeg (x1 + 1))) u1) (fun (x18 : Int32) (u17 : qM) => q_ck (q_in (x1 + 1) l0) (q_bd (f_X11_burn (f0 (Int32.toNatClampNeg (x1 + 1))) u17) (fun (x19 : Int32) (u18 : qM) => if x18 = x19 then j1 u18 else none)))) else if x2 = 8 then q_ck (q_in (x1 + 1) l0) (q_bd (f_X10_fault (f0 (Int32.toNatClampNeg (x1 + 1))) u1) (fun (x20 : Int32) (u19 : qM) => q_ck (q_in (x1 + 1) l0) (q_bd (f_X11_fault (f0 (Int32.toNatClampNeg (x1 + 1))) u19) (fun (x21 : Int32) (u20 : qM) => if x20 = x21 then j1 u20 else none)))) else if x2 = 9 then q_ck (q_in (x1 + 1) l0) (q_ck (q_in (x1 + 2) l0) (q_ck (q_in (x1 + 3) l0) (q_ck (q_in (x1 + 4) l0) (q_bd (f_X10_board (f0 (Int32.toNatClampNeg (x1 + 1))) (f0 (Int32.toNatClampNeg (x1 + 2))) (f0 (Int32.toNatClampNeg (x1 + 3))) (f0 (Int32.toNatClampNeg (x1 + 4))) u1) (fun (x22 : Int32) (u21 : qM) => q_ck (q_in (x1 + 1) l0) (q_ck (q_in (x1 + 2) l0) (q_ck (q_in (x1 + 3) l0) (q_ck (q_in (x1 + 4) l0) (q_bd (f_X11_board (f0 (Int32.toNatClampNeg (x1 + 1))) (f0 (Int32.toNatClampNeg (x1 + 2))) (f0 (Int32.toNatClampNeg (x1 + 3))) (f0 (Int32.toNatClampNeg (x1 + 4))) u21) (fun (x23 : Int32) (u22 : qM) => if x22 = x23 then j1 u22 else none)))))))))) else if x2 = 10 then q_ck (q_in (x1 + 1) l0) (q_bd (f_X10_drop (f0 (Int32.toNatClampNeg (x1 + 1))) u1) (fun (x24 : Int32) (u23 : qM) => q_ck (q_in (x1 + 1) l0) (q_bd (f_X11_drop (f0 (Int32.toNatClampNeg (x1 + 1))) u23) (fun (x25 : Int32) (u24 : qM) => if x24 = x25 then j1 u24 else none)))) else if x2 = 11 then q_ck (q_in (x1 + 1) l0) (q_ck (q_in (x1 + 2) l0) (q_ck (q_in (x1 + 3) l0) (q_bd (f_X10_bottom (f0 (Int32.toNatClampNeg (x1 + 1))) (f0 (Int32.toNatClampNeg (x1 + 2))) (f0 (Int32.toNatClampNeg (x1 + 3))) u1) (fun (x26 : Int32) (u25 : qM) => q_ck (q_in (x1 + 1) l0) (q_ck (q_in (x1 + 2) l0) (q_ck (q_in (x1 + 3) l0) (q_bd (f_X11_bottom (f0 (Int32.toNatClampNeg (x1 + 1))) (f0 (Int32.toNatClampNeg (x1 + 2))) (f0 (Int32.toNatClampNeg (x1 + 3))) u25) (fun (x27 : Int32) (u26 : qM) => if x26 = x27 then j1 u26 else none)))))))) else if x2 = 12 then q_ck (q_in (x1 + 1) l0) (q_ck (q_in (x1 + 2) l0) (q_ck (q_in (x1 + 3) l0) (q_bd (f_X10_water (f0 (Int32.toNatClampNeg (x1 + 1))) (f0 (Int32.toNatClampNeg (x1 + 2))) (f0 (Int32.toNatClampNeg (x1 + 3))) u1) (fun (x28 : Int32) (u27 : qM) => q_ck (q_in (x1 + 1) l0) (q_ck (q_in (x1 + 2) l0) (q_ck (q_in (x1 + 3) l0) (q_bd (f_X11_water (f0 (Int32.toNatClampNeg (x1 + 1))) (f0 (Int32.toNatClampNeg (x1 + 2))) (f0 (Int32.toNatClampNeg (x1 + 3))) u27) (fun (x29 : Int32) (u28 : qM) => if x28 = x29 then j1 u28 else none)))))))) else if x2 = 13 then q_ck (q_in (x1 + 1) l0) (q_ck (q_in (x1 + 2) l0) (q_ck (q_in (x1 + 3) l0) (q_ck (q_in (x1 + 4) l0) (q_bd (f_X10_spill (f0 (Int32.toNatClampNeg (x1 + 1))) (f0 (Int32.toNatClampNeg (x1 + 2))) (f0 (Int32.toNatClampNeg (x1 + 3))) (f0 (Int32.toNatClampNeg (x1 + 4))) u1) (fun (x30 : Int32) (u29 : qM) => q_ck (q_in (x1 + 1) l0) (q_ck (q_in (x1 + 2) l0) (q_ck (q_in (x1 + 3) l0) (q_ck (q_in (x1 + 4) l0) (q_bd (f_X11_spill (f0 (Int32.toNatClampNeg (x1 + 1))) (f0 (Int32.toNatClampNeg (x1 + 2))) (f0 (Int32.toNatClampNeg (x1 + 3))) (f0 (Int32.toNatClampNeg (x1 + 4))) u29) (fun (x31 : Int32) (u30 : qM) => if x30 = x31 then j1 u30 else none)))))))))) else if x2 = 14 then q_ck (q_in (x1 + 1) l0) (q_ck (q_in (x1 + 2) l0) (q_ck (q_in (x1 + 3) l0) (q_bd (f_X10_cell (f0 (Int32.toNatClampNeg (x1 + 1))) (f0 (Int32.toNatClampNeg (x1 + 2))) (f0 (Int32.toNatClampNeg (x1 + 3))) u1) (fun (x32 : Int32) (u31 : qM) => q_ck (q_in (x1 + 1) l0) (q_ck (q_in (x1 + 2) l0) (q_ck (q_in (x1 + 3) l0) (q_bd (f_X11_cell (f0 (Int32.toNatClampNeg (x1 + 1))) (f0 (Int32.toNatClampNeg (x1 + 2))) (f0 (Int32.toNatClampNeg (x1 + 3))) u31) (fun (x33 : Int32) (u32 : qM) => if x32 = x33 then j1 u32 else none)))))))) else if x2 = 15 then q_ck (q_in (x1 + 1) l0) (q_ck (q_in (x1 + 2) l0) (q_bd (f_X10_flow (f0 (Int32.toNatClampNeg (x1 + 1))) (f0 (Int32.toNatClampNeg (x1 + 2))) u1) (fun (x34 : Int32) (u33 : qM) => q_ck (q_in (x1 + 1) l0) (q_ck (q_in (x1 + 2) l0) (q_bd (f_X11_flow (f0 (Int32.toNatClampNeg (x1 + 1))) (f0 (Int32.toNatClampNeg (x1 + 2))) u33) (fun (x35 : Int32) (u34 : qM) => if x34 = x35 then j1 u34 else none)))))) else if x2 = 16 then q_ck (q_in (x1 + 1) l0) (q_ck (q_in (x1 + 2) l0) (q_ck (q_in (x1 + 3) l0) (q_jn (fun (x36 : Int32) (u35 : qM) => q_bd (f_X10_gate (f0 (Int32.toNatClampNeg (x1 + 1))) (f0 (Int32.toNatClampNeg (x1 + 2))) x36 u35) (fun (x37 : Int32) (u36 : qM) => q_ck (q_in (x1 + 1) l0) (q_ck (q_in (x1 + 2) l0) (q_ck (q_in (x1 + 3) l0) (q_jn (fun (x38 : Int32) (u37 : qM) => q_bd (f_X11_gate (f0 (Int32.toNatClampNeg (x1 + 1))) (f0 (Int32.toNatClampNeg (x1 + 2))) x38 u37) (fun (x39 : Int32) (u38 : qM) => if x37 = x39 then j1 u38 else none)) (fun j3 => if (f0 (Int32.toNatClampNeg (x1 + 3))) = 0 then j3 0 u36 else j3 1 u36)))))) (fun j2 => if (f0 (Int32.toNatClampNeg (x1 + 3))) = 0 then j2 0 u1 else j2 1 u1)))) else if x2 = 17 then q_ck (q_in (x1 + 1) l0) (q_ck (q_in (x1 + 2) l0) (q_ck (q_in (x1 + 3) l0) (q_bd (f_X10_law (f0 (Int32.toNatClampNeg (x1 + 1))) (f0 (Int32.toNatClampNeg (x1 + 2))) (f0 (Int32.toNatClampNeg (x1 + 3))) u1) (fun (x40 : Int32) (u39 : qM) => q_ck (q_in (x1 + 1) l0) (q_ck (q_in (x1 + 2) l0) (q_ck (q_in (x1 + 3) l0) (q_bd (f_X11_law (f0 (Int32.toNatClampNeg (x1 + 1))) (f0 (Int32.toNatClampNeg (x1 + 2))) (f0 (Int32.toNatClampNeg (x1 + 3))) u39) (fun (x41 : Int32) (u40 : qM) => if x40 = x41 then j1 u40 else none)))))))) else if x2 = 18 then q_ck (q_in (x1 + 1) l0) (q_ck (q_in (x1 + 2) l0) (q_ck (q_in (x1 + 3) l0) (q_bd (f_X10_wind (f0 (Int32.toNatClampNeg (x1 + 1))) (f0 (Int32.toNatClampNeg (x1 + 2))) (f0 (Int32.toNatClampNeg (x1 + 3))) u1) (fun (x42 : Int32) (u41 : qM) => q_ck (q_in (x1 + 1) l0) (q_ck (q_in (x1 + 2) l0) (q_ck (q_in (x1 + 3) l0) (q_bd (f_X11_wind (f0 (Int32.toNatClampNeg (x1 + 1))) (f0 (Int32.toNatClampNeg (x1 + 2))) (f0 (Int32.toNatClampNeg (x1 + 3))) u41) (fun (x43 : Int32) (u42 : qM) => if x42 = x43 then j1 u42 else none)))))))) else if x2 = 19 then q_ck (q_in (x1 + 1) l0) (q_ck (q_in (x1 + 2) l0) (q_ck (q_in (x1 + 3) l0) (q_bd (f_X10_river (f0 (Int32.toNatClampNeg (x1 + 1))) (f0 (Int32.toNatClampNeg (x1 + 2))) (f0 (Int32.toNatClampNeg (x1 + 3))) u1) (fun (x44 : Int32) (u43 : qM) => q_ck (q_in (x1 + 1) l0) (q_ck (q_in (x1 + 2) l0) (q_ck (q_in (x1 + 3) l0) (q_bd (f_X11_river (f0 (Int32.toNatClampNeg (x1 + 1))) (f0 (Int32.toNatClampNeg (x1 + 2))) (f0 (Int32.toNatClampNeg (x1 + 3))) u43) (fun (x45 : Int32) (u44 : qM) => if x44 = x45 then j1 u44 else none)))))))) else if x2 = 20 then q_ck (q_in (x1 + 1) l0) (q_ck (q_in (x1 + 2) l0) (q_ck (q_in (x1 + 3) l0) (q_bd (f_X10_tide (f0 (Int32.toNatClampNeg (x1 + 1))) (f0 (Int32.toNatClampNeg (x1 + 2))) (f0 (Int32.toNatClampNeg (x1 + 3))) u1) (fun (x46 : Int32) (u45 : qM) => q_ck (q_in (x1 + 1) l0) (q_ck (q_in (x1 + 2) l0) (q_ck (q_in (x1 + 3) l0) (q_bd (f_X11_tide (f0 (Int32.toNatClampNeg (x1 + 1))) (f0 (Int32.toNatClampNeg (x1 + 2))) (f0 (Int32.toNatClampNeg (x1 + 3))) u45) (fun (x47 : Int32) (u46 : qM) => if x46 = x47 then j1 u46 else none)))))))) else if x2 = 21 then q_ck (q_in (x1 + 1) l0) (q_ck (q_in (x1 + 2) l0) (q_bd (f_X10_step (f0 (Int32.toNatClampNeg (x1 + 1))) (f0 (Int32.toNatClampNeg (x1 + 2))) u1) (fun (x48 : Int32) (u47 : qM) => q_ck (q_in (x1 + 1) l0) (q_ck (q_in (x1 + 2) l0) (q_bd (f_X11_step (f0 (Int32.toNatClampNeg (x1 + 1))) (f0 (Int32.toNatClampNeg (x1 + 2))) u47) (fun (x49 : Int32) (u48 : qM) => if x48 = x49 then j1 u48 else none)))))) else if x2 = 22 then q_ck (q_in (x1 + 1) l0) (q_ck (q_in (x1 + 2) l0) (q_bd (f_X10_told (f0 (Int32.toNatClampNeg (x1 + 1))) (f0 (Int32.toNatClampNeg (x1 + 2))) u1) (fun (x50 : Int32) (u49 : qM) => q_ck (q_in (x1 + 1) l0) (q_ck (q_in (x1 + 2) l0) (q_bd (f_X11_told (f0 (Int32.toNatClampNeg (x1 + 1))) (f0 (Int32.toNatClampNeg (x1 + 2))) u49) (fun (x51 : Int32) (u50 : qM) => if x50 = x51 then j1 u50 else none)))))) else if x2 = 23 then q_ck (q_in (x1 + 1) l0) (q_ck (q_in (x1 + 2) l0) (q_bd (f_X10_mark (f0 (Int32.toNatClampNeg (x1 + 1))) (f0 (Int32.toNatClampNeg (x1 + 2))) u1) (fun (x52 : Int32) (u51 : qM) => q_ck (q_in (x1 + 1) l0) (q_ck (q_in (x1 + 2) l0) (q_bd (f_X11_mark (f0 (Int32.toNatClampNeg (x1 + 1))) (f0 (Int32.toNatClampNeg (x1 + 2))) u51) (fun (x53 : Int32) (u52 : qM) => if x52 = x53 then j1 u52 else none)))))) else if x2 = 24 then q_ck (q_in (x1 + 1) l0) (q_ck (q_in (x1 + 2) l0) (q_bd (f_X10_keep (f0 (Int32.toNatClampNeg (x1 + 1))) (f0 (Int32.toNatClampNeg (x1 + 2))) u1) (fun (x54 : Int32) (u53 : qM) => q_ck (q_in (x1 + 1) l0) (q_ck (q_in (x1 + 2) l0) (q_bd (f_X11_keep (f0 (Int32.toNatClampNeg (x1 + 1))) (f0 (Int32.toNatClampNeg (x1 + 2))) u53) (fun (x55 : Int32) (u54 : qM) => if x54 = x55 then j1 u54 else none)))))) else if x2 = 25 then q_ck (q_in (x1 + 1) l0) (q_bd (f_X10_mirror (f0 (Int32.toNatClampNeg (x1 + 1))) u1) (fun (x56 : Int32) (u55 : qM) => q_ck (q_in (x1 + 1) l0) (q_bd (f_X11_mirror (f0 (Int32.toNatClampNeg (x1 + 1))) u55) (fun (x57 : Int32) (u56 : qM) => if x56 = x57 then j1 u56 else none)))) else if x2 = 26 then q_ck (q_in (x1 + 1) l0) (q_ck (q_in (x1 + 2) l0) (q_ck (q_in (x1 + 3) l0) (q_ck (q_in (x1 + 4) l0) (q_bd (f_X10_boat (f0 (Int32.toNatClampNeg (x1 + 1))) (f0 (Int32.toNatClampNeg (x1 + 2))) (f0 (Int32.toNatClampNeg (x1 + 3))) (f0 (Int32.toNatClampNeg (x1 + 4))) u1) (fun (x58 : Int32) (u57 : qM) => q_ck (q_in (x1 + 1) l0) (q_ck (q_in (x1 + 2) l0) (q_ck (q_in (x1 + 3) l0) (q_ck (q_in (x1 + 4) l0) (q_bd (f_X11_boat (f0 (Int32.toNatClampNeg (x1 + 1))) (f0 (Int32.toNatClampNeg (x1 + 2))) (f0 (Int32.toNatClampNeg (x1 + 3))) (f0 (Int32.toNatClampNeg (x1 + 4))) u57) (fun (x59 : Int32) (u58 : qM) => if x58 = x59 then j1 u58 else none)))))))))) else if x2 = 27 then q_ck (q_in (x1 + 1) l0) (q_bd (f_X10_where (f0 (Int32.toNatClampNeg (x1 + 1))) u1) (fun (x60 : Int32) (u59 : qM) => q_ck (q_in (x1 + 1) l0) (q_bd (f_X11_where (f0 (Int32.toNatClampNeg (x1 + 1))) u59) (fun (x61 : Int32) (u60 : qM) => if x60 = x61 then j1 u60 else none)))) else if x2 = 28 then q_ck (q_in (x1 + 1) l0) (q_ck (q_in (x1 + 2) l0) (q_ck (q_in (x1 + 3) l0) (q_bd (f_X10_gauge (f0 (Int32.toNatClampNeg (x1 + 1))) (f0 (Int32.toNatClampNeg (x1 + 2))) (f0 (Int32.toNatClampNeg (x1 + 3))) u1) (fun (x62 : Int32) (u61 : qM) => q_ck (q_in (x1 + 1) l0) (q_ck (q_in (x1 + 2) l0) (q_ck (q_in (x1 + 3) l0) (q_bd (f_X11_gauge (f0 (Int32.toNatClampNeg (x1 + 1))) (f0 (Int32.toNatClampNeg (x1 + 2))) (f0 (Int32.toNatClampNeg (x1 + 3))) u61) (fun (x63 : Int32) (u62 : qM) => if x62 = x63 then j1 u62 else none)))))))) else if x2 = 29 then q_ck (q_in (x1 + 1) l0) (q_ck (q_in (x1 + 2) l0) (q_bd (f_X10_reading (f0 (Int32.toNatClampNeg (x1 + 1))) (f0 (Int32.toNatClampNeg (x1 + 2))) u1) (fun (x64 : Int32) (u63 : qM) => q_ck (q_in (x1 + 1) l0) (q_ck (q_in (x1 + 2) l0) (q_bd (f_X11_reading (f0 (Int32.toNatClampNeg (x1 + 1))) (f0 (Int32.toNatClampNeg (x1 + 2))) u63) (fun (x65 : Int32) (u64 : qM) => if x64 = x65 then j1 u64 else none)))))) else if x2 = 30 then q_ck (q_in (x1 + 1) l0) (q_ck (q_in (x1 + 2) l0) (q_bd (f_X10_lose (f0 (Int32.toNatClampNeg (x1 + 1))) (f0 (Int32.toNatClampNeg (x1 + 2))) u1) (fun (x66 : Int32) (u65 : qM) => q_ck (q_in (x1 + 1) l0) (q_ck (q_in (x1 + 2) l0) (q_bd (f_X11_lose (f0 (Int32.toNatClampNeg (x1 + 1))) (f0 (Int32.toNatClampNeg (x1 + 2))) u65) (fun (x67 : Int32) (u66 : qM) => if x66 = x67 then j1 u66 else none)))))) else if x2 = 31 then q_ck (q_in (x1 + 1) l0) (q_ck (q_in (x1 + 2) l0) (q_bd (f_X10_tone (f0 (Int32.toNatClampNeg (x1 + 1))) (f0 (Int32.toNatClampNeg (x1 + 2))) u1) (fun (x68 : Int32) (u67 : qM) => q_ck (q_in (x1 + 1) l0) (q_ck (q_in (x1 + 2) l0) (q_bd (f_X11_tone (f0 (Int32.toNatClampNeg (x1 + 1))) (f0 (Int32.toNatClampNeg (x1 + 2))) u67) (fun (x69 : Int32) (u68 : qM) => if x68 = x69 then j1 u68 else none)))))) else if x2 = 32 then q_ck (q_in (x1 + 1) l0) (q_bd (f_X10_theTone (f0 (Int32.toNatClampNeg (x1 + 1))) u1) (fun (x70 : Int32) (u69 : qM) => q_ck (q_in (x1 + 1) l0) (q_bd (f_X11_theTone (f0 (Int32.toNatClampNeg (x1 + 1))) u69) (fun (x71 : Int32) (u70 : qM) => if x70 = x71 then j1 u70 else none)))) else if x2 = 33 then q_ck (q_in (x1 + 1) l0) (q_jn (fun (x72 : Int32) (u71 : qM) => q_bd (f_X10_part x72 u71) (fun (x73 : Int32) (u72 : qM) => q_ck (q_in (x1 + 1) l0) (q_jn (fun (x74 : Int32) (u73 : qM) => q_bd (f_X11_part x74 u73) (fun (x75 : Int32) (u74 : qM) => if x73 = x75 then j1 u74 else none)) (fun j5 => if (f0 (Int32.toNatClampNeg (x1 + 1))) = 0 then j5 0 u72 else j5 1 u72)))) (fun j4 => if (f0 (Int32.toNatClampNeg (x1 + 1))) = 0 then j4 0 u1 else j4 1 u1)) else if x2 = 34 then q_ck (q_in (x1 + 1) l0) (q_ck (q_in (x1 + 2) l0) (q_ck (q_in (x1 + 3) l0) (q_ck (q_in (x1 + 4) l0) (q_ck (q_in (x1 + 5) l0) (q_ck (q_in (x1 + 6) l0) (q_bd (f_X10_nest (f0 (Int32.toNatClampNeg (x1 + 1))) (f0 (Int32.toNatClampNeg (x1 + 2))) (f0 (Int32.toNatClampNeg (x1 + 3))) (f0 (Int32.toNatClampNeg (x1 + 4))) (f0 (Int32.toNatClampNeg (x1 + 5))) (f0 (Int32.toNatClampNeg (x1 + 6))) u1) (fun (x76 : Int32) (u75 : qM) => q_ck (q_in (x1 + 1) l0) (q_ck (q_in (x1 + 2) l0) (q_ck (q_in (x1 + 3) l0) (q_ck (q_in (x1 + 4) l0) (q_ck (q_in (x1 + 5) l0) (q_ck (q_in (x1 + 6) l0) (q_bd (f_X11_nest (f0 (Int32.toNatClampNeg (x1 + 1))) (f0 (Int32.toNatClampNeg (x1 + 2))) (f0 (Int32.toNatClampNeg (x1 + 3))) (f0 (Int32.toNatClampNeg (x1 + 4))) (f0 (Int32.toNatClampNeg (x1 + 5))) (f0 (Int32.toNatClampNeg (x1 + 6))) u75) (fun (x77 : Int32) (u76 : qM) => if x76 = x77 then j1 u76 else none)))))))))))))) else if x2 = 35 then q_ck (q_in (x1 + 1) l0) (q_bd (f_X10_up (f0 (Int32.toNatClampNeg (x1 + 1))) u1) (fun (x78 : Int32) (u77 : qM) => q_ck (q_in (x1 + 1) l0) (q_bd (f_X11_up (f0 (Int32.toNatClampNeg (x1 + 1))) u77) (fun (x79 : Int32) (u78 : qM) => if x78 = x79 then j1 u78 else none)))) else if x2 = 36 then q_ck (q_in (x1 + 1) l0) (q_bd (f_X10_down (f0 (Int32.toNatClampNeg (x1 + 1))) u1) (fun (x80 : Int32) (u79 : qM) => q_ck (q_in (x1 + 1) l0) (q_bd (f_X11_down (f0 (Int32.toNatClampNeg (x1 + 1))) u79) (fun (x81 : Int32) (u80 : qM) => if x80 = x81 then j1 u80 else none)))) else if x2 = 37 then q_ck (q_in (x1 + 1) l0) (q_ck (q_in (x1 + 2) l0) (q_ck (q_in (x1 + 3) l0) (q_bd (f_X10_fit (f0 (Int32.toNatClampNeg (x1 + 1))) (f0 (Int32.toNatClampNeg (x1 + 2))) (f0 (Int32.toNatClampNeg (x1 + 3))) u1) (fun (x82 : Int32) (u81 : qM) => q_ck (q_in (x1 + 1) l0) (q_ck (q_in (x1 + 2) l0) (q_ck (q_in (x1 + 3) l0) (q_bd (f_X11_fit (f0 (Int32.toNatClampNeg (x1 + 1))) (f0 (Int32.toNatClampNeg (x1 + 2))) (f0 (Int32.toNatClampNeg (x1 + 3))) u81) (fun (x83 : Int32) (u82 : qM) => if x82 = x83 then j1 u82 else none)))))))) else if x2 = 38 then q_ck (q_in (x1 + 1) l0) (q_ck (q_in (x1 + 2) l0) (q_ck (q_in (x1 + 3) l0) (q_ck (q_in (x1 + 4) l0) (q_bd (f_X10_ends (f0 (Int32.toNatClampNeg (x1 + 1))) (f0 (Int32.toNatClampNeg (x1 + 2))) (f0 (Int32.toNatClampNeg (x1 + 3))) (f0 (Int32.toNatClampNeg (x1 + 4))) u1) (fun (x84 : Int32) (u83 : qM) => q_ck (q_in (x1 + 1) l0) (q_ck (q_in (x1 + 2) l0) (q_ck (q_in (x1 + 3) l0) (q_ck (q_in (x1 + 4) l0) (q_bd (f_X11_ends (f0 (Int32.toNatClampNeg (x1 + 1))) (f0 (Int32.toNatClampNeg (x1 + 2))) (f0 (Int32.toNatClampNeg (x1 + 3))) (f0 (Int32.toNatClampNeg (x1 + 4))) u83) (fun (x85 : Int32) (u84 : qM) => if x84 = x85 then j1 u84 else none)))))))))) else if x2 = 39 then q_ck (q_in (x1 + 1) l0) (q_ck (q_in (x1 + 2) l0) (q_bd (f_X10_play (f0 (Int32.toNatClampNeg (x1 + 1))) (f0 (Int32.toNatClampNeg (x1 + 2))) u1) (fun (x86 : Int32) (u85 : qM) => q_ck (q_in (x1 + 1) l0) (q_ck (q_in (x1 + 2) l0) (q_bd (f_X11_play (f0 (Int32.toNatClampNeg (x1 + 1))) (f0 (Int32.toNatClampNeg (x1 + 2))) u85) (fun (x87 : Int32) (u86 : qM) => if x86 = x87 then j1 u86 else none)))))) else if x2 = 40 then q_ck (q_in (x1 + 1) l0) (q_ck (q_in (x1 + 2) l0) (q_bd (f_X10_world (f0 (Int32.toNatClampNeg (x1 + 1))) (f0 (Int32.toNatClampNeg (x1 + 2))) u1) (fun (x88 : Int32) (u87 : qM) => q_ck (q_in (x1 + 1) l0) (q_ck (q_in (x1 + 2) l0) (q_bd (f_X11_world (f0 (Int32.toNatClampNeg (x1 + 1))) (f0 (Int32.toNatClampNeg (x1 + 2))) u87) (fun (x89 : Int32) (u88 : qM) => if x88 = x89 then j1 u88 else none)))))) else if x2 = 41 then q_bd (f_X10_forget  u1) (fun (x90 : Int32) (u89 : qM) => q_bd (f_X11_forget  u89) (fun (x91 : Int32) (u90 : qM) => if x90 = x91 then j1 u90 else none)) else if x2 = 42 then q_ck (q_in (x1 + 1) l0) (q_ck (q_in (x1 + 2) l0) (q_ck (q_in (x1 + 3) l0) (q_bd (f_X10_alarm (f0 (Int32.toNatClampNeg (x1 + 1))) (f0 (Int32.toNatClampNeg (x1 + 2))) (f0 (Int32.toNatClampNeg (x1 + 3))) u1) (fun (x92 : Int32) (u91 : qM) => q_ck (q_in (x1 + 1) l0) (q_ck (q_in (x1 + 2) l0) (q_ck (q_in (x1 + 3) l0) (q_bd (f_X11_alarm (f0 (Int32.toNatClampNeg (x1 + 1))) (f0 (Int32.toNatClampNeg (x1 + 2))) (f0 (Int32.toNatClampNeg (x1 + 3))) u91) (fun (x93 : Int32) (u92 : qM) => if x92 = x93 then j1 u92 else none)))))))) else if x2 = 43 then q_ck (q_in (x1 + 1) l0) (q_ck (q_in (x1 + 2) l0) (q_bd (f_X10_post (f0 (Int32.toNatClampNeg (x1 + 1))) (f0 (Int32.toNatClampNeg (x1 + 2))) u1) (fun (x94 : Int32) (u93 : qM) => q_ck (q_in (x1 + 1) l0) (q_ck (q_in (x1 + 2) l0) (q_bd (f_X11_post (f0 (Int32.toNatClampNeg (x1 + 1))) (f0 (Int32.toNatClampNeg (x1 + 2))) u93) (fun (x95 : Int32) (u94 : qM) => if x94 = x95 then j1 u94 else none)))))) else if x2 = 44 then q_ck (q_in (x1 + 1) l0) (q_ck (q_in (x1 + 2) l0) (q_ck (q_in (x1 + 3) l0) (q_bd (f_X10_gates (f0 (Int32.toNatClampNeg (x1 + 1))) (f0 (Int32.toNatClampNeg (x1 + 2))) (f0 (Int32.toNatClampNeg (x1 + 3))) u1) (fun (x96 : Int32) (u95 : qM) => q_ck (q_in (x1 + 1) l0) (q_ck (q_in (x1 + 2) l0) (q_ck (q_in (x1 + 3) l0) (q_bd (f_X11_gates (f0 (Int32.toNatClampNeg (x1 + 1))) (f0 (Int32.toNatClampNeg (x1 + 2))) (f0 (Int32.toNatClampNeg (x1 + 3))) u95) (fun (x97 : Int32) (u96 : qM) => if x96 = x97 then j1 u96 else none)))))))) else if x2 = 45 then q_bd (f_X10_asked  u1) (fun (x98 : Int32) (u97 : qM) => q_bd (f_X11_asked  u97) (fun (x99 : Int32) (u98 : qM) => if x98 = x99 then j1 u98 else none)) else if x2 = 46 then q_bd (f_X10_strength  u1) (fun (w1 : Int64) (u99 : qM) => q_bd (f_X11_strength  u99) (fun (w2 : Int64) (u100 : qM) => if (lg_cmp w1 w2) = 0 then j1 u100 else none)) else if x2 = 47 then q_bd (f_X10_upper  u1) (fun (w3 : Int64) (u101 : qM) => q_bd (f_X11_upper  u101) (fun (w4 : Int64) (u102 : qM) => if (lg_cmp w3 w4) = 0 then j1 u102 else none)) else if x2 = 48 then q_bd (f_X10_lower  u1) (fun (w5 : Int64) (u103 : qM) => q_bd (f_X11_lower  u103) (fun (w6 : Int64) (u104 : qM) => if (lg_cmp w5 w6) = 0 then j1 u104 else none)) else if x2 = 49 then q_ck (q_in (x1 + 1) l0) (q_bd (f_X10_count (f0 (Int32.toNatClampNeg (x1 + 1))) u1) (fun (x100 : Int32) (u105 : qM) => q_ck (q_in (x1 + 1) l0) (q_bd (f_X11_count (f0 (Int32.toNatClampNeg (x1 + 1))) u105) (fun (x101 : Int32) (u106 : qM) => if x100 = x101 then j1 u106 else none)))) else if x2 = 50 then q_bd (f_X10_finding  u1) (fun (x102 : Int32) (u107 : qM) => q_bd (f_X11_finding  u107) (fun (x103 : Int32) (u108 : qM) => if x102 = x103 then j1 u108 else none)) else if x2 = 51 then q_ck (q_in (x1 + 1) l0) (q_bd (f_X10_findings (f0 (Int32.toNatClampNeg (x1 + 1))) u1) (fun (x104 : Int32) (u109 : qM) => q_ck (q_in (x1 + 1) l0) (q_bd (f_X11_findings (f0 (Int32.toNatClampNeg (x1 + 1))) u109) (fun (x105 : Int32) (u110 : qM) => if x104 = x105 then j1 u110 else none)))) else if x2 = 52 then q_bd (f_X10_digest  u1) (fun (w7 : Int64) (u111 : qM) => q_bd (f_X11_digest  u111) (fun (w8 : Int64) (u112 : qM) => if (lg_cmp w7 w8) = 0 then j1 u112 else none)) else j1 u1)))
set_option maxRecDepth 100000 in
set_option maxHeartbeats 4000000 in
theorem TL_L_law_18 (l : Launch) (G : qG) (b0 : Nat) (l0 : Nat) (f0 : Nat → Int32)  (e1 : qM → Option (Int32 × qM)) (he1 : ∀  (v : qM), qAW l G m_L_law (q_xl G b0 l0 f0) 2073 [] [] v (e1 v)) : ∀ (n : Nat) (x1 : Int32) (u1 : qM), qAW l G m_L_law (q_xl G b0 l0 f0) 18 [(0, .ref b0), (1, .ref (q_ad G 0 0)), (2, .ref (q_ad G 11 0)), (3, .int x1)] [] u1 (L_L_law_18 b0 l0 f0 n x1 u1 e1) := by
  intro n
  induction n with
  | zero => intros; exact aw_none
  | succ n ih =>
    intro x1 u1
    unfold L_L_law_18
    refine aw_iload_n (i := 3) dL_law_18 19 rfl rfl 3 rfl ?_
    refine aw_aload_n (i := 0) dL_law_19 20 rfl rfl 0 rfl ?_
    refine aw_sln (fun _ _ h => h) dL_law_20 21 rfl ?_
    refine aw_bipush (x := 7) dL_law_21 23 rfl rfl ?_
    refine aw_isub dL_law_23 24 rfl ?_
    refine aw_icmp_gt dL_law_24 27 rfl 2073 rfl (fun h1 => ?_) (fun h1 => ?_)
    · exact aw_conv [] rfl (he1 u1)
    · refine aw_aload_n (i := 0) dL_law_27 28 rfl rfl 0 rfl ?_
      refine aw_iload_n (i := 3) dL_law_28 29 rfl rfl 3 rfl ?_
      refine aw_sld (fun _ _ h => h) dL_law_29 30 rfl (fun h2 => ?_)
      refine aw_bipush (x := 63) dL_law_30 32 rfl rfl ?_
      refine aw_iand dL_law_32 33 rfl ?_
      refine aw_lti (fun x2 => ?_)
      refine aw_jn (fun k => ∀  (u2 : qM), qAW l G m_L_law (q_xl G b0 l0 f0) 2067 [(0, .ref b0), (1, .ref (q_ad G 0 0)), (2, .ref (q_ad G 11 0)), (3, .int x1)] [] u2 (k u2)) ?_ ?_
      · intro u2
        refine aw_iincx (i := 3) dL_law_2067 2070 rfl 3 rfl 7 rfl (fun x3 => [(3, .int x3), (0, .ref b0), (1, .ref (q_ad G 0 0)), (2, .ref (q_ad G 11 0))]) (by decide) (fun _ => rfl) (fun x3 => ?_)
        refine aw_goto dL_law_2070 18 rfl ?_
        exact aw_conv [1, 2, 3, 0] rfl (ih x3 u2)
      · intro j1 hj1
        refine aw_swIn (y := 0) dL_law_33 260 (by decide) (by decide) rfl rfl (fun h3 => ?_) (fun h3 => ?_)
        · refine aw_aload_n (i := 1) dL_law_260 261 rfl rfl 1 rfl ?_
          refine aw_aload_n (i := 0) dL_law_261 262 rfl rfl 0 rfl ?_
          refine aw_iload_n (i := 3) dL_law_262 263 rfl rfl 3 rfl ?_
          refine aw_iconst (x := 1) dL_law_263 264 rfl rfl ?_
          refine aw_iadd dL_law_264 265 rfl ?_
          refine aw_sld (fun _ _ h => h) dL_law_265 266 rfl (fun h4 => ?_)
          refine aw_aload_n (i := 0) dL_law_266 267 rfl rfl 0 rfl ?_
          refine aw_iload_n (i := 3) dL_law_267 268 rfl rfl 3 rfl ?_
          refine aw_iconst (x := 2) dL_law_268 269 rfl rfl ?_
          refine aw_iadd dL_law_269 270 rfl ?_
          refine aw_sld (fun _ _ h => h) dL_law_270 271 rfl (fun h5 => ?_)
          refine aw_callV (M2 := m_X10_row) (cv := q_cI) dL_law_271 274 rfl (k_X10_row l G (f0 (Int32.toNatClampNeg (x1 + 1))) (f0 (Int32.toNatClampNeg (x1 + 2)))  u1) wl_0 wv_X10_row pk_X10_row rfl rfl ⟨by decide, by decide⟩ ⟨Nat.le_of_ble_eq_true rfl, Nat.le_of_ble_eq_true rfl⟩ at_0 (ok_0 (by decide)) rfl rfl rfl (Nat.le_of_ble_eq_true rfl) (fun x4 u3 => ?_)
          show qAW l G m_L_law (q_xl G b0 l0 f0) 274 [(0, .ref b0), (1, .ref (q_ad G 0 0)), (2, .ref (q_ad G 11 0)), (3, .int x1)] [.int x4] u3 _
          refine aw_aload_n (i := 2) dL_law_274 275 rfl rfl 2 rfl ?_
          refine aw_aload_n (i := 0) dL_law_275 276 rfl rfl 0 rfl ?_
          refine aw_iload_n (i := 3) dL_law_276 277 rfl rfl 3 rfl ?_
          refine aw_iconst (x := 1) dL_law_277 278 rfl rfl ?_
          refine aw_iadd dL_law_278 279 rfl ?_
          refine aw_sld (fun _ _ h => h) dL_law_279 280 rfl (fun h6 => ?_)
          refine aw_aload_n (i := 0) dL_law_280 281 rfl rfl 0 rfl ?_
          refine aw_iload_n (i := 3) dL_law_281 282 rfl rfl 3 rfl ?_
          refine aw_iconst (x := 2) dL_law_282 283 rfl rfl ?_
          refine aw_iadd dL_law_283 284 rfl ?_
          refine aw_sld (fun _ _ h => h) dL_law_284 285 rfl (fun h7 => ?_)
          refine aw_callV (M2 := m_X11_row) (cv := q_cI) dL_law_285 288 rfl (k_X11_row l G (f0 (Int32.toNatClampNeg (x1 + 1))) (f0 (Int32.toNatClampNeg (x1 + 2)))  u3) wl_1 wv_X11_row pk_X11_row rfl rfl ⟨by decide, by decide⟩ ⟨Nat.le_of_ble_eq_true rfl, Nat.le_of_ble_eq_true rfl⟩ at_11 (ok_11 (by decide)) rfl rfl rfl (Nat.le_of_ble_eq_true rfl) (fun x5 u4 => ?_)
          show qAW l G m_L_law (q_xl G b0 l0 f0) 288 [(0, .ref b0), (1, .ref (q_ad G 0 0)), (2, .ref (q_ad G 11 0)), (3, .int x1)] [.int x5, .int x4] u4 _
          refine aw_icmp_eq dL_law_288 291 rfl 2067 rfl (fun h8 => ?_) (fun h8 => ?_)
          · exact hj1 u4
          · exact aw_none
        · refine aw_swIn (y := 1) dL_law_33 293 (by decide) (by decide) rfl rfl (fun h9 => ?_) (fun h9 => ?_)
          · refine aw_aload_n (i := 1) dL_law_293 294 rfl rfl 1 rfl ?_
            refine aw_aload_n (i := 0) dL_law_294 295 rfl rfl 0 rfl ?_
            refine aw_iload_n (i := 3) dL_law_295 296 rfl rfl 3 rfl ?_
            refine aw_iconst (x := 1) dL_law_296 297 rfl rfl ?_
            refine aw_iadd dL_law_297 298 rfl ?_
            refine aw_sld (fun _ _ h => h) dL_law_298 299 rfl (fun h10 => ?_)
            refine aw_aload_n (i := 0) dL_law_299 300 rfl rfl 0 rfl ?_
            refine aw_iload_n (i := 3) dL_law_300 301 rfl rfl 3 rfl ?_
            refine aw_iconst (x := 2) dL_law_301 302 rfl rfl ?_
            refine aw_iadd dL_law_302 303 rfl ?_
            refine aw_sld (fun _ _ h => h) dL_law_303 304 rfl (fun h11 => ?_)
            refine aw_aload_n (i := 0) dL_law_304 305 rfl rfl 0 rfl ?_
            refine aw_iload_n (i := 3) dL_law_305 306 rfl rfl 3 rfl ?_
            refine aw_iconst (x := 3) dL_law_306 307 rfl rfl ?_
            refine aw_iadd dL_law_307 308 rfl ?_
            refine aw_sld (fun _ _ h => h) dL_law_308 309 rfl (fun h12 => ?_)
            refine aw_callV (M2 := m_X10_lay) (cv := q_cI) dL_law_309 312 rfl (k_X10_lay l G (f0 (Int32.toNatClampNeg (x1 + 1))) (f0 (Int32.toNatClampNeg (x1 + 2))) (f0 (Int32.toNatClampNeg (x1 + 3)))  u1) wl_2 wv_X10_lay pk_X10_lay rfl rfl ⟨by decide, by decide⟩ ⟨Nat.le_of_ble_eq_true rfl, Nat.le_of_ble_eq_true rfl⟩ at_0 (ok_0 (by decide)) rfl rfl rfl (Nat.le_of_ble_eq_true rfl) (fun x6 u5 => ?_)
            show qAW l G m_L_law (q_xl G b0 l0 f0) 312 [(0, .ref b0), (1, .ref (q_ad G 0 0)), (2, .ref (q_ad G 11 0)), (3, .int x1)] [.int x6] u5 _
            refine aw_aload_n (i := 2) dL_law_312 313 rfl rfl 2 rfl ?_
            refine aw_aload_n (i := 0) dL_law_313 314 rfl rfl 0 rfl ?_
            refine aw_iload_n (i := 3) dL_law_314 315 rfl rfl 3 rfl ?_
            refine aw_iconst (x := 1) dL_law_315 316 rfl rfl ?_
            refine aw_iadd dL_law_316 317 rfl ?_
            refine aw_sld (fun _ _ h => h) dL_law_317 318 rfl (fun h13 => ?_)
            refine aw_aload_n (i := 0) dL_law_318 319 rfl rfl 0 rfl ?_
            refine aw_iload_n (i := 3) dL_law_319 320 rfl rfl 3 rfl ?_
            refine aw_iconst (x := 2) dL_law_320 321 rfl rfl ?_
            refine aw_iadd dL_law_321 322 rfl ?_
            refine aw_sld (fun _ _ h => h) dL_law_322 323 rfl (fun h14 => ?_)
            refine aw_aload_n (i := 0) dL_law_323 324 rfl rfl 0 rfl ?_
            refine aw_iload_n (i := 3) dL_law_324 325 rfl rfl 3 rfl ?_
            refine aw_iconst (x := 3) dL_law_325 326 rfl rfl ?_
            refine aw_iadd dL_law_326 327 rfl ?_
            refine aw_sld (fun _ _ h => h) dL_law_327 328 rfl (fun h15 => ?_)
            refine aw_callV (M2 := m_X11_lay) (cv := q_cI) dL_law_328 331 rfl (k_X11_lay l G (f0 (Int32.toNatClampNeg (x1 + 1))) (f0 (Int32.toNatClampNeg (x1 + 2))) (f0 (Int32.toNatClampNeg (x1 + 3)))  u5) wl_3 wv_X11_lay pk_X11_lay rfl rfl ⟨by decide, by decide⟩ ⟨Nat.le_of_ble_eq_true rfl, Nat.le_of_ble_eq_true rfl⟩ at_11 (ok_11 (by decide)) rfl rfl rfl (Nat.le_of_ble_eq_true rfl) (fun x7 u6 => ?_)
            show qAW l G m_L_law (q_xl G b0 l0 f0) 331 [(0, .ref b0), (1, .ref (q_ad G 0 0)), (2, .ref (q_ad G 11 0)), (3, .int x1)] [.int x7, .int x6] u6 _
            refine aw_icmp_eq dL_law_331 334 rfl 2067 rfl (fun h16 => ?_) (fun h16 => ?_)
            · exact hj1 u6
            · exact aw_none
          · refine aw_swIn (y := 2) dL_law_33 336 (by decide) (by decide) rfl rfl (fun h17 => ?_) (fun h17 => ?_)
            · refine aw_aload_n (i := 1) dL_law_336 337 rfl rfl 1 rfl ?_
              refine aw_aload_n (i := 0) dL_law_337 338 rfl rfl 0 rfl ?_
              refine aw_iload_n (i := 3) dL_law_338 339 rfl rfl 3 rfl ?_
              refine aw_iconst (x := 1) dL_law_339 340 rfl rfl ?_
              refine aw_iadd dL_law_340 341 rfl ?_
              refine aw_sld (fun _ _ h => h) dL_law_341 342 rfl (fun h18 => ?_)
              refine aw_callV (M2 := m_X10_tear) (cv := q_cI) dL_law_342 345 rfl (k_X10_tear l G (f0 (Int32.toNatClampNeg (x1 + 1)))  u1) wl_4 wv_X10_tear pk_X10_tear rfl rfl ⟨by decide, by decide⟩ ⟨Nat.le_of_ble_eq_true rfl, Nat.le_of_ble_eq_true rfl⟩ at_0 (ok_0 (by decide)) rfl rfl rfl (Nat.le_of_ble_eq_true rfl) (fun x8 u7 => ?_)
              show qAW l G m_L_law (q_xl G b0 l0 f0) 345 [(0, .ref b0), (1, .ref (q_ad G 0 0)), (2, .ref (q_ad G 11 0)), (3, .int x1)] [.int x8] u7 _
              refine aw_aload_n (i := 2) dL_law_345 346 rfl rfl 2 rfl ?_
              refine aw_aload_n (i := 0) dL_law_346 347 rfl rfl 0 rfl ?_
              refine aw_iload_n (i := 3) dL_law_347 348 rfl rfl 3 rfl ?_
              refine aw_iconst (x := 1) dL_law_348 349 rfl rfl ?_
              refine aw_iadd dL_law_349 350 rfl ?_
              refine aw_sld (fun _ _ h => h) dL_law_350 351 rfl (fun h19 => ?_)
              refine aw_callV (M2 := m_X11_tear) (cv := q_cI) dL_law_351 354 rfl (k_X11_tear l G (f0 (Int32.toNatClampNeg (x1 + 1)))  u7) wl_5 wv_X11_tear pk_X11_tear rfl rfl ⟨by decide, by decide⟩ ⟨Nat.le_of_ble_eq_true rfl, Nat.le_of_ble_eq_true rfl⟩ at_11 (ok_11 (by decide)) rfl rfl rfl (Nat.le_of_ble_eq_true rfl) (fun x9 u8 => ?_)
              show qAW l G m_L_law (q_xl G b0 l0 f0) 354 [(0, .ref b0), (1, .ref (q_ad G 0 0)), (2, .ref (q_ad G 11 0)), (3, .int x1)] [.int x9, .int x8] u8 _
              refine aw_icmp_eq dL_law_354 357 rfl 2067 rfl (fun h20 => ?_) (fun h20 => ?_)
              · exact hj1 u8
              · exact aw_none
            · refine aw_swIn (y := 3) dL_law_33 359 (by decide) (by decide) rfl rfl (fun h21 => ?_) (fun h21 => ?_)
              · refine aw_aload_n (i := 1) dL_law_359 360 rfl rfl 1 rfl ?_
                refine aw_aload_n (i := 0) dL_law_360 361 rfl rfl 0 rfl ?_
                refine aw_iload_n (i := 3) dL_law_361 362 rfl rfl 3 rfl ?_
                refine aw_iconst (x := 1) dL_law_362 363 rfl rfl ?_
                refine aw_iadd dL_law_363 364 rfl ?_
                refine aw_sld (fun _ _ h => h) dL_law_364 365 rfl (fun h22 => ?_)
                refine aw_aload_n (i := 0) dL_law_365 366 rfl rfl 0 rfl ?_
                refine aw_iload_n (i := 3) dL_law_366 367 rfl rfl 3 rfl ?_
                refine aw_iconst (x := 2) dL_law_367 368 rfl rfl ?_
                refine aw_iadd dL_law_368 369 rfl ?_
                refine aw_sld (fun _ _ h => h) dL_law_369 370 rfl (fun h23 => ?_)
                refine aw_aload_n (i := 0) dL_law_370 371 rfl rfl 0 rfl ?_
                refine aw_iload_n (i := 3) dL_law_371 372 rfl rfl 3 rfl ?_
                refine aw_iconst (x := 3) dL_law_372 373 rfl rfl ?_
                refine aw_iadd dL_law_373 374 rfl ?_
                refine aw_sld (fun _ _ h => h) dL_law_374 375 rfl (fun h24 => ?_)
                refine aw_aload_n (i := 0) dL_law_375 376 rfl rfl 0 rfl ?_
                refine aw_iload_n (i := 3) dL_law_376 377 rfl rfl 3 rfl ?_
                refine aw_iconst (x := 4) dL_law_377 378 rfl rfl ?_
                refine aw_iadd dL_law_378 379 rfl ?_
                refine aw_sld (fun _ _ h => h) dL_law_379 380 rfl (fun h25 => ?_)
                refine aw_aload_n (i := 0) dL_law_380 381 rfl rfl 0 rfl ?_
                refine aw_iload_n (i := 3) dL_law_381 382 rfl rfl 3 rfl ?_
                refine aw_iconst (x := 5) dL_law_382 383 rfl rfl ?_
                refine aw_iadd dL_law_383 384 rfl ?_
                refine aw_sld (fun _ _ h => h) dL_law_384 385 rfl (fun h26 => ?_)
                refine aw_callV (M2 := m_X10_copy) (cv := q_cI) dL_law_385 388 rfl (k_X10_copy l G (f0 (Int32.toNatClampNeg (x1 + 1))) (f0 (Int32.toNatClampNeg (x1 + 2))) (f0 (Int32.toNatClampNeg (x1 + 3))) (f0 (Int32.toNatClampNeg (x1 + 4))) (f0 (Int32.toNatClampNeg (x1 + 5)))  u1) wl_6 wv_X10_copy pk_X10_copy rfl rfl ⟨by decide, by decide⟩ ⟨Nat.le_of_ble_eq_true rfl, Nat.le_of_ble_eq_true rfl⟩ at_0 (ok_0 (by decide)) rfl rfl rfl (Nat.le_of_ble_eq_true rfl) (fun x10 u9 => ?_)
                show qAW l G m_L_law (q_xl G b0 l0 f0) 388 [(0, .ref b0), (1, .ref (q_ad G 0 0)), (2, .ref (q_ad G 11 0)), (3, .int x1)] [.int x10] u9 _
                refine aw_aload_n (i := 2) dL_law_388 389 rfl rfl 2 rfl ?_
                refine aw_aload_n (i := 0) dL_law_389 390 rfl rfl 0 rfl ?_
                refine aw_iload_n (i := 3) dL_law_390 391 rfl rfl 3 rfl ?_
                refine aw_iconst (x := 1) dL_law_391 392 rfl rfl ?_
                refine aw_iadd dL_law_392 393 rfl ?_
                refine aw_sld (fun _ _ h => h) dL_law_393 394 rfl (fun h27 => ?_)
                refine aw_aload_n (i := 0) dL_law_394 395 rfl rfl 0 rfl ?_
                refine aw_iload_n (i := 3) dL_law_395 396 rfl rfl 3 rfl ?_
                refine aw_iconst (x := 2) dL_law_396 397 rfl rfl ?_
                refine aw_iadd dL_law_397 398 rfl ?_
                refine aw_sld (fun _ _ h => h) dL_law_398 399 rfl (fun h28 => ?_)
                refine aw_aload_n (i := 0) dL_law_399 400 rfl rfl 0 rfl ?_
                refine aw_iload_n (i := 3) dL_law_400 401 rfl rfl 3 rfl ?_
                refine aw_iconst (x := 3) dL_law_401 402 rfl rfl ?_
                refine aw_iadd dL_law_402 403 rfl ?_
                refine aw_sld (fun _ _ h => h) dL_law_403 404 rfl (fun h29 => ?_)
                refine aw_aload_n (i := 0) dL_law_404 405 rfl rfl 0 rfl ?_
                refine aw_iload_n (i := 3) dL_law_405 406 rfl rfl 3 rfl ?_
                refine aw_iconst (x := 4) dL_law_406 407 rfl rfl ?_
                refine aw_iadd dL_law_407 408 rfl ?_
                refine aw_sld (fun _ _ h => h) dL_law_408 409 rfl (fun h30 => ?_)
                refine aw_aload_n (i := 0) dL_law_409 410 rfl rfl 0 rfl ?_
                refine aw_iload_n (i := 3) dL_law_410 411 rfl rfl 3 rfl ?_
                refine aw_iconst (x := 5) dL_law_411 412 rfl rfl ?_
                refine aw_iadd dL_law_412 413 rfl ?_
                refine aw_sld (fun _ _ h => h) dL_law_413 414 rfl (fun h31 => ?_)
                refine aw_callV (M2 := m_X11_copy) (cv := q_cI) dL_law_414 417 rfl (k_X11_copy l G (f0 (Int32.toNatClampNeg (x1 + 1))) (f0 (Int32.toNatClampNeg (x1 + 2))) (f0 (Int32.toNatClampNeg (x1 + 3))) (f0 (Int32.toNatClampNeg (x1 + 4))) (f0 (Int32.toNatClampNeg (x1 + 5)))  u9) wl_7 wv_X11_copy pk_X11_copy rfl rfl ⟨by decide, by decide⟩ ⟨Nat.le_of_ble_eq_true rfl, Nat.le_of_ble_eq_true rfl⟩ at_11 (ok_11 (by decide)) rfl rfl rfl (Nat.le_of_ble_eq_true rfl) (fun x11 u10 => ?_)
                show qAW l G m_L_law (q_xl G b0 l0 f0) 417 [(0, .ref b0), (1, .ref (q_ad G 0 0)), (2, .ref (q_ad G 11 0)), (3, .int x1)] [.int x11, .int x10] u10 _
                refine aw_icmp_eq dL_law_417 420 rfl 2067 rfl (fun h32 => ?_) (fun h32 => ?_)
                · exact hj1 u10
                · exact aw_none
              · refine aw_swIn (y := 4) dL_law_33 422 (by decide) (by decide) rfl rfl (fun h33 => ?_) (fun h33 => ?_)
                · refine aw_aload_n (i := 1) dL_law_422 423 rfl rfl 1 rfl ?_
                  refine aw_aload_n (i := 0) dL_law_423 424 rfl rfl 0 rfl ?_
                  refine aw_iload_n (i := 3) dL_law_424 425 rfl rfl 3 rfl ?_
                  refine aw_iconst (x := 1) dL_law_425 426 rfl rfl ?_
                  refine aw_iadd dL_law_426 427 rfl ?_
                  refine aw_sld (fun _ _ h => h) dL_law_427 428 rfl (fun h34 => ?_)
                  refine aw_callV (M2 := m_X10_mean) (cv := q_cI) dL_law_428 431 rfl (k_X10_mean l G (f0 (Int32.toNatClampNeg (x1 + 1)))  u1) wl_8 wv_X10_mean pk_X10_mean rfl rfl ⟨by decide, by decide⟩ ⟨Nat.le_of_ble_eq_true rfl, Nat.le_of_ble_eq_true rfl⟩ at_0 (ok_0 (by decide)) rfl rfl rfl (Nat.le_of_ble_eq_true rfl) (fun x12 u11 => ?_)
                  show qAW l G m_L_law (q_xl G b0 l0 f0) 431 [(0, .ref b0), (1, .ref (q_ad G 0 0)), (2, .ref (q_ad G 11 0)), (3, .int x1)] [.int x12] u11 _
                  refine aw_aload_n (i := 2) dL_law_431 432 rfl rfl 2 rfl ?_
                  refine aw_aload_n (i := 0) dL_law_432 433 rfl rfl 0 rfl ?_
                  refine aw_iload_n (i := 3) dL_law_433 434 rfl rfl 3 rfl ?_
                  refine aw_iconst (x := 1) dL_law_434 435 rfl rfl ?_
                  refine aw_iadd dL_law_435 436 rfl ?_
                  refine aw_sld (fun _ _ h => h) dL_law_436 437 rfl (fun h35 => ?_)
                  refine aw_callV (M2 := m_X11_mean) (cv := q_cI) dL_law_437 440 rfl (k_X11_mean l G (f0 (Int32.toNatClampNeg (x1 + 1)))  u11) wl_9 wv_X11_mean pk_X11_mean rfl rfl ⟨by decide, by decide⟩ ⟨Nat.le_of_ble_eq_true rfl, Nat.le_of_ble_eq_true rfl⟩ at_11 (ok_11 (by decide)) rfl rfl rfl (Nat.le_of_ble_eq_true rfl) (fun x13 u12 => ?_)
                  show qAW l G m_L_law (q_xl G b0 l0 f0) 440 [(0, .ref b0), (1, .ref (q_ad G 0 0)), (2, .ref (q_ad G 11 0)), (3, .int x1)] [.int x13, .int x12] u12 _
                  refine aw_icmp_eq dL_law_440 443 rfl 2067 rfl (fun h36 => ?_) (fun h36 => ?_)
                  · exact hj1 u12
                  · exact aw_none
                · refine aw_swIn (y := 5) dL_law_33 445 (by decide) (by decide) rfl rfl (fun h37 => ?_) (fun h37 => ?_)
                  · refine aw_aload_n (i := 1) dL_law_445 446 rfl rfl 1 rfl ?_
                    refine aw_aload_n (i := 0) dL_law_446 447 rfl rfl 0 rfl ?_
                    refine aw_iload_n (i := 3) dL_law_447 448 rfl rfl 3 rfl ?_
                    refine aw_iconst (x := 1) dL_law_448 449 rfl rfl ?_
                    refine aw_iadd dL_law_449 450 rfl ?_
                    refine aw_sld (fun _ _ h => h) dL_law_450 451 rfl (fun h38 => ?_)
                    refine aw_aload_n (i := 0) dL_law_451 452 rfl rfl 0 rfl ?_
                    refine aw_iload_n (i := 3) dL_law_452 453 rfl rfl 3 rfl ?_
                    refine aw_iconst (x := 2) dL_law_453 454 rfl rfl ?_
                    refine aw_iadd dL_law_454 455 rfl ?_
                    refine aw_sld (fun _ _ h => h) dL_law_455 456 rfl (fun h39 => ?_)
                    refine aw_callV (M2 := m_X10_text) (cv := q_cI) dL_law_456 459 rfl (k_X10_text l G (f0 (Int32.toNatClampNeg (x1 + 1))) (f0 (Int32.toNatClampNeg (x1 + 2)))  u1) wl_10 wv_X10_text pk_X10_text rfl rfl ⟨by decide, by decide⟩ ⟨Nat.le_of_ble_eq_true rfl, Nat.le_of_ble_eq_true rfl⟩ at_0 (ok_0 (by decide)) rfl rfl rfl (Nat.le_of_ble_eq_true rfl) (fun x14 u13 => ?_)
                    show qAW l G m_L_law (q_xl G b0 l0 f0) 459 [(0, .ref b0), (1, .ref (q_ad G 0 0)), (2, .ref (q_ad G 11 0)), (3, .int x1)] [.int x14] u13 _
                    refine aw_aload_n (i := 2) dL_law_459 460 rfl rfl 2 rfl ?_
                    refine aw_aload_n (i := 0) dL_law_460 461 rfl rfl 0 rfl ?_
                    refine aw_iload_n (i := 3) dL_law_461 462 rfl rfl 3 rfl ?_
                    refine aw_iconst (x := 1) dL_law_462 463 rfl rfl ?_
                    refine aw_iadd dL_law_463 464 rfl ?_
                    refine aw_sld (fun _ _ h => h) dL_law_464 465 rfl (fun h40 => ?_)
                    refine aw_aload_n (i := 0) dL_law_465 466 rfl rfl 0 rfl ?_
                    refine aw_iload_n (i := 3) dL_law_466 467 rfl rfl 3 rfl ?_
                    refine aw_iconst (x := 2) dL_law_467 468 rfl rfl ?_
                    refine aw_iadd dL_law_468 469 rfl ?_
                    refine aw_sld (fun _ _ h => h) dL_law_469 470 rfl (fun h41 => ?_)
                    refine aw_callV (M2 := m_X11_text) (cv := q_cI) dL_law_470 473 rfl (k_X11_text l G (f0 (Int32.toNatClampNeg (x1 + 1))) (f0 (Int32.toNatClampNeg (x1 + 2)))  u13) wl_11 wv_X11_text pk_X11_text rfl rfl ⟨by decide, by decide⟩ ⟨Nat.le_of_ble_eq_true rfl, Nat.le_of_ble_eq_true rfl⟩ at_11 (ok_11 (by decide)) rfl rfl rfl (Nat.le_of_ble_eq_true rfl) (fun x15 u14 => ?_)
                    show qAW l G m_L_law (q_xl G b0 l0 f0) 473 [(0, .ref b0), (1, .ref (q_ad G 0 0)), (2, .ref (q_ad G 11 0)), (3, .int x1)] [.int x15, .int x14] u14 _
                    refine aw_icmp_eq dL_law_473 476 rfl 2067 rfl (fun h42 => ?_) (fun h42 => ?_)
                    · exact hj1 u14
                    · exact aw_none
                  · refine aw_swIn (y := 6) dL_law_33 478 (by decide) (by decide) rfl rfl (fun h43 => ?_) (fun h43 => ?_)
                    · refine aw_aload_n (i := 1) dL_law_478 479 rfl rfl 1 rfl ?_
                      refine aw_aload_n (i := 0) dL_law_479 480 rfl rfl 0 rfl ?_
                      refine aw_iload_n (i := 3) dL_law_480 481 rfl rfl 3 rfl ?_
                      refine aw_iconst (x := 1) dL_law_481 482 rfl rfl ?_
                      refine aw_iadd dL_law_482 483 rfl ?_
                      refine aw_sld (fun _ _ h => h) dL_law_483 484 rfl (fun h44 => ?_)
                      refine aw_aload_n (i := 0) dL_law_484 485 rfl rfl 0 rfl ?_
                      refine aw_iload_n (i := 3) dL_law_485 486 rfl rfl 3 rfl ?_
                      refine aw_iconst (x := 2) dL_law_486 487 rfl rfl ?_
                      refine aw_iadd dL_law_487 488 rfl ?_
                      refine aw_sld (fun _ _ h => h) dL_law_488 489 rfl (fun h45 => ?_)
                      refine aw_aload_n (i := 0) dL_law_489 490 rfl rfl 0 rfl ?_
                      refine aw_iload_n (i := 3) dL_law_490 491 rfl rfl 3 rfl ?_
                      refine aw_iconst (x := 3) dL_law_491 492 rfl rfl ?_
                      refine aw_iadd dL_law_492 493 rfl ?_
                      refine aw_sld (fun _ _ h => h) dL_law_493 494 rfl (fun h46 => ?_)
                      refine aw_callV (M2 := m_X10_put) (cv := q_cI) dL_law_494 497 rfl (k_X10_put l G (f0 (Int32.toNatClampNeg (x1 + 1))) (f0 (Int32.toNatClampNeg (x1 + 2))) (f0 (Int32.toNatClampNeg (x1 + 3)))  u1) wl_12 wv_X10_put pk_X10_put rfl rfl ⟨by decide, by decide⟩ ⟨Nat.le_of_ble_eq_true rfl, Nat.le_of_ble_eq_true rfl⟩ at_0 (ok_0 (by decide)) rfl rfl rfl (Nat.le_of_ble_eq_true rfl) (fun x16 u15 => ?_)
                      show qAW l G m_L_law (q_xl G b0 l0 f0) 497 [(0, .ref b0), (1, .ref (q_ad G 0 0)), (2, .ref (q_ad G 11 0)), (3, .int x1)] [.int x16] u15 _
                      refine aw_aload_n (i := 2) dL_law_497 498 rfl rfl 2 rfl ?_
                      refine aw_aload_n (i := 0) dL_law_498 499 rfl rfl 0 rfl ?_
                      refine aw_iload_n (i := 3) dL_law_499 500 rfl rfl 3 rfl ?_
                      refine aw_iconst (x := 1) dL_law_500 501 rfl rfl ?_
                      refine aw_iadd dL_law_501 502 rfl ?_
                      refine aw_sld (fun _ _ h => h) dL_law_502 503 rfl (fun h47 => ?_)
                      refine aw_aload_n (i := 0) dL_law_503 504 rfl rfl 0 rfl ?_
                      refine aw_iload_n (i := 3) dL_law_504 505 rfl rfl 3 rfl ?_
                      refine aw_iconst (x := 2) dL_law_505 506 rfl rfl ?_
                      refine aw_iadd dL_law_506 507 rfl ?_
                      refine aw_sld (fun _ _ h => h) dL_law_507 508 rfl (fun h48 => ?_)
                      refine aw_aload_n (i := 0) dL_law_508 509 rfl rfl 0 rfl ?_
                      refine aw_iload_n (i := 3) dL_law_509 510 rfl rfl 3 rfl ?_
                      refine aw_iconst (x := 3) dL_law_510 511 rfl rfl ?_
                      refine aw_iadd dL_law_511 512 rfl ?_
                      refine aw_sld (fun _ _ h => h) dL_law_512 513 rfl (fun h49 => ?_)
                      refine aw_callV (M2 := m_X11_put) (cv := q_cI) dL_law_513 516 rfl (k_X11_put l G (f0 (Int32.toNatClampNeg (x1 + 1))) (f0 (Int32.toNatClampNeg (x1 + 2))) (f0 (Int32.toNatClampNeg (x1 + 3)))  u15) wl_13 wv_X11_put pk_X11_put rfl rfl ⟨by decide, by decide⟩ ⟨Nat.le_of_ble_eq_true rfl, Nat.le_of_ble_eq_true rfl⟩ at_11 (ok_11 (by decide)) rfl rfl rfl (Nat.le_of_ble_eq_true rfl) (fun x17 u16 => ?_)
                      show qAW l G m_L_law (q_xl G b0 l0 f0) 516 [(0, .ref b0), (1, .ref (q_ad G 0 0)), (2, .ref (q_ad G 11 0)), (3, .int x1)] [.int x17, .int x16] u16 _
                      refine aw_icmp_eq dL_law_516 519 rfl 2067 rfl (fun h50 => ?_) (fun h50 => ?_)
                      · exact hj1 u16
                      · exact aw_none
                    · refine aw_swIn (y := 7) dL_law_33 521 (by decide) (by decide) rfl rfl (fun h51 => ?_) (fun h51 => ?_)
                      · refine aw_aload_n (i := 1) dL_law_521 522 rfl rfl 1 rfl ?_
                        refine aw_aload_n (i := 0) dL_law_522 523 rfl rfl 0 rfl ?_
                        refine aw_iload_n (i := 3) dL_law_523 524 rfl rfl 3 rfl ?_
                        refine aw_iconst (x := 1) dL_law_524 525 rfl rfl ?_
                        refine aw_iadd dL_law_525 526 rfl ?_
                        refine aw_sld (fun _ _ h => h) dL_law_526 527 rfl (fun h52 => ?_)
                        refine aw_callV (M2 := m_X10_burn) (cv := q_cI) dL_law_527 530 rfl (k_X10_burn l G (f0 (Int32.toNatClampNeg (x1 + 1)))  u1) wl_14 wv_X10_burn pk_X10_burn rfl rfl ⟨by decide, by decide⟩ ⟨Nat.le_of_ble_eq_true rfl, Nat.le_of_ble_eq_true rfl⟩ at_0 (ok_0 (by decide)) rfl rfl rfl (Nat.le_of_ble_eq_true rfl) (fun x18 u17 => ?_)
                        show qAW l G m_L_law (q_xl G b0 l0 f0) 530 [(0, .ref b0), (1, .ref (q_ad G 0 0)), (2, .ref (q_ad G 11 0)), (3, .int x1)] [.int x18] u17 _
                        refine aw_aload_n (i := 2) dL_law_530 531 rfl rfl 2 rfl ?_
                        refine aw_aload_n (i := 0) dL_law_531 532 rfl rfl 0 rfl ?_
                        refine aw_iload_n (i := 3) dL_law_532 533 rfl rfl 3 rfl ?_
                        refine aw_iconst (x := 1) dL_law_533 534 rfl rfl ?_
                        refine aw_iadd dL_law_534 535 rfl ?_
                        refine aw_sld (fun _ _ h => h) dL_law_535 536 rfl (fun h53 => ?_)
                        refine aw_callV (M2 := m_X11_burn) (cv := q_cI) dL_law_536 539 rfl (k_X11_burn l G (f0 (Int32.toNatClampNeg (x1 + 1)))  u17) wl_15 wv_X11_burn pk_X11_burn rfl rfl ⟨by decide, by decide⟩ ⟨Nat.le_of_ble_eq_true rfl, Nat.le_of_ble_eq_true rfl⟩ at_11 (ok_11 (by decide)) rfl rfl rfl (Nat.le_of_ble_eq_true rfl) (fun x19 u18 => ?_)
                        show qAW l G m_L_law (q_xl G b0 l0 f0) 539 [(0, .ref b0), (1, .ref (q_ad G 0 0)), (2, .ref (q_ad G 11 0)), (3, .int x1)] [.int x19, .int x18] u18 _
                        refine aw_icmp_eq dL_law_539 542 rfl 2067 rfl (fun h54 => ?_) (fun h54 => ?_)
                        · exact hj1 u18
                        · exact aw_none
                      · refine aw_swIn (y := 8) dL_law_33 544 (by decide) (by decide) rfl rfl (fun h55 => ?_) (fun h55 => ?_)
                        · refine aw_aload_n (i := 1) dL_law_544 545 rfl rfl 1 rfl ?_
                          refine aw_aload_n (i := 0) dL_law_545 546 rfl rfl 0 rfl ?_
                          refine aw_iload_n (i := 3) dL_law_546 547 rfl rfl 3 rfl ?_
                          refine aw_iconst (x := 1) dL_law_547 548 rfl rfl ?_
                          refine aw_iadd dL_law_548 549 rfl ?_
                          refine aw_sld (fun _ _ h => h) dL_law_549 550 rfl (fun h56 => ?_)
                          refine aw_callV (M2 := m_X10_fault) (cv := q_cI) dL_law_550 553 rfl (k_X10_fault l G (f0 (Int32.toNatClampNeg (x1 + 1)))  u1) wl_16 wv_X10_fault pk_X10_fault rfl rfl ⟨by decide, by decide⟩ ⟨Nat.le_of_ble_eq_true rfl, Nat.le_of_ble_eq_true rfl⟩ at_0 (ok_0 (by decide)) rfl rfl rfl (Nat.le_of_ble_eq_true rfl) (fun x20 u19 => ?_)
                          show qAW l G m_L_law (q_xl G b0 l0 f0) 553 [(0, .ref b0), (1, .ref (q_ad G 0 0)), (2, .ref (q_ad G 11 0)), (3, .int x1)] [.int x20] u19 _
                          refine aw_aload_n (i := 2) dL_law_553 554 rfl rfl 2 rfl ?_
                          refine aw_aload_n (i := 0) dL_law_554 555 rfl rfl 0 rfl ?_
                          refine aw_iload_n (i := 3) dL_law_555 556 rfl rfl 3 rfl ?_
                          refine aw_iconst (x := 1) dL_law_556 557 rfl rfl ?_
                          refine aw_iadd dL_law_557 558 rfl ?_
                          refine aw_sld (fun _ _ h => h) dL_law_558 559 rfl (fun h57 => ?_)
                          refine aw_callV (M2 := m_X11_fault) (cv := q_cI) dL_law_559 562 rfl (k_X11_fault l G (f0 (Int32.toNatClampNeg (x1 + 1)))  u19) wl_17 wv_X11_fault pk_X11_fault rfl rfl ⟨by decide, by decide⟩ ⟨Nat.le_of_ble_eq_true rfl, Nat.le_of_ble_eq_true rfl⟩ at_11 (ok_11 (by decide)) rfl rfl rfl (Nat.le_of_ble_eq_true rfl) (fun x21 u20 => ?_)
                          show qAW l G m_L_law (q_xl G b0 l0 f0) 562 [(0, .ref b0), (1, .ref (q_ad G 0 0)), (2, .ref (q_ad G 11 0)), (3, .int x1)] [.int x21, .int x20] u20 _
                          refine aw_icmp_eq dL_law_562 565 rfl 2067 rfl (fun h58 => ?_) (fun h58 => ?_)
                          · exact hj1 u20
                          · exact aw_none
                        · refine aw_swIn (y := 9) dL_law_33 567 (by decide) (by decide) rfl rfl (fun h59 => ?_) (fun h59 => ?_)
                          · refine aw_aload_n (i := 1) dL_law_567 568 rfl rfl 1 rfl ?_
                            refine aw_aload_n (i := 0) dL_law_568 569 rfl rfl 0 rfl ?_
                            refine aw_iload_n (i := 3) dL_law_569 570 rfl rfl 3 rfl ?_
                            refine aw_iconst (x := 1) dL_law_570 571 rfl rfl ?_
                            refine aw_iadd dL_law_571 572 rfl ?_
                            refine aw_sld (fun _ _ h => h) dL_law_572 573 rfl (fun h60 => ?_)
                            refine aw_aload_n (i := 0) dL_law_573 574 rfl rfl 0 rfl ?_
                            refine aw_iload_n (i := 3) dL_law_574 575 rfl rfl 3 rfl ?_
                            refine aw_iconst (x := 2) dL_law_575 576 rfl rfl ?_
                            refine aw_iadd dL_law_576 577 rfl ?_
                            refine aw_sld (fun _ _ h => h) dL_law_577 578 rfl (fun h61 => ?_)
                            refine aw_aload_n (i := 0) dL_law_578 579 rfl rfl 0 rfl ?_
                            refine aw_iload_n (i := 3) dL_law_579 580 rfl rfl 3 rfl ?_
                            refine aw_iconst (x := 3) dL_law_580 581 rfl rfl ?_
                            refine aw_iadd dL_law_581 582 rfl ?_
                            refine aw_sld (fun _ _ h => h) dL_law_582 583 rfl (fun h62 => ?_)
                            refine aw_aload_n (i := 0) dL_law_583 584 rfl rfl 0 rfl ?_
                            refine aw_iload_n (i := 3) dL_law_584 585 rfl rfl 3 rfl ?_
                            refine aw_iconst (x := 4) dL_law_585 586 rfl rfl ?_
                            refine aw_iadd dL_law_586 587 rfl ?_
                            refine aw_sld (fun _ _ h => h) dL_law_587 588 rfl (fun h63 => ?_)
                            refine aw_callV (M2 := m_X10_board) (cv := q_cI) dL_law_588 591 rfl (k_X10_board l G (f0 (Int32.toNatClampNeg (x1 + 1))) (f0 (Int32.toNatClampNeg (x1 + 2))) (f0 (Int32.toNatClampNeg (x1 + 3))) (f0 (Int32.toNatClampNeg (x1 + 4)))  u1) wl_18 wv_X10_board pk_X10_board rfl rfl ⟨by decide, by decide⟩ ⟨Nat.le_of_ble_eq_true rfl, Nat.le_of_ble_eq_true rfl⟩ at_0 (ok_0 (by decide)) rfl rfl rfl (Nat.le_of_ble_eq_true rfl) (fun x22 u21 => ?_)
                            show qAW l G m_L_law (q_xl G b0 l0 f0) 591 [(0, .ref b0), (1, .ref (q_ad G 0 0)), (2, .ref (q_ad G 11 0)), (3, .int x1)] [.int x22] u21 _
                            refine aw_aload_n (i := 2) dL_law_591 592 rfl rfl 2 rfl ?_
                            refine aw_aload_n (i := 0) dL_law_592 593 rfl rfl 0 rfl ?_
                            refine aw_iload_n (i := 3) dL_law_593 594 rfl rfl 3 rfl ?_
                            refine aw_iconst (x := 1) dL_law_594 595 rfl rfl ?_
                            refine aw_iadd dL_law_595 596 rfl ?_
                            refine aw_sld (fun _ _ h => h) dL_law_596 597 rfl (fun h64 => ?_)
                            refine aw_aload_n (i := 0) dL_law_597 598 rfl rfl 0 rfl ?_
                            refine aw_iload_n (i := 3) dL_law_598 599 rfl rfl 3 rfl ?_
                            refine aw_iconst (x := 2) dL_law_599 600 rfl rfl ?_
                            refine aw_iadd dL_law_600 601 rfl ?_
                            refine aw_sld (fun _ _ h => h) dL_law_601 602 rfl (fun h65 => ?_)
                            refine aw_aload_n (i := 0) dL_law_602 603 rfl rfl 0 rfl ?_
                            refine aw_iload_n (i := 3) dL_law_603 604 rfl rfl 3 rfl ?_
                            refine aw_iconst (x := 3) dL_law_604 605 rfl rfl ?_
                            refine aw_iadd dL_law_605 606 rfl ?_
                            refine aw_sld (fun _ _ h => h) dL_law_606 607 rfl (fun h66 => ?_)
                            refine aw_aload_n (i := 0) dL_law_607 608 rfl rfl 0 rfl ?_
                            refine aw_iload_n (i := 3) dL_law_608 609 rfl rfl 3 rfl ?_
                            refine aw_iconst (x := 4) dL_law_609 610 rfl rfl ?_
                            refine aw_iadd dL_law_610 611 rfl ?_
                            refine aw_sld (fun _ _ h => h) dL_law_611 612 rfl (fun h67 => ?_)
                            refine aw_callV (M2 := m_X11_board) (cv := q_cI) dL_law_612 615 rfl (k_X11_board l G (f0 (Int32.toNatClampNeg (x1 + 1))) (f0 (Int32.toNatClampNeg (x1 + 2))) (f0 (Int32.toNatClampNeg (x1 + 3))) (f0 (Int32.toNatClampNeg (x1 + 4)))  u21) wl_19 wv_X11_board pk_X11_board rfl rfl ⟨by decide, by decide⟩ ⟨Nat.le_of_ble_eq_true rfl, Nat.le_of_ble_eq_true rfl⟩ at_11 (ok_11 (by decide)) rfl rfl rfl (Nat.le_of_ble_eq_true rfl) (fun x23 u22 => ?_)
                            show qAW l G m_L_law (q_xl G b0 l0 f0) 615 [(0, .ref b0), (1, .ref (q_ad G 0 0)), (2, .ref (q_ad G 11 0)), (3, .int x1)] [.int x23, .int x22] u22 _
                            refine aw_icmp_eq dL_law_615 618 rfl 2067 rfl (fun h68 => ?_) (fun h68 => ?_)
                            · exact hj1 u22
                            · exact aw_none
                          · refine aw_swIn (y := 10) dL_law_33 620 (by decide) (by decide) rfl rfl (fun h69 => ?_) (fun h69 => ?_)
                            · refine aw_aload_n (i := 1) dL_law_620 621 rfl rfl 1 rfl ?_
                              refine aw_aload_n (i := 0) dL_law_621 622 rfl rfl 0 rfl ?_
                              refine aw_iload_n (i := 3) dL_law_622 623 rfl rfl 3 rfl ?_
                              refine aw_iconst (x := 1) dL_law_623 624 rfl rfl ?_
                              refine aw_iadd dL_law_624 625 rfl ?_
                              refine aw_sld (fun _ _ h => h) dL_law_625 626 rfl (fun h70 => ?_)
                              refine aw_callV (M2 := m_X10_drop) (cv := q_cI) dL_law_626 629 rfl (k_X10_drop l G (f0 (Int32.toNatClampNeg (x1 + 1)))  u1) wl_20 wv_X10_drop pk_X10_drop rfl rfl ⟨by decide, by decide⟩ ⟨Nat.le_of_ble_eq_true rfl, Nat.le_of_ble_eq_true rfl⟩ at_0 (ok_0 (by decide)) rfl rfl rfl (Nat.le_of_ble_eq_true rfl) (fun x24 u23 => ?_)
                              show qAW l G m_L_law (q_xl G b0 l0 f0) 629 [(0, .ref b0), (1, .ref (q_ad G 0 0)), (2, .ref (q_ad G 11 0)), (3, .int x1)] [.int x24] u23 _
                              refine aw_aload_n (i := 2) dL_law_629 630 rfl rfl 2 rfl ?_
                              refine aw_aload_n (i := 0) dL_law_630 631 rfl rfl 0 rfl ?_
                              refine aw_iload_n (i := 3) dL_law_631 632 rfl rfl 3 rfl ?_
                              refine aw_iconst (x := 1) dL_law_632 633 rfl rfl ?_
                              refine aw_iadd dL_law_633 634 rfl ?_
                              refine aw_sld (fun _ _ h => h) dL_law_634 635 rfl (fun h71 => ?_)
                              refine aw_callV (M2 := m_X11_drop) (cv := q_cI) dL_law_635 638 rfl (k_X11_drop l G (f0 (Int32.toNatClampNeg (x1 + 1)))  u23) wl_21 wv_X11_drop pk_X11_drop rfl rfl ⟨by decide, by decide⟩ ⟨Nat.le_of_ble_eq_true rfl, Nat.le_of_ble_eq_true rfl⟩ at_11 (ok_11 (by decide)) rfl rfl rfl (Nat.le_of_ble_eq_true rfl) (fun x25 u24 => ?_)
                              show qAW l G m_L_law (q_xl G b0 l0 f0) 638 [(0, .ref b0), (1, .ref (q_ad G 0 0)), (2, .ref (q_ad G 11 0)), (3, .int x1)] [.int x25, .int x24] u24 _
                              refine aw_icmp_eq dL_law_638 641 rfl 2067 rfl (fun h72 => ?_) (fun h72 => ?_)
                              · exact hj1 u24
                              · exact aw_none
                            · refine aw_swIn (y := 11) dL_law_33 643 (by decide) (by decide) rfl rfl (fun h73 => ?_) (fun h73 => ?_)
                              · refine aw_aload_n (i := 1) dL_law_643 644 rfl rfl 1 rfl ?_
                                refine aw_aload_n (i := 0) dL_law_644 645 rfl rfl 0 rfl ?_
                                refine aw_iload_n (i := 3) dL_law_645 646 rfl rfl 3 rfl ?_
                                refine aw_iconst (x := 1) dL_law_646 647 rfl rfl ?_
                                refine aw_iadd dL_law_647 648 rfl ?_
                                refine aw_sld (fun _ _ h => h) dL_law_648 649 rfl (fun h74 => ?_)
                                refine aw_aload_n (i := 0) dL_law_649 650 rfl rfl 0 rfl ?_
                                refine aw_iload_n (i := 3) dL_law_650 651 rfl rfl 3 rfl ?_
                                refine aw_iconst (x := 2) dL_law_651 652 rfl rfl ?_
                                refine aw_iadd dL_law_652 653 rfl ?_
                                refine aw_sld (fun _ _ h => h) dL_law_653 654 rfl (fun h75 => ?_)
                                refine aw_aload_n (i := 0) dL_law_654 655 rfl rfl 0 rfl ?_
                                refine aw_iload_n (i := 3) dL_law_655 656 rfl rfl 3 rfl ?_
                                refine aw_iconst (x := 3) dL_law_656 657 rfl rfl ?_
                                refine aw_iadd dL_law_657 658 rfl ?_
                                refine aw_sld (fun _ _ h => h) dL_law_658 659 rfl (fun h76 => ?_)
                                refine aw_callV (M2 := m_X10_bottom) (cv := q_cI) dL_law_659 662 rfl (k_X10_bottom l G (f0 (Int32.toNatClampNeg (x1 + 1))) (f0 (Int32.toNatClampNeg (x1 + 2))) (f0 (Int32.toNatClampNeg (x1 + 3)))  u1) wl_22 wv_X10_bottom pk_X10_bottom rfl rfl ⟨by decide, by decide⟩ ⟨Nat.le_of_ble_eq_true rfl, Nat.le_of_ble_eq_true rfl⟩ at_0 (ok_0 (by decide)) rfl rfl rfl (Nat.le_of_ble_eq_true rfl) (fun x26 u25 => ?_)
                                show qAW l G m_L_law (q_xl G b0 l0 f0) 662 [(0, .ref b0), (1, .ref (q_ad G 0 0)), (2, .ref (q_ad G 11 0)), (3, .int x1)] [.int x26] u25 _
                                refine aw_aload_n (i := 2) dL_law_662 663 rfl rfl 2 rfl ?_
                                refine aw_aload_n (i := 0) dL_law_663 664 rfl rfl 0 rfl ?_
                                refine aw_iload_n (i := 3) dL_law_664 665 rfl rfl 3 rfl ?_
                                refine aw_iconst (x := 1) dL_law_665 666 rfl rfl ?_
                                refine aw_iadd dL_law_666 667 rfl ?_
                                refine aw_sld (fun _ _ h => h) dL_law_667 668 rfl (fun h77 => ?_)
                                refine aw_aload_n (i := 0) dL_law_668 669 rfl rfl 0 rfl ?_
                                refine aw_iload_n (i := 3) dL_law_669 670 rfl rfl 3 rfl ?_
                                refine aw_iconst (x := 2) dL_law_670 671 rfl rfl ?_
                                refine aw_iadd dL_law_671 672 rfl ?_
                                refine aw_sld (fun _ _ h => h) dL_law_672 673 rfl (fun h78 => ?_)
                                refine aw_aload_n (i := 0) dL_law_673 674 rfl rfl 0 rfl ?_
                                refine aw_iload_n (i := 3) dL_law_674 675 rfl rfl 3 rfl ?_
                                refine aw_iconst (x := 3) dL_law_675 676 rfl rfl ?_
                                refine aw_iadd dL_law_676 677 rfl ?_
                                refine aw_sld (fun _ _ h => h) dL_law_677 678 rfl (fun h79 => ?_)
                                refine aw_callV (M2 := m_X11_bottom) (cv := q_cI) dL_law_678 681 rfl (k_X11_bottom l G (f0 (Int32.toNatClampNeg (x1 + 1))) (f0 (Int32.toNatClampNeg (x1 + 2))) (f0 (Int32.toNatClampNeg (x1 + 3)))  u25) wl_23 wv_X11_bottom pk_X11_bottom rfl rfl ⟨by decide, by decide⟩ ⟨Nat.le_of_ble_eq_true rfl, Nat.le_of_ble_eq_true rfl⟩ at_11 (ok_11 (by decide)) rfl rfl rfl (Nat.le_of_ble_eq_true rfl) (fun x27 u26 => ?_)
                                show qAW l G m_L_law (q_xl G b0 l0 f0) 681 [(0, .ref b0), (1, .ref (q_ad G 0 0)), (2, .ref (q_ad G 11 0)), (3, .int x1)] [.int x27, .int x26] u26 _
                                refine aw_icmp_eq dL_law_681 684 rfl 2067 rfl (fun h80 => ?_) (fun h80 => ?_)
                                · exact hj1 u26
                                · exact aw_none
                              · refine aw_swIn (y := 12) dL_law_33 686 (by decide) (by decide) rfl rfl (fun h81 => ?_) (fun h81 => ?_)
                                · refine aw_aload_n (i := 1) dL_law_686 687 rfl rfl 1 rfl ?_
                                  refine aw_aload_n (i := 0) dL_law_687 688 rfl rfl 0 rfl ?_
                                  refine aw_iload_n (i := 3) dL_law_688 689 rfl rfl 3 rfl ?_
                                  refine aw_iconst (x := 1) dL_law_689 690 rfl rfl ?_
                                  refine aw_iadd dL_law_690 691 rfl ?_
                                  refine aw_sld (fun _ _ h => h) dL_law_691 692 rfl (fun h82 => ?_)
                                  refine aw_aload_n (i := 0) dL_law_692 693 rfl rfl 0 rfl ?_
                                  refine aw_iload_n (i := 3) dL_law_693 694 rfl rfl 3 rfl ?_
                                  refine aw_iconst (x := 2) dL_law_694 695 rfl rfl ?_
                                  refine aw_iadd dL_law_695 696 rfl ?_
                                  refine aw_sld (fun _ _ h => h) dL_law_696 697 rfl (fun h83 => ?_)
                                  refine aw_aload_n (i := 0) dL_law_697 698 rfl rfl 0 rfl ?_
                                  refine aw_iload_n (i := 3) dL_law_698 699 rfl rfl 3 rfl ?_
                                  refine aw_iconst (x := 3) dL_law_699 700 rfl rfl ?_
                                  refine aw_iadd dL_law_700 701 rfl ?_
                                  refine aw_sld (fun _ _ h => h) dL_law_701 702 rfl (fun h84 => ?_)
                                  refine aw_callV (M2 := m_X10_water) (cv := q_cI) dL_law_702 705 rfl (k_X10_water l G (f0 (Int32.toNatClampNeg (x1 + 1))) (f0 (Int32.toNatClampNeg (x1 + 2))) (f0 (Int32.toNatClampNeg (x1 + 3)))  u1) wl_24 wv_X10_water pk_X10_water rfl rfl ⟨by decide, by decide⟩ ⟨Nat.le_of_ble_eq_true rfl, Nat.le_of_ble_eq_true rfl⟩ at_0 (ok_0 (by decide)) rfl rfl rfl (Nat.le_of_ble_eq_true rfl) (fun x28 u27 => ?_)
                                  show qAW l G m_L_law (q_xl G b0 l0 f0) 705 [(0, .ref b0), (1, .ref (q_ad G 0 0)), (2, .ref (q_ad G 11 0)), (3, .int x1)] [.int x28] u27 _
                                  refine aw_aload_n (i := 2) dL_law_705 706 rfl rfl 2 rfl ?_
                                  refine aw_aload_n (i := 0) dL_law_706 707 rfl rfl 0 rfl ?_
                                  refine aw_iload_n (i := 3) dL_law_707 708 rfl rfl 3 rfl ?_
                                  refine aw_iconst (x := 1) dL_law_708 709 rfl rfl ?_
                                  refine aw_iadd dL_law_709 710 rfl ?_
                                  refine aw_sld (fun _ _ h => h) dL_law_710 711 rfl (fun h85 => ?_)
                                  refine aw_aload_n (i := 0) dL_law_711 712 rfl rfl 0 rfl ?_
                                  refine aw_iload_n (i := 3) dL_law_712 713 rfl rfl 3 rfl ?_
                                  refine aw_iconst (x := 2) dL_law_713 714 rfl rfl ?_
                                  refine aw_iadd dL_law_714 715 rfl ?_
                                  refine aw_sld (fun _ _ h => h) dL_law_715 716 rfl (fun h86 => ?_)
                                  refine aw_aload_n (i := 0) dL_law_716 717 rfl rfl 0 rfl ?_
                                  refine aw_iload_n (i := 3) dL_law_717 718 rfl rfl 3 rfl ?_
                                  refine aw_iconst (x := 3) dL_law_718 719 rfl rfl ?_
                                  refine aw_iadd dL_law_719 720 rfl ?_
                                  refine aw_sld (fun _ _ h => h) dL_law_720 721 rfl (fun h87 => ?_)
                                  refine aw_callV (M2 := m_X11_water) (cv := q_cI) dL_law_721 724 rfl (k_X11_water l G (f0 (Int32.toNatClampNeg (x1 + 1))) (f0 (Int32.toNatClampNeg (x1 + 2))) (f0 (Int32.toNatClampNeg (x1 + 3)))  u27) wl_25 wv_X11_water pk_X11_water rfl rfl ⟨by decide, by decide⟩ ⟨Nat.le_of_ble_eq_true rfl, Nat.le_of_ble_eq_true rfl⟩ at_11 (ok_11 (by decide)) rfl rfl rfl (Nat.le_of_ble_eq_true rfl) (fun x29 u28 => ?_)
                                  show qAW l G m_L_law (q_xl G b0 l0 f0) 724 [(0, .ref b0), (1, .ref (q_ad G 0 0)), (2, .ref (q_ad G 11 0)), (3, .int x1)] [.int x29, .int x28] u28 _
                                  refine aw_icmp_eq dL_law_724 727 rfl 2067 rfl (fun h88 => ?_) (fun h88 => ?_)
                                  · exact hj1 u28
                                  · exact aw_none
                                · refine aw_swIn (y := 13) dL_law_33 729 (by decide) (by decide) rfl rfl (fun h89 => ?_) (fun h89 => ?_)
                                  · refine aw_aload_n (i := 1) dL_law_729 730 rfl rfl 1 rfl ?_
                                    refine aw_aload_n (i := 0) dL_law_730 731 rfl rfl 0 rfl ?_
                                    refine aw_iload_n (i := 3) dL_law_731 732 rfl rfl 3 rfl ?_
                                    refine aw_iconst (x := 1) dL_law_732 733 rfl rfl ?_
                                    refine aw_iadd dL_law_733 734 rfl ?_
                                    refine aw_sld (fun _ _ h => h) dL_law_734 735 rfl (fun h90 => ?_)
                                    refine aw_aload_n (i := 0) dL_law_735 736 rfl rfl 0 rfl ?_
                                    refine aw_iload_n (i := 3) dL_law_736 737 rfl rfl 3 rfl ?_
                                    refine aw_iconst (x := 2) dL_law_737 738 rfl rfl ?_
                                    refine aw_iadd dL_law_738 739 rfl ?_
                                    refine aw_sld (fun _ _ h => h) dL_law_739 740 rfl (fun h91 => ?_)
                                    refine aw_aload_n (i := 0) dL_law_740 741 rfl rfl 0 rfl ?_
                                    refine aw_iload_n (i := 3) dL_law_741 742 rfl rfl 3 rfl ?_
                                    refine aw_iconst (x := 3) dL_law_742 743 rfl rfl ?_
                                    refine aw_iadd dL_law_743 744 rfl ?_
                                    refine aw_sld (fun _ _ h => h) dL_law_744 745 rfl (fun h92 => ?_)
                                    refine aw_aload_n (i := 0) dL_law_745 746 rfl rfl 0 rfl ?_
                                    refine aw_iload_n (i := 3) dL_law_746 747 rfl rfl 3 rfl ?_
                                    refine aw_iconst (x := 4) dL_law_747 748 rfl rfl ?_
                                    refine aw_iadd dL_law_748 749 rfl ?_
                                    refine aw_sld (fun _ _ h => h) dL_law_749 750 rfl (fun h93 => ?_)
                                    refine aw_callV (M2 := m_X10_spill) (cv := q_cI) dL_law_750 753 rfl (k_X10_spill l G (f0 (Int32.toNatClampNeg (x1 + 1))) (f0 (Int32.toNatClampNeg (x1 + 2))) (f0 (Int32.toNatClampNeg (x1 + 3))) (f0 (Int32.toNatClampNeg (x1 + 4)))  u1) wl_26 wv_X10_spill pk_X10_spill rfl rfl ⟨by decide, by decide⟩ ⟨Nat.le_of_ble_eq_true rfl, Nat.le_of_ble_eq_true rfl⟩ at_0 (ok_0 (by decide)) rfl rfl rfl (Nat.le_of_ble_eq_true rfl) (fun x30 u29 => ?_)
                                    show qAW l G m_L_law (q_xl G b0 l0 f0) 753 [(0, .ref b0), (1, .ref (q_ad G 0 0)), (2, .ref (q_ad G 11 0)), (3, .int x1)] [.int x30] u29 _
                                    refine aw_aload_n (i := 2) dL_law_753 754 rfl rfl 2 rfl ?_
                                    refine aw_aload_n (i := 0) dL_law_754 755 rfl rfl 0 rfl ?_
                                    refine aw_iload_n (i := 3) dL_law_755 756 rfl rfl 3 rfl ?_
                                    refine aw_iconst (x := 1) dL_law_756 757 rfl rfl ?_
                                    refine aw_iadd dL_law_757 758 rfl ?_
                                    refine aw_sld (fun _ _ h => h) dL_law_758 759 rfl (fun h94 => ?_)
                                    refine aw_aload_n (i := 0) dL_law_759 760 rfl rfl 0 rfl ?_
                                    refine aw_iload_n (i := 3) dL_law_760 761 rfl rfl 3 rfl ?_
                                    refine aw_iconst (x := 2) dL_law_761 762 rfl rfl ?_
                                    refine aw_iadd dL_law_762 763 rfl ?_
                                    refine aw_sld (fun _ _ h => h) dL_law_763 764 rfl (fun h95 => ?_)
                                    refine aw_aload_n (i := 0) dL_law_764 765 rfl rfl 0 rfl ?_
                                    refine aw_iload_n (i := 3) dL_law_765 766 rfl rfl 3 rfl ?_
                                    refine aw_iconst (x := 3) dL_law_766 767 rfl rfl ?_
                                    refine aw_iadd dL_law_767 768 rfl ?_
                                    refine aw_sld (fun _ _ h => h) dL_law_768 769 rfl (fun h96 => ?_)
                                    refine aw_aload_n (i := 0) dL_law_769 770 rfl rfl 0 rfl ?_
                                    refine aw_iload_n (i := 3) dL_law_770 771 rfl rfl 3 rfl ?_
                                    refine aw_iconst (x := 4) dL_law_771 772 rfl rfl ?_
                                    refine aw_iadd dL_law_772 773 rfl ?_
                                    refine aw_sld (fun _ _ h => h) dL_law_773 774 rfl (fun h97 => ?_)
                                    refine aw_callV (M2 := m_X11_spill) (cv := q_cI) dL_law_774 777 rfl (k_X11_spill l G (f0 (Int32.toNatClampNeg (x1 + 1))) (f0 (Int32.toNatClampNeg (x1 + 2))) (f0 (Int32.toNatClampNeg (x1 + 3))) (f0 (Int32.toNatClampNeg (x1 + 4)))  u29) wl_27 wv_X11_spill pk_X11_spill rfl rfl ⟨by decide, by decide⟩ ⟨Nat.le_of_ble_eq_true rfl, Nat.le_of_ble_eq_true rfl⟩ at_11 (ok_11 (by decide)) rfl rfl rfl (Nat.le_of_ble_eq_true rfl) (fun x31 u30 => ?_)
                                    show qAW l G m_L_law (q_xl G b0 l0 f0) 777 [(0, .ref b0), (1, .ref (q_ad G 0 0)), (2, .ref (q_ad G 11 0)), (3, .int x1)] [.int x31, .int x30] u30 _
                                    refine aw_icmp_eq dL_law_777 780 rfl 2067 rfl (fun h98 => ?_) (fun h98 => ?_)
                                    · exact hj1 u30
                                    · exact aw_none
                                  · refine aw_swIn (y := 14) dL_law_33 782 (by decide) (by decide) rfl rfl (fun h99 => ?_) (fun h99 => ?_)
                                    · refine aw_aload_n (i := 1) dL_law_782 783 rfl rfl 1 rfl ?_
                                      refine aw_aload_n (i := 0) dL_law_783 784 rfl rfl 0 rfl ?_
                                      refine aw_iload_n (i := 3) dL_law_784 785 rfl rfl 3 rfl ?_
                                      refine aw_iconst (x := 1) dL_law_785 786 rfl rfl ?_
                                      refine aw_iadd dL_law_786 787 rfl ?_
                                      refine aw_sld (fun _ _ h => h) dL_law_787 788 rfl (fun h100 => ?_)
                                      refine aw_aload_n (i := 0) dL_law_788 789 rfl rfl 0 rfl ?_
                                      refine aw_iload_n (i := 3) dL_law_789 790 rfl rfl 3 rfl ?_
                                      refine aw_iconst (x := 2) dL_law_790 791 rfl rfl ?_
                                      refine aw_iadd dL_law_791 792 rfl ?_
                                      refine aw_sld (fun _ _ h => h) dL_law_792 793 rfl (fun h101 => ?_)
                                      refine aw_aload_n (i := 0) dL_law_793 794 rfl rfl 0 rfl ?_
                                      refine aw_iload_n (i := 3) dL_law_794 795 rfl rfl 3 rfl ?_
                                      refine aw_iconst (x := 3) dL_law_795 796 rfl rfl ?_
                                      refine aw_iadd dL_law_796 797 rfl ?_
                                      refine aw_sld (fun _ _ h => h) dL_law_797 798 rfl (fun h102 => ?_)
                                      refine aw_callV (M2 := m_X10_cell) (cv := q_cI) dL_law_798 801 rfl (k_X10_cell l G (f0 (Int32.toNatClampNeg (x1 + 1))) (f0 (Int32.toNatClampNeg (x1 + 2))) (f0 (Int32.toNatClampNeg (x1 + 3)))  u1) wl_28 wv_X10_cell pk_X10_cell rfl rfl ⟨by decide, by decide⟩ ⟨Nat.le_of_ble_eq_true rfl, Nat.le_of_ble_eq_true rfl⟩ at_0 (ok_0 (by decide)) rfl rfl rfl (Nat.le_of_ble_eq_true rfl) (fun x32 u31 => ?_)
                                      show qAW l G m_L_law (q_xl G b0 l0 f0) 801 [(0, .ref b0), (1, .ref (q_ad G 0 0)), (2, .ref (q_ad G 11 0)), (3, .int x1)] [.int x32] u31 _
                                      refine aw_aload_n (i := 2) dL_law_801 802 rfl rfl 2 rfl ?_
                                      refine aw_aload_n (i := 0) dL_law_802 803 rfl rfl 0 rfl ?_
                                      refine aw_iload_n (i := 3) dL_law_803 804 rfl rfl 3 rfl ?_
                                      refine aw_iconst (x := 1) dL_law_804 805 rfl rfl ?_
                                      refine aw_iadd dL_law_805 806 rfl ?_
                                      refine aw_sld (fun _ _ h => h) dL_law_806 807 rfl (fun h103 => ?_)
                                      refine aw_aload_n (i := 0) dL_law_807 808 rfl rfl 0 rfl ?_
                                      refine aw_iload_n (i := 3) dL_law_808 809 rfl rfl 3 rfl ?_
                                      refine aw_iconst (x := 2) dL_law_809 810 rfl rfl ?_
                                      refine aw_iadd dL_law_810 811 rfl ?_
                                      refine aw_sld (fun _ _ h => h) dL_law_811 812 rfl (fun h104 => ?_)
                                      refine aw_aload_n (i := 0) dL_law_812 813 rfl rfl 0 rfl ?_
                                      refine aw_iload_n (i := 3) dL_law_813 814 rfl rfl 3 rfl ?_
                                      refine aw_iconst (x := 3) dL_law_814 815 rfl rfl ?_
                                      refine aw_iadd dL_law_815 816 rfl ?_
                                      refine aw_sld (fun _ _ h => h) dL_law_816 817 rfl (fun h105 => ?_)
                                      refine aw_callV (M2 := m_X11_cell) (cv := q_cI) dL_law_817 820 rfl (k_X11_cell l G (f0 (Int32.toNatClampNeg (x1 + 1))) (f0 (Int32.toNatClampNeg (x1 + 2))) (f0 (Int32.toNatClampNeg (x1 + 3)))  u31) wl_29 wv_X11_cell pk_X11_cell rfl rfl ⟨by decide, by decide⟩ ⟨Nat.le_of_ble_eq_true rfl, Nat.le_of_ble_eq_true rfl⟩ at_11 (ok_11 (by decide)) rfl rfl rfl (Nat.le_of_ble_eq_true rfl) (fun x33 u32 => ?_)
                                      show qAW l G m_L_law (q_xl G b0 l0 f0) 820 [(0, .ref b0), (1, .ref (q_ad G 0 0)), (2, .ref (q_ad G 11 0)), (3, .int x1)] [.int x33, .int x32] u32 _
                                      refine aw_icmp_eq dL_law_820 823 rfl 2067 rfl (fun h106 => ?_) (fun h106 => ?_)
                                      · exact hj1 u32
                                      · exact aw_none
                                    · refine aw_swIn (y := 15) dL_law_33 825 (by decide) (by decide) rfl rfl (fun h107 => ?_) (fun h107 => ?_)
                                      · refine aw_aload_n (i := 1) dL_law_825 826 rfl rfl 1 rfl ?_
                                        refine aw_aload_n (i := 0) dL_law_826 827 rfl rfl 0 rfl ?_
                                        refine aw_iload_n (i := 3) dL_law_827 828 rfl rfl 3 rfl ?_
                                        refine aw_iconst (x := 1) dL_law_828 829 rfl rfl ?_
                                        refine aw_iadd dL_law_829 830 rfl ?_
                                        refine aw_sld (fun _ _ h => h) dL_law_830 831 rfl (fun h108 => ?_)
                                        refine aw_aload_n (i := 0) dL_law_831 832 rfl rfl 0 rfl ?_
                                        refine aw_iload_n (i := 3) dL_law_832 833 rfl rfl 3 rfl ?_
                                        refine aw_iconst (x := 2) dL_law_833 834 rfl rfl ?_
                                        refine aw_iadd dL_law_834 835 rfl ?_
                                        refine aw_sld (fun _ _ h => h) dL_law_835 836 rfl (fun h109 => ?_)
                                        refine aw_callV (M2 := m_X10_flow) (cv := q_cI) dL_law_836 839 rfl (k_X10_flow l G (f0 (Int32.toNatClampNeg (x1 + 1))) (f0 (Int32.toNatClampNeg (x1 + 2)))  u1) wl_30 wv_X10_flow pk_X10_flow rfl rfl ⟨by decide, by decide⟩ ⟨Nat.le_of_ble_eq_true rfl, Nat.le_of_ble_eq_true rfl⟩ at_0 (ok_0 (by decide)) rfl rfl rfl (Nat.le_of_ble_eq_true rfl) (fun x34 u33 => ?_)
                                        show qAW l G m_L_law (q_xl G b0 l0 f0) 839 [(0, .ref b0), (1, .ref (q_ad G 0 0)), (2, .ref (q_ad G 11 0)), (3, .int x1)] [.int x34] u33 _
                                        refine aw_aload_n (i := 2) dL_law_839 840 rfl rfl 2 rfl ?_
                                        refine aw_aload_n (i := 0) dL_law_840 841 rfl rfl 0 rfl ?_
                                        refine aw_iload_n (i := 3) dL_law_841 842 rfl rfl 3 rfl ?_
                                        refine aw_iconst (x := 1) dL_law_842 843 rfl rfl ?_
                                        refine aw_iadd dL_law_843 844 rfl ?_
                                        refine aw_sld (fun _ _ h => h) dL_law_844 845 rfl (fun h110 => ?_)
                                        refine aw_aload_n (i := 0) dL_law_845 846 rfl rfl 0 rfl ?_
                                        refine aw_iload_n (i := 3) dL_law_846 847 rfl rfl 3 rfl ?_
                                        refine aw_iconst (x := 2) dL_law_847 848 rfl rfl ?_
                                        refine aw_iadd dL_law_848 849 rfl ?_
                                        refine aw_sld (fun _ _ h => h) dL_law_849 850 rfl (fun h111 => ?_)
                                        refine aw_callV (M2 := m_X11_flow) (cv := q_cI) dL_law_850 853 rfl (k_X11_flow l G (f0 (Int32.toNatClampNeg (x1 + 1))) (f0 (Int32.toNatClampNeg (x1 + 2)))  u33) wl_31 wv_X11_flow pk_X11_flow rfl rfl ⟨by decide, by decide⟩ ⟨Nat.le_of_ble_eq_true rfl, Nat.le_of_ble_eq_true rfl⟩ at_11 (ok_11 (by decide)) rfl rfl rfl (Nat.le_of_ble_eq_true rfl) (fun x35 u34 => ?_)
                                        show qAW l G m_L_law (q_xl G b0 l0 f0) 853 [(0, .ref b0), (1, .ref (q_ad G 0 0)), (2, .ref (q_ad G 11 0)), (3, .int x1)] [.int x35, .int x34] u34 _
                                        refine aw_icmp_eq dL_law_853 856 rfl 2067 rfl (fun h112 => ?_) (fun h112 => ?_)
                                        · exact hj1 u34
                                        · exact aw_none
                                      · refine aw_swIn (y := 16) dL_law_33 858 (by decide) (by decide) rfl rfl (fun h113 => ?_) (fun h113 => ?_)
                                        · refine aw_aload_n (i := 1) dL_law_858 859 rfl rfl 1 rfl ?_
                                          refine aw_aload_n (i := 0) dL_law_859 860 rfl rfl 0 rfl ?_
                                          refine aw_iload_n (i := 3) dL_law_860 861 rfl rfl 3 rfl ?_
                                          refine aw_iconst (x := 1) dL_law_861 862 rfl rfl ?_
                                          refine aw_iadd dL_law_862 863 rfl ?_
                                          refine aw_sld (fun _ _ h => h) dL_law_863 864 rfl (fun h114 => ?_)
                                          refine aw_aload_n (i := 0) dL_law_864 865 rfl rfl 0 rfl ?_
                                          refine aw_iload_n (i := 3) dL_law_865 866 rfl rfl 3 rfl ?_
                                          refine aw_iconst (x := 2) dL_law_866 867 rfl rfl ?_
                                          refine aw_iadd dL_law_867 868 rfl ?_
                                          refine aw_sld (fun _ _ h => h) dL_law_868 869 rfl (fun h115 => ?_)
                                          refine aw_aload_n (i := 0) dL_law_869 870 rfl rfl 0 rfl ?_
                                          refine aw_iload_n (i := 3) dL_law_870 871 rfl rfl 3 rfl ?_
                                          refine aw_iconst (x := 3) dL_law_871 872 rfl rfl ?_
                                          refine aw_iadd dL_law_872 873 rfl ?_
                                          refine aw_sld (fun _ _ h => h) dL_law_873 874 rfl (fun h116 => ?_)
                                          refine aw_jn (fun k => ∀ (x36 : Int32) (u35 : qM), qAW l G m_L_law (q_xl G b0 l0 f0) 882 [(0, .ref b0), (1, .ref (q_ad G 0 0)), (2, .ref (q_ad G 11 0)), (3, .int x1)] [.int x36, .int (f0 (Int32.toNatClampNeg (x1 + 2))), .int (f0 (Int32.toNatClampNeg (x1 + 1))), .ref (q_ad G 0 0)] u35 (k x36 u35)) ?_ ?_
                                          · intro x36 u35
                                            refine aw_callV (M2 := m_X10_gate) (cv := q_cI) dL_law_882 885 rfl (k_X10_gate l G (f0 (Int32.toNatClampNeg (x1 + 1))) (f0 (Int32.toNatClampNeg (x1 + 2))) x36  u35) wl_32 wv_X10_gate pk_X10_gate rfl rfl ⟨by decide, by decide⟩ ⟨Nat.le_of_ble_eq_true rfl, Nat.le_of_ble_eq_true rfl⟩ at_0 (ok_0 (by decide)) rfl rfl rfl (Nat.le_of_ble_eq_true rfl) (fun x37 u36 => ?_)
                                            show qAW l G m_L_law (q_xl G b0 l0 f0) 885 [(0, .ref b0), (1, .ref (q_ad G 0 0)), (2, .ref (q_ad G 11 0)), (3, .int x1)] [.int x37] u36 _
                                            refine aw_aload_n (i := 2) dL_law_885 886 rfl rfl 2 rfl ?_
                                            refine aw_aload_n (i := 0) dL_law_886 887 rfl rfl 0 rfl ?_
                                            refine aw_iload_n (i := 3) dL_law_887 888 rfl rfl 3 rfl ?_
                                            refine aw_iconst (x := 1) dL_law_888 889 rfl rfl ?_
                                            refine aw_iadd dL_law_889 890 rfl ?_
                                            refine aw_sld (fun _ _ h => h) dL_law_890 891 rfl (fun h118 => ?_)
                                            refine aw_aload_n (i := 0) dL_law_891 892 rfl rfl 0 rfl ?_
                                            refine aw_iload_n (i := 3) dL_law_892 893 rfl rfl 3 rfl ?_
                                            refine aw_iconst (x := 2) dL_law_893 894 rfl rfl ?_
                                            refine aw_iadd dL_law_894 895 rfl ?_
                                            refine aw_sld (fun _ _ h => h) dL_law_895 896 rfl (fun h119 => ?_)
                                            refine aw_aload_n (i := 0) dL_law_896 897 rfl rfl 0 rfl ?_
                                            refine aw_iload_n (i := 3) dL_law_897 898 rfl rfl 3 rfl ?_
                                            refine aw_iconst (x := 3) dL_law_898 899 rfl rfl ?_
                                            refine aw_iadd dL_law_899 900 rfl ?_
                                            refine aw_sld (fun _ _ h => h) dL_law_900 901 rfl (fun h120 => ?_)
                                            refine aw_jn (fun k => ∀ (x38 : Int32) (u37 : qM), qAW l G m_L_law (q_xl G b0 l0 f0) 909 [(0, .ref b0), (1, .ref (q_ad G 0 0)), (2, .ref (q_ad G 11 0)), (3, .int x1)] [.int x38, .int (f0 (Int32.toNatClampNeg (x1 + 2))), .int (f0 (Int32.toNatClampNeg (x1 + 1))), .ref (q_ad G 11 0), .int x37] u37 (k x38 u37)) ?_ ?_
                                            · intro x38 u37
                                              refine aw_callV (M2 := m_X11_gate) (cv := q_cI) dL_law_909 912 rfl (k_X11_gate l G (f0 (Int32.toNatClampNeg (x1 + 1))) (f0 (Int32.toNatClampNeg (x1 + 2))) x38  u37) wl_33 wv_X11_gate pk_X11_gate rfl rfl ⟨by decide, by decide⟩ ⟨Nat.le_of_ble_eq_true rfl, Nat.le_of_ble_eq_true rfl⟩ at_11 (ok_11 (by decide)) rfl rfl rfl (Nat.le_of_ble_eq_true rfl) (fun x39 u38 => ?_)
                                              show qAW l G m_L_law (q_xl G b0 l0 f0) 912 [(0, .ref b0), (1, .ref (q_ad G 0 0)), (2, .ref (q_ad G 11 0)), (3, .int x1)] [.int x39, .int x37] u38 _
                                              refine aw_icmp_eq dL_law_912 915 rfl 2067 rfl (fun h122 => ?_) (fun h122 => ?_)
                                              · exact hj1 u38
                                              · exact aw_none
                                            · intro j3 hj3
                                              refine aw_if_eq dL_law_901 904 rfl 908 rfl (fun h121 => ?_) (fun h121 => ?_)
                                              · refine aw_iconst (x := 0) dL_law_908 909 rfl rfl ?_
                                                exact hj3 0 u36
                                              · refine aw_iconst (x := 1) dL_law_904 905 rfl rfl ?_
                                                refine aw_goto dL_law_905 909 rfl ?_
                                                exact hj3 1 u36
                                          · intro j2 hj2
                                            refine aw_if_eq dL_law_874 877 rfl 881 rfl (fun h117 => ?_) (fun h117 => ?_)
                                            · refine aw_iconst (x := 0) dL_law_881 882 rfl rfl ?_
                                              exact hj2 0 u1
                                            · refine aw_iconst (x := 1) dL_law_877 878 rfl rfl ?_
                                              refine aw_goto dL_law_878 882 rfl ?_
                                              exact hj2 1 u1
                                        · refine aw_swIn (y := 17) dL_law_33 917 (by decide) (by decide) rfl rfl (fun h123 => ?_) (fun h123 => ?_)
                                          · refine aw_aload_n (i := 1) dL_law_917 918 rfl rfl 1 rfl ?_
                                            refine aw_aload_n (i := 0) dL_law_918 919 rfl rfl 0 rfl ?_
                                            refine aw_iload_n (i := 3) dL_law_919 920 rfl rfl 3 rfl ?_
                                            refine aw_iconst (x := 1) dL_law_920 921 rfl rfl ?_
                                            refine aw_iadd dL_law_921 922 rfl ?_
                                            refine aw_sld (fun _ _ h => h) dL_law_922 923 rfl (fun h124 => ?_)
                                            refine aw_aload_n (i := 0) dL_law_923 924 rfl rfl 0 rfl ?_
                                            refine aw_iload_n (i := 3) dL_law_924 925 rfl rfl 3 rfl ?_
                                            refine aw_iconst (x := 2) dL_law_925 926 rfl rfl ?_
                                            refine aw_iadd dL_law_926 927 rfl ?_
                                            refine aw_sld (fun _ _ h => h) dL_law_927 928 rfl (fun h125 => ?_)
                                            refine aw_aload_n (i := 0) dL_law_928 929 rfl rfl 0 rfl ?_
                                            refine aw_iload_n (i := 3) dL_law_929 930 rfl rfl 3 rfl ?_
                                            refine aw_iconst (x := 3) dL_law_930 931 rfl rfl ?_
                                            refine aw_iadd dL_law_931 932 rfl ?_
                                            refine aw_sld (fun _ _ h => h) dL_law_932 933 rfl (fun h126 => ?_)
                                            refine aw_callV (M2 := m_X10_law) (cv := q_cI) dL_law_933 936 rfl (k_X10_law l G (f0 (Int32.toNatClampNeg (x1 + 1))) (f0 (Int32.toNatClampNeg (x1 + 2))) (f0 (Int32.toNatClampNeg (x1 + 3)))  u1) wl_34 wv_X10_law pk_X10_law rfl rfl ⟨by decide, by decide⟩ ⟨Nat.le_of_ble_eq_true rfl, Nat.le_of_ble_eq_true rfl⟩ at_0 (ok_0 (by decide)) rfl rfl rfl (Nat.le_of_ble_eq_true rfl) (fun x40 u39 => ?_)
                                            show qAW l G m_L_law (q_xl G b0 l0 f0) 936 [(0, .ref b0), (1, .ref (q_ad G 0 0)), (2, .ref (q_ad G 11 0)), (3, .int x1)] [.int x40] u39 _
                                            refine aw_aload_n (i := 2) dL_law_936 937 rfl rfl 2 rfl ?_
                                            refine aw_aload_n (i := 0) dL_law_937 938 rfl rfl 0 rfl ?_
                                            refine aw_iload_n (i := 3) dL_law_938 939 rfl rfl 3 rfl ?_
                                            refine aw_iconst (x := 1) dL_law_939 940 rfl rfl ?_
                                            refine aw_iadd dL_law_940 941 rfl ?_
                                            refine aw_sld (fun _ _ h => h) dL_law_941 942 rfl (fun h127 => ?_)
                                            refine aw_aload_n (i := 0) dL_law_942 943 rfl rfl 0 rfl ?_
                                            refine aw_iload_n (i := 3) dL_law_943 944 rfl rfl 3 rfl ?_
                                            refine aw_iconst (x := 2) dL_law_944 945 rfl rfl ?_
                                            refine aw_iadd dL_law_945 946 rfl ?_
                                            refine aw_sld (fun _ _ h => h) dL_law_946 947 rfl (fun h128 => ?_)
                                            refine aw_aload_n (i := 0) dL_law_947 948 rfl rfl 0 rfl ?_
                                            refine aw_iload_n (i := 3) dL_law_948 949 rfl rfl 3 rfl ?_
                                            refine aw_iconst (x := 3) dL_law_949 950 rfl rfl ?_
                                            refine aw_iadd dL_law_950 951 rfl ?_
                                            refine aw_sld (fun _ _ h => h) dL_law_951 952 rfl (fun h129 => ?_)
                                            refine aw_callV (M2 := m_X11_law) (cv := q_cI) dL_law_952 955 rfl (k_X11_law l G (f0 (Int32.toNatClampNeg (x1 + 1))) (f0 (Int32.toNatClampNeg (x1 + 2))) (f0 (Int32.toNatClampNeg (x1 + 3)))  u39) wl_35 wv_X11_law pk_X11_law rfl rfl ⟨by decide, by decide⟩ ⟨Nat.le_of_ble_eq_true rfl, Nat.le_of_ble_eq_true rfl⟩ at_11 (ok_11 (by decide)) rfl rfl rfl (Nat.le_of_ble_eq_true rfl) (fun x41 u40 => ?_)
                                            show qAW l G m_L_law (q_xl G b0 l0 f0) 955 [(0, .ref b0), (1, .ref (q_ad G 0 0)), (2, .ref (q_ad G 11 0)), (3, .int x1)] [.int x41, .int x40] u40 _
                                            refine aw_icmp_eq dL_law_955 958 rfl 2067 rfl (fun h130 => ?_) (fun h130 => ?_)
                                            · exact hj1 u40
                                            · exact aw_none
                                          · refine aw_swIn (y := 18) dL_law_33 960 (by decide) (by decide) rfl rfl (fun h131 => ?_) (fun h131 => ?_)
                                            · refine aw_aload_n (i := 1) dL_law_960 961 rfl rfl 1 rfl ?_
                                              refine aw_aload_n (i := 0) dL_law_961 962 rfl rfl 0 rfl ?_
                                              refine aw_iload_n (i := 3) dL_law_962 963 rfl rfl 3 rfl ?_
                                              refine aw_iconst (x := 1) dL_law_963 964 rfl rfl ?_
                                              refine aw_iadd dL_law_964 965 rfl ?_
                                              refine aw_sld (fun _ _ h => h) dL_law_965 966 rfl (fun h132 => ?_)
                                              refine aw_aload_n (i := 0) dL_law_966 967 rfl rfl 0 rfl ?_
                                              refine aw_iload_n (i := 3) dL_law_967 968 rfl rfl 3 rfl ?_
                                              refine aw_iconst (x := 2) dL_law_968 969 rfl rfl ?_
                                              refine aw_iadd dL_law_969 970 rfl ?_
                                              refine aw_sld (fun _ _ h => h) dL_law_970 971 rfl (fun h133 => ?_)
                                              refine aw_aload_n (i := 0) dL_law_971 972 rfl rfl 0 rfl ?_
                                              refine aw_iload_n (i := 3) dL_law_972 973 rfl rfl 3 rfl ?_
                                              refine aw_iconst (x := 3) dL_law_973 974 rfl rfl ?_
                                              refine aw_iadd dL_law_974 975 rfl ?_
                                              refine aw_sld (fun _ _ h => h) dL_law_975 976 rfl (fun h134 => ?_)
                                              refine aw_callV (M2 := m_X10_wind) (cv := q_cI) dL_law_976 979 rfl (k_X10_wind l G (f0 (Int32.toNatClampNeg (x1 + 1))) (f0 (Int32.toNatClampNeg (x1 + 2))) (f0 (Int32.toNatClampNeg (x1 + 3)))  u1) wl_36 wv_X10_wind pk_X10_wind rfl rfl ⟨by decide, by decide⟩ ⟨Nat.le_of_ble_eq_true rfl, Nat.le_of_ble_eq_true rfl⟩ at_0 (ok_0 (by decide)) rfl rfl rfl (Nat.le_of_ble_eq_true rfl) (fun x42 u41 => ?_)
                                              show qAW l G m_L_law (q_xl G b0 l0 f0) 979 [(0, .ref b0), (1, .ref (q_ad G 0 0)), (2, .ref (q_ad G 11 0)), (3, .int x1)] [.int x42] u41 _
                                              refine aw_aload_n (i := 2) dL_law_979 980 rfl rfl 2 rfl ?_
                                              refine aw_aload_n (i := 0) dL_law_980 981 rfl rfl 0 rfl ?_
                                              refine aw_iload_n (i := 3) dL_law_981 982 rfl rfl 3 rfl ?_
                                              refine aw_iconst (x := 1) dL_law_982 983 rfl rfl ?_
                                              refine aw_iadd dL_law_983 984 rfl ?_
                                              refine aw_sld (fun _ _ h => h) dL_law_984 985 rfl (fun h135 => ?_)
                                              refine aw_aload_n (i := 0) dL_law_985 986 rfl rfl 0 rfl ?_
                                              refine aw_iload_n (i := 3) dL_law_986 987 rfl rfl 3 rfl ?_
                                              refine aw_iconst (x := 2) dL_law_987 988 rfl rfl ?_
                                              refine aw_iadd dL_law_988 989 rfl ?_
                                              refine aw_sld (fun _ _ h => h) dL_law_989 990 rfl (fun h136 => ?_)
                                              refine aw_aload_n (i := 0) dL_law_990 991 rfl rfl 0 rfl ?_
                                              refine aw_iload_n (i := 3) dL_law_991 992 rfl rfl 3 rfl ?_
                                              refine aw_iconst (x := 3) dL_law_992 993 rfl rfl ?_
                                              refine aw_iadd dL_law_993 994 rfl ?_
                                              refine aw_sld (fun _ _ h => h) dL_law_994 995 rfl (fun h137 => ?_)
                                              refine aw_callV (M2 := m_X11_wind) (cv := q_cI) dL_law_995 998 rfl (k_X11_wind l G (f0 (Int32.toNatClampNeg (x1 + 1))) (f0 (Int32.toNatClampNeg (x1 + 2))) (f0 (Int32.toNatClampNeg (x1 + 3)))  u41) wl_37 wv_X11_wind pk_X11_wind rfl rfl ⟨by decide, by decide⟩ ⟨Nat.le_of_ble_eq_true rfl, Nat.le_of_ble_eq_true rfl⟩ at_11 (ok_11 (by decide)) rfl rfl rfl (Nat.le_of_ble_eq_true rfl) (fun x43 u42 => ?_)
                                              show qAW l G m_L_law (q_xl G b0 l0 f0) 998 [(0, .ref b0), (1, .ref (q_ad G 0 0)), (2, .ref (q_ad G 11 0)), (3, .int x1)] [.int x43, .int x42] u42 _
                                              refine aw_icmp_eq dL_law_998 1001 rfl 2067 rfl (fun h138 => ?_) (fun h138 => ?_)
                                              · exact hj1 u42
                                              · exact aw_none
                                            · refine aw_swIn (y := 19) dL_law_33 1003 (by decide) (by decide) rfl rfl (fun h139 => ?_) (fun h139 => ?_)
                                              · refine aw_aload_n (i := 1) dL_law_1003 1004 rfl rfl 1 rfl ?_
                                                refine aw_aload_n (i := 0) dL_law_1004 1005 rfl rfl 0 rfl ?_
                                                refine aw_iload_n (i := 3) dL_law_1005 1006 rfl rfl 3 rfl ?_
                                                refine aw_iconst (x := 1) dL_law_1006 1007 rfl rfl ?_
                                                refine aw_iadd dL_law_1007 1008 rfl ?_
                                                refine aw_sld (fun _ _ h => h) dL_law_1008 1009 rfl (fun h140 => ?_)
                                                refine aw_aload_n (i := 0) dL_law_1009 1010 rfl rfl 0 rfl ?_
                                                refine aw_iload_n (i := 3) dL_law_1010 1011 rfl rfl 3 rfl ?_
                                                refine aw_iconst (x := 2) dL_law_1011 1012 rfl rfl ?_
                                                refine aw_iadd dL_law_1012 1013 rfl ?_
                                                refine aw_sld (fun _ _ h => h) dL_law_1013 1014 rfl (fun h141 => ?_)
                                                refine aw_aload_n (i := 0) dL_law_1014 1015 rfl rfl 0 rfl ?_
                                                refine aw_iload_n (i := 3) dL_law_1015 1016 rfl rfl 3 rfl ?_
                                                refine aw_iconst (x := 3) dL_law_1016 1017 rfl rfl ?_
                                                refine aw_iadd dL_law_1017 1018 rfl ?_
                                                refine aw_sld (fun _ _ h => h) dL_law_1018 1019 rfl (fun h142 => ?_)
                                                refine aw_callV (M2 := m_X10_river) (cv := q_cI) dL_law_1019 1022 rfl (k_X10_river l G (f0 (Int32.toNatClampNeg (x1 + 1))) (f0 (Int32.toNatClampNeg (x1 + 2))) (f0 (Int32.toNatClampNeg (x1 + 3)))  u1) wl_38 wv_X10_river pk_X10_river rfl rfl ⟨by decide, by decide⟩ ⟨Nat.le_of_ble_eq_true rfl, Nat.le_of_ble_eq_true rfl⟩ at_0 (ok_0 (by decide)) rfl rfl rfl (Nat.le_of_ble_eq_true rfl) (fun x44 u43 => ?_)
                                                show qAW l G m_L_law (q_xl G b0 l0 f0) 1022 [(0, .ref b0), (1, .ref (q_ad G 0 0)), (2, .ref (q_ad G 11 0)), (3, .int x1)] [.int x44] u43 _
                                                refine aw_aload_n (i := 2) dL_law_1022 1023 rfl rfl 2 rfl ?_
                                                refine aw_aload_n (i := 0) dL_law_1023 1024 rfl rfl 0 rfl ?_
                                                refine aw_iload_n (i := 3) dL_law_1024 1025 rfl rfl 3 rfl ?_
                                                refine aw_iconst (x := 1) dL_law_1025 1026 rfl rfl ?_
                                                refine aw_iadd dL_law_1026 1027 rfl ?_
                                                refine aw_sld (fun _ _ h => h) dL_law_1027 1028 rfl (fun h143 => ?_)
                                                refine aw_aload_n (i := 0) dL_law_1028 1029 rfl rfl 0 rfl ?_
                                                refine aw_iload_n (i := 3) dL_law_1029 1030 rfl rfl 3 rfl ?_
                                                refine aw_iconst (x := 2) dL_law_1030 1031 rfl rfl ?_
                                                refine aw_iadd dL_law_1031 1032 rfl ?_
                                                refine aw_sld (fun _ _ h => h) dL_law_1032 1033 rfl (fun h144 => ?_)
                                                refine aw_aload_n (i := 0) dL_law_1033 1034 rfl rfl 0 rfl ?_
                                                refine aw_iload_n (i := 3) dL_law_1034 1035 rfl rfl 3 rfl ?_
                                                refine aw_iconst (x := 3) dL_law_1035 1036 rfl rfl ?_
                                                refine aw_iadd dL_law_1036 1037 rfl ?_
                                                refine aw_sld (fun _ _ h => h) dL_law_1037 1038 rfl (fun h145 => ?_)
                                                refine aw_callV (M2 := m_X11_river) (cv := q_cI) dL_law_1038 1041 rfl (k_X11_river l G (f0 (Int32.toNatClampNeg (x1 + 1))) (f0 (Int32.toNatClampNeg (x1 + 2))) (f0 (Int32.toNatClampNeg (x1 + 3)))  u43) wl_39 wv_X11_river pk_X11_river rfl rfl ⟨by decide, by decide⟩ ⟨Nat.le_of_ble_eq_true rfl, Nat.le_of_ble_eq_true rfl⟩ at_11 (ok_11 (by decide)) rfl rfl rfl (Nat.le_of_ble_eq_true rfl) (fun x45 u44 => ?_)
                                                show qAW l G m_L_law (q_xl G b0 l0 f0) 1041 [(0, .ref b0), (1, .ref (q_ad G 0 0)), (2, .ref (q_ad G 11 0)), (3, .int x1)] [.int x45, .int x44] u44 _
                                                refine aw_icmp_eq dL_law_1041 1044 rfl 2067 rfl (fun h146 => ?_) (fun h146 => ?_)
                                                · exact hj1 u44
                                                · exact aw_none
                                              · refine aw_swIn (y := 20) dL_law_33 1046 (by decide) (by decide) rfl rfl (fun h147 => ?_) (fun h147 => ?_)
                                                · refine aw_aload_n (i := 1) dL_law_1046 1047 rfl rfl 1 rfl ?_
                                                  refine aw_aload_n (i := 0) dL_law_1047 1048 rfl rfl 0 rfl ?_
                                                  refine aw_iload_n (i := 3) dL_law_1048 1049 rfl rfl 3 rfl ?_
                                                  refine aw_iconst (x := 1) dL_law_1049 1050 rfl rfl ?_
                                                  refine aw_iadd dL_law_1050 1051 rfl ?_
                                                  refine aw_sld (fun _ _ h => h) dL_law_1051 1052 rfl (fun h148 => ?_)
                                                  refine aw_aload_n (i := 0) dL_law_1052 1053 rfl rfl 0 rfl ?_
                                                  refine aw_iload_n (i := 3) dL_law_1053 1054 rfl rfl 3 rfl ?_
                                                  refine aw_iconst (x := 2) dL_law_1054 1055 rfl rfl ?_
                                                  refine aw_iadd dL_law_1055 1056 rfl ?_
                                                  refine aw_sld (fun _ _ h => h) dL_law_1056 1057 rfl (fun h149 => ?_)
                                                  refine aw_aload_n (i := 0) dL_law_1057 1058 rfl rfl 0 rfl ?_
                                                  refine aw_iload_n (i := 3) dL_law_1058 1059 rfl rfl 3 rfl ?_
                                                  refine aw_iconst (x := 3) dL_law_1059 1060 rfl rfl ?_
                                                  refine aw_iadd dL_law_1060 1061 rfl ?_
                                                  refine aw_sld (fun _ _ h => h) dL_law_1061 1062 rfl (fun h150 => ?_)
                                                  refine aw_callV (M2 := m_X10_tide) (cv := q_cI) dL_law_1062 1065 rfl (k_X10_tide l G (f0 (Int32.toNatClampNeg (x1 + 1))) (f0 (Int32.toNatClampNeg (x1 + 2))) (f0 (Int32.toNatClampNeg (x1 + 3)))  u1) wl_40 wv_X10_tide pk_X10_tide rfl rfl ⟨by decide, by decide⟩ ⟨Nat.le_of_ble_eq_true rfl, Nat.le_of_ble_eq_true rfl⟩ at_0 (ok_0 (by decide)) rfl rfl rfl (Nat.le_of_ble_eq_true rfl) (fun x46 u45 => ?_)
                                                  show qAW l G m_L_law (q_xl G b0 l0 f0) 1065 [(0, .ref b0), (1, .ref (q_ad G 0 0)), (2, .ref (q_ad G 11 0)), (3, .int x1)] [.int x46] u45 _
                                                  refine aw_aload_n (i := 2) dL_law_1065 1066 rfl rfl 2 rfl ?_
                                                  refine aw_aload_n (i := 0) dL_law_1066 1067 rfl rfl 0 rfl ?_
                                                  refine aw_iload_n (i := 3) dL_law_1067 1068 rfl rfl 3 rfl ?_
                                                  refine aw_iconst (x := 1) dL_law_1068 1069 rfl rfl ?_
                                                  refine aw_iadd dL_law_1069 1070 rfl ?_
                                                  refine aw_sld (fun _ _ h => h) dL_law_1070 1071 rfl (fun h151 => ?_)
                                                  refine aw_aload_n (i := 0) dL_law_1071 1072 rfl rfl 0 rfl ?_
                                                  refine aw_iload_n (i := 3) dL_law_1072 1073 rfl rfl 3 rfl ?_
                                                  refine aw_iconst (x := 2) dL_law_1073 1074 rfl rfl ?_
                                                  refine aw_iadd dL_law_1074 1075 rfl ?_
                                                  refine aw_sld (fun _ _ h => h) dL_law_1075 1076 rfl (fun h152 => ?_)
                                                  refine aw_aload_n (i := 0) dL_law_1076 1077 rfl rfl 0 rfl ?_
                                                  refine aw_iload_n (i := 3) dL_law_1077 1078 rfl rfl 3 rfl ?_
                                                  refine aw_iconst (x := 3) dL_law_1078 1079 rfl rfl ?_
                                                  refine aw_iadd dL_law_1079 1080 rfl ?_
                                                  refine aw_sld (fun _ _ h => h) dL_law_1080 1081 rfl (fun h153 => ?_)
                                                  refine aw_callV (M2 := m_X11_tide) (cv := q_cI) dL_law_1081 1084 rfl (k_X11_tide l G (f0 (Int32.toNatClampNeg (x1 + 1))) (f0 (Int32.toNatClampNeg (x1 + 2))) (f0 (Int32.toNatClampNeg (x1 + 3)))  u45) wl_41 wv_X11_tide pk_X11_tide rfl rfl ⟨by decide, by decide⟩ ⟨Nat.le_of_ble_eq_true rfl, Nat.le_of_ble_eq_true rfl⟩ at_11 (ok_11 (by decide)) rfl rfl rfl (Nat.le_of_ble_eq_true rfl) (fun x47 u46 => ?_)
                                                  show qAW l G m_L_law (q_xl G b0 l0 f0) 1084 [(0, .ref b0), (1, .ref (q_ad G 0 0)), (2, .ref (q_ad G 11 0)), (3, .int x1)] [.int x47, .int x46] u46 _
                                                  refine aw_icmp_eq dL_law_1084 1087 rfl 2067 rfl (fun h154 => ?_) (fun h154 => ?_)
                                                  · exact hj1 u46
                                                  · exact aw_none
                                                · refine aw_swIn (y := 21) dL_law_33 1089 (by decide) (by decide) rfl rfl (fun h155 => ?_) (fun h155 => ?_)
                                                  · refine aw_aload_n (i := 1) dL_law_1089 1090 rfl rfl 1 rfl ?_
                                                    refine aw_aload_n (i := 0) dL_law_1090 1091 rfl rfl 0 rfl ?_
                                                    refine aw_iload_n (i := 3) dL_law_1091 1092 rfl rfl 3 rfl ?_
                                                    refine aw_iconst (x := 1) dL_law_1092 1093 rfl rfl ?_
                                                    refine aw_iadd dL_law_1093 1094 rfl ?_
                                                    refine aw_sld (fun _ _ h => h) dL_law_1094 1095 rfl (fun h156 => ?_)
                                                    refine aw_aload_n (i := 0) dL_law_1095 1096 rfl rfl 0 rfl ?_
                                                    refine aw_iload_n (i := 3) dL_law_1096 1097 rfl rfl 3 rfl ?_
                                                    refine aw_iconst (x := 2) dL_law_1097 1098 rfl rfl ?_
                                                    refine aw_iadd dL_law_1098 1099 rfl ?_
                                                    refine aw_sld (fun _ _ h => h) dL_law_1099 1100 rfl (fun h157 => ?_)
                                                    refine aw_callV (M2 := m_X10_step) (cv := q_cI) dL_law_1100 1103 rfl (k_X10_step l G (f0 (Int32.toNatClampNeg (x1 + 1))) (f0 (Int32.toNatClampNeg (x1 + 2)))  u1) wl_42 wv_X10_step pk_X10_step rfl rfl ⟨by decide, by decide⟩ ⟨Nat.le_of_ble_eq_true rfl, Nat.le_of_ble_eq_true rfl⟩ at_0 (ok_0 (by decide)) rfl rfl rfl (Nat.le_of_ble_eq_true rfl) (fun x48 u47 => ?_)
                                                    show qAW l G m_L_law (q_xl G b0 l0 f0) 1103 [(0, .ref b0), (1, .ref (q_ad G 0 0)), (2, .ref (q_ad G 11 0)), (3, .int x1)] [.int x48] u47 _
                                                    refine aw_aload_n (i := 2) dL_law_1103 1104 rfl rfl 2 rfl ?_
                                                    refine aw_aload_n (i := 0) dL_law_1104 1105 rfl rfl 0 rfl ?_
                                                    refine aw_iload_n (i := 3) dL_law_1105 1106 rfl rfl 3 rfl ?_
                                                    refine aw_iconst (x := 1) dL_law_1106 1107 rfl rfl ?_
                                                    refine aw_iadd dL_law_1107 1108 rfl ?_
                                                    refine aw_sld (fun _ _ h => h) dL_law_1108 1109 rfl (fun h158 => ?_)
                                                    refine aw_aload_n (i := 0) dL_law_1109 1110 rfl rfl 0 rfl ?_
                                                    refine aw_iload_n (i := 3) dL_law_1110 1111 rfl rfl 3 rfl ?_
                                                    refine aw_iconst (x := 2) dL_law_1111 1112 rfl rfl ?_
                                                    refine aw_iadd dL_law_1112 1113 rfl ?_
                                                    refine aw_sld (fun _ _ h => h) dL_law_1113 1114 rfl (fun h159 => ?_)
                                                    refine aw_callV (M2 := m_X11_step) (cv := q_cI) dL_law_1114 1117 rfl (k_X11_step l G (f0 (Int32.toNatClampNeg (x1 + 1))) (f0 (Int32.toNatClampNeg (x1 + 2)))  u47) wl_43 wv_X11_step pk_X11_step rfl rfl ⟨by decide, by decide⟩ ⟨Nat.le_of_ble_eq_true rfl, Nat.le_of_ble_eq_true rfl⟩ at_11 (ok_11 (by decide)) rfl rfl rfl (Nat.le_of_ble_eq_true rfl) (fun x49 u48 => ?_)
                                                    show qAW l G m_L_law (q_xl G b0 l0 f0) 1117 [(0, .ref b0), (1, .ref (q_ad G 0 0)), (2, .ref (q_ad G 11 0)), (3, .int x1)] [.int x49, .int x48] u48 _
                                                    refine aw_icmp_eq dL_law_1117 1120 rfl 2067 rfl (fun h160 => ?_) (fun h160 => ?_)
                                                    · exact hj1 u48
                                                    · exact aw_none
                                                  · refine aw_swIn (y := 22) dL_law_33 1122 (by decide) (by decide) rfl rfl (fun h161 => ?_) (fun h161 => ?_)
                                                    · refine aw_aload_n (i := 1) dL_law_1122 1123 rfl rfl 1 rfl ?_
                                                      refine aw_aload_n (i := 0) dL_law_1123 1124 rfl rfl 0 rfl ?_
                                                      refine aw_iload_n (i := 3) dL_law_1124 1125 rfl rfl 3 rfl ?_
                                                      refine aw_iconst (x := 1) dL_law_1125 1126 rfl rfl ?_
                                                      refine aw_iadd dL_law_1126 1127 rfl ?_
                                                      refine aw_sld (fun _ _ h => h) dL_law_1127 1128 rfl (fun h162 => ?_)
                                                      refine aw_aload_n (i := 0) dL_law_1128 1129 rfl rfl 0 rfl ?_
                                                      refine aw_iload_n (i := 3) dL_law_1129 1130 rfl rfl 3 rfl ?_
                                                      refine aw_iconst (x := 2) dL_law_1130 1131 rfl rfl ?_
                                                      refine aw_iadd dL_law_1131 1132 rfl ?_
                                                      refine aw_sld (fun _ _ h => h) dL_law_1132 1133 rfl (fun h163 => ?_)
                                                      refine aw_callV (M2 := m_X10_told) (cv := q_cI) dL_law_1133 1136 rfl (k_X10_told l G (f0 (Int32.toNatClampNeg (x1 + 1))) (f0 (Int32.toNatClampNeg (x1 + 2)))  u1) wl_44 wv_X10_told pk_X10_told rfl rfl ⟨by decide, by decide⟩ ⟨Nat.le_of_ble_eq_true rfl, Nat.le_of_ble_eq_true rfl⟩ at_0 (ok_0 (by decide)) rfl rfl rfl (Nat.le_of_ble_eq_true rfl) (fun x50 u49 => ?_)
                                                      show qAW l G m_L_law (q_xl G b0 l0 f0) 1136 [(0, .ref b0), (1, .ref (q_ad G 0 0)), (2, .ref (q_ad G 11 0)), (3, .int x1)] [.int x50] u49 _
                                                      refine aw_aload_n (i := 2) dL_law_1136 1137 rfl rfl 2 rfl ?_
                                                      refine aw_aload_n (i := 0) dL_law_1137 1138 rfl rfl 0 rfl ?_
                                                      refine aw_iload_n (i := 3) dL_law_1138 1139 rfl rfl 3 rfl ?_
                                                      refine aw_iconst (x := 1) dL_law_1139 1140 rfl rfl ?_
                                                      refine aw_iadd dL_law_1140 1141 rfl ?_
                                                      refine aw_sld (fun _ _ h => h) dL_law_1141 1142 rfl (fun h164 => ?_)
                                                      refine aw_aload_n (i := 0) dL_law_1142 1143 rfl rfl 0 rfl ?_
                                                      refine aw_iload_n (i := 3) dL_law_1143 1144 rfl rfl 3 rfl ?_
                                                      refine aw_iconst (x := 2) dL_law_1144 1145 rfl rfl ?_
                                                      refine aw_iadd dL_law_1145 1146 rfl ?_
                                                      refine aw_sld (fun _ _ h => h) dL_law_1146 1147 rfl (fun h165 => ?_)
                                                      refine aw_callV (M2 := m_X11_told) (cv := q_cI) dL_law_1147 1150 rfl (k_X11_told l G (f0 (Int32.toNatClampNeg (x1 + 1))) (f0 (Int32.toNatClampNeg (x1 + 2)))  u49) wl_45 wv_X11_told pk_X11_told rfl rfl ⟨by decide, by decide⟩ ⟨Nat.le_of_ble_eq_true rfl, Nat.le_of_ble_eq_true rfl⟩ at_11 (ok_11 (by decide)) rfl rfl rfl (Nat.le_of_ble_eq_true rfl) (fun x51 u50 => ?_)
                                                      show qAW l G m_L_law (q_xl G b0 l0 f0) 1150 [(0, .ref b0), (1, .ref (q_ad G 0 0)), (2, .ref (q_ad G 11 0)), (3, .int x1)] [.int x51, .int x50] u50 _
                                                      refine aw_icmp_eq dL_law_1150 1153 rfl 2067 rfl (fun h166 => ?_) (fun h166 => ?_)
                                                      · exact hj1 u50
                                                      · exact aw_none
                                                    · refine aw_swIn (y := 23) dL_law_33 1155 (by decide) (by decide) rfl rfl (fun h167 => ?_) (fun h167 => ?_)
                                                      · refine aw_aload_n (i := 1) dL_law_1155 1156 rfl rfl 1 rfl ?_
                                                        refine aw_aload_n (i := 0) dL_law_1156 1157 rfl rfl 0 rfl ?_
                                                        refine aw_iload_n (i := 3) dL_law_1157 1158 rfl rfl 3 rfl ?_
                                                        refine aw_iconst (x := 1) dL_law_1158 1159 rfl rfl ?_
                                                        refine aw_iadd dL_law_1159 1160 rfl ?_
                                                        refine aw_sld (fun _ _ h => h) dL_law_1160 1161 rfl (fun h168 => ?_)
                                                        refine aw_aload_n (i := 0) dL_law_1161 1162 rfl rfl 0 rfl ?_
                                                        refine aw_iload_n (i := 3) dL_law_1162 1163 rfl rfl 3 rfl ?_
                                                        refine aw_iconst (x := 2) dL_law_1163 1164 rfl rfl ?_
                                                        refine aw_iadd dL_law_1164 1165 rfl ?_
                                                        refine aw_sld (fun _ _ h => h) dL_law_1165 1166 rfl (fun h169 => ?_)
                                                        refine aw_callV (M2 := m_X10_mark) (cv := q_cI) dL_law_1166 1169 rfl (k_X10_mark l G (f0 (Int32.toNatClampNeg (x1 + 1))) (f0 (Int32.toNatClampNeg (x1 + 2)))  u1) wl_46 wv_X10_mark pk_X10_mark rfl rfl ⟨by decide, by decide⟩ ⟨Nat.le_of_ble_eq_true rfl, Nat.le_of_ble_eq_true rfl⟩ at_0 (ok_0 (by decide)) rfl rfl rfl (Nat.le_of_ble_eq_true rfl) (fun x52 u51 => ?_)
                                                        show qAW l G m_L_law (q_xl G b0 l0 f0) 1169 [(0, .ref b0), (1, .ref (q_ad G 0 0)), (2, .ref (q_ad G 11 0)), (3, .int x1)] [.int x52] u51 _
                                                        refine aw_aload_n (i := 2) dL_law_1169 1170 rfl rfl 2 rfl ?_
                                                        refine aw_aload_n (i := 0) dL_law_1170 1171 rfl rfl 0 rfl ?_
                                                        refine aw_iload_n (i := 3) dL_law_1171 1172 rfl rfl 3 rfl ?_
                                                        refine aw_iconst (x := 1) dL_law_1172 1173 rfl rfl ?_
                                                        refine aw_iadd dL_law_1173 1174 rfl ?_
                                                        refine aw_sld (fun _ _ h => h) dL_law_1174 1175 rfl (fun h170 => ?_)
                                                        refine aw_aload_n (i := 0) dL_law_1175 1176 rfl rfl 0 rfl ?_
                                                        refine aw_iload_n (i := 3) dL_law_1176 1177 rfl rfl 3 rfl ?_
                                                        refine aw_iconst (x := 2) dL_law_1177 1178 rfl rfl ?_
                                                        refine aw_iadd dL_law_1178 1179 rfl ?_
                                                        refine aw_sld (fun _ _ h => h) dL_law_1179 1180 rfl (fun h171 => ?_)
                                                        refine aw_callV (M2 := m_X11_mark) (cv := q_cI) dL_law_1180 1183 rfl (k_X11_mark l G (f0 (Int32.toNatClampNeg (x1 + 1))) (f0 (Int32.toNatClampNeg (x1 + 2)))  u51) wl_47 wv_X11_mark pk_X11_mark rfl rfl ⟨by decide, by decide⟩ ⟨Nat.le_of_ble_eq_true rfl, Nat.le_of_ble_eq_true rfl⟩ at_11 (ok_11 (by decide)) rfl rfl rfl (Nat.le_of_ble_eq_true rfl) (fun x53 u52 => ?_)
                                                        show qAW l G m_L_law (q_xl G b0 l0 f0) 1183 [(0, .ref b0), (1, .ref (q_ad G 0 0)), (2, .ref (q_ad G 11 0)), (3, .int x1)] [.int x53, .int x52] u52 _
                                                        refine aw_icmp_eq dL_law_1183 1186 rfl 2067 rfl (fun h172 => ?_) (fun h172 => ?_)
                                                        · exact hj1 u52
                                                        · exact aw_none
                                                      · refine aw_swIn (y := 24) dL_law_33 1188 (by decide) (by decide) rfl rfl (fun h173 => ?_) (fun h173 => ?_)
                                                        · refine aw_aload_n (i := 1) dL_law_1188 1189 rfl rfl 1 rfl ?_
                                                          refine aw_aload_n (i := 0) dL_law_1189 1190 rfl rfl 0 rfl ?_
                                                          refine aw_iload_n (i := 3) dL_law_1190 1191 rfl rfl 3 rfl ?_
                                                          refine aw_iconst (x := 1) dL_law_1191 1192 rfl rfl ?_
                                                          refine aw_iadd dL_law_1192 1193 rfl ?_
                                                          refine aw_sld (fun _ _ h => h) dL_law_1193 1194 rfl (fun h174 => ?_)
                                                          refine aw_aload_n (i := 0) dL_law_1194 1195 rfl rfl 0 rfl ?_
                                                          refine aw_iload_n (i := 3) dL_law_1195 1196 rfl rfl 3 rfl ?_
                                                          refine aw_iconst (x := 2) dL_law_1196 1197 rfl rfl ?_
                                                          refine aw_iadd dL_law_1197 1198 rfl ?_
                                                          refine aw_sld (fun _ _ h => h) dL_law_1198 1199 rfl (fun h175 => ?_)
                                                          refine aw_callV (M2 := m_X10_keep) (cv := q_cI) dL_law_1199 1202 rfl (k_X10_keep l G (f0 (Int32.toNatClampNeg (x1 + 1))) (f0 (Int32.toNatClampNeg (x1 + 2)))  u1) wl_48 wv_X10_keep pk_X10_keep rfl rfl ⟨by decide, by decide⟩ ⟨Nat.le_of_ble_eq_true rfl, Nat.le_of_ble_eq_true rfl⟩ at_0 (ok_0 (by decide)) rfl rfl rfl (Nat.le_of_ble_eq_true rfl) (fun x54 u53 => ?_)
                                                          show qAW l G m_L_law (q_xl G b0 l0 f0) 1202 [(0, .ref b0), (1, .ref (q_ad G 0 0)), (2, .ref (q_ad G 11 0)), (3, .int x1)] [.int x54] u53 _
                                                          refine aw_aload_n (i := 2) dL_law_1202 1203 rfl rfl 2 rfl ?_
                                                          refine aw_aload_n (i := 0) dL_law_1203 1204 rfl rfl 0 rfl ?_
                                                          refine aw_iload_n (i := 3) dL_law_1204 1205 rfl rfl 3 rfl ?_
                                                          refine aw_iconst (x := 1) dL_law_1205 1206 rfl rfl ?_
                                                          refine aw_iadd dL_law_1206 1207 rfl ?_
                                                          refine aw_sld (fun _ _ h => h) dL_law_1207 1208 rfl (fun h176 => ?_)
                                                          refine aw_aload_n (i := 0) dL_law_1208 1209 rfl rfl 0 rfl ?_
                                                          refine aw_iload_n (i := 3) dL_law_1209 1210 rfl rfl 3 rfl ?_
                                                          refine aw_iconst (x := 2) dL_law_1210 1211 rfl rfl ?_
                                                          refine aw_iadd dL_law_1211 1212 rfl ?_
                                                          refine aw_sld (fun _ _ h => h) dL_law_1212 1213 rfl (fun h177 => ?_)
                                                          refine aw_callV (M2 := m_X11_keep) (cv := q_cI) dL_law_1213 1216 rfl (k_X11_keep l G (f0 (Int32.toNatClampNeg (x1 + 1))) (f0 (Int32.toNatClampNeg (x1 + 2)))  u53) wl_49 wv_X11_keep pk_X11_keep rfl rfl ⟨by decide, by decide⟩ ⟨Nat.le_of_ble_eq_true rfl, Nat.le_of_ble_eq_true rfl⟩ at_11 (ok_11 (by decide)) rfl rfl rfl (Nat.le_of_ble_eq_true rfl) (fun x55 u54 => ?_)
                                                          show qAW l G m_L_law (q_xl G b0 l0 f0) 1216 [(0, .ref b0), (1, .ref (q_ad G 0 0)), (2, .ref (q_ad G 11 0)), (3, .int x1)] [.int x55, .int x54] u54 _
                                                          refine aw_icmp_eq dL_law_1216 1219 rfl 2067 rfl (fun h178 => ?_) (fun h178 => ?_)
                                                          · exact hj1 u54
                                                          · exact aw_none
                                                        · refine aw_swIn (y := 25) dL_law_33 1221 (by decide) (by decide) rfl rfl (fun h179 => ?_) (fun h179 => ?_)
                                                          · refine aw_aload_n (i := 1) dL_law_1221 1222 rfl rfl 1 rfl ?_
                                                            refine aw_aload_n (i := 0) dL_law_1222 1223 rfl rfl 0 rfl ?_
                                                            refine aw_iload_n (i := 3) dL_law_1223 1224 rfl rfl 3 rfl ?_
                                                            refine aw_iconst (x := 1) dL_law_1224 1225 rfl rfl ?_
                                                            refine aw_iadd dL_law_1225 1226 rfl ?_
                                                            refine aw_sld (fun _ _ h => h) dL_law_1226 1227 rfl (fun h180 => ?_)
                                                            refine aw_callV (M2 := m_X10_mirror) (cv := q_cI) dL_law_1227 1230 rfl (k_X10_mirror l G (f0 (Int32.toNatClampNeg (x1 + 1)))  u1) wl_50 wv_X10_mirror pk_X10_mirror rfl rfl ⟨by decide, by decide⟩ ⟨Nat.le_of_ble_eq_true rfl, Nat.le_of_ble_eq_true rfl⟩ at_0 (ok_0 (by decide)) rfl rfl rfl (Nat.le_of_ble_eq_true rfl) (fun x56 u55 => ?_)
                                                            show qAW l G m_L_law (q_xl G b0 l0 f0) 1230 [(0, .ref b0), (1, .ref (q_ad G 0 0)), (2, .ref (q_ad G 11 0)), (3, .int x1)] [.int x56] u55 _
                                                            refine aw_aload_n (i := 2) dL_law_1230 1231 rfl rfl 2 rfl ?_
                                                            refine aw_aload_n (i := 0) dL_law_1231 1232 rfl rfl 0 rfl ?_
                                                            refine aw_iload_n (i := 3) dL_law_1232 1233 rfl rfl 3 rfl ?_
                                                            refine aw_iconst (x := 1) dL_law_1233 1234 rfl rfl ?_
                                                            refine aw_iadd dL_law_1234 1235 rfl ?_
                                                            refine aw_sld (fun _ _ h => h) dL_law_1235 1236 rfl (fun h181 => ?_)
                                                            refine aw_callV (M2 := m_X11_mirror) (cv := q_cI) dL_law_1236 1239 rfl (k_X11_mirror l G (f0 (Int32.toNatClampNeg (x1 + 1)))  u55) wl_51 wv_X11_mirror pk_X11_mirror rfl rfl ⟨by decide, by decide⟩ ⟨Nat.le_of_ble_eq_true rfl, Nat.le_of_ble_eq_true rfl⟩ at_11 (ok_11 (by decide)) rfl rfl rfl (Nat.le_of_ble_eq_true rfl) (fun x57 u56 => ?_)
                                                            show qAW l G m_L_law (q_xl G b0 l0 f0) 1239 [(0, .ref b0), (1, .ref (q_ad G 0 0)), (2, .ref (q_ad G 11 0)), (3, .int x1)] [.int x57, .int x56] u56 _
                                                            refine aw_icmp_eq dL_law_1239 1242 rfl 2067 rfl (fun h182 => ?_) (fun h182 => ?_)
                                                            · exact hj1 u56
                                                            · exact aw_none
                                                          · refine aw_swIn (y := 26) dL_law_33 1244 (by decide) (by decide) rfl rfl (fun h183 => ?_) (fun h183 => ?_)
                                                            · refine aw_aload_n (i := 1) dL_law_1244 1245 rfl rfl 1 rfl ?_
                                                              refine aw_aload_n (i := 0) dL_law_1245 1246 rfl rfl 0 rfl ?_
                                                              refine aw_iload_n (i := 3) dL_law_1246 1247 rfl rfl 3 rfl ?_
                                                              refine aw_iconst (x := 1) dL_law_1247 1248 rfl rfl ?_
                                                              refine aw_iadd dL_law_1248 1249 rfl ?_
                                                              refine aw_sld (fun _ _ h => h) dL_law_1249 1250 rfl (fun h184 => ?_)
                                                              refine aw_aload_n (i := 0) dL_law_1250 1251 rfl rfl 0 rfl ?_
                                                              refine aw_iload_n (i := 3) dL_law_1251 1252 rfl rfl 3 rfl ?_
                                                              refine aw_iconst (x := 2) dL_law_1252 1253 rfl rfl ?_
                                                              refine aw_iadd dL_law_1253 1254 rfl ?_
                                                              refine aw_sld (fun _ _ h => h) dL_law_1254 1255 rfl (fun h185 => ?_)
                                                              refine aw_aload_n (i := 0) dL_law_1255 1256 rfl rfl 0 rfl ?_
                                                              refine aw_iload_n (i := 3) dL_law_1256 1257 rfl rfl 3 rfl ?_
                                                              refine aw_iconst (x := 3) dL_law_1257 1258 rfl rfl ?_
                                                              refine aw_iadd dL_law_1258 1259 rfl ?_
                                                              refine aw_sld (fun _ _ h => h) dL_law_1259 1260 rfl (fun h186 => ?_)
                                                              refine aw_aload_n (i := 0) dL_law_1260 1261 rfl rfl 0 rfl ?_
                                                              refine aw_iload_n (i := 3) dL_law_1261 1262 rfl rfl 3 rfl ?_
                                                              refine aw_iconst (x := 4) dL_law_1262 1263 rfl rfl ?_
                                                              refine aw_iadd dL_law_1263 1264 rfl ?_
                                                              refine aw_sld (fun _ _ h => h) dL_law_1264 1265 rfl (fun h187 => ?_)
                                                              refine aw_callV (M2 := m_X10_boat) (cv := q_cI) dL_law_1265 1268 rfl (k_X10_boat l G (f0 (Int32.toNatClampNeg (x1 + 1))) (f0 (Int32.toNatClampNeg (x1 + 2))) (f0 (Int32.toNatClampNeg (x1 + 3))) (f0 (Int32.toNatClampNeg (x1 + 4)))  u1) wl_52 wv_X10_boat pk_X10_boat rfl rfl ⟨by decide, by decide⟩ ⟨Nat.le_of_ble_eq_true rfl, Nat.le_of_ble_eq_true rfl⟩ at_0 (ok_0 (by decide)) rfl rfl rfl (Nat.le_of_ble_eq_true rfl) (fun x58 u57 => ?_)
                                                              show qAW l G m_L_law (q_xl G b0 l0 f0) 1268 [(0, .ref b0), (1, .ref (q_ad G 0 0)), (2, .ref (q_ad G 11 0)), (3, .int x1)] [.int x58] u57 _
                                                              refine aw_aload_n (i := 2) dL_law_1268 1269 rfl rfl 2 rfl ?_
                                                              refine aw_aload_n (i := 0) dL_law_1269 1270 rfl rfl 0 rfl ?_
                                                              refine aw_iload_n (i := 3) dL_law_1270 1271 rfl rfl 3 rfl ?_
                                                              refine aw_iconst (x := 1) dL_law_1271 1272 rfl rfl ?_
                                                              refine aw_iadd dL_law_1272 1273 rfl ?_
                                                              refine aw_sld (fun _ _ h => h) dL_law_1273 1274 rfl (fun h188 => ?_)
                                                              refine aw_aload_n (i := 0) dL_law_1274 1275 rfl rfl 0 rfl ?_
                                                              refine aw_iload_n (i := 3) dL_law_1275 1276 rfl rfl 3 rfl ?_
                                                              refine aw_iconst (x := 2) dL_law_1276 1277 rfl rfl ?_
                                                              refine aw_iadd dL_law_1277 1278 rfl ?_
                                                              refine aw_sld (fun _ _ h => h) dL_law_1278 1279 rfl (fun h189 => ?_)
                                                              refine aw_aload_n (i := 0) dL_law_1279 1280 rfl rfl 0 rfl ?_
                                                              refine aw_iload_n (i := 3) dL_law_1280 1281 rfl rfl 3 rfl ?_
                                                              refine aw_iconst (x := 3) dL_law_1281 1282 rfl rfl ?_
                                                              refine aw_iadd dL_law_1282 1283 rfl ?_
                                                              refine aw_sld (fun _ _ h => h) dL_law_1283 1284 rfl (fun h190 => ?_)
                                                              refine aw_aload_n (i := 0) dL_law_1284 1285 rfl rfl 0 rfl ?_
                                                              refine aw_iload_n (i := 3) dL_law_1285 1286 rfl rfl 3 rfl ?_
                                                              refine aw_iconst (x := 4) dL_law_1286 1287 rfl rfl ?_
                                                              refine aw_iadd dL_law_1287 1288 rfl ?_
                                                              refine aw_sld (fun _ _ h => h) dL_law_1288 1289 rfl (fun h191 => ?_)
                                                              refine aw_callV (M2 := m_X11_boat) (cv := q_cI) dL_law_1289 1292 rfl (k_X11_boat l G (f0 (Int32.toNatClampNeg (x1 + 1))) (f0 (Int32.toNatClampNeg (x1 + 2))) (f0 (Int32.toNatClampNeg (x1 + 3))) (f0 (Int32.toNatClampNeg (x1 + 4)))  u57) wl_53 wv_X11_boat pk_X11_boat rfl rfl ⟨by decide, by decide⟩ ⟨Nat.le_of_ble_eq_true rfl, Nat.le_of_ble_eq_true rfl⟩ at_11 (ok_11 (by decide)) rfl rfl rfl (Nat.le_of_ble_eq_true rfl) (fun x59 u58 => ?_)
                                                              show qAW l G m_L_law (q_xl G b0 l0 f0) 1292 [(0, .ref b0), (1, .ref (q_ad G 0 0)), (2, .ref (q_ad G 11 0)), (3, .int x1)] [.int x59, .int x58] u58 _
                                                              refine aw_icmp_eq dL_law_1292 1295 rfl 2067 rfl (fun h192 => ?_) (fun h192 => ?_)
                                                              · exact hj1 u58
                                                              · exact aw_none
                                                            · refine aw_swIn (y := 27) dL_law_33 1297 (by decide) (by decide) rfl rfl (fun h193 => ?_) (fun h193 => ?_)
                                                              · refine aw_aload_n (i := 1) dL_law_1297 1298 rfl rfl 1 rfl ?_
                                                                refine aw_aload_n (i := 0) dL_law_1298 1299 rfl rfl 0 rfl ?_
                                                                refine aw_iload_n (i := 3) dL_law_1299 1300 rfl rfl 3 rfl ?_
                                                                refine aw_iconst (x := 1) dL_law_1300 1301 rfl rfl ?_
                                                                refine aw_iadd dL_law_1301 1302 rfl ?_
                                                                refine aw_sld (fun _ _ h => h) dL_law_1302 1303 rfl (fun h194 => ?_)
                                                                refine aw_callV (M2 := m_X10_where) (cv := q_cI) dL_law_1303 1306 rfl (k_X10_where l G (f0 (Int32.toNatClampNeg (x1 + 1)))  u1) wl_54 wv_X10_where pk_X10_where rfl rfl ⟨by decide, by decide⟩ ⟨Nat.le_of_ble_eq_true rfl, Nat.le_of_ble_eq_true rfl⟩ at_0 (ok_0 (by decide)) rfl rfl rfl (Nat.le_of_ble_eq_true rfl) (fun x60 u59 => ?_)
                                                                show qAW l G m_L_law (q_xl G b0 l0 f0) 1306 [(0, .ref b0), (1, .ref (q_ad G 0 0)), (2, .ref (q_ad G 11 0)), (3, .int x1)] [.int x60] u59 _
                                                                refine aw_aload_n (i := 2) dL_law_1306 1307 rfl rfl 2 rfl ?_
                                                                refine aw_aload_n (i := 0) dL_law_1307 1308 rfl rfl 0 rfl ?_
                                                                refine aw_iload_n (i := 3) dL_law_1308 1309 rfl rfl 3 rfl ?_
                                                                refine aw_iconst (x := 1) dL_law_1309 1310 rfl rfl ?_
                                                                refine aw_iadd dL_law_1310 1311 rfl ?_
                                                                refine aw_sld (fun _ _ h => h) dL_law_1311 1312 rfl (fun h195 => ?_)
                                                                refine aw_callV (M2 := m_X11_where) (cv := q_cI) dL_law_1312 1315 rfl (k_X11_where l G (f0 (Int32.toNatClampNeg (x1 + 1)))  u59) wl_55 wv_X11_where pk_X11_where rfl rfl ⟨by decide, by decide⟩ ⟨Nat.le_of_ble_eq_true rfl, Nat.le_of_ble_eq_true rfl⟩ at_11 (ok_11 (by decide)) rfl rfl rfl (Nat.le_of_ble_eq_true rfl) (fun x61 u60 => ?_)
                                                                show qAW l G m_L_law (q_xl G b0 l0 f0) 1315 [(0, .ref b0), (1, .ref (q_ad G 0 0)), (2, .ref (q_ad G 11 0)), (3, .int x1)] [.int x61, .int x60] u60 _
                                                                refine aw_icmp_eq dL_law_1315 1318 rfl 2067 rfl (fun h196 => ?_) (fun h196 => ?_)
                                                                · exact hj1 u60
                                                                · exact aw_none
                                                              · refine aw_swIn (y := 28) dL_law_33 1320 (by decide) (by decide) rfl rfl (fun h197 => ?_) (fun h197 => ?_)
                                                                · refine aw_aload_n (i := 1) dL_law_1320 1321 rfl rfl 1 rfl ?_
                                                                  refine aw_aload_n (i := 0) dL_law_1321 1322 rfl rfl 0 rfl ?_
                                                                  refine aw_iload_n (i := 3) dL_law_1322 1323 rfl rfl 3 rfl ?_
                                                                  refine aw_iconst (x := 1) dL_law_1323 1324 rfl rfl ?_
                                                                  refine aw_iadd dL_law_1324 1325 rfl ?_
                                                                  refine aw_sld (fun _ _ h => h) dL_law_1325 1326 rfl (fun h198 => ?_)
                                                                  refine aw_aload_n (i := 0) dL_law_1326 1327 rfl rfl 0 rfl ?_
                                                                  refine aw_iload_n (i := 3) dL_law_1327 1328 rfl rfl 3 rfl ?_
                                                                  refine aw_iconst (x := 2) dL_law_1328 1329 rfl rfl ?_
                                                                  refine aw_iadd dL_law_1329 1330 rfl ?_
                                                                  refine aw_sld (fun _ _ h => h) dL_law_1330 1331 rfl (fun h199 => ?_)
                                                                  refine aw_aload_n (i := 0) dL_law_1331 1332 rfl rfl 0 rfl ?_
                                                                  refine aw_iload_n (i := 3) dL_law_1332 1333 rfl rfl 3 rfl ?_
                                                                  refine aw_iconst (x := 3) dL_law_1333 1334 rfl rfl ?_
                                                                  refine aw_iadd dL_law_1334 1335 rfl ?_
                                                                  refine aw_sld (fun _ _ h => h) dL_law_1335 1336 rfl (fun h200 => ?_)
                                                                  refine aw_callV (M2 := m_X10_gauge) (cv := q_cI) dL_law_1336 1339 rfl (k_X10_gauge l G (f0 (Int32.toNatClampNeg (x1 + 1))) (f0 (Int32.toNatClampNeg (x1 + 2))) (f0 (Int32.toNatClampNeg (x1 + 3)))  u1) wl_56 wv_X10_gauge pk_X10_gauge rfl rfl ⟨by decide, by decide⟩ ⟨Nat.le_of_ble_eq_true rfl, Nat.le_of_ble_eq_true rfl⟩ at_0 (ok_0 (by decide)) rfl rfl rfl (Nat.le_of_ble_eq_true rfl) (fun x62 u61 => ?_)
                                                                  show qAW l G m_L_law (q_xl G b0 l0 f0) 1339 [(0, .ref b0), (1, .ref (q_ad G 0 0)), (2, .ref (q_ad G 11 0)), (3, .int x1)] [.int x62] u61 _
                                                                  refine aw_aload_n (i := 2) dL_law_1339 1340 rfl rfl 2 rfl ?_
                                                                  refine aw_aload_n (i := 0) dL_law_1340 1341 rfl rfl 0 rfl ?_
                                                                  refine aw_iload_n (i := 3) dL_law_1341 1342 rfl rfl 3 rfl ?_
                                                                  refine aw_iconst (x := 1) dL_law_1342 1343 rfl rfl ?_
                                                                  refine aw_iadd dL_law_1343 1344 rfl ?_
                                                                  refine aw_sld (fun _ _ h => h) dL_law_1344 1345 rfl (fun h201 => ?_)
                                                                  refine aw_aload_n (i := 0) dL_law_1345 1346 rfl rfl 0 rfl ?_
                                                                  refine aw_iload_n (i := 3) dL_law_1346 1347 rfl rfl 3 rfl ?_
                                                                  refine aw_iconst (x := 2) dL_law_1347 1348 rfl rfl ?_
                                                                  refine aw_iadd dL_law_1348 1349 rfl ?_
                                                                  refine aw_sld (fun _ _ h => h) dL_law_1349 1350 rfl (fun h202 => ?_)
                                                                  refine aw_aload_n (i := 0) dL_law_1350 1351 rfl rfl 0 rfl ?_
                                                                  refine aw_iload_n (i := 3) dL_law_1351 1352 rfl rfl 3 rfl ?_
                                                                  refine aw_iconst (x := 3) dL_law_1352 1353 rfl rfl ?_
                                                                  refine aw_iadd dL_law_1353 1354 rfl ?_
                                                                  refine aw_sld (fun _ _ h => h) dL_law_1354 1355 rfl (fun h203 => ?_)
                                                                  refine aw_callV (M2 := m_X11_gauge) (cv := q_cI) dL_law_1355 1358 rfl (k_X11_gauge l G (f0 (Int32.toNatClampNeg (x1 + 1))) (f0 (Int32.toNatClampNeg (x1 + 2))) (f0 (Int32.toNatClampNeg (x1 + 3)))  u61) wl_57 wv_X11_gauge pk_X11_gauge rfl rfl ⟨by decide, by decide⟩ ⟨Nat.le_of_ble_eq_true rfl, Nat.le_of_ble_eq_true rfl⟩ at_11 (ok_11 (by decide)) rfl rfl rfl (Nat.le_of_ble_eq_true rfl) (fun x63 u62 => ?_)
                                                                  show qAW l G m_L_law (q_xl G b0 l0 f0) 1358 [(0, .ref b0), (1, .ref (q_ad G 0 0)), (2, .ref (q_ad G 11 0)), (3, .int x1)] [.int x63, .int x62] u62 _
                                                                  refine aw_icmp_eq dL_law_1358 1361 rfl 2067 rfl (fun h204 => ?_) (fun h204 => ?_)
                                                                  · exact hj1 u62
                                                                  · exact aw_none
                                                                · refine aw_swIn (y := 29) dL_law_33 1363 (by decide) (by decide) rfl rfl (fun h205 => ?_) (fun h205 => ?_)
                                                                  · refine aw_aload_n (i := 1) dL_law_1363 1364 rfl rfl 1 rfl ?_
                                                                    refine aw_aload_n (i := 0) dL_law_1364 1365 rfl rfl 0 rfl ?_
                                                                    refine aw_iload_n (i := 3) dL_law_1365 1366 rfl rfl 3 rfl ?_
                                                                    refine aw_iconst (x := 1) dL_law_1366 1367 rfl rfl ?_
                                                                    refine aw_iadd dL_law_1367 1368 rfl ?_
                                                                    refine aw_sld (fun _ _ h => h) dL_law_1368 1369 rfl (fun h206 => ?_)
                                                                    refine aw_aload_n (i := 0) dL_law_1369 1370 rfl rfl 0 rfl ?_
                                                                    refine aw_iload_n (i := 3) dL_law_1370 1371 rfl rfl 3 rfl ?_
                                                                    refine aw_iconst (x := 2) dL_law_1371 1372 rfl rfl ?_
                                                                    refine aw_iadd dL_law_1372 1373 rfl ?_
                                                                    refine aw_sld (fun _ _ h => h) dL_law_1373 1374 rfl (fun h207 => ?_)
                                                                    refine aw_callV (M2 := m_X10_reading) (cv := q_cI) dL_law_1374 1377 rfl (k_X10_reading l G (f0 (Int32.toNatClampNeg (x1 + 1))) (f0 (Int32.toNatClampNeg (x1 + 2)))  u1) wl_58 wv_X10_reading pk_X10_reading rfl rfl ⟨by decide, by decide⟩ ⟨Nat.le_of_ble_eq_true rfl, Nat.le_of_ble_eq_true rfl⟩ at_0 (ok_0 (by decide)) rfl rfl rfl (Nat.le_of_ble_eq_true rfl) (fun x64 u63 => ?_)
                                                                    show qAW l G m_L_law (q_xl G b0 l0 f0) 1377 [(0, .ref b0), (1, .ref (q_ad G 0 0)), (2, .ref (q_ad G 11 0)), (3, .int x1)] [.int x64] u63 _
                                                                    refine aw_aload_n (i := 2) dL_law_1377 1378 rfl rfl 2 rfl ?_
                                                                    refine aw_aload_n (i := 0) dL_law_1378 1379 rfl rfl 0 rfl ?_
                                                                    refine aw_iload_n (i := 3) dL_law_1379 1380 rfl rfl 3 rfl ?_
                                                                    refine aw_iconst (x := 1) dL_law_1380 1381 rfl rfl ?_
                                                                    refine aw_iadd dL_law_1381 1382 rfl ?_
                                                                    refine aw_sld (fun _ _ h => h) dL_law_1382 1383 rfl (fun h208 => ?_)
                                                                    refine aw_aload_n (i := 0) dL_law_1383 1384 rfl rfl 0 rfl ?_
                                                                    refine aw_iload_n (i := 3) dL_law_1384 1385 rfl rfl 3 rfl ?_
                                                                    refine aw_iconst (x := 2) dL_law_1385 1386 rfl rfl ?_
                                                                    refine aw_iadd dL_law_1386 1387 rfl ?_
                                                                    refine aw_sld (fun _ _ h => h) dL_law_1387 1388 rfl (fun h209 => ?_)
                                                                    refine aw_callV (M2 := m_X11_reading) (cv := q_cI) dL_law_1388 1391 rfl (k_X11_reading l G (f0 (Int32.toNatClampNeg (x1 + 1))) (f0 (Int32.toNatClampNeg (x1 + 2)))  u63) wl_59 wv_X11_reading pk_X11_reading rfl rfl ⟨by decide, by decide⟩ ⟨Nat.le_of_ble_eq_true rfl, Nat.le_of_ble_eq_true rfl⟩ at_11 (ok_11 (by decide)) rfl rfl rfl (Nat.le_of_ble_eq_true rfl) (fun x65 u64 => ?_)
                                                                    show qAW l G m_L_law (q_xl G b0 l0 f0) 1391 [(0, .ref b0), (1, .ref (q_ad G 0 0)), (2, .ref (q_ad G 11 0)), (3, .int x1)] [.int x65, .int x64] u64 _
                                                                    refine aw_icmp_eq dL_law_1391 1394 rfl 2067 rfl (fun h210 => ?_) (fun h210 => ?_)
                                                                    · exact hj1 u64
                                                                    · exact aw_none
                                                                  · refine aw_swIn (y := 30) dL_law_33 1396 (by decide) (by decide) rfl rfl (fun h211 => ?_) (fun h211 => ?_)
                                                                    · refine aw_aload_n (i := 1) dL_law_1396 1397 rfl rfl 1 rfl ?_
                                                                      refine aw_aload_n (i := 0) dL_law_1397 1398 rfl rfl 0 rfl ?_
                                                                      refine aw_iload_n (i := 3) dL_law_1398 1399 rfl rfl 3 rfl ?_
                                                                      refine aw_iconst (x := 1) dL_law_1399 1400 rfl rfl ?_
                                                                      refine aw_iadd dL_law_1400 1401 rfl ?_
                                                                      refine aw_sld (fun _ _ h => h) dL_law_1401 1402 rfl (fun h212 => ?_)
                                                                      refine aw_aload_n (i := 0) dL_law_1402 1403 rfl rfl 0 rfl ?_
                                                                      refine aw_iload_n (i := 3) dL_law_1403 1404 rfl rfl 3 rfl ?_
                                                                      refine aw_iconst (x := 2) dL_law_1404 1405 rfl rfl ?_
                                                                      refine aw_iadd dL_law_1405 1406 rfl ?_
                                                                      refine aw_sld (fun _ _ h => h) dL_law_1406 1407 rfl (fun h213 => ?_)
                                                                      refine aw_callV (M2 := m_X10_lose) (cv := q_cI) dL_law_1407 1410 rfl (k_X10_lose l G (f0 (Int32.toNatClampNeg (x1 + 1))) (f0 (Int32.toNatClampNeg (x1 + 2)))  u1) wl_60 wv_X10_lose pk_X10_lose rfl rfl ⟨by decide, by decide⟩ ⟨Nat.le_of_ble_eq_true rfl, Nat.le_of_ble_eq_true rfl⟩ at_0 (ok_0 (by decide)) rfl rfl rfl (Nat.le_of_ble_eq_true rfl) (fun x66 u65 => ?_)
                                                                      show qAW l G m_L_law (q_xl G b0 l0 f0) 1410 [(0, .ref b0), (1, .ref (q_ad G 0 0)), (2, .ref (q_ad G 11 0)), (3, .int x1)] [.int x66] u65 _
                                                                      refine aw_aload_n (i := 2) dL_law_1410 1411 rfl rfl 2 rfl ?_
                                                                      refine aw_aload_n (i := 0) dL_law_1411 1412 rfl rfl 0 rfl ?_
                                                                      refine aw_iload_n (i := 3) dL_law_1412 1413 rfl rfl 3 rfl ?_
                                                                      refine aw_iconst (x := 1) dL_law_1413 1414 rfl rfl ?_
                                                                      refine aw_iadd dL_law_1414 1415 rfl ?_
                                                                      refine aw_sld (fun _ _ h => h) dL_law_1415 1416 rfl (fun h214 => ?_)
                                                                      refine aw_aload_n (i := 0) dL_law_1416 1417 rfl rfl 0 rfl ?_
                                                                      refine aw_iload_n (i := 3) dL_law_1417 1418 rfl rfl 3 rfl ?_
                                                                      refine aw_iconst (x := 2) dL_law_1418 1419 rfl rfl ?_
                                                                      refine aw_iadd dL_law_1419 1420 rfl ?_
                                                                      refine aw_sld (fun _ _ h => h) dL_law_1420 1421 rfl (fun h215 => ?_)
                                                                      refine aw_callV (M2 := m_X11_lose) (cv := q_cI) dL_law_1421 1424 rfl (k_X11_lose l G (f0 (Int32.toNatClampNeg (x1 + 1))) (f0 (Int32.toNatClampNeg (x1 + 2)))  u65) wl_61 wv_X11_lose pk_X11_lose rfl rfl ⟨by decide, by decide⟩ ⟨Nat.le_of_ble_eq_true rfl, Nat.le_of_ble_eq_true rfl⟩ at_11 (ok_11 (by decide)) rfl rfl rfl (Nat.le_of_ble_eq_true rfl) (fun x67 u66 => ?_)
                                                                      show qAW l G m_L_law (q_xl G b0 l0 f0) 1424 [(0, .ref b0), (1, .ref (q_ad G 0 0)), (2, .ref (q_ad G 11 0)), (3, .int x1)] [.int x67, .int x66] u66 _
                                                                      refine aw_icmp_eq dL_law_1424 1427 rfl 2067 rfl (fun h216 => ?_) (fun h216 => ?_)
                                                                      · exact hj1 u66
                                                                      · exact aw_none
                                                                    · refine aw_swIn (y := 31) dL_law_33 1429 (by decide) (by decide) rfl rfl (fun h217 => ?_) (fun h217 => ?_)
                                                                      · refine aw_aload_n (i := 1) dL_law_1429 1430 rfl rfl 1 rfl ?_
                                                                        refine aw_aload_n (i := 0) dL_law_1430 1431 rfl rfl 0 rfl ?_
                                                                        refine aw_iload_n (i := 3) dL_law_1431 1432 rfl rfl 3 rfl ?_
                                                                        refine aw_iconst (x := 1) dL_law_1432 1433 rfl rfl ?_
                                                                        refine aw_iadd dL_law_1433 1434 rfl ?_
                                                                        refine aw_sld (fun _ _ h => h) dL_law_1434 1435 rfl (fun h218 => ?_)
                                                                        refine aw_aload_n (i := 0) dL_law_1435 1436 rfl rfl 0 rfl ?_
                                                                        refine aw_iload_n (i := 3) dL_law_1436 1437 rfl rfl 3 rfl ?_
                                                                        refine aw_iconst (x := 2) dL_law_1437 1438 rfl rfl ?_
                                                                        refine aw_iadd dL_law_1438 1439 rfl ?_
                                                                        refine aw_sld (fun _ _ h => h) dL_law_1439 1440 rfl (fun h219 => ?_)
                                                                        refine aw_callV (M2 := m_X10_tone) (cv := q_cI) dL_law_1440 1443 rfl (k_X10_tone l G (f0 (Int32.toNatClampNeg (x1 + 1))) (f0 (Int32.toNatClampNeg (x1 + 2)))  u1) wl_62 wv_X10_tone pk_X10_tone rfl rfl ⟨by decide, by decide⟩ ⟨Nat.le_of_ble_eq_true rfl, Nat.le_of_ble_eq_true rfl⟩ at_0 (ok_0 (by decide)) rfl rfl rfl (Nat.le_of_ble_eq_true rfl) (fun x68 u67 => ?_)
                                                                        show qAW l G m_L_law (q_xl G b0 l0 f0) 1443 [(0, .ref b0), (1, .ref (q_ad G 0 0)), (2, .ref (q_ad G 11 0)), (3, .int x1)] [.int x68] u67 _
                                                                        refine aw_aload_n (i := 2) dL_law_1443 1444 rfl rfl 2 rfl ?_
                                                                        refine aw_aload_n (i := 0) dL_law_1444 1445 rfl rfl 0 rfl ?_
                                                                        refine aw_iload_n (i := 3) dL_law_1445 1446 rfl rfl 3 rfl ?_
                                                                        refine aw_iconst (x := 1) dL_law_1446 1447 rfl rfl ?_
                                                                        refine aw_iadd dL_law_1447 1448 rfl ?_
                                                                        refine aw_sld (fun _ _ h => h) dL_law_1448 1449 rfl (fun h220 => ?_)
                                                                        refine aw_aload_n (i := 0) dL_law_1449 1450 rfl rfl 0 rfl ?_
                                                                        refine aw_iload_n (i := 3) dL_law_1450 1451 rfl rfl 3 rfl ?_
                                                                        refine aw_iconst (x := 2) dL_law_1451 1452 rfl rfl ?_
                                                                        refine aw_iadd dL_law_1452 1453 rfl ?_
                                                                        refine aw_sld (fun _ _ h => h) dL_law_1453 1454 rfl (fun h221 => ?_)
                                                                        refine aw_callV (M2 := m_X11_tone) (cv := q_cI) dL_law_1454 1457 rfl (k_X11_tone l G (f0 (Int32.toNatClampNeg (x1 + 1))) (f0 (Int32.toNatClampNeg (x1 + 2)))  u67) wl_63 wv_X11_tone pk_X11_tone rfl rfl ⟨by decide, by decide⟩ ⟨Nat.le_of_ble_eq_true rfl, Nat.le_of_ble_eq_true rfl⟩ at_11 (ok_11 (by decide)) rfl rfl rfl (Nat.le_of_ble_eq_true rfl) (fun x69 u68 => ?_)
                                                                        show qAW l G m_L_law (q_xl G b0 l0 f0) 1457 [(0, .ref b0), (1, .ref (q_ad G 0 0)), (2, .ref (q_ad G 11 0)), (3, .int x1)] [.int x69, .int x68] u68 _
                                                                        refine aw_icmp_eq dL_law_1457 1460 rfl 2067 rfl (fun h222 => ?_) (fun h222 => ?_)
                                                                        · exact hj1 u68
                                                                        · exact aw_none
                                                                      · refine aw_swIn (y := 32) dL_law_33 1462 (by decide) (by decide) rfl rfl (fun h223 => ?_) (fun h223 => ?_)
                                                                        · refine aw_aload_n (i := 1) dL_law_1462 1463 rfl rfl 1 rfl ?_
                                                                          refine aw_aload_n (i := 0) dL_law_1463 1464 rfl rfl 0 rfl ?_
                                                                          refine aw_iload_n (i := 3) dL_law_1464 1465 rfl rfl 3 rfl ?_
                                                                          refine aw_iconst (x := 1) dL_law_1465 1466 rfl rfl ?_
                                                                          refine aw_iadd dL_law_1466 1467 rfl ?_
                                                                          refine aw_sld (fun _ _ h => h) dL_law_1467 1468 rfl (fun h224 => ?_)
                                                                          refine aw_callV (M2 := m_X10_theTone) (cv := q_cI) dL_law_1468 1471 rfl (k_X10_theTone l G (f0 (Int32.toNatClampNeg (x1 + 1)))  u1) wl_64 wv_X10_theTone pk_X10_theTone rfl rfl ⟨by decide, by decide⟩ ⟨Nat.le_of_ble_eq_true rfl, Nat.le_of_ble_eq_true rfl⟩ at_0 (ok_0 (by decide)) rfl rfl rfl (Nat.le_of_ble_eq_true rfl) (fun x70 u69 => ?_)
                                                                          show qAW l G m_L_law (q_xl G b0 l0 f0) 1471 [(0, .ref b0), (1, .ref (q_ad G 0 0)), (2, .ref (q_ad G 11 0)), (3, .int x1)] [.int x70] u69 _
                                                                          refine aw_aload_n (i := 2) dL_law_1471 1472 rfl rfl 2 rfl ?_
                                                                          refine aw_aload_n (i := 0) dL_law_1472 1473 rfl rfl 0 rfl ?_
                                                                          refine aw_iload_n (i := 3) dL_law_1473 1474 rfl rfl 3 rfl ?_
                                                                          refine aw_iconst (x := 1) dL_law_1474 1475 rfl rfl ?_
                                                                          refine aw_iadd dL_law_1475 1476 rfl ?_
                                                                          refine aw_sld (fun _ _ h => h) dL_law_1476 1477 rfl (fun h225 => ?_)
                                                                          refine aw_callV (M2 := m_X11_theTone) (cv := q_cI) dL_law_1477 1480 rfl (k_X11_theTone l G (f0 (Int32.toNatClampNeg (x1 + 1)))  u69) wl_65 wv_X11_theTone pk_X11_theTone rfl rfl ⟨by decide, by decide⟩ ⟨Nat.le_of_ble_eq_true rfl, Nat.le_of_ble_eq_true rfl⟩ at_11 (ok_11 (by decide)) rfl rfl rfl (Nat.le_of_ble_eq_true rfl) (fun x71 u70 => ?_)
                                                                          show qAW l G m_L_law (q_xl G b0 l0 f0) 1480 [(0, .ref b0), (1, .ref (q_ad G 0 0)), (2, .ref (q_ad G 11 0)), (3, .int x1)] [.int x71, .int x70] u70 _
                                                                          refine aw_icmp_eq dL_law_1480 1483 rfl 2067 rfl (fun h226 => ?_) (fun h226 => ?_)
                                                                          · exact hj1 u70
                                                                          · exact aw_none
                                                                        · refine aw_swIn (y := 33) dL_law_33 1485 (by decide) (by decide) rfl rfl (fun h227 => ?_) (fun h227 => ?_)
                                                                          · refine aw_aload_n (i := 1) dL_law_1485 1486 rfl rfl 1 rfl ?_
                                                                            refine aw_aload_n (i := 0) dL_law_1486 1487 rfl rfl 0 rfl ?_
                                                                            refine aw_iload_n (i := 3) dL_law_1487 1488 rfl rfl 3 rfl ?_
                                                                            refine aw_iconst (x := 1) dL_law_1488 1489 rfl rfl ?_
                                                                            refine aw_iadd dL_law_1489 1490 rfl ?_
                                                                            refine aw_sld (fun _ _ h => h) dL_law_1490 1491 rfl (fun h228 => ?_)
                                                                            refine aw_jn (fun k => ∀ (x72 : Int32) (u71 : qM), qAW l G m_L_law (q_xl G b0 l0 f0) 1499 [(0, .ref b0), (1, .ref (q_ad G 0 0)), (2, .ref (q_ad G 11 0)), (3, .int x1)] [.int x72, .ref (q_ad G 0 0)] u71 (k x72 u71)) ?_ ?_
                                                                            · intro x72 u71
                                                                              refine aw_callV (M2 := m_X10_part) (cv := q_cI) dL_law_1499 1502 rfl (k_X10_part l G x72  u71) wl_66 wv_X10_part pk_X10_part rfl rfl ⟨by decide, by decide⟩ ⟨Nat.le_of_ble_eq_true rfl, Nat.le_of_ble_eq_true rfl⟩ at_0 (ok_0 (by decide)) rfl rfl rfl (Nat.le_of_ble_eq_true rfl) (fun x73 u72 => ?_)
                                                                              show qAW l G m_L_law (q_xl G b0 l0 f0) 1502 [(0, .ref b0), (1, .ref (q_ad G 0 0)), (2, .ref (q_ad G 11 0)), (3, .int x1)] [.int x73] u72 _
                                                                              refine aw_aload_n (i := 2) dL_law_1502 1503 rfl rfl 2 rfl ?_
                                                                              refine aw_aload_n (i := 0) dL_law_1503 1504 rfl rfl 0 rfl ?_
                                                                              refine aw_iload_n (i := 3) dL_law_1504 1505 rfl rfl 3 rfl ?_
                                                                              refine aw_iconst (x := 1) dL_law_1505 1506 rfl rfl ?_
                                                                              refine aw_iadd dL_law_1506 1507 rfl ?_
                                                                              refine aw_sld (fun _ _ h => h) dL_law_1507 1508 rfl (fun h230 => ?_)
                                                                              refine aw_jn (fun k => ∀ (x74 : Int32) (u73 : qM), qAW l G m_L_law (q_xl G b0 l0 f0) 1516 [(0, .ref b0), (1, .ref (q_ad G 0 0)), (2, .ref (q_ad G 11 0)), (3, .int x1)] [.int x74, .ref (q_ad G 11 0), .int x73] u73 (k x74 u73)) ?_ ?_
                                                                              · intro x74 u73
                                                                                refine aw_callV (M2 := m_X11_part) (cv := q_cI) dL_law_1516 1519 rfl (k_X11_part l G x74  u73) wl_67 wv_X11_part pk_X11_part rfl rfl ⟨by decide, by decide⟩ ⟨Nat.le_of_ble_eq_true rfl, Nat.le_of_ble_eq_true rfl⟩ at_11 (ok_11 (by decide)) rfl rfl rfl (Nat.le_of_ble_eq_true rfl) (fun x75 u74 => ?_)
                                                                                show qAW l G m_L_law (q_xl G b0 l0 f0) 1519 [(0, .ref b0), (1, .ref (q_ad G 0 0)), (2, .ref (q_ad G 11 0)), (3, .int x1)] [.int x75, .int x73] u74 _
                                                                                refine aw_icmp_eq dL_law_1519 1522 rfl 2067 rfl (fun h232 => ?_) (fun h232 => ?_)
                                                                                · exact hj1 u74
                                                                                · exact aw_none
                                                                              · intro j5 hj5
                                                                                refine aw_if_eq dL_law_1508 1511 rfl 1515 rfl (fun h231 => ?_) (fun h231 => ?_)
                                                                                · refine aw_iconst (x := 0) dL_law_1515 1516 rfl rfl ?_
                                                                                  exact hj5 0 u72
                                                                                · refine aw_iconst (x := 1) dL_law_1511 1512 rfl rfl ?_
                                                                                  refine aw_goto dL_law_1512 1516 rfl ?_
                                                                                  exact hj5 1 u72
                                                                            · intro j4 hj4
                                                                              refine aw_if_eq dL_law_1491 1494 rfl 1498 rfl (fun h229 => ?_) (fun h229 => ?_)
                                                                              · refine aw_iconst (x := 0) dL_law_1498 1499 rfl rfl ?_
                                                                                exact hj4 0 u1
                                                                              · refine aw_iconst (x := 1) dL_law_1494 1495 rfl rfl ?_
                                                                                refine aw_goto dL_law_1495 1499 rfl ?_
                                                                                exact hj4 1 u1
                                                                          · refine aw_swIn (y := 34) dL_law_33 1524 (by decide) (by decide) rfl rfl (fun h233 => ?_) (fun h233 => ?_)
                                                                            · refine aw_aload_n (i := 1) dL_law_1524 1525 rfl rfl 1 rfl ?_
                                                                              refine aw_aload_n (i := 0) dL_law_1525 1526 rfl rfl 0 rfl ?_
                                                                              refine aw_iload_n (i := 3) dL_law_1526 1527 rfl rfl 3 rfl ?_
                                                                              refine aw_iconst (x := 1) dL_law_1527 1528 rfl rfl ?_
                                                                              refine aw_iadd dL_law_1528 1529 rfl ?_
                                                                              refine aw_sld (fun _ _ h => h) dL_law_1529 1530 rfl (fun h234 => ?_)
                                                                              refine aw_aload_n (i := 0) dL_law_1530 1531 rfl rfl 0 rfl ?_
                                                                              refine aw_iload_n (i := 3) dL_law_1531 1532 rfl rfl 3 rfl ?_
                                                                              refine aw_iconst (x := 2) dL_law_1532 1533 rfl rfl ?_
                                                                              refine aw_iadd dL_law_1533 1534 rfl ?_
                                                                              refine aw_sld (fun _ _ h => h) dL_law_1534 1535 rfl (fun h235 => ?_)
                                                                              refine aw_aload_n (i := 0) dL_law_1535 1536 rfl rfl 0 rfl ?_
                                                                              refine aw_iload_n (i := 3) dL_law_1536 1537 rfl rfl 3 rfl ?_
                                                                              refine aw_iconst (x := 3) dL_law_1537 1538 rfl rfl ?_
                                                                              refine aw_iadd dL_law_1538 1539 rfl ?_
                                                                              refine aw_sld (fun _ _ h => h) dL_law_1539 1540 rfl (fun h236 => ?_)
                                                                              refine aw_aload_n (i := 0) dL_law_1540 1541 rfl rfl 0 rfl ?_
                                                                              refine aw_iload_n (i := 3) dL_law_1541 1542 rfl rfl 3 rfl ?_
                                                                              refine aw_iconst (x := 4) dL_law_1542 1543 rfl rfl ?_
                                                                              refine aw_iadd dL_law_1543 1544 rfl ?_
                                                                              refine aw_sld (fun _ _ h => h) dL_law_1544 1545 rfl (fun h237 => ?_)
                                                                              refine aw_aload_n (i := 0) dL_law_1545 1546 rfl rfl 0 rfl ?_
                                                                              refine aw_iload_n (i := 3) dL_law_1546 1547 rfl rfl 3 rfl ?_
                                                                              refine aw_iconst (x := 5) dL_law_1547 1548 rfl rfl ?_
                                                                              refine aw_iadd dL_law_1548 1549 rfl ?_
                                                                              refine aw_sld (fun _ _ h => h) dL_law_1549 1550 rfl (fun h238 => ?_)
                                                                              refine aw_aload_n (i := 0) dL_law_1550 1551 rfl rfl 0 rfl ?_
                                                                              refine aw_iload_n (i := 3) dL_law_1551 1552 rfl rfl 3 rfl ?_
                                                                              refine aw_bipush (x := 6) dL_law_1552 1554 rfl rfl ?_
                                                                              refine aw_iadd dL_law_1554 1555 rfl ?_
                                                                              refine aw_sld (fun _ _ h => h) dL_law_1555 1556 rfl (fun h239 => ?_)
                                                                              refine aw_callV (M2 := m_X10_nest) (cv := q_cI) dL_law_1556 1559 rfl (k_X10_nest l G (f0 (Int32.toNatClampNeg (x1 + 1))) (f0 (Int32.toNatClampNeg (x1 + 2))) (f0 (Int32.toNatClampNeg (x1 + 3))) (f0 (Int32.toNatClampNeg (x1 + 4))) (f0 (Int32.toNatClampNeg (x1 + 5))) (f0 (Int32.toNatClampNeg (x1 + 6)))  u1) wl_68 wv_X10_nest pk_X10_nest rfl rfl ⟨by decide, by decide⟩ ⟨Nat.le_of_ble_eq_true rfl, Nat.le_of_ble_eq_true rfl⟩ at_0 (ok_0 (by decide)) rfl rfl rfl (Nat.le_of_ble_eq_true rfl) (fun x76 u75 => ?_)
                                                                              show qAW l G m_L_law (q_xl G b0 l0 f0) 1559 [(0, .ref b0), (1, .ref (q_ad G 0 0)), (2, .ref (q_ad G 11 0)), (3, .int x1)] [.int x76] u75 _
                                                                              refine aw_aload_n (i := 2) dL_law_1559 1560 rfl rfl 2 rfl ?_
                                                                              refine aw_aload_n (i := 0) dL_law_1560 1561 rfl rfl 0 rfl ?_
                                                                              refine aw_iload_n (i := 3) dL_law_1561 1562 rfl rfl 3 rfl ?_
                                                                              refine aw_iconst (x := 1) dL_law_1562 1563 rfl rfl ?_
                                                                              refine aw_iadd dL_law_1563 1564 rfl ?_
                                                                              refine aw_sld (fun _ _ h => h) dL_law_1564 1565 rfl (fun h240 => ?_)
                                                                              refine aw_aload_n (i := 0) dL_law_1565 1566 rfl rfl 0 rfl ?_
                                                                              refine aw_iload_n (i := 3) dL_law_1566 1567 rfl rfl 3 rfl ?_
                                                                              refine aw_iconst (x := 2) dL_law_1567 1568 rfl rfl ?_
                                                                              refine aw_iadd dL_law_1568 1569 rfl ?_
                                                                              refine aw_sld (fun _ _ h => h) dL_law_1569 1570 rfl (fun h241 => ?_)
                                                                              refine aw_aload_n (i := 0) dL_law_1570 1571 rfl rfl 0 rfl ?_
                                                                              refine aw_iload_n (i := 3) dL_law_1571 1572 rfl rfl 3 rfl ?_
                                                                              refine aw_iconst (x := 3) dL_law_1572 1573 rfl rfl ?_
                                                                              refine aw_iadd dL_law_1573 1574 rfl ?_
                                                                              refine aw_sld (fun _ _ h => h) dL_law_1574 1575 rfl (fun h242 => ?_)
                                                                              refine aw_aload_n (i := 0) dL_law_1575 1576 rfl rfl 0 rfl ?_
                                                                              refine aw_iload_n (i := 3) dL_law_1576 1577 rfl rfl 3 rfl ?_
                                                                              refine aw_iconst (x := 4) dL_law_1577 1578 rfl rfl ?_
                                                                              refine aw_iadd dL_law_1578 1579 rfl ?_
                                                                              refine aw_sld (fun _ _ h => h) dL_law_1579 1580 rfl (fun h243 => ?_)
                                                                              refine aw_aload_n (i := 0) dL_law_1580 1581 rfl rfl 0 rfl ?_
                                                                              refine aw_iload_n (i := 3) dL_law_1581 1582 rfl rfl 3 rfl ?_
                                                                              refine aw_iconst (x := 5) dL_law_1582 1583 rfl rfl ?_
                                                                              refine aw_iadd dL_law_1583 1584 rfl ?_
                                                                              refine aw_sld (fun _ _ h => h) dL_law_1584 1585 rfl (fun h244 => ?_)
                                                                              refine aw_aload_n (i := 0) dL_law_1585 1586 rfl rfl 0 rfl ?_
                                                                              refine aw_iload_n (i := 3) dL_law_1586 1587 rfl rfl 3 rfl ?_
                                                                              refine aw_bipush (x := 6) dL_law_1587 1589 rfl rfl ?_
                                                                              refine aw_iadd dL_law_1589 1590 rfl ?_
                                                                              refine aw_sld (fun _ _ h => h) dL_law_1590 1591 rfl (fun h245 => ?_)
                                                                              refine aw_callV (M2 := m_X11_nest) (cv := q_cI) dL_law_1591 1594 rfl (k_X11_nest l G (f0 (Int32.toNatClampNeg (x1 + 1))) (f0 (Int32.toNatClampNeg (x1 + 2))) (f0 (Int32.toNatClampNeg (x1 + 3))) (f0 (Int32.toNatClampNeg (x1 + 4))) (f0 (Int32.toNatClampNeg (x1 + 5))) (f0 (Int32.toNatClampNeg (x1 + 6)))  u75) wl_69 wv_X11_nest pk_X11_nest rfl rfl ⟨by decide, by decide⟩ ⟨Nat.le_of_ble_eq_true rfl, Nat.le_of_ble_eq_true rfl⟩ at_11 (ok_11 (by decide)) rfl rfl rfl (Nat.le_of_ble_eq_true rfl) (fun x77 u76 => ?_)
                                                                              show qAW l G m_L_law (q_xl G b0 l0 f0) 1594 [(0, .ref b0), (1, .ref (q_ad G 0 0)), (2, .ref (q_ad G 11 0)), (3, .int x1)] [.int x77, .int x76] u76 _
                                                                              refine aw_icmp_eq dL_law_1594 1597 rfl 2067 rfl (fun h246 => ?_) (fun h246 => ?_)
                                                                              · exact hj1 u76
                                                                              · exact aw_none
                                                                            · refine aw_swIn (y := 35) dL_law_33 1599 (by decide) (by decide) rfl rfl (fun h247 => ?_) (fun h247 => ?_)
                                                                              · refine aw_aload_n (i := 1) dL_law_1599 1600 rfl rfl 1 rfl ?_
                                                                                refine aw_aload_n (i := 0) dL_law_1600 1601 rfl rfl 0 rfl ?_
                                                                                refine aw_iload_n (i := 3) dL_law_1601 1602 rfl rfl 3 rfl ?_
                                                                                refine aw_iconst (x := 1) dL_law_1602 1603 rfl rfl ?_
                                                                                refine aw_iadd dL_law_1603 1604 rfl ?_
                                                                                refine aw_sld (fun _ _ h => h) dL_law_1604 1605 rfl (fun h248 => ?_)
                                                                                refine aw_callV (M2 := m_X10_up) (cv := q_cI) dL_law_1605 1608 rfl (k_X10_up l G (f0 (Int32.toNatClampNeg (x1 + 1)))  u1) wl_70 wv_X10_up pk_X10_up rfl rfl ⟨by decide, by decide⟩ ⟨Nat.le_of_ble_eq_true rfl, Nat.le_of_ble_eq_true rfl⟩ at_0 (ok_0 (by decide)) rfl rfl rfl (Nat.le_of_ble_eq_true rfl) (fun x78 u77 => ?_)
                                                                                show qAW l G m_L_law (q_xl G b0 l0 f0) 1608 [(0, .ref b0), (1, .ref (q_ad G 0 0)), (2, .ref (q_ad G 11 0)), (3, .int x1)] [.int x78] u77 _
                                                                                refine aw_aload_n (i := 2) dL_law_1608 1609 rfl rfl 2 rfl ?_
                                                                                refine aw_aload_n (i := 0) dL_law_1609 1610 rfl rfl 0 rfl ?_
                                                                                refine aw_iload_n (i := 3) dL_law_1610 1611 rfl rfl 3 rfl ?_
                                                                                refine aw_iconst (x := 1) dL_law_1611 1612 rfl rfl ?_
                                                                                refine aw_iadd dL_law_1612 1613 rfl ?_
                                                                                refine aw_sld (fun _ _ h => h) dL_law_1613 1614 rfl (fun h249 => ?_)
                                                                                refine aw_callV (M2 := m_X11_up) (cv := q_cI) dL_law_1614 1617 rfl (k_X11_up l G (f0 (Int32.toNatClampNeg (x1 + 1)))  u77) wl_71 wv_X11_up pk_X11_up rfl rfl ⟨by decide, by decide⟩ ⟨Nat.le_of_ble_eq_true rfl, Nat.le_of_ble_eq_true rfl⟩ at_11 (ok_11 (by decide)) rfl rfl rfl (Nat.le_of_ble_eq_true rfl) (fun x79 u78 => ?_)
                                                                                show qAW l G m_L_law (q_xl G b0 l0 f0) 1617 [(0, .ref b0), (1, .ref (q_ad G 0 0)), (2, .ref (q_ad G 11 0)), (3, .int x1)] [.int x79, .int x78] u78 _
                                                                                refine aw_icmp_eq dL_law_1617 1620 rfl 2067 rfl (fun h250 => ?_) (fun h250 => ?_)
                                                                                · exact hj1 u78
                                                                                · exact aw_none
                                                                              · refine aw_swIn (y := 36) dL_law_33 1622 (by decide) (by decide) rfl rfl (fun h251 => ?_) (fun h251 => ?_)
                                                                                · refine aw_aload_n (i := 1) dL_law_1622 1623 rfl rfl 1 rfl ?_
                                                                                  refine aw_aload_n (i := 0) dL_law_1623 1624 rfl rfl 0 rfl ?_
                                                                                  refine aw_iload_n (i := 3) dL_law_1624 1625 rfl rfl 3 rfl ?_
                                                                                  refine aw_iconst (x := 1) dL_law_1625 1626 rfl rfl ?_
                                                                                  refine aw_iadd dL_law_1626 1627 rfl ?_
                                                                                  refine aw_sld (fun _ _ h => h) dL_law_1627 1628 rfl (fun h252 => ?_)
                                                                                  refine aw_callV (M2 := m_X10_down) (cv := q_cI) dL_law_1628 1631 rfl (k_X10_down l G (f0 (Int32.toNatClampNeg (x1 + 1)))  u1) wl_72 wv_X10_down pk_X10_down rfl rfl ⟨by decide, by decide⟩ ⟨Nat.le_of_ble_eq_true rfl, Nat.le_of_ble_eq_true rfl⟩ at_0 (ok_0 (by decide)) rfl rfl rfl (Nat.le_of_ble_eq_true rfl) (fun x80 u79 => ?_)
                                                                                  show qAW l G m_L_law (q_xl G b0 l0 f0) 1631 [(0, .ref b0), (1, .ref (q_ad G 0 0)), (2, .ref (q_ad G 11 0)), (3, .int x1)] [.int x80] u79 _
                                                                                  refine aw_aload_n (i := 2) dL_law_1631 1632 rfl rfl 2 rfl ?_
                                                                                  refine aw_aload_n (i := 0) dL_law_1632 1633 rfl rfl 0 rfl ?_
                                                                                  refine aw_iload_n (i := 3) dL_law_1633 1634 rfl rfl 3 rfl ?_
                                                                                  refine aw_iconst (x := 1) dL_law_1634 1635 rfl rfl ?_
                                                                                  refine aw_iadd dL_law_1635 1636 rfl ?_
                                                                                  refine aw_sld (fun _ _ h => h) dL_law_1636 1637 rfl (fun h253 => ?_)
                                                                                  refine aw_callV (M2 := m_X11_down) (cv := q_cI) dL_law_1637 1640 rfl (k_X11_down l G (f0 (Int32.toNatClampNeg (x1 + 1)))  u79) wl_73 wv_X11_down pk_X11_down rfl rfl ⟨by decide, by decide⟩ ⟨Nat.le_of_ble_eq_true rfl, Nat.le_of_ble_eq_true rfl⟩ at_11 (ok_11 (by decide)) rfl rfl rfl (Nat.le_of_ble_eq_true rfl) (fun x81 u80 => ?_)
                                                                                  show qAW l G m_L_law (q_xl G b0 l0 f0) 1640 [(0, .ref b0), (1, .ref (q_ad G 0 0)), (2, .ref (q_ad G 11 0)), (3, .int x1)] [.int x81, .int x80] u80 _
                                                                                  refine aw_icmp_eq dL_law_1640 1643 rfl 2067 rfl (fun h254 => ?_) (fun h254 => ?_)
                                                                                  · exact hj1 u80
                                                                                  · exact aw_none
                                                                                · refine aw_swIn (y := 37) dL_law_33 1645 (by decide) (by decide) rfl rfl (fun h255 => ?_) (fun h255 => ?_)
                                                                                  · refine aw_aload_n (i := 1) dL_law_1645 1646 rfl rfl 1 rfl ?_
                                                                                    refine aw_aload_n (i := 0) dL_law_1646 1647 rfl rfl 0 rfl ?_
                                                                                    refine aw_iload_n (i := 3) dL_law_1647 1648 rfl rfl 3 rfl ?_
                                                                                    refine aw_iconst (x := 1) dL_law_1648 1649 rfl rfl ?_
                                                                                    refine aw_iadd dL_law_1649 1650 rfl ?_
                                                                                    refine aw_sld (fun _ _ h => h) dL_law_1650 1651 rfl (fun h256 => ?_)
                                                                                    refine aw_aload_n (i := 0) dL_law_1651 1652 rfl rfl 0 rfl ?_
                                                                                    refine aw_iload_n (i := 3) dL_law_1652 1653 rfl rfl 3 rfl ?_
                                                                                    refine aw_iconst (x := 2) dL_law_1653 1654 rfl rfl ?_
                                                                                    refine aw_iadd dL_law_1654 1655 rfl ?_
                                                                                    refine aw_sld (fun _ _ h => h) dL_law_1655 1656 rfl (fun h257 => ?_)
                                                                                    refine aw_aload_n (i := 0) dL_law_1656 1657 rfl rfl 0 rfl ?_
                                                                                    refine aw_iload_n (i := 3) dL_law_1657 1658 rfl rfl 3 rfl ?_
                                                                                    refine aw_iconst (x := 3) dL_law_1658 1659 rfl rfl ?_
                                                                                    refine aw_iadd dL_law_1659 1660 rfl ?_
                                                                                    refine aw_sld (fun _ _ h => h) dL_law_1660 1661 rfl (fun h258 => ?_)
                                                                                    refine aw_callV (M2 := m_X10_fit) (cv := q_cI) dL_law_1661 1664 rfl (k_X10_fit l G (f0 (Int32.toNatClampNeg (x1 + 1))) (f0 (Int32.toNatClampNeg (x1 + 2))) (f0 (Int32.toNatClampNeg (x1 + 3)))  u1) wl_74 wv_X10_fit pk_X10_fit rfl rfl ⟨by decide, by decide⟩ ⟨Nat.le_of_ble_eq_true rfl, Nat.le_of_ble_eq_true rfl⟩ at_0 (ok_0 (by decide)) rfl rfl rfl (Nat.le_of_ble_eq_true rfl) (fun x82 u81 => ?_)
                                                                                    show qAW l G m_L_law (q_xl G b0 l0 f0) 1664 [(0, .ref b0), (1, .ref (q_ad G 0 0)), (2, .ref (q_ad G 11 0)), (3, .int x1)] [.int x82] u81 _
                                                                                    refine aw_aload_n (i := 2) dL_law_1664 1665 rfl rfl 2 rfl ?_
                                                                                    refine aw_aload_n (i := 0) dL_law_1665 1666 rfl rfl 0 rfl ?_
                                                                                    refine aw_iload_n (i := 3) dL_law_1666 1667 rfl rfl 3 rfl ?_
                                                                                    refine aw_iconst (x := 1) dL_law_1667 1668 rfl rfl ?_
                                                                                    refine aw_iadd dL_law_1668 1669 rfl ?_
                                                                                    refine aw_sld (fun _ _ h => h) dL_law_1669 1670 rfl (fun h259 => ?_)
                                                                                    refine aw_aload_n (i := 0) dL_law_1670 1671 rfl rfl 0 rfl ?_
                                                                                    refine aw_iload_n (i := 3) dL_law_1671 1672 rfl rfl 3 rfl ?_
                                                                                    refine aw_iconst (x := 2) dL_law_1672 1673 rfl rfl ?_
                                                                                    refine aw_iadd dL_law_1673 1674 rfl ?_
                                                                                    refine aw_sld (fun _ _ h => h) dL_law_1674 1675 rfl (fun h260 => ?_)
                                                                                    refine aw_aload_n (i := 0) dL_law_1675 1676 rfl rfl 0 rfl ?_
                                                                                    refine aw_iload_n (i := 3) dL_law_1676 1677 rfl rfl 3 rfl ?_
                                                                                    refine aw_iconst (x := 3) dL_law_1677 1678 rfl rfl ?_
                                                                                    refine aw_iadd dL_law_1678 1679 rfl ?_
                                                                                    refine aw_sld (fun _ _ h => h) dL_law_1679 1680 rfl (fun h261 => ?_)
                                                                                    refine aw_callV (M2 := m_X11_fit) (cv := q_cI) dL_law_1680 1683 rfl (k_X11_fit l G (f0 (Int32.toNatClampNeg (x1 + 1))) (f0 (Int32.toNatClampNeg (x1 + 2))) (f0 (Int32.toNatClampNeg (x1 + 3)))  u81) wl_75 wv_X11_fit pk_X11_fit rfl rfl ⟨by decide, by decide⟩ ⟨Nat.le_of_ble_eq_true rfl, Nat.le_of_ble_eq_true rfl⟩ at_11 (ok_11 (by decide)) rfl rfl rfl (Nat.le_of_ble_eq_true rfl) (fun x83 u82 => ?_)
                                                                                    show qAW l G m_L_law (q_xl G b0 l0 f0) 1683 [(0, .ref b0), (1, .ref (q_ad G 0 0)), (2, .ref (q_ad G 11 0)), (3, .int x1)] [.int x83, .int x82] u82 _
                                                                                    refine aw_icmp_eq dL_law_1683 1686 rfl 2067 rfl (fun h262 => ?_) (fun h262 => ?_)
                                                                                    · exact hj1 u82
                                                                                    · exact aw_none
                                                                                  · refine aw_swIn (y := 38) dL_law_33 1688 (by decide) (by decide) rfl rfl (fun h263 => ?_) (fun h263 => ?_)
                                                                                    · refine aw_aload_n (i := 1) dL_law_1688 1689 rfl rfl 1 rfl ?_
                                                                                      refine aw_aload_n (i := 0) dL_law_1689 1690 rfl rfl 0 rfl ?_
                                                                                      refine aw_iload_n (i := 3) dL_law_1690 1691 rfl rfl 3 rfl ?_
                                                                                      refine aw_iconst (x := 1) dL_law_1691 1692 rfl rfl ?_
                                                                                      refine aw_iadd dL_law_1692 1693 rfl ?_
                                                                                      refine aw_sld (fun _ _ h => h) dL_law_1693 1694 rfl (fun h264 => ?_)
                                                                                      refine aw_aload_n (i := 0) dL_law_1694 1695 rfl rfl 0 rfl ?_
                                                                                      refine aw_iload_n (i := 3) dL_law_1695 1696 rfl rfl 3 rfl ?_
                                                                                      refine aw_iconst (x := 2) dL_law_1696 1697 rfl rfl ?_
                                                                                      refine aw_iadd dL_law_1697 1698 rfl ?_
                                                                                      refine aw_sld (fun _ _ h => h) dL_law_1698 1699 rfl (fun h265 => ?_)
                                                                                      refine aw_aload_n (i := 0) dL_law_1699 1700 rfl rfl 0 rfl ?_
                                                                                      refine aw_iload_n (i := 3) dL_law_1700 1701 rfl rfl 3 rfl ?_
                                                                                      refine aw_iconst (x := 3) dL_law_1701 1702 rfl rfl ?_
                                                                                      refine aw_iadd dL_law_1702 1703 rfl ?_
                                                                                      refine aw_sld (fun _ _ h => h) dL_law_1703 1704 rfl (fun h266 => ?_)
                                                                                      refine aw_aload_n (i := 0) dL_law_1704 1705 rfl rfl 0 rfl ?_
                                                                                      refine aw_iload_n (i := 3) dL_law_1705 1706 rfl rfl 3 rfl ?_
                                                                                      refine aw_iconst (x := 4) dL_law_1706 1707 rfl rfl ?_
                                                                                      refine aw_iadd dL_law_1707 1708 rfl ?_
                                                                                      refine aw_sld (fun _ _ h => h) dL_law_1708 1709 rfl (fun h267 => ?_)
                                                                                      refine aw_callV (M2 := m_X10_ends) (cv := q_cI) dL_law_1709 1712 rfl (k_X10_ends l G (f0 (Int32.toNatClampNeg (x1 + 1))) (f0 (Int32.toNatClampNeg (x1 + 2))) (f0 (Int32.toNatClampNeg (x1 + 3))) (f0 (Int32.toNatClampNeg (x1 + 4)))  u1) wl_76 wv_X10_ends pk_X10_ends rfl rfl ⟨by decide, by decide⟩ ⟨Nat.le_of_ble_eq_true rfl, Nat.le_of_ble_eq_true rfl⟩ at_0 (ok_0 (by decide)) rfl rfl rfl (Nat.le_of_ble_eq_true rfl) (fun x84 u83 => ?_)
                                                                                      show qAW l G m_L_law (q_xl G b0 l0 f0) 1712 [(0, .ref b0), (1, .ref (q_ad G 0 0)), (2, .ref (q_ad G 11 0)), (3, .int x1)] [.int x84] u83 _
                                                                                      refine aw_aload_n (i := 2) dL_law_1712 1713 rfl rfl 2 rfl ?_
                                                                                      refine aw_aload_n (i := 0) dL_law_1713 1714 rfl rfl 0 rfl ?_
                                                                                      refine aw_iload_n (i := 3) dL_law_1714 1715 rfl rfl 3 rfl ?_
                                                                                      refine aw_iconst (x := 1) dL_law_1715 1716 rfl rfl ?_
                                                                                      refine aw_iadd dL_law_1716 1717 rfl ?_
                                                                                      refine aw_sld (fun _ _ h => h) dL_law_1717 1718 rfl (fun h268 => ?_)
                                                                                      refine aw_aload_n (i := 0) dL_law_1718 1719 rfl rfl 0 rfl ?_
                                                                                      refine aw_iload_n (i := 3) dL_law_1719 1720 rfl rfl 3 rfl ?_
                                                                                      refine aw_iconst (x := 2) dL_law_1720 1721 rfl rfl ?_
                                                                                      refine aw_iadd dL_law_1721 1722 rfl ?_
                                                                                      refine aw_sld (fun _ _ h => h) dL_law_1722 1723 rfl (fun h269 => ?_)
                                                                                      refine aw_aload_n (i := 0) dL_law_1723 1724 rfl rfl 0 rfl ?_
                                                                                      refine aw_iload_n (i := 3) dL_law_1724 1725 rfl rfl 3 rfl ?_
                                                                                      refine aw_iconst (x := 3) dL_law_1725 1726 rfl rfl ?_
                                                                                      refine aw_iadd dL_law_1726 1727 rfl ?_
                                                                                      refine aw_sld (fun _ _ h => h) dL_law_1727 1728 rfl (fun h270 => ?_)
                                                                                      refine aw_aload_n (i := 0) dL_law_1728 1729 rfl rfl 0 rfl ?_
                                                                                      refine aw_iload_n (i := 3) dL_law_1729 1730 rfl rfl 3 rfl ?_
                                                                                      refine aw_iconst (x := 4) dL_law_1730 1731 rfl rfl ?_
                                                                                      refine aw_iadd dL_law_1731 1732 rfl ?_
                                                                                      refine aw_sld (fun _ _ h => h) dL_law_1732 1733 rfl (fun h271 => ?_)
                                                                                      refine aw_callV (M2 := m_X11_ends) (cv := q_cI) dL_law_1733 1736 rfl (k_X11_ends l G (f0 (Int32.toNatClampNeg (x1 + 1))) (f0 (Int32.toNatClampNeg (x1 + 2))) (f0 (Int32.toNatClampNeg (x1 + 3))) (f0 (Int32.toNatClampNeg (x1 + 4)))  u83) wl_77 wv_X11_ends pk_X11_ends rfl rfl ⟨by decide, by decide⟩ ⟨Nat.le_of_ble_eq_true rfl, Nat.le_of_ble_eq_true rfl⟩ at_11 (ok_11 (by decide)) rfl rfl rfl (Nat.le_of_ble_eq_true rfl) (fun x85 u84 => ?_)
                                                                                      show qAW l G m_L_law (q_xl G b0 l0 f0) 1736 [(0, .ref b0), (1, .ref (q_ad G 0 0)), (2, .ref (q_ad G 11 0)), (3, .int x1)] [.int x85, .int x84] u84 _
                                                                                      refine aw_icmp_eq dL_law_1736 1739 rfl 2067 rfl (fun h272 => ?_) (fun h272 => ?_)
                                                                                      · exact hj1 u84
                                                                                      · exact aw_none
                                                                                    · refine aw_swIn (y := 39) dL_law_33 1741 (by decide) (by decide) rfl rfl (fun h273 => ?_) (fun h273 => ?_)
                                                                                      · refine aw_aload_n (i := 1) dL_law_1741 1742 rfl rfl 1 rfl ?_
                                                                                        refine aw_aload_n (i := 0) dL_law_1742 1743 rfl rfl 0 rfl ?_
                                                                                        refine aw_iload_n (i := 3) dL_law_1743 1744 rfl rfl 3 rfl ?_
                                                                                        refine aw_iconst (x := 1) dL_law_1744 1745 rfl rfl ?_
                                                                                        refine aw_iadd dL_law_1745 1746 rfl ?_
                                                                                        refine aw_sld (fun _ _ h => h) dL_law_1746 1747 rfl (fun h274 => ?_)
                                                                                        refine aw_aload_n (i := 0) dL_law_1747 1748 rfl rfl 0 rfl ?_
                                                                                        refine aw_iload_n (i := 3) dL_law_1748 1749 rfl rfl 3 rfl ?_
                                                                                        refine aw_iconst (x := 2) dL_law_1749 1750 rfl rfl ?_
                                                                                        refine aw_iadd dL_law_1750 1751 rfl ?_
                                                                                        refine aw_sld (fun _ _ h => h) dL_law_1751 1752 rfl (fun h275 => ?_)
                                                                                        refine aw_callV (M2 := m_X10_play) (cv := q_cI) dL_law_1752 1755 rfl (k_X10_play l G (f0 (Int32.toNatClampNeg (x1 + 1))) (f0 (Int32.toNatClampNeg (x1 + 2)))  u1) wl_78 wv_X10_play pk_X10_play rfl rfl ⟨by decide, by decide⟩ ⟨Nat.le_of_ble_eq_true rfl, Nat.le_of_ble_eq_true rfl⟩ at_0 (ok_0 (by decide)) rfl rfl rfl (Nat.le_of_ble_eq_true rfl) (fun x86 u85 => ?_)
                                                                                        show qAW l G m_L_law (q_xl G b0 l0 f0) 1755 [(0, .ref b0), (1, .ref (q_ad G 0 0)), (2, .ref (q_ad G 11 0)), (3, .int x1)] [.int x86] u85 _
                                                                                        refine aw_aload_n (i := 2) dL_law_1755 1756 rfl rfl 2 rfl ?_
                                                                                        refine aw_aload_n (i := 0) dL_law_1756 1757 rfl rfl 0 rfl ?_
                                                                                        refine aw_iload_n (i := 3) dL_law_1757 1758 rfl rfl 3 rfl ?_
                                                                                        refine aw_iconst (x := 1) dL_law_1758 1759 rfl rfl ?_
                                                                                        refine aw_iadd dL_law_1759 1760 rfl ?_
                                                                                        refine aw_sld (fun _ _ h => h) dL_law_1760 1761 rfl (fun h276 => ?_)
                                                                                        refine aw_aload_n (i := 0) dL_law_1761 1762 rfl rfl 0 rfl ?_
                                                                                        refine aw_iload_n (i := 3) dL_law_1762 1763 rfl rfl 3 rfl ?_
                                                                                        refine aw_iconst (x := 2) dL_law_1763 1764 rfl rfl ?_
                                                                                        refine aw_iadd dL_law_1764 1765 rfl ?_
                                                                                        refine aw_sld (fun _ _ h => h) dL_law_1765 1766 rfl (fun h277 => ?_)
                                                                                        refine aw_callV (M2 := m_X11_play) (cv := q_cI) dL_law_1766 1769 rfl (k_X11_play l G (f0 (Int32.toNatClampNeg (x1 + 1))) (f0 (Int32.toNatClampNeg (x1 + 2)))  u85) wl_79 wv_X11_play pk_X11_play rfl rfl ⟨by decide, by decide⟩ ⟨Nat.le_of_ble_eq_true rfl, Nat.le_of_ble_eq_true rfl⟩ at_11 (ok_11 (by decide)) rfl rfl rfl (Nat.le_of_ble_eq_true rfl) (fun x87 u86 => ?_)
                                                                                        show qAW l G m_L_law (q_xl G b0 l0 f0) 1769 [(0, .ref b0), (1, .ref (q_ad G 0 0)), (2, .ref (q_ad G 11 0)), (3, .int x1)] [.int x87, .int x86] u86 _
                                                                                        refine aw_icmp_eq dL_law_1769 1772 rfl 2067 rfl (fun h278 => ?_) (fun h278 => ?_)
                                                                                        · exact hj1 u86
                                                                                        · exact aw_none
                                                                                      · refine aw_swIn (y := 40) dL_law_33 1774 (by decide) (by decide) rfl rfl (fun h279 => ?_) (fun h279 => ?_)
                                                                                        · refine aw_aload_n (i := 1) dL_law_1774 1775 rfl rfl 1 rfl ?_
                                                                                          refine aw_aload_n (i := 0) dL_law_1775 1776 rfl rfl 0 rfl ?_
                                                                                          refine aw_iload_n (i := 3) dL_law_1776 1777 rfl rfl 3 rfl ?_
                                                                                          refine aw_iconst (x := 1) dL_law_1777 1778 rfl rfl ?_
                                                                                          refine aw_iadd dL_law_1778 1779 rfl ?_
                                                                                          refine aw_sld (fun _ _ h => h) dL_law_1779 1780 rfl (fun h280 => ?_)
                                                                                          refine aw_aload_n (i := 0) dL_law_1780 1781 rfl rfl 0 rfl ?_
                                                                                          refine aw_iload_n (i := 3) dL_law_1781 1782 rfl rfl 3 rfl ?_
                                                                                          refine aw_iconst (x := 2) dL_law_1782 1783 rfl rfl ?_
                                                                                          refine aw_iadd dL_law_1783 1784 rfl ?_
                                                                                          refine aw_sld (fun _ _ h => h) dL_law_1784 1785 rfl (fun h281 => ?_)
                                                                                          refine aw_callV (M2 := m_X10_world) (cv := q_cI) dL_law_1785 1788 rfl (k_X10_world l G (f0 (Int32.toNatClampNeg (x1 + 1))) (f0 (Int32.toNatClampNeg (x1 + 2)))  u1) wl_80 wv_X10_world pk_X10_world rfl rfl ⟨by decide, by decide⟩ ⟨Nat.le_of_ble_eq_true rfl, Nat.le_of_ble_eq_true rfl⟩ at_0 (ok_0 (by decide)) rfl rfl rfl (Nat.le_of_ble_eq_true rfl) (fun x88 u87 => ?_)
                                                                                          show qAW l G m_L_law (q_xl G b0 l0 f0) 1788 [(0, .ref b0), (1, .ref (q_ad G 0 0)), (2, .ref (q_ad G 11 0)), (3, .int x1)] [.int x88] u87 _
                                                                                          refine aw_aload_n (i := 2) dL_law_1788 1789 rfl rfl 2 rfl ?_
                                                                                          refine aw_aload_n (i := 0) dL_law_1789 1790 rfl rfl 0 rfl ?_
                                                                                          refine aw_iload_n (i := 3) dL_law_1790 1791 rfl rfl 3 rfl ?_
                                                                                          refine aw_iconst (x := 1) dL_law_1791 1792 rfl rfl ?_
                                                                                          refine aw_iadd dL_law_1792 1793 rfl ?_
                                                                                          refine aw_sld (fun _ _ h => h) dL_law_1793 1794 rfl (fun h282 => ?_)
                                                                                          refine aw_aload_n (i := 0) dL_law_1794 1795 rfl rfl 0 rfl ?_
                                                                                          refine aw_iload_n (i := 3) dL_law_1795 1796 rfl rfl 3 rfl ?_
                                                                                          refine aw_iconst (x := 2) dL_law_1796 1797 rfl rfl ?_
                                                                                          refine aw_iadd dL_law_1797 1798 rfl ?_
                                                                                          refine aw_sld (fun _ _ h => h) dL_law_1798 1799 rfl (fun h283 => ?_)
                                                                                          refine aw_callV (M2 := m_X11_world) (cv := q_cI) dL_law_1799 1802 rfl (k_X11_world l G (f0 (Int32.toNatClampNeg (x1 + 1))) (f0 (Int32.toNatClampNeg (x1 + 2)))  u87) wl_81 wv_X11_world pk_X11_world rfl rfl ⟨by decide, by decide⟩ ⟨Nat.le_of_ble_eq_true rfl, Nat.le_of_ble_eq_true rfl⟩ at_11 (ok_11 (by decide)) rfl rfl rfl (Nat.le_of_ble_eq_true rfl) (fun x89 u88 => ?_)
                                                                                          show qAW l G m_L_law (q_xl G b0 l0 f0) 1802 [(0, .ref b0), (1, .ref (q_ad G 0 0)), (2, .ref (q_ad G 11 0)), (3, .int x1)] [.int x89, .int x88] u88 _
                                                                                          refine aw_icmp_eq dL_law_1802 1805 rfl 2067 rfl (fun h284 => ?_) (fun h284 => ?_)
                                                                                          · exact hj1 u88
                                                                                          · exact aw_none
                                                                                        · refine aw_swIn (y := 41) dL_law_33 1807 (by decide) (by decide) rfl rfl (fun h285 => ?_) (fun h285 => ?_)
                                                                                          · refine aw_aload_n (i := 1) dL_law_1807 1808 rfl rfl 1 rfl ?_
                                                                                            refine aw_callV (M2 := m_X10_forget) (cv := q_cI) dL_law_1808 1811 rfl (k_X10_forget l G   u1) wl_82 wv_X10_forget pk_X10_forget rfl rfl ⟨by decide, by decide⟩ ⟨Nat.le_of_ble_eq_true rfl, Nat.le_of_ble_eq_true rfl⟩ at_0 (ok_0 (by decide)) rfl rfl rfl (Nat.le_of_ble_eq_true rfl) (fun x90 u89 => ?_)
                                                                                            show qAW l G m_L_law (q_xl G b0 l0 f0) 1811 [(0, .ref b0), (1, .ref (q_ad G 0 0)), (2, .ref (q_ad G 11 0)), (3, .int x1)] [.int x90] u89 _
                                                                                            refine aw_aload_n (i := 2) dL_law_1811 1812 rfl rfl 2 rfl ?_
                                                                                            refine aw_callV (M2 := m_X11_forget) (cv := q_cI) dL_law_1812 1815 rfl (k_X11_forget l G   u89) wl_83 wv_X11_forget pk_X11_forget rfl rfl ⟨by decide, by decide⟩ ⟨Nat.le_of_ble_eq_true rfl, Nat.le_of_ble_eq_true rfl⟩ at_11 (ok_11 (by decide)) rfl rfl rfl (Nat.le_of_ble_eq_true rfl) (fun x91 u90 => ?_)
                                                                                            show qAW l G m_L_law (q_xl G b0 l0 f0) 1815 [(0, .ref b0), (1, .ref (q_ad G 0 0)), (2, .ref (q_ad G 11 0)), (3, .int x1)] [.int x91, .int x90] u90 _
                                                                                            refine aw_icmp_eq dL_law_1815 1818 rfl 2067 rfl (fun h286 => ?_) (fun h286 => ?_)
                                                                                            · exact hj1 u90
                                                                                            · exact aw_none
                                                                                          · refine aw_swIn (y := 42) dL_law_33 1820 (by decide) (by decide) rfl rfl (fun h287 => ?_) (fun h287 => ?_)
                                                                                            · refine aw_aload_n (i := 1) dL_law_1820 1821 rfl rfl 1 rfl ?_
                                                                                              refine aw_aload_n (i := 0) dL_law_1821 1822 rfl rfl 0 rfl ?_
                                                                                              refine aw_iload_n (i := 3) dL_law_1822 1823 rfl rfl 3 rfl ?_
                                                                                              refine aw_iconst (x := 1) dL_law_1823 1824 rfl rfl ?_
                                                                                              refine aw_iadd dL_law_1824 1825 rfl ?_
                                                                                              refine aw_sld (fun _ _ h => h) dL_law_1825 1826 rfl (fun h288 => ?_)
                                                                                              refine aw_aload_n (i := 0) dL_law_1826 1827 rfl rfl 0 rfl ?_
                                                                                              refine aw_iload_n (i := 3) dL_law_1827 1828 rfl rfl 3 rfl ?_
                                                                                              refine aw_iconst (x := 2) dL_law_1828 1829 rfl rfl ?_
                                                                                              refine aw_iadd dL_law_1829 1830 rfl ?_
                                                                                              refine aw_sld (fun _ _ h => h) dL_law_1830 1831 rfl (fun h289 => ?_)
                                                                                              refine aw_aload_n (i := 0) dL_law_1831 1832 rfl rfl 0 rfl ?_
                                                                                              refine aw_iload_n (i := 3) dL_law_1832 1833 rfl rfl 3 rfl ?_
                                                                                              refine aw_iconst (x := 3) dL_law_1833 1834 rfl rfl ?_
                                                                                              refine aw_iadd dL_law_1834 1835 rfl ?_
                                                                                              refine aw_sld (fun _ _ h => h) dL_law_1835 1836 rfl (fun h290 => ?_)
                                                                                              refine aw_callV (M2 := m_X10_alarm) (cv := q_cI) dL_law_1836 1839 rfl (k_X10_alarm l G (f0 (Int32.toNatClampNeg (x1 + 1))) (f0 (Int32.toNatClampNeg (x1 + 2))) (f0 (Int32.toNatClampNeg (x1 + 3)))  u1) wl_84 wv_X10_alarm pk_X10_alarm rfl rfl ⟨by decide, by decide⟩ ⟨Nat.le_of_ble_eq_true rfl, Nat.le_of_ble_eq_true rfl⟩ at_0 (ok_0 (by decide)) rfl rfl rfl (Nat.le_of_ble_eq_true rfl) (fun x92 u91 => ?_)
                                                                                              show qAW l G m_L_law (q_xl G b0 l0 f0) 1839 [(0, .ref b0), (1, .ref (q_ad G 0 0)), (2, .ref (q_ad G 11 0)), (3, .int x1)] [.int x92] u91 _
                                                                                              refine aw_aload_n (i := 2) dL_law_1839 1840 rfl rfl 2 rfl ?_
                                                                                              refine aw_aload_n (i := 0) dL_law_1840 1841 rfl rfl 0 rfl ?_
                                                                                              refine aw_iload_n (i := 3) dL_law_1841 1842 rfl rfl 3 rfl ?_
                                                                                              refine aw_iconst (x := 1) dL_law_1842 1843 rfl rfl ?_
                                                                                              refine aw_iadd dL_law_1843 1844 rfl ?_
                                                                                              refine aw_sld (fun _ _ h => h) dL_law_1844 1845 rfl (fun h291 => ?_)
                                                                                              refine aw_aload_n (i := 0) dL_law_1845 1846 rfl rfl 0 rfl ?_
                                                                                              refine aw_iload_n (i := 3) dL_law_1846 1847 rfl rfl 3 rfl ?_
                                                                                              refine aw_iconst (x := 2) dL_law_1847 1848 rfl rfl ?_
                                                                                              refine aw_iadd dL_law_1848 1849 rfl ?_
                                                                                              refine aw_sld (fun _ _ h => h) dL_law_1849 1850 rfl (fun h292 => ?_)
                                                                                              refine aw_aload_n (i := 0) dL_law_1850 1851 rfl rfl 0 rfl ?_
                                                                                              refine aw_iload_n (i := 3) dL_law_1851 1852 rfl rfl 3 rfl ?_
                                                                                              refine aw_iconst (x := 3) dL_law_1852 1853 rfl rfl ?_
                                                                                              refine aw_iadd dL_law_1853 1854 rfl ?_
                                                                                              refine aw_sld (fun _ _ h => h) dL_law_1854 1855 rfl (fun h293 => ?_)
                                                                                              refine aw_callV (M2 := m_X11_alarm) (cv := q_cI) dL_law_1855 1858 rfl (k_X11_alarm l G (f0 (Int32.toNatClampNeg (x1 + 1))) (f0 (Int32.toNatClampNeg (x1 + 2))) (f0 (Int32.toNatClampNeg (x1 + 3)))  u91) wl_85 wv_X11_alarm pk_X11_alarm rfl rfl ⟨by decide, by decide⟩ ⟨Nat.le_of_ble_eq_true rfl, Nat.le_of_ble_eq_true rfl⟩ at_11 (ok_11 (by decide)) rfl rfl rfl (Nat.le_of_ble_eq_true rfl) (fun x93 u92 => ?_)
                                                                                              show qAW l G m_L_law (q_xl G b0 l0 f0) 1858 [(0, .ref b0), (1, .ref (q_ad G 0 0)), (2, .ref (q_ad G 11 0)), (3, .int x1)] [.int x93, .int x92] u92 _
                                                                                              refine aw_icmp_eq dL_law_1858 1861 rfl 2067 rfl (fun h294 => ?_) (fun h294 => ?_)
                                                                                              · exact hj1 u92
                                                                                              · exact aw_none
                                                                                            · refine aw_swIn (y := 43) dL_law_33 1863 (by decide) (by decide) rfl rfl (fun h295 => ?_) (fun h295 => ?_)
                                                                                              · refine aw_aload_n (i := 1) dL_law_1863 1864 rfl rfl 1 rfl ?_
                                                                                                refine aw_aload_n (i := 0) dL_law_1864 1865 rfl rfl 0 rfl ?_
                                                                                                refine aw_iload_n (i := 3) dL_law_1865 1866 rfl rfl 3 rfl ?_
                                                                                                refine aw_iconst (x := 1) dL_law_1866 1867 rfl rfl ?_
                                                                                                refine aw_iadd dL_law_1867 1868 rfl ?_
                                                                                                refine aw_sld (fun _ _ h => h) dL_law_1868 1869 rfl (fun h296 => ?_)
                                                                                                refine aw_aload_n (i := 0) dL_law_1869 1870 rfl rfl 0 rfl ?_
                                                                                                refine aw_iload_n (i := 3) dL_law_1870 1871 rfl rfl 3 rfl ?_
                                                                                                refine aw_iconst (x := 2) dL_law_1871 1872 rfl rfl ?_
                                                                                                refine aw_iadd dL_law_1872 1873 rfl ?_
                                                                                                refine aw_sld (fun _ _ h => h) dL_law_1873 1874 rfl (fun h297 => ?_)
                                                                                                refine aw_callV (M2 := m_X10_post) (cv := q_cI) dL_law_1874 1877 rfl (k_X10_post l G (f0 (Int32.toNatClampNeg (x1 + 1))) (f0 (Int32.toNatClampNeg (x1 + 2)))  u1) wl_86 wv_X10_post pk_X10_post rfl rfl ⟨by decide, by decide⟩ ⟨Nat.le_of_ble_eq_true rfl, Nat.le_of_ble_eq_true rfl⟩ at_0 (ok_0 (by decide)) rfl rfl rfl (Nat.le_of_ble_eq_true rfl) (fun x94 u93 => ?_)
                                                                                                show qAW l G m_L_law (q_xl G b0 l0 f0) 1877 [(0, .ref b0), (1, .ref (q_ad G 0 0)), (2, .ref (q_ad G 11 0)), (3, .int x1)] [.int x94] u93 _
                                                                                                refine aw_aload_n (i := 2) dL_law_1877 1878 rfl rfl 2 rfl ?_
                                                                                                refine aw_aload_n (i := 0) dL_law_1878 1879 rfl rfl 0 rfl ?_
                                                                                                refine aw_iload_n (i := 3) dL_law_1879 1880 rfl rfl 3 rfl ?_
                                                                                                refine aw_iconst (x := 1) dL_law_1880 1881 rfl rfl ?_
                                                                                                refine aw_iadd dL_law_1881 1882 rfl ?_
                                                                                                refine aw_sld (fun _ _ h => h) dL_law_1882 1883 rfl (fun h298 => ?_)
                                                                                                refine aw_aload_n (i := 0) dL_law_1883 1884 rfl rfl 0 rfl ?_
                                                                                                refine aw_iload_n (i := 3) dL_law_1884 1885 rfl rfl 3 rfl ?_
                                                                                                refine aw_iconst (x := 2) dL_law_1885 1886 rfl rfl ?_
                                                                                                refine aw_iadd dL_law_1886 1887 rfl ?_
                                                                                                refine aw_sld (fun _ _ h => h) dL_law_1887 1888 rfl (fun h299 => ?_)
                                                                                                refine aw_callV (M2 := m_X11_post) (cv := q_cI) dL_law_1888 1891 rfl (k_X11_post l G (f0 (Int32.toNatClampNeg (x1 + 1))) (f0 (Int32.toNatClampNeg (x1 + 2)))  u93) wl_87 wv_X11_post pk_X11_post rfl rfl ⟨by decide, by decide⟩ ⟨Nat.le_of_ble_eq_true rfl, Nat.le_of_ble_eq_true rfl⟩ at_11 (ok_11 (by decide)) rfl rfl rfl (Nat.le_of_ble_eq_true rfl) (fun x95 u94 => ?_)
                                                                                                show qAW l G m_L_law (q_xl G b0 l0 f0) 1891 [(0, .ref b0), (1, .ref (q_ad G 0 0)), (2, .ref (q_ad G 11 0)), (3, .int x1)] [.int x95, .int x94] u94 _
                                                                                                refine aw_icmp_eq dL_law_1891 1894 rfl 2067 rfl (fun h300 => ?_) (fun h300 => ?_)
                                                                                                · exact hj1 u94
                                                                                                · exact aw_none
                                                                                              · refine aw_swIn (y := 44) dL_law_33 1896 (by decide) (by decide) rfl rfl (fun h301 => ?_) (fun h301 => ?_)
                                                                                                · refine aw_aload_n (i := 1) dL_law_1896 1897 rfl rfl 1 rfl ?_
                                                                                                  refine aw_aload_n (i := 0) dL_law_1897 1898 rfl rfl 0 rfl ?_
                                                                                                  refine aw_iload_n (i := 3) dL_law_1898 1899 rfl rfl 3 rfl ?_
                                                                                                  refine aw_iconst (x := 1) dL_law_1899 1900 rfl rfl ?_
                                                                                                  refine aw_iadd dL_law_1900 1901 rfl ?_
                                                                                                  refine aw_sld (fun _ _ h => h) dL_law_1901 1902 rfl (fun h302 => ?_)
                                                                                                  refine aw_aload_n (i := 0) dL_law_1902 1903 rfl rfl 0 rfl ?_
                                                                                                  refine aw_iload_n (i := 3) dL_law_1903 1904 rfl rfl 3 rfl ?_
                                                                                                  refine aw_iconst (x := 2) dL_law_1904 1905 rfl rfl ?_
                                                                                                  refine aw_iadd dL_law_1905 1906 rfl ?_
                                                                                                  refine aw_sld (fun _ _ h => h) dL_law_1906 1907 rfl (fun h303 => ?_)
                                                                                                  refine aw_aload_n (i := 0) dL_law_1907 1908 rfl rfl 0 rfl ?_
                                                                                                  refine aw_iload_n (i := 3) dL_law_1908 1909 rfl rfl 3 rfl ?_
                                                                                                  refine aw_iconst (x := 3) dL_law_1909 1910 rfl rfl ?_
                                                                                                  refine aw_iadd dL_law_1910 1911 rfl ?_
                                                                                                  refine aw_sld (fun _ _ h => h) dL_law_1911 1912 rfl (fun h304 => ?_)
                                                                                                  refine aw_callV (M2 := m_X10_gates) (cv := q_cI) dL_law_1912 1915 rfl (k_X10_gates l G (f0 (Int32.toNatClampNeg (x1 + 1))) (f0 (Int32.toNatClampNeg (x1 + 2))) (f0 (Int32.toNatClampNeg (x1 + 3)))  u1) wl_88 wv_X10_gates pk_X10_gates rfl rfl ⟨by decide, by decide⟩ ⟨Nat.le_of_ble_eq_true rfl, Nat.le_of_ble_eq_true rfl⟩ at_0 (ok_0 (by decide)) rfl rfl rfl (Nat.le_of_ble_eq_true rfl) (fun x96 u95 => ?_)
                                                                                                  show qAW l G m_L_law (q_xl G b0 l0 f0) 1915 [(0, .ref b0), (1, .ref (q_ad G 0 0)), (2, .ref (q_ad G 11 0)), (3, .int x1)] [.int x96] u95 _
                                                                                                  refine aw_aload_n (i := 2) dL_law_1915 1916 rfl rfl 2 rfl ?_
                                                                                                  refine aw_aload_n (i := 0) dL_law_1916 1917 rfl rfl 0 rfl ?_
                                                                                                  refine aw_iload_n (i := 3) dL_law_1917 1918 rfl rfl 3 rfl ?_
                                                                                                  refine aw_iconst (x := 1) dL_law_1918 1919 rfl rfl ?_
                                                                                                  refine aw_iadd dL_law_1919 1920 rfl ?_
                                                                                                  refine aw_sld (fun _ _ h => h) dL_law_1920 1921 rfl (fun h305 => ?_)
                                                                                                  refine aw_aload_n (i := 0) dL_law_1921 1922 rfl rfl 0 rfl ?_
                                                                                                  refine aw_iload_n (i := 3) dL_law_1922 1923 rfl rfl 3 rfl ?_
                                                                                                  refine aw_iconst (x := 2) dL_law_1923 1924 rfl rfl ?_
                                                                                                  refine aw_iadd dL_law_1924 1925 rfl ?_
                                                                                                  refine aw_sld (fun _ _ h => h) dL_law_1925 1926 rfl (fun h306 => ?_)
                                                                                                  refine aw_aload_n (i := 0) dL_law_1926 1927 rfl rfl 0 rfl ?_
                                                                                                  refine aw_iload_n (i := 3) dL_law_1927 1928 rfl rfl 3 rfl ?_
                                                                                                  refine aw_iconst (x := 3) dL_law_1928 1929 rfl rfl ?_
                                                                                                  refine aw_iadd dL_law_1929 1930 rfl ?_
                                                                                                  refine aw_sld (fun _ _ h => h) dL_law_1930 1931 rfl (fun h307 => ?_)
                                                                                                  refine aw_callV (M2 := m_X11_gates) (cv := q_cI) dL_law_1931 1934 rfl (k_X11_gates l G (f0 (Int32.toNatClampNeg (x1 + 1))) (f0 (Int32.toNatClampNeg (x1 + 2))) (f0 (Int32.toNatClampNeg (x1 + 3)))  u95) wl_89 wv_X11_gates pk_X11_gates rfl rfl ⟨by decide, by decide⟩ ⟨Nat.le_of_ble_eq_true rfl, Nat.le_of_ble_eq_true rfl⟩ at_11 (ok_11 (by decide)) rfl rfl rfl (Nat.le_of_ble_eq_true rfl) (fun x97 u96 => ?_)
                                                                                                  show qAW l G m_L_law (q_xl G b0 l0 f0) 1934 [(0, .ref b0), (1, .ref (q_ad G 0 0)), (2, .ref (q_ad G 11 0)), (3, .int x1)] [.int x97, .int x96] u96 _
                                                                                                  refine aw_icmp_eq dL_law_1934 1937 rfl 2067 rfl (fun h308 => ?_) (fun h308 => ?_)
                                                                                                  · exact hj1 u96
                                                                                                  · exact aw_none
                                                                                                · refine aw_swIn (y := 45) dL_law_33 1939 (by decide) (by decide) rfl rfl (fun h309 => ?_) (fun h309 => ?_)
                                                                                                  · refine aw_aload_n (i := 1) dL_law_1939 1940 rfl rfl 1 rfl ?_
                                                                                                    refine aw_callV (M2 := m_X10_asked) (cv := q_cI) dL_law_1940 1943 rfl (k_X10_asked l G   u1) wl_90 wv_X10_asked pk_X10_asked rfl rfl ⟨by decide, by decide⟩ ⟨Nat.le_of_ble_eq_true rfl, Nat.le_of_ble_eq_true rfl⟩ at_0 (ok_0 (by decide)) rfl rfl rfl (Nat.le_of_ble_eq_true rfl) (fun x98 u97 => ?_)
                                                                                                    show qAW l G m_L_law (q_xl G b0 l0 f0) 1943 [(0, .ref b0), (1, .ref (q_ad G 0 0)), (2, .ref (q_ad G 11 0)), (3, .int x1)] [.int x98] u97 _
                                                                                                    refine aw_aload_n (i := 2) dL_law_1943 1944 rfl rfl 2 rfl ?_
                                                                                                    refine aw_callV (M2 := m_X11_asked) (cv := q_cI) dL_law_1944 1947 rfl (k_X11_asked l G   u97) wl_91 wv_X11_asked pk_X11_asked rfl rfl ⟨by decide, by decide⟩ ⟨Nat.le_of_ble_eq_true rfl, Nat.le_of_ble_eq_true rfl⟩ at_11 (ok_11 (by decide)) rfl rfl rfl (Nat.le_of_ble_eq_true rfl) (fun x99 u98 => ?_)
                                                                                                    show qAW l G m_L_law (q_xl G b0 l0 f0) 1947 [(0, .ref b0), (1, .ref (q_ad G 0 0)), (2, .ref (q_ad G 11 0)), (3, .int x1)] [.int x99, .int x98] u98 _
                                                                                                    refine aw_icmp_eq dL_law_1947 1950 rfl 2067 rfl (fun h310 => ?_) (fun h310 => ?_)
                                                                                                    · exact hj1 u98
                                                                                                    · exact aw_none
                                                                                                  · refine aw_swIn (y := 46) dL_law_33 1952 (by decide) (by decide) rfl rfl (fun h311 => ?_) (fun h311 => ?_)
                                                                                                    · refine aw_aload_n (i := 1) dL_law_1952 1953 rfl rfl 1 rfl ?_
                                                                                                      refine aw_callV (M2 := m_X10_strength) (cv := q_cL) dL_law_1953 1956 rfl (k_X10_strength l G   u1) wl_92 wv_X10_strength pk_X10_strength rfl rfl ⟨by decide, by decide⟩ ⟨Nat.le_of_ble_eq_true rfl, Nat.le_of_ble_eq_true rfl⟩ at_0 (ok_0 (by decide)) rfl rfl rfl (Nat.le_of_ble_eq_true rfl) (fun w1 u99 => ?_)
                                                                                                      show qAW l G m_L_law (q_xl G b0 l0 f0) 1956 [(0, .ref b0), (1, .ref (q_ad G 0 0)), (2, .ref (q_ad G 11 0)), (3, .int x1)] [.long w1] u99 _
                                                                                                      refine aw_aload_n (i := 2) dL_law_1956 1957 rfl rfl 2 rfl ?_
                                                                                                      refine aw_callV (M2 := m_X11_strength) (cv := q_cL) dL_law_1957 1960 rfl (k_X11_strength l G   u99) wl_93 wv_X11_strength pk_X11_strength rfl rfl ⟨by decide, by decide⟩ ⟨Nat.le_of_ble_eq_true rfl, Nat.le_of_ble_eq_true rfl⟩ at_11 (ok_11 (by decide)) rfl rfl rfl (Nat.le_of_ble_eq_true rfl) (fun w2 u100 => ?_)
                                                                                                      show qAW l G m_L_law (q_xl G b0 l0 f0) 1960 [(0, .ref b0), (1, .ref (q_ad G 0 0)), (2, .ref (q_ad G 11 0)), (3, .int x1)] [.long w2, .long w1] u100 _
                                                                                                      refine aw_lcmp dL_law_1960 1961 rfl ?_
                                                                                                      refine aw_if_eq dL_law_1961 1964 rfl 2067 rfl (fun h312 => ?_) (fun h312 => ?_)
                                                                                                      · exact hj1 u100
                                                                                                      · exact aw_none
                                                                                                    · refine aw_swIn (y := 47) dL_law_33 1966 (by decide) (by decide) rfl rfl (fun h313 => ?_) (fun h313 => ?_)
                                                                                                      · refine aw_aload_n (i := 1) dL_law_1966 1967 rfl rfl 1 rfl ?_
                                                                                                        refine aw_callV (M2 := m_X10_upper) (cv := q_cL) dL_law_1967 1970 rfl (k_X10_upper l G   u1) wl_94 wv_X10_upper pk_X10_upper rfl rfl ⟨by decide, by decide⟩ ⟨Nat.le_of_ble_eq_true rfl, Nat.le_of_ble_eq_true rfl⟩ at_0 (ok_0 (by decide)) rfl rfl rfl (Nat.le_of_ble_eq_true rfl) (fun w3 u101 => ?_)
                                                                                                        show qAW l G m_L_law (q_xl G b0 l0 f0) 1970 [(0, .ref b0), (1, .ref (q_ad G 0 0)), (2, .ref (q_ad G 11 0)), (3, .int x1)] [.long w3] u101 _
                                                                                                        refine aw_aload_n (i := 2) dL_law_1970 1971 rfl rfl 2 rfl ?_
                                                                                                        refine aw_callV (M2 := m_X11_upper) (cv := q_cL) dL_law_1971 1974 rfl (k_X11_upper l G   u101) wl_95 wv_X11_upper pk_X11_upper rfl rfl ⟨by decide, by decide⟩ ⟨Nat.le_of_ble_eq_true rfl, Nat.le_of_ble_eq_true rfl⟩ at_11 (ok_11 (by decide)) rfl rfl rfl (Nat.le_of_ble_eq_true rfl) (fun w4 u102 => ?_)
                                                                                                        show qAW l G m_L_law (q_xl G b0 l0 f0) 1974 [(0, .ref b0), (1, .ref (q_ad G 0 0)), (2, .ref (q_ad G 11 0)), (3, .int x1)] [.long w4, .long w3] u102 _
                                                                                                        refine aw_lcmp dL_law_1974 1975 rfl ?_
                                                                                                        refine aw_if_eq dL_law_1975 1978 rfl 2067 rfl (fun h314 => ?_) (fun h314 => ?_)
                                                                                                        · exact hj1 u102
                                                                                                        · exact aw_none
                                                                                                      · refine aw_swIn (y := 48) dL_law_33 1980 (by decide) (by decide) rfl rfl (fun h315 => ?_) (fun h315 => ?_)
                                                                                                        · refine aw_aload_n (i := 1) dL_law_1980 1981 rfl rfl 1 rfl ?_
                                                                                                          refine aw_callV (M2 := m_X10_lower) (cv := q_cL) dL_law_1981 1984 rfl (k_X10_lower l G   u1) wl_96 wv_X10_lower pk_X10_lower rfl rfl ⟨by decide, by decide⟩ ⟨Nat.le_of_ble_eq_true rfl, Nat.le_of_ble_eq_true rfl⟩ at_0 (ok_0 (by decide)) rfl rfl rfl (Nat.le_of_ble_eq_true rfl) (fun w5 u103 => ?_)
                                                                                                          show qAW l G m_L_law (q_xl G b0 l0 f0) 1984 [(0, .ref b0), (1, .ref (q_ad G 0 0)), (2, .ref (q_ad G 11 0)), (3, .int x1)] [.long w5] u103 _
                                                                                                          refine aw_aload_n (i := 2) dL_law_1984 1985 rfl rfl 2 rfl ?_
                                                                                                          refine aw_callV (M2 := m_X11_lower) (cv := q_cL) dL_law_1985 1988 rfl (k_X11_lower l G   u103) wl_97 wv_X11_lower pk_X11_lower rfl rfl ⟨by decide, by decide⟩ ⟨Nat.le_of_ble_eq_true rfl, Nat.le_of_ble_eq_true rfl⟩ at_11 (ok_11 (by decide)) rfl rfl rfl (Nat.le_of_ble_eq_true rfl) (fun w6 u104 => ?_)
                                                                                                          show qAW l G m_L_law (q_xl G b0 l0 f0) 1988 [(0, .ref b0), (1, .ref (q_ad G 0 0)), (2, .ref (q_ad G 11 0)), (3, .int x1)] [.long w6, .long w5] u104 _
                                                                                                          refine aw_lcmp dL_law_1988 1989 rfl ?_
                                                                                                          refine aw_if_eq dL_law_1989 1992 rfl 2067 rfl (fun h316 => ?_) (fun h316 => ?_)
                                                                                                          · exact hj1 u104
                                                                                                          · exact aw_none
                                                                                                        · refine aw_swIn (y := 49) dL_law_33 1994 (by decide) (by decide) rfl rfl (fun h317 => ?_) (fun h317 => ?_)
                                                                                                          · refine aw_aload_n (i := 1) dL_law_1994 1995 rfl rfl 1 rfl ?_
                                                                                                            refine aw_aload_n (i := 0) dL_law_1995 1996 rfl rfl 0 rfl ?_
                                                                                                            refine aw_iload_n (i := 3) dL_law_1996 1997 rfl rfl 3 rfl ?_
                                                                                                            refine aw_iconst (x := 1) dL_law_1997 1998 rfl rfl ?_
                                                                                                            refine aw_iadd dL_law_1998 1999 rfl ?_
                                                                                                            refine aw_sld (fun _ _ h => h) dL_law_1999 2000 rfl (fun h318 => ?_)
                                                                                                            refine aw_callV (M2 := m_X10_count) (cv := q_cI) dL_law_2000 2003 rfl (k_X10_count l G (f0 (Int32.toNatClampNeg (x1 + 1)))  u1) wl_98 wv_X10_count pk_X10_count rfl rfl ⟨by decide, by decide⟩ ⟨Nat.le_of_ble_eq_true rfl, Nat.le_of_ble_eq_true rfl⟩ at_0 (ok_0 (by decide)) rfl rfl rfl (Nat.le_of_ble_eq_true rfl) (fun x100 u105 => ?_)
                                                                                                            show qAW l G m_L_law (q_xl G b0 l0 f0) 2003 [(0, .ref b0), (1, .ref (q_ad G 0 0)), (2, .ref (q_ad G 11 0)), (3, .int x1)] [.int x100] u105 _
                                                                                                            refine aw_aload_n (i := 2) dL_law_2003 2004 rfl rfl 2 rfl ?_
                                                                                                            refine aw_aload_n (i := 0) dL_law_2004 2005 rfl rfl 0 rfl ?_
                                                                                                            refine aw_iload_n (i := 3) dL_law_2005 2006 rfl rfl 3 rfl ?_
                                                                                                            refine aw_iconst (x := 1) dL_law_2006 2007 rfl rfl ?_
                                                                                                            refine aw_iadd dL_law_2007 2008 rfl ?_
                                                                                                            refine aw_sld (fun _ _ h => h) dL_law_2008 2009 rfl (fun h319 => ?_)
                                                                                                            refine aw_callV (M2 := m_X11_count) (cv := q_cI) dL_law_2009 2012 rfl (k_X11_count l G (f0 (Int32.toNatClampNeg (x1 + 1)))  u105) wl_99 wv_X11_count pk_X11_count rfl rfl ⟨by decide, by decide⟩ ⟨Nat.le_of_ble_eq_true rfl, Nat.le_of_ble_eq_true rfl⟩ at_11 (ok_11 (by decide)) rfl rfl rfl (Nat.le_of_ble_eq_true rfl) (fun x101 u106 => ?_)
                                                                                                            show qAW l G m_L_law (q_xl G b0 l0 f0) 2012 [(0, .ref b0), (1, .ref (q_ad G 0 0)), (2, .ref (q_ad G 11 0)), (3, .int x1)] [.int x101, .int x100] u106 _
                                                                                                            refine aw_icmp_eq dL_law_2012 2015 rfl 2067 rfl (fun h320 => ?_) (fun h320 => ?_)
                                                                                                            · exact hj1 u106
                                                                                                            · exact aw_none
                                                                                                          · refine aw_swIn (y := 50) dL_law_33 2017 (by decide) (by decide) rfl rfl (fun h321 => ?_) (fun h321 => ?_)
                                                                                                            · refine aw_aload_n (i := 1) dL_law_2017 2018 rfl rfl 1 rfl ?_
                                                                                                              refine aw_callV (M2 := m_X10_finding) (cv := q_cI) dL_law_2018 2021 rfl (k_X10_finding l G   u1) wl_100 wv_X10_finding pk_X10_finding rfl rfl ⟨by decide, by decide⟩ ⟨Nat.le_of_ble_eq_true rfl, Nat.le_of_ble_eq_true rfl⟩ at_0 (ok_0 (by decide)) rfl rfl rfl (Nat.le_of_ble_eq_true rfl) (fun x102 u107 => ?_)
                                                                                                              show qAW l G m_L_law (q_xl G b0 l0 f0) 2021 [(0, .ref b0), (1, .ref (q_ad G 0 0)), (2, .ref (q_ad G 11 0)), (3, .int x1)] [.int x102] u107 _
                                                                                                              refine aw_aload_n (i := 2) dL_law_2021 2022 rfl rfl 2 rfl ?_
                                                                                                              refine aw_callV (M2 := m_X11_finding) (cv := q_cI) dL_law_2022 2025 rfl (k_X11_finding l G   u107) wl_101 wv_X11_finding pk_X11_finding rfl rfl ⟨by decide, by decide⟩ ⟨Nat.le_of_ble_eq_true rfl, Nat.le_of_ble_eq_true rfl⟩ at_11 (ok_11 (by decide)) rfl rfl rfl (Nat.le_of_ble_eq_true rfl) (fun x103 u108 => ?_)
                                                                                                              show qAW l G m_L_law (q_xl G b0 l0 f0) 2025 [(0, .ref b0), (1, .ref (q_ad G 0 0)), (2, .ref (q_ad G 11 0)), (3, .int x1)] [.int x103, .int x102] u108 _
                                                                                                              refine aw_icmp_eq dL_law_2025 2028 rfl 2067 rfl (fun h322 => ?_) (fun h322 => ?_)
                                                                                                              · exact hj1 u108
                                                                                                              · exact aw_none
                                                                                                            · refine aw_swIn (y := 51) dL_law_33 2030 (by decide) (by decide) rfl rfl (fun h323 => ?_) (fun h323 => ?_)
                                                                                                              · refine aw_aload_n (i := 1) dL_law_2030 2031 rfl rfl 1 rfl ?_
                                                                                                                refine aw_aload_n (i := 0) dL_law_2031 2032 rfl rfl 0 rfl ?_
                                                                                                                refine aw_iload_n (i := 3) dL_law_2032 2033 rfl rfl 3 rfl ?_
                                                                                                                refine aw_iconst (x := 1) dL_law_2033 2034 rfl rfl ?_
                                                                                                                refine aw_iadd dL_law_2034 2035 rfl ?_
                                                                                                                refine aw_sld (fun _ _ h => h) dL_law_2035 2036 rfl (fun h324 => ?_)
                                                                                                                refine aw_callV (M2 := m_X10_findings) (cv := q_cI) dL_law_2036 2039 rfl (k_X10_findings l G (f0 (Int32.toNatClampNeg (x1 + 1)))  u1) wl_102 wv_X10_findings pk_X10_findings rfl rfl ⟨by decide, by decide⟩ ⟨Nat.le_of_ble_eq_true rfl, Nat.le_of_ble_eq_true rfl⟩ at_0 (ok_0 (by decide)) rfl rfl rfl (Nat.le_of_ble_eq_true rfl) (fun x104 u109 => ?_)
                                                                                                                show qAW l G m_L_law (q_xl G b0 l0 f0) 2039 [(0, .ref b0), (1, .ref (q_ad G 0 0)), (2, .ref (q_ad G 11 0)), (3, .int x1)] [.int x104] u109 _
                                                                                                                refine aw_aload_n (i := 2) dL_law_2039 2040 rfl rfl 2 rfl ?_
                                                                                                                refine aw_aload_n (i := 0) dL_law_2040 2041 rfl rfl 0 rfl ?_
                                                                                                                refine aw_iload_n (i := 3) dL_law_2041 2042 rfl rfl 3 rfl ?_
                                                                                                                refine aw_iconst (x := 1) dL_law_2042 2043 rfl rfl ?_
                                                                                                                refine aw_iadd dL_law_2043 2044 rfl ?_
                                                                                                                refine aw_sld (fun _ _ h => h) dL_law_2044 2045 rfl (fun h325 => ?_)
                                                                                                                refine aw_callV (M2 := m_X11_findings) (cv := q_cI) dL_law_2045 2048 rfl (k_X11_findings l G (f0 (Int32.toNatClampNeg (x1 + 1)))  u109) wl_103 wv_X11_findings pk_X11_findings rfl rfl ⟨by decide, by decide⟩ ⟨Nat.le_of_ble_eq_true rfl, Nat.le_of_ble_eq_true rfl⟩ at_11 (ok_11 (by decide)) rfl rfl rfl (Nat.le_of_ble_eq_true rfl) (fun x105 u110 => ?_)
                                                                                                                show qAW l G m_L_law (q_xl G b0 l0 f0) 2048 [(0, .ref b0), (1, .ref (q_ad G 0 0)), (2, .ref (q_ad G 11 0)), (3, .int x1)] [.int x105, .int x104] u110 _
                                                                                                                refine aw_icmp_eq dL_law_2048 2051 rfl 2067 rfl (fun h326 => ?_) (fun h326 => ?_)
                                                                                                                · exact hj1 u110
                                                                                                                · exact aw_none
                                                                                                              · refine aw_swIn (y := 52) dL_law_33 2053 (by decide) (by decide) rfl rfl (fun h327 => ?_) (fun h327 => ?_)
                                                                                                                · refine aw_aload_n (i := 1) dL_law_2053 2054 rfl rfl 1 rfl ?_
                                                                                                                  refine aw_callV (M2 := m_X10_digest) (cv := q_cL) dL_law_2054 2057 rfl (k_X10_digest l G   u1) wl_104 wv_X10_digest pk_X10_digest rfl rfl ⟨by decide, by decide⟩ ⟨Nat.le_of_ble_eq_true rfl, Nat.le_of_ble_eq_true rfl⟩ at_0 (ok_0 (by decide)) rfl rfl rfl (Nat.le_of_ble_eq_true rfl) (fun w7 u111 => ?_)
                                                                                                                  show qAW l G m_L_law (q_xl G b0 l0 f0) 2057 [(0, .ref b0), (1, .ref (q_ad G 0 0)), (2, .ref (q_ad G 11 0)), (3, .int x1)] [.long w7] u111 _
                                                                                                                  refine aw_aload_n (i := 2) dL_law_2057 2058 rfl rfl 2 rfl ?_
                                                                                                                  refine aw_callV (M2 := m_X11_digest) (cv := q_cL) dL_law_2058 2061 rfl (k_X11_digest l G   u111) wl_105 wv_X11_digest pk_X11_digest rfl rfl ⟨by decide, by decide⟩ ⟨Nat.le_of_ble_eq_true rfl, Nat.le_of_ble_eq_true rfl⟩ at_11 (ok_11 (by decide)) rfl rfl rfl (Nat.le_of_ble_eq_true rfl) (fun w8 u112 => ?_)
                                                                                                                  show qAW l G m_L_law (q_xl G b0 l0 f0) 2061 [(0, .ref b0), (1, .ref (q_ad G 0 0)), (2, .ref (q_ad G 11 0)), (3, .int x1)] [.long w8, .long w7] u112 _
                                                                                                                  refine aw_lcmp dL_law_2061 2062 rfl ?_
                                                                                                                  refine aw_if_eq dL_law_2062 2065 rfl 2067 rfl (fun h328 => ?_) (fun h328 => ?_)
                                                                                                                  · exact hj1 u112
                                                                                                                  · exact aw_none
                                                                                                                · refine aw_swOut dL_law_33 2067 rfl (q_swD [0, 1, 2, 3, 4, 5, 6, 7, 8, 9, 10, 11, 12, 13, 14, 15, 16, 17, 18, 19, 20, 21, 22, 23, 24, 25, 26, 27, 28, 29, 30, 31, 32, 33, 34, 35, 36, 37, 38, 39, 40, 41, 42, 43, 44, 45, 46, 47, 48, 49, 50, 51, 52] (by decide +kernel) (by decide) (by simp only [List.mem_cons, List.not_mem_nil, or_false]; rintro c (rfl | rfl | rfl | rfl | rfl | rfl | rfl | rfl | rfl | rfl | rfl | rfl | rfl | rfl | rfl | rfl | rfl | rfl | rfl | rfl | rfl | rfl | rfl | rfl | rfl | rfl | rfl | rfl | rfl | rfl | rfl | rfl | rfl | rfl | rfl | rfl | rfl | rfl | rfl | rfl | rfl | rfl | rfl | rfl | rfl | rfl | rfl | rfl | rfl | rfl | rfl | rfl | rfl) <;> assumption)) ?_
                                                                                                                  exact hj1 u1
