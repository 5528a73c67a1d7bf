/-! A method's walk over the memory: qAW says that from this pc, with these locals and this stack, over the memory μ, the method comes to the end that r tells (r = none: nothing is said). Its rows go along r, which is the method's text as a function of the memory. -/
abbrev qMd : Type := Room × String × MethodName × ByteArray × Nat × Option FieldType
/-- the tables' words that a contract may hand on; the nest mates' field links, which it hands on as facts of the state -/
def q_tb : List Cond := lw_tbl.filter goodWord
theorem q_tb_of {w : Cond} (h : w ∈ lw_tbl) (g : goodWord w = true) : w ∈ q_tb := List.mem_filter.mpr ⟨h, g⟩
theorem q_tb_good {w : Cond} (h : w ∈ q_tb) : (w.onTables && w.keeps) = true ∨ ∃ ty, w = .arrayClass ty := good_of_word (List.mem_filter.mp h).2
def q_ws (M : qMd) : List Cond := Cond.code M.2.2.1 M.2.2.2.1 M.2.2.2.2.1 M.2.2.2.2.2 :: q_tb
def q_nsL : List (String × Nat × String × String × String × String) := [("SeaCells", 112, "SeaCells$Shelf", "places", "[[I", "SeaCells"), ("SeaCells$Board", 125, "SeaCells$Shelf", "places", "[[I", "SeaCells"), ("SeaCells$Board", 116, "SeaCells$Shelf", "sizes", "[I", "SeaCells"), ("SeaCells$Stepper", 101, "SeaCells$Laws", "pull", "I", "SeaCells"), ("SeaCells", 205, "SeaCells$Laws", "pull", "I", "SeaCells"), ("SeaCells$Stepper", 109, "SeaCells$Laws", "drag", "I", "SeaCells"), ("SeaCells", 210, "SeaCells$Laws", "drag", "I", "SeaCells"), ("SeaCells$Board", 132, "SeaCells$Laws", "windX", "I", "SeaCells"), ("SeaCells", 213, "SeaCells$Laws", "windX", "I", "SeaCells"), ("SeaCells$Board", 129, "SeaCells$Laws", "windY", "I", "SeaCells"), ("SeaCells", 216, "SeaCells$Laws", "windY", "I", "SeaCells"), ("SeaCells$Stepper", 136, "SeaCells$Rivers", "cell", "[I", "SeaCells"), ("SeaCells$Board", 170, "SeaCells$Rivers", "cell", "[I", "SeaCells"), ("SeaCells", 231, "SeaCells$Rivers", "cell", "[I", "SeaCells"), ("SeaCells$Stepper", 139, "SeaCells$Rivers", "much", "[I", "SeaCells"), ("SeaCells", 234, "SeaCells$Rivers", "much", "[I", "SeaCells"), ("SeaCells$Board", 84, "SeaCells$Rivers", "count", "I", "SeaCells"), ("SeaCells$Stepper", 131, "SeaCells$Rivers", "count", "I", "SeaCells"), ("SeaCells", 223, "SeaCells$Rivers", "count", "I", "SeaCells"), ("SeaCells$Board", 193, "SeaCells$Lie", "mark", "[I", "SeaCells"), ("SeaCells$Board", 156, "SeaCells$Lie", "rest", "[I", "SeaCells"), ("SeaCells$Board", 90, "SeaCells$Lie", "on", "I", "SeaCells"), ("SeaCells", 313, "SeaCells$Lie", "on", "I", "SeaCells"), ("SeaCells$Board", 183, "SeaCells$Lie", "x", "I", "SeaCells"), ("SeaCells", 370, "SeaCells$Lie", "x", "I", "SeaCells"), ("SeaCells$Board", 180, "SeaCells$Lie", "y", "I", "SeaCells"), ("SeaCells", 373, "SeaCells$Lie", "y", "I", "SeaCells"), ("SeaCells$Stepper", 112, "SeaCells$Board", "bottom", "[I", "SeaCells"), ("SeaCells", 178, "SeaCells$Board", "bottom", "[I", "SeaCells"), ("SeaCells$Stepper", 59, "SeaCells$Board", "water", "[I", "SeaCells"), ("SeaCells", 181, "SeaCells$Board", "water", "[I", "SeaCells"), ("SeaCells$Stepper", 143, "SeaCells$Board", "stuff", "[I", "SeaCells"), ("SeaCells", 184, "SeaCells$Board", "stuff", "[I", "SeaCells"), ("SeaCells$Boat", 15, "SeaCells$Board", "flow", "[I", "SeaCells"), ("SeaCells$Stepper", 46, "SeaCells$Board", "flow", "[I", "SeaCells"), ("SeaCells", 194, "SeaCells$Board", "flow", "[I", "SeaCells"), ("SeaCells$Stepper", 82, "SeaCells$Board", "shut", "[Z", "SeaCells"), ("SeaCells", 197, "SeaCells$Board", "shut", "[Z", "SeaCells"), ("SeaCells$Stepper", 97, "SeaCells$Board", "laws", "LSeaCells$Laws;", "SeaCells"), ("SeaCells", 201, "SeaCells$Board", "laws", "LSeaCells$Laws;", "SeaCells"), ("SeaCells$Stepper", 127, "SeaCells$Board", "rivers", "LSeaCells$Rivers;", "SeaCells"), ("SeaCells", 219, "SeaCells$Board", "rivers", "LSeaCells$Rivers;", "SeaCells"), ("SeaCells", 309, "SeaCells$Board", "lie", "LSeaCells$Lie;", "SeaCells"), ("SeaCells", 305, "SeaCells$Board", "there", "Z", "SeaCells"), ("SeaCells", 276, "SeaCells$Board", "kind", "I", "SeaCells"), ("SeaCells$Boat", 31, "SeaCells$Board", "w", "I", "SeaCells"), ("SeaCells$Stepper", 147, "SeaCells$Board", "w", "I", "SeaCells"), ("SeaCells", 364, "SeaCells$Board", "w", "I", "SeaCells"), ("SeaCells$Stepper", 144, "SeaCells$Board", "h", "I", "SeaCells"), ("SeaCells", 367, "SeaCells$Board", "h", "I", "SeaCells"), ("SeaCells$Stepper", 75, "SeaCells$Board", "steps", "I", "SeaCells"), ("SeaCells$Stepper", 60, "SeaCells$Board", "rain", "I", "SeaCells"), ("SeaCells$Stepper", 157, "SeaCells$Board", "lent", "I", "SeaCells"), ("SeaCells", 240, "SeaCells$Board", "tideRow", "I", "SeaCells"), ("SeaCells", 243, "SeaCells$Board", "tideMore", "I", "SeaCells"), ("SeaCells", 285, "SeaCells$Boat", "board", "I", "SeaCells"), ("SeaCells", 288, "SeaCells$Boat", "cell", "I", "SeaCells"), ("SeaCells", 293, "SeaCells$Gauge", "board", "I", "SeaCells"), ("SeaCells", 294, "SeaCells$Gauge", "cell", "I", "SeaCells")]
def q_nw (t : String × Nat × String × String × String × String) : Cond := .fieldLinkNest t.1 t.2.1 t.2.2.1 t.2.2.2.1 t.2.2.2.2.1 t.2.2.2.2.2
def q_N (s : State) : Prop := ∀ t ∈ q_nsL, va_Nw (q_nw t) s
theorem q_N_warm {s U : State} (hW : s.WarmedH U.vm) (h : q_N s) : q_N U := fun t ht => va_Nw.warmF hW (h t ht)
abbrev qX (ρ : Type) : Type := (State → Array Value → Prop) × Nat × Nat × (List Frame → Array Value → State → ρ → qM → State → Prop)
def q_cI : Int32 → Option Value := fun x => some (.int x)
def q_cL : Int64 → Option Value := fun x => some (.long x)
def q_cU : Unit → Option Value := fun _ => none
def q_ck {α : Type} (b : Bool) (r : Option α) : Option α := if b = true then r else none
def q_bd {α β : Type} (t : Option (α × qM)) (k : α → qM → Option β) : Option β := match t with
  | some q => k q.1 q.2
  | none => none
def q_lt {α β : Type} (e : α) (k : α → β) : β := k e
def q_jn {α β : Type} (k : α) (f : α → β) : β := f k
def q_in (i : Int32) (n : Nat) : Bool := decide (0 ≤ i.toInt ∧ i.toInt < n)
def q_b (x : Int32) : Bool := decide (x = 0 ∨ x = 1)
def q_nz (x : Int32) : Bool := decide (¬ x = 0)
def q_nzl (x : Int64) : Bool := decide (¬ x = 0)
theorem q_in_vp {i : Int32} {n : Nat} (h : q_in i n = true) : vp_in i n := vp_in_iff.mpr (of_decide_eq_true h)
theorem q_in_lt {i : Int32} {n : Nat} (h : q_in i n = true) : i.toNatClampNeg < n := by
  have h1 := q_in_vp h
  exact Nat.not_le.mp fun q => h1 (Or.inr q)
def q_QC (G : qG) (w : Option Value) (μ : qM) : Array Value → State → Outcome → State → Prop := fun _ st o t => o = .returned w ∧ q_W G μ t.heap ∧ va_F (q_A G) st t
def q_mq {ρ : Type} (G : qG) (cv : ρ → Option Value) : qX ρ := (fun _ _ => True, 0, 0, fun below args s v μ => MQ below (q_QC G (cv v) μ) args s 0 0 (q_A G))
def q_CX (G : qG) (M : qMd) (E : State → Array Value → Prop) (p : Program) (s : State) (m : MethodId) (args : Array Value) (meth : Method) (c : Code) : Prop :=
  CallFix p m c M.2.2.2.1 M.2.2.2.2.1 s args q_tb M.2.1 ∧ meth.sig.returnType = M.2.2.2.2.2 ∧ meth.locks = false ∧ q_K G s ∧ q_D G ∧ (∀ q, s.heap.size ≤ q → q_A G q) ∧ q_N s ∧ E s args
def qAW {ρ : Type} (l : Launch) (G : qG) (M : qMd) (X : qX ρ) (pc : Nat) (lv : List (Nat × Value)) (st : List Value) (μ : qM) (r : Option (ρ × qM)) : Prop :=
  ∀ (p : Program) (e : Env) (s : State) (m : MethodId) (args : Array Value) (below : List Frame) (meth : Method) (c : Code), q_CX G M X.1 p s m args meth c →
    ∀ (v : ρ) (μ' : qM), r = some (v, μ') → ∀ (H : Heap) (locs : List Loc) (ls : Array Slot), q_W G μ H → va_S (q_A G) s.heap H locs → lv_has ls M.2.2.2.2.1 lv →
      W p l e M.1 s m args below meth c H locs X.2.1 X.2.2.1 (X.2.2.2 below args s v μ') (F0 m pc ls st)
def qCt {ρ : Type} (l : Launch) (G : qG) (M : qMd) (cv : ρ → Option Value) (as : List Value) (μ : qM) (r : Option (ρ × qM)) : Prop :=
  ∀ (v : ρ) (μ' : qM), r = some (v, μ') → Met l M.2.2.1 (q_ws M) M.1 (va_Pc as (fun U => q_W G μ U.heap ∧ q_K G U ∧ q_D G ∧ q_N U ∧ ∀ q, U.heap.size ≤ q → q_A G q)) (q_QC G (cv v) μ') 0 0 (q_A G)
def q_Pk (M : qMd) (n : Nat) : Prop := M.1.cells = 0 ∧ M.1.slots = 0 ∧ M.2.2.1.cls = M.2.1 ∧ plainFor M.2.2.1 = true ∧ (M.2.2.1.cls ≠ "java/lang/invoke/MethodHandle" ∧ M.2.2.1.cls ≠ "java/lang/invoke/VarHandle" ∧ (parseMethodDescriptor M.2.2.1.desc).map (fun d => d.parameters.length) = some n)
/-- the tables' words of a method: its code, its class, that it is an instance's (selected by its own class), or static -/
def q_Wv (M : qMd) : Prop := Cond.code M.2.2.1 M.2.2.2.1 M.2.2.2.2.1 M.2.2.2.2.2 ∈ q_tb ∧ Cond.initialized M.2.2.1.cls ∈ q_tb ∧ Cond.instanceMethod M.2.2.1 ∈ q_tb ∧ Cond.selects M.2.2.1.cls M.2.2.1 M.2.2.1 ∈ q_tb
def q_Wst (M : qMd) : Prop := Cond.code M.2.2.1 M.2.2.2.1 M.2.2.2.2.1 M.2.2.2.2.2 ∈ q_tb ∧ Cond.initialized M.2.2.1.cls ∈ q_tb ∧ Cond.static M.2.2.1 ∈ q_tb
theorem q_gapp {big a b : List Cond} (ha : GoodIn big a) (hb : GoodIn big b) : GoodIn big (a ++ b) := fun w h => (List.mem_append.mp h).elim (ha w) (hb w)
theorem q_gws {M : qMd} (h : Cond.code M.2.2.1 M.2.2.2.1 M.2.2.2.2.1 M.2.2.2.2.2 ∈ q_tb) : GoodIn q_tb (q_ws M) := by
  intro w hw
  rcases List.mem_cons.mp hw with rfl | hw
  · exact ⟨h, q_tb_good h⟩
  · exact ⟨hw, q_tb_good hw⟩
theorem q_gV {M : qMd} {own : String} {idx : Nat} (h : q_Wv M) (hl : Cond.methodLink own idx M.2.2.1 ∈ q_tb) : GoodIn q_tb (wsV own idx M.2.2.1.cls M.2.2.1 (q_ws M)) := by
  obtain ⟨h1, h2, h3, h4⟩ := h
  refine q_gapp ?_ (q_gws h1)
  intro w hw
  have hm : w ∈ q_tb := by
    simp only [List.mem_cons, List.not_mem_nil, or_false] at hw
    rcases hw with rfl | rfl | rfl | rfl <;> assumption
  exact ⟨hm, q_tb_good hm⟩
theorem q_gS {M : qMd} {own : String} {idx : Nat} (h : q_Wst M) (hl : Cond.methodLink own idx M.2.2.1 ∈ q_tb) : GoodIn q_tb (va_wsS own idx M.2.2.1 (q_ws M)) := by
  obtain ⟨h1, h2, h3⟩ := h
  refine q_gapp ?_ (q_gws h1)
  intro w hw
  have hm : w ∈ q_tb := by
    simp only [List.mem_cons, List.not_mem_nil, or_false] at hw
    rcases hw with rfl | rfl | rfl <;> assumption
  exact ⟨hm, q_tb_good hm⟩
section QA
variable {ρ : Type} {l : Launch} {G : qG} {M : qMd} {X : qX ρ} {pc : Nat} {lv : List (Nat × Value)} {st : List Value} {μ : qM} {r : Option (ρ × qM)}
theorem aw_none : qAW l G M X pc lv st μ none := fun _ _ _ _ _ _ _ _ _ _ _ h => by cases h
theorem aw_ck {b : Bool} (K : b = true → qAW l G M X pc lv st μ r) : qAW l G M X pc lv st μ (q_ck b r) := by
  unfold q_ck
  split
  · rename_i h; exact K h
  · exact aw_none
theorem aw_lti {e : Int32} {k : Int32 → Option (ρ × qM)} (K : ∀ x : Int32, qAW l G M X pc lv (.int x :: st) μ (k x)) : qAW l G M X pc lv (.int e :: st) μ (q_lt e k) := K e
theorem aw_ltl {e : Int64} {k : Int64 → Option (ρ × qM)} (K : ∀ x : Int64, qAW l G M X pc lv (.long x :: st) μ (k x)) : qAW l G M X pc lv (.long e :: st) μ (q_lt e k) := K e
theorem aw_ltm {e : qM} {k : qM → Option (ρ × qM)} (K : ∀ x : qM, qAW l G M X pc lv st x (k x)) : qAW l G M X pc lv st e (q_lt e k) := K e
theorem aw_jn {α : Type} {k : α} {f : α → Option (ρ × qM)} (Z : α → Prop) (h1 : Z k) (h2 : ∀ k, Z k → qAW l G M X pc lv st μ (f k)) : qAW l G M X pc lv st μ (q_jn k f) := h2 k h1
theorem aw_conv {lv' : List (Nat × Value)} (ks : List Nat) (hl : lv_pick lv ks = lv') (K : qAW l G M X pc lv' st μ r) : qAW l G M X pc lv st μ r := by
  intro p e s m args below meth c hc v μ' hr H locs ls hP hS h
  exact K p e s m args below meth c hc v μ' hr H locs ls hP hS (lv_sub h ks hl)
theorem q_entry {n : Nat} {cv : ρ → Option Value} {as : List Value} (hp : q_Pk M n) (hlen : (lg_sl as).length ≤ M.2.2.2.2.1) (K : qAW l G M (q_mq G cv) 0 (lv_args 0 as) [] μ r) : qCt l G M cv as μ r := by
  obtain ⟨hc0, hs0, hown, hy, -⟩ := hp
  intro v μ' hr
  refine va_MetF hy (ws' := q_tb) rfl ?_
  intro p e s m args below meth c s₁ B hml hv
  obtain ⟨rfl, hP, hK, hD, hN, hsz⟩ := hv
  have hl := lv_entry as (n := M.2.2.2.2.1) hlen
  rw [lg_entry_eq]
  generalize (lg_sl as ++ List.replicate (M.2.2.2.2.1 - (lg_sl as).length) Slot.unset).toArray = ls at hl ⊢
  exact K p e s m _ below meth c ⟨⟨B.exec, B.bytes, hml, by rw [← hown]; exact findClass_of_methodNamed B.named, fun w hw => atoms_spec (ws := q_ws M) B.pre w (List.mem_cons_of_mem _ hw)⟩, B.returns, B.notSynchronized, hK, hD, hsz, hN, trivial⟩ v μ' hr s.heap [] ls hP va_S.rf hl
theorem aw_iconst {z : Int} {x : Int32} (d : decode M.2.2.2.1 pc = .ok (.iconst z, 1)) (n : Nat) (hn : pc + 1 = n) (hv : Int32.ofInt z = x) (K : qAW l G M X n lv (.int x :: st) μ r) : qAW l G M X pc lv st μ r := by
  subst hn
  intro p e s m args below meth c hc v μ' hr H locs ls hP hS hl
  exact lv_iconst hc.1.1 hc.1.2.1 d hv (K p e s m args below meth c hc v μ' hr H locs ls hP hS hl)
theorem aw_bipush {z : Int} {x : Int32} (d : decode M.2.2.2.1 pc = .ok (.bipush z, 2)) (n : Nat) (hn : pc + 2 = n) (hv : (Int8.ofInt z).toInt32 = x) (K : qAW l G M X n lv (.int x :: st) μ r) : qAW l G M X pc lv st μ r := by
  subst hn
  intro p e s m args below meth c hc v μ' hr H locs ls hP hS hl
  exact lv_bipush hc.1.1 hc.1.2.1 d hv (K p e s m args below meth c hc v μ' hr H locs ls hP hS hl)
theorem aw_sipush {z : Int} {x : Int32} (d : decode M.2.2.2.1 pc = .ok (.sipush z, 3)) (n : Nat) (hn : pc + 3 = n) (hv : (Int16.ofInt z).toInt32 = x) (K : qAW l G M X n lv (.int x :: st) μ r) : qAW l G M X pc lv st μ r := by
  subst hn
  intro p e s m args below meth c hc v μ' hr H locs ls hP hS hl
  exact lv_sipush hc.1.1 hc.1.2.1 d hv (K p e s m args below meth c hc v μ' hr H locs ls hP hS hl)
theorem aw_lconst {z : Fin 2} {x : Int64} (d : decode M.2.2.2.1 pc = .ok (.lconst z, 1)) (n : Nat) (hn : pc + 1 = n) (hv : Int64.ofNat (z : Nat) = x) (K : qAW l G M X n lv (.long x :: st) μ r) : qAW l G M X pc lv st μ r := by
  subst hn
  intro p e s m args below meth c hc v μ' hr H locs ls hP hS hl
  exact lv_lconst hc.1.1 hc.1.2.1 d hv (K p e s m args below meth c hc v μ' hr H locs ls hP hS hl)
theorem aw_ldc {i : Nat} {x : Int32} (d : decode M.2.2.2.1 pc = .ok (.ldc i, 2)) (n : Nat) (hn : pc + 2 = n) (hw : Cond.constant M.2.1 i x ∈ q_tb) (K : qAW l G M X n lv (.int x :: st) μ r) : qAW l G M X pc lv st μ r := by
  subst hn
  intro p e s m args below meth c hc v μ' hr H locs ls hP hS hl
  exact lv_ldc hc.1.1 hc.1.2.1 hc.1.2.2.2.1 (hc.1.2.2.2.2 _ hw) d (K p e s m args below meth c hc v μ' hr H locs ls hP hS hl)
theorem aw_ldcw {i : Nat} {x : Int32} (d : decode M.2.2.2.1 pc = .ok (.ldc_w i, 3)) (n : Nat) (hn : pc + 3 = n) (hw : Cond.constant M.2.1 i x ∈ q_tb) (K : qAW l G M X n lv (.int x :: st) μ r) : qAW l G M X pc lv st μ r := by
  subst hn
  intro p e s m args below meth c hc v μ' hr H locs ls hP hS hl
  exact lv_ldcw hc.1.1 hc.1.2.1 hc.1.2.2.2.1 (hc.1.2.2.2.2 _ hw) d (K p e s m args below meth c hc v μ' hr H locs ls hP hS hl)
theorem aw_ldc2 {i : Nat} {x : Int64} (d : decode M.2.2.2.1 pc = .ok (.ldc2_w i, 3)) (n : Nat) (hn : pc + 3 = n) (hw : Cond.constantLong M.2.1 i x ∈ q_tb) (K : qAW l G M X n lv (.long x :: st) μ r) : qAW l G M X pc lv st μ r := by
  subst hn
  intro p e s m args below meth c hc v μ' hr H locs ls hP hS hl
  exact lv_ldc2 hc.1.1 hc.1.2.1 hc.1.2.2.2.1 (hc.1.2.2.2.2 _ hw) d (K p e s m args below meth c hc v μ' hr H locs ls hP hS hl)
theorem aw_iload_n {j : Fin 4} {i : Nat} {x : Int32} (d : decode M.2.2.2.1 pc = .ok (.iload_n j, 1)) (n : Nat) (hn : pc + 1 = n) (hi : (j : Nat) = i) (k : Nat) (h : lv[k]? = some (i, .int x)) (K : qAW l G M X n lv (.int x :: st) μ r) : qAW l G M X pc lv st μ r := by
  subst hn
  intro p e s m args below meth c hc v μ' hr H locs ls hP hS hl
  exact lv_iload_n hc.1.1 hc.1.2.1 d hi (lv_at hl k h) (K p e s m args below meth c hc v μ' hr H locs ls hP hS hl)
theorem aw_iload {i : Nat} {x : Int32} (d : decode M.2.2.2.1 pc = .ok (.iload i, 2)) (n : Nat) (hn : pc + 2 = n) (k : Nat) (h : lv[k]? = some (i, .int x)) (K : qAW l G M X n lv (.int x :: st) μ r) : qAW l G M X pc lv st μ r := by
  subst hn
  intro p e s m args below meth c hc v μ' hr H locs ls hP hS hl
  exact lv_iload hc.1.1 hc.1.2.1 d (lv_at hl k h) (K p e s m args below meth c hc v μ' hr H locs ls hP hS hl)
theorem aw_istore_n {j : Fin 4} {i : Nat} {x : Int32} (d : decode M.2.2.2.1 pc = .ok (.istore_n j, 1)) (n : Nat) (hn : pc + 1 = n) (hi : (j : Nat) = i) (lv' : List (Nat × Value)) (hi2 : i < M.2.2.2.2.1) (hl2 : (i, Value.int x) :: lv.filter (fun q => !(q.1 == i) && !(q.1 + 1 == i && q.2.category == 2)) = lv') (K : qAW l G M X n lv' st μ r) : qAW l G M X pc lv (.int x :: st) μ r := by
  subst hn
  intro p e s m args below meth c hc v μ' hr H locs ls hP hS hl
  exact lv_istore_n hc.1.1 hc.1.2.1 d hi hl hi2 hl2 (fun ls hl => K p e s m args below meth c hc v μ' hr H locs ls hP hS hl)
theorem aw_istore {i : Nat} {x : Int32} (d : decode M.2.2.2.1 pc = .ok (.istore i, 2)) (n : Nat) (hn : pc + 2 = n) (lv' : List (Nat × Value)) (hi2 : i < M.2.2.2.2.1) (hl2 : (i, Value.int x) :: lv.filter (fun q => !(q.1 == i) && !(q.1 + 1 == i && q.2.category == 2)) = lv') (K : qAW l G M X n lv' st μ r) : qAW l G M X pc lv (.int x :: st) μ r := by
  subst hn
  intro p e s m args below meth c hc v μ' hr H locs ls hP hS hl
  exact lv_istore hc.1.1 hc.1.2.1 d hl hi2 hl2 (fun ls hl => K p e s m args below meth c hc v μ' hr H locs ls hP hS hl)
theorem aw_lload_n {j : Fin 4} {i : Nat} {x : Int64} (d : decode M.2.2.2.1 pc = .ok (.lload_n j, 1)) (n : Nat) (hn : pc + 1 = n) (hi : (j : Nat) = i) (k : Nat) (h : lv[k]? = some (i, .long x)) (K : qAW l G M X n lv (.long x :: st) μ r) : qAW l G M X pc lv st μ r := by
  subst hn
  intro p e s m args below meth c hc v μ' hr H locs ls hP hS hl
  exact lv_lload_n hc.1.1 hc.1.2.1 d hi (lv_at hl k h) (K p e s m args below meth c hc v μ' hr H locs ls hP hS hl)
theorem aw_lload {i : Nat} {x : Int64} (d : decode M.2.2.2.1 pc = .ok (.lload i, 2)) (n : Nat) (hn : pc + 2 = n) (k : Nat) (h : lv[k]? = some (i, .long x)) (K : qAW l G M X n lv (.long x :: st) μ r) : qAW l G M X pc lv st μ r := by
  subst hn
  intro p e s m args below meth c hc v μ' hr H locs ls hP hS hl
  exact lv_lload hc.1.1 hc.1.2.1 d (lv_at hl k h) (K p e s m args below meth c hc v μ' hr H locs ls hP hS hl)
theorem aw_lstore_n {j : Fin 4} {i : Nat} {x : Int64} (d : decode M.2.2.2.1 pc = .ok (.lstore_n j, 1)) (n : Nat) (hn : pc + 1 = n) (hi : (j : Nat) = i) (lv' : List (Nat × Value)) (hi2 : i + 1 < M.2.2.2.2.1) (hl2 : (i, Value.long x) :: lv.filter (fun q => !(q.1 == i) && (!(q.1 == i + 1) && !(q.1 + 1 == i && q.2.category == 2))) = lv') (K : qAW l G M X n lv' st μ r) : qAW l G M X pc lv (.long x :: st) μ r := by
  subst hn
  intro p e s m args below meth c hc v μ' hr H locs ls hP hS hl
  exact lv_lstore_n hc.1.1 hc.1.2.1 d hi hl hi2 hl2 (fun ls hl => K p e s m args below meth c hc v μ' hr H locs ls hP hS hl)
theorem aw_lstore {i : Nat} {x : Int64} (d : decode M.2.2.2.1 pc = .ok (.lstore i, 2)) (n : Nat) (hn : pc + 2 = n) (lv' : List (Nat × Value)) (hi2 : i + 1 < M.2.2.2.2.1) (hl2 : (i, Value.long x) :: lv.filter (fun q => !(q.1 == i) && (!(q.1 == i + 1) && !(q.1 + 1 == i && q.2.category == 2))) = lv') (K : qAW l G M X n lv' st μ r) : qAW l G M X pc lv (.long x :: st) μ r := by
  subst hn
  intro p e s m args below meth c hc v μ' hr H locs ls hP hS hl
  exact lv_lstore hc.1.1 hc.1.2.1 d hl hi2 hl2 (fun ls hl => K p e s m args below meth c hc v μ' hr H locs ls hP hS hl)
theorem aw_aload_n {j : Fin 4} {i : Nat} {x : Nat} (d : decode M.2.2.2.1 pc = .ok (.aload_n j, 1)) (n : Nat) (hn : pc + 1 = n) (hi : (j : Nat) = i) (k : Nat) (h : lv[k]? = some (i, .ref x)) (K : qAW l G M X n lv (.ref x :: st) μ r) : qAW l G M X pc lv st μ r := by
  subst hn
  intro p e s m args below meth c hc v μ' hr H locs ls hP hS hl
  exact lv_aload_n hc.1.1 hc.1.2.1 d hi (lv_at hl k h) (K p e s m args below meth c hc v μ' hr H locs ls hP hS hl)
theorem aw_aload {i : Nat} {x : Nat} (d : decode M.2.2.2.1 pc = .ok (.aload i, 2)) (n : Nat) (hn : pc + 2 = n) (k : Nat) (h : lv[k]? = some (i, .ref x)) (K : qAW l G M X n lv (.ref x :: st) μ r) : qAW l G M X pc lv st μ r := by
  subst hn
  intro p e s m args below meth c hc v μ' hr H locs ls hP hS hl
  exact lv_aload hc.1.1 hc.1.2.1 d (lv_at hl k h) (K p e s m args below meth c hc v μ' hr H locs ls hP hS hl)
theorem aw_astore_n {j : Fin 4} {i : Nat} {x : Nat} (d : decode M.2.2.2.1 pc = .ok (.astore_n j, 1)) (n : Nat) (hn : pc + 1 = n) (hi : (j : Nat) = i) (lv' : List (Nat × Value)) (hi2 : i < M.2.2.2.2.1) (hl2 : (i, Value.ref x) :: lv.filter (fun q => !(q.1 == i) && !(q.1 + 1 == i && q.2.category == 2)) = lv') (K : qAW l G M X n lv' st μ r) : qAW l G M X pc lv (.ref x :: st) μ r := by
  subst hn
  intro p e s m args below meth c hc v μ' hr H locs ls hP hS hl
  exact lv_astore_n hc.1.1 hc.1.2.1 d hi hl hi2 hl2 (fun ls hl => K p e s m args below meth c hc v μ' hr H locs ls hP hS hl)
theorem aw_astore {i : Nat} {x : Nat} (d : decode M.2.2.2.1 pc = .ok (.astore i, 2)) (n : Nat) (hn : pc + 2 = n) (lv' : List (Nat × Value)) (hi2 : i < M.2.2.2.2.1) (hl2 : (i, Value.ref x) :: lv.filter (fun q => !(q.1 == i) && !(q.1 + 1 == i && q.2.category == 2)) = lv') (K : qAW l G M X n lv' st μ r) : qAW l G M X pc lv (.ref x :: st) μ r := by
  subst hn
  intro p e s m args below meth c hc v μ' hr H locs ls hP hS hl
  exact lv_astore hc.1.1 hc.1.2.1 d hl hi2 hl2 (fun ls hl => K p e s m args below meth c hc v μ' hr H locs ls hP hS hl)
theorem aw_iinc {i : Nat} {z : Int} {x : Int32} (d : decode M.2.2.2.1 pc = .ok (.iinc i z, 3)) (n : Nat) (hn : pc + 3 = n) (k : Nat) (hk : lv[k]? = some (i, .int x)) (x' : Int32) (hv : x + Int32.ofInt z = x') (lv' : List (Nat × Value)) (hi2 : i < M.2.2.2.2.1) (hl2 : (i, Value.int x') :: lv.filter (fun q => !(q.1 == i) && !(q.1 + 1 == i && q.2.category == 2)) = lv') (K : qAW l G M X n lv' st μ r) : qAW l G M X pc lv st μ r := by
  subst hn
  intro p e s m args below meth c hc v μ' hr H locs ls hP hS hl
  exact lv_iinc hc.1.1 hc.1.2.1 d hl hk hv hi2 hl2 (fun ls hl => K p e s m args below meth c hc v μ' hr H locs ls hP hS hl)
theorem aw_iincx {i : Nat} {z : Int} {x : Int32} {kt : Int32 → Option (ρ × qM)} (d : decode M.2.2.2.1 pc = .ok (.iinc i z, 3)) (n : Nat) (hn : pc + 3 = n) (k : Nat) (hk : lv[k]? = some (i, .int x)) (z' : Int32) (hz : Int32.ofInt z = z') (lv' : Int32 → List (Nat × Value)) (hi2 : i < M.2.2.2.2.1) (hl2 : ∀ x' : Int32, (i, Value.int x') :: lv.filter (fun q => !(q.1 == i) && !(q.1 + 1 == i && q.2.category == 2)) = lv' x') (K : ∀ x' : Int32, qAW l G M X n (lv' x') st μ (kt x')) : qAW l G M X pc lv st μ (q_lt (x + z') kt) := by
  subst hz
  exact aw_iinc d n hn k hk _ rfl _ hi2 (hl2 _) (K _)
theorem aw_iadd {x y : Int32} (d : decode M.2.2.2.1 pc = .ok (.iadd, 1)) (n : Nat) (hn : pc + 1 = n) (K : qAW l G M X n lv (.int (x + y) :: st) μ r) : qAW l G M X pc lv (.int y :: .int x :: st) μ r := by
  subst hn
  intro p e s m args below meth c hc v μ' hr H locs ls hP hS hl
  exact lv_iadd hc.1.1 hc.1.2.1 d (K p e s m args below meth c hc v μ' hr H locs ls hP hS hl)
theorem aw_isub {x y : Int32} (d : decode M.2.2.2.1 pc = .ok (.isub, 1)) (n : Nat) (hn : pc + 1 = n) (K : qAW l G M X n lv (.int (x - y) :: st) μ r) : qAW l G M X pc lv (.int y :: .int x :: st) μ r := by
  subst hn
  intro p e s m args below meth c hc v μ' hr H locs ls hP hS hl
  exact lv_isub hc.1.1 hc.1.2.1 d (K p e s m args below meth c hc v μ' hr H locs ls hP hS hl)
theorem aw_imul {x y : Int32} (d : decode M.2.2.2.1 pc = .ok (.imul, 1)) (n : Nat) (hn : pc + 1 = n) (K : qAW l G M X n lv (.int (x * y) :: st) μ r) : qAW l G M X pc lv (.int y :: .int x :: st) μ r := by
  subst hn
  intro p e s m args below meth c hc v μ' hr H locs ls hP hS hl
  exact lv_imul hc.1.1 hc.1.2.1 d (K p e s m args below meth c hc v μ' hr H locs ls hP hS hl)
theorem aw_iand {x y : Int32} (d : decode M.2.2.2.1 pc = .ok (.iand, 1)) (n : Nat) (hn : pc + 1 = n) (K : qAW l G M X n lv (.int (x &&& y) :: st) μ r) : qAW l G M X pc lv (.int y :: .int x :: st) μ r := by
  subst hn
  intro p e s m args below meth c hc v μ' hr H locs ls hP hS hl
  exact lv_iand hc.1.1 hc.1.2.1 d (K p e s m args below meth c hc v μ' hr H locs ls hP hS hl)
theorem aw_ixor {x y : Int32} (d : decode M.2.2.2.1 pc = .ok (.ixor, 1)) (n : Nat) (hn : pc + 1 = n) (K : qAW l G M X n lv (.int (x ^^^ y) :: st) μ r) : qAW l G M X pc lv (.int y :: .int x :: st) μ r := by
  subst hn
  intro p e s m args below meth c hc v μ' hr H locs ls hP hS hl
  exact lv_ixor hc.1.1 hc.1.2.1 d (K p e s m args below meth c hc v μ' hr H locs ls hP hS hl)
theorem aw_ishl {x y : Int32} (d : decode M.2.2.2.1 pc = .ok (.ishl, 1)) (n : Nat) (hn : pc + 1 = n) (K : qAW l G M X n lv (.int (x <<< (y &&& 31)) :: st) μ r) : qAW l G M X pc lv (.int y :: .int x :: st) μ r := by
  subst hn
  intro p e s m args below meth c hc v μ' hr H locs ls hP hS hl
  exact lv_ishl hc.1.1 hc.1.2.1 d (K p e s m args below meth c hc v μ' hr H locs ls hP hS hl)
theorem aw_ishr {x y : Int32} (d : decode M.2.2.2.1 pc = .ok (.ishr, 1)) (n : Nat) (hn : pc + 1 = n) (K : qAW l G M X n lv (.int (x >>> (y &&& 31)) :: st) μ r) : qAW l G M X pc lv (.int y :: .int x :: st) μ r := by
  subst hn
  intro p e s m args below meth c hc v μ' hr H locs ls hP hS hl
  exact lv_ishr hc.1.1 hc.1.2.1 d (K p e s m args below meth c hc v μ' hr H locs ls hP hS hl)
theorem aw_ladd {x y : Int64} (d : decode M.2.2.2.1 pc = .ok (.ladd, 1)) (n : Nat) (hn : pc + 1 = n) (K : qAW l G M X n lv (.long (x + y) :: st) μ r) : qAW l G M X pc lv (.long y :: .long x :: st) μ r := by
  subst hn
  intro p e s m args below meth c hc v μ' hr H locs ls hP hS hl
  exact lv_ladd hc.1.1 hc.1.2.1 d (K p e s m args below meth c hc v μ' hr H locs ls hP hS hl)
theorem aw_lsub {x y : Int64} (d : decode M.2.2.2.1 pc = .ok (.lsub, 1)) (n : Nat) (hn : pc + 1 = n) (K : qAW l G M X n lv (.long (x - y) :: st) μ r) : qAW l G M X pc lv (.long y :: .long x :: st) μ r := by
  subst hn
  intro p e s m args below meth c hc v μ' hr H locs ls hP hS hl
  exact lv_lsub hc.1.1 hc.1.2.1 d (K p e s m args below meth c hc v μ' hr H locs ls hP hS hl)
theorem aw_lmul {x y : Int64} (d : decode M.2.2.2.1 pc = .ok (.lmul, 1)) (n : Nat) (hn : pc + 1 = n) (K : qAW l G M X n lv (.long (x * y) :: st) μ r) : qAW l G M X pc lv (.long y :: .long x :: st) μ r := by
  subst hn
  intro p e s m args below meth c hc v μ' hr H locs ls hP hS hl
  exact lv_lmul hc.1.1 hc.1.2.1 d (K p e s m args below meth c hc v μ' hr H locs ls hP hS hl)
theorem aw_idiv {x y : Int32} (d : decode M.2.2.2.1 pc = .ok (.idiv, 1)) (n : Nat) (hn : pc + 1 = n) (h0 : ¬ y = 0) (K : qAW l G M X n lv (.int (x / y) :: st) μ r) : qAW l G M X pc lv (.int y :: .int x :: st) μ r := by
  subst hn
  intro p e s m args below meth c hc v μ' hr H locs ls hP hS hl
  exact lv_idiv hc.1.1 hc.1.2.1 d h0 (K p e s m args below meth c hc v μ' hr H locs ls hP hS hl)
theorem aw_irem {x y : Int32} (d : decode M.2.2.2.1 pc = .ok (.irem, 1)) (n : Nat) (hn : pc + 1 = n) (h0 : ¬ y = 0) (K : qAW l G M X n lv (.int (x - x / y * y) :: st) μ r) : qAW l G M X pc lv (.int y :: .int x :: st) μ r := by
  subst hn
  intro p e s m args below meth c hc v μ' hr H locs ls hP hS hl
  exact lv_irem hc.1.1 hc.1.2.1 d h0 (K p e s m args below meth c hc v μ' hr H locs ls hP hS hl)
theorem aw_ldiv {x y : Int64} (d : decode M.2.2.2.1 pc = .ok (.ldiv, 1)) (n : Nat) (hn : pc + 1 = n) (h0 : ¬ y = 0) (K : qAW l G M X n lv (.long (x / y) :: st) μ r) : qAW l G M X pc lv (.long y :: .long x :: st) μ r := by
  subst hn
  intro p e s m args below meth c hc v μ' hr H locs ls hP hS hl
  exact lv_ldiv hc.1.1 hc.1.2.1 d h0 (K p e s m args below meth c hc v μ' hr H locs ls hP hS hl)
theorem aw_lrem {x y : Int64} (d : decode M.2.2.2.1 pc = .ok (.lrem, 1)) (n : Nat) (hn : pc + 1 = n) (h0 : ¬ y = 0) (K : qAW l G M X n lv (.long (x - x / y * y) :: st) μ r) : qAW l G M X pc lv (.long y :: .long x :: st) μ r := by
  subst hn
  intro p e s m args below meth c hc v μ' hr H locs ls hP hS hl
  exact lv_lrem hc.1.1 hc.1.2.1 d h0 (K p e s m args below meth c hc v μ' hr H locs ls hP hS hl)
theorem aw_iushr {x y : Int32} (d : decode M.2.2.2.1 pc = .ok (.iushr, 1)) (n : Nat) (hn : pc + 1 = n) (K : qAW l G M X n lv (.int ((x.toUInt32 >>> (y.toUInt32 &&& Int32.toUInt32 31)).toInt32) :: st) μ r) : qAW l G M X pc lv (.int y :: .int x :: st) μ r := by
  subst hn
  intro p e s m args below meth c hc v μ' hr H locs ls hP hS hl
  exact lv_iushr hc.1.1 hc.1.2.1 d rfl (K p e s m args below meth c hc v μ' hr H locs ls hP hS hl)
theorem aw_ineg {x : Int32} (d : decode M.2.2.2.1 pc = .ok (.ineg, 1)) (n : Nat) (hn : pc + 1 = n) (K : qAW l G M X n lv (.int (-x) :: st) μ r) : qAW l G M X pc lv (.int x :: st) μ r := by
  subst hn
  intro p e s m args below meth c hc v μ' hr H locs ls hP hS hl
  exact lv_ineg hc.1.1 hc.1.2.1 d (K p e s m args below meth c hc v μ' hr H locs ls hP hS hl)
theorem aw_i2l {x : Int32} (d : decode M.2.2.2.1 pc = .ok (.i2l, 1)) (n : Nat) (hn : pc + 1 = n) (K : qAW l G M X n lv (.long x.toInt64 :: st) μ r) : qAW l G M X pc lv (.int x :: st) μ r := by
  subst hn
  intro p e s m args below meth c hc v μ' hr H locs ls hP hS hl
  exact lv_i2l hc.1.1 hc.1.2.1 d rfl (K p e s m args below meth c hc v μ' hr H locs ls hP hS hl)
theorem aw_l2i {x : Int64} (d : decode M.2.2.2.1 pc = .ok (.l2i, 1)) (n : Nat) (hn : pc + 1 = n) (K : qAW l G M X n lv (.int x.toInt32 :: st) μ r) : qAW l G M X pc lv (.long x :: st) μ r := by
  subst hn
  intro p e s m args below meth c hc v μ' hr H locs ls hP hS hl
  exact lv_l2i hc.1.1 hc.1.2.1 d rfl (K p e s m args below meth c hc v μ' hr H locs ls hP hS hl)
theorem aw_i2b {x : Int32} (d : decode M.2.2.2.1 pc = .ok (.i2b, 1)) (n : Nat) (hn : pc + 1 = n) (K : qAW l G M X n lv (.int x.toInt8.toInt32 :: st) μ r) : qAW l G M X pc lv (.int x :: st) μ r := by
  subst hn
  intro p e s m args below meth c hc v μ' hr H locs ls hP hS hl
  exact lv_i2b hc.1.1 hc.1.2.1 d rfl (K p e s m args below meth c hc v μ' hr H locs ls hP hS hl)
theorem aw_lcmp {x y : Int64} (d : decode M.2.2.2.1 pc = .ok (.lcmp, 1)) (n : Nat) (hn : pc + 1 = n) (K : qAW l G M X n lv (.int (lg_cmp x y) :: st) μ r) : qAW l G M X pc lv (.long y :: .long x :: st) μ r := by
  subst hn
  intro p e s m args below meth c hc v μ' hr H locs ls hP hS hl
  exact W.lcmp hc.1.1 hc.1.2.1 d (K p e s m args below meth c hc v μ' hr H locs ls hP hS hl)
theorem aw_dup {va : Value} (d : decode M.2.2.2.1 pc = .ok (.dup, 1)) (n : Nat) (hn : pc + 1 = n) (h1 : va.category = 1) (K : qAW l G M X n lv (va :: va :: st) μ r) : qAW l G M X pc lv (va :: st) μ r := by
  subst hn
  intro p e s m args below meth c hc v μ' hr H locs ls hP hS hl
  exact lv_dup hc.1.1 hc.1.2.1 d h1 (K p e s m args below meth c hc v μ' hr H locs ls hP hS hl)
theorem aw_dup2 {va vb : Value} (d : decode M.2.2.2.1 pc = .ok (.dup2, 1)) (n : Nat) (hn : pc + 1 = n) (h1 : va.category = 1) (h2 : vb.category = 1) (K : qAW l G M X n lv (va :: vb :: va :: vb :: st) μ r) : qAW l G M X pc lv (va :: vb :: st) μ r := by
  subst hn
  intro p e s m args below meth c hc v μ' hr H locs ls hP hS hl
  exact lv_dup2_11 hc.1.1 hc.1.2.1 d h1 h2 (K p e s m args below meth c hc v μ' hr H locs ls hP hS hl)
theorem aw_goto {off : Int} (d : decode M.2.2.2.1 pc = .ok (.goto off, 3)) (n : Nat) (hn : (pc : Int) + off = (n : Int)) (K : qAW l G M X n lv st μ r) : qAW l G M X pc lv st μ r := by
  intro p e s m args below meth c hc v μ' hr H locs ls hP hS hl
  exact lv_goto hc.1.1 hc.1.2.1 d hn (K p e s m args below meth c hc v μ' hr H locs ls hP hS hl)
theorem aw_if_eq {off : Int} {x : Int32} {rt rf : Option (ρ × qM)} {inst : Decidable (x = 0)} (d : decode M.2.2.2.1 pc = .ok (.ifCond .eq off, 3)) (n : Nat) (hn : pc + 3 = n) (t : Nat) (ht : (pc : Int) + off = (t : Int)) (KT : x = 0 → qAW l G M X t lv st μ rt) (KF : ¬ x = 0 → qAW l G M X n lv st μ rf) : qAW l G M X pc lv (.int x :: st) μ (@ite _ (x = 0) inst rt rf) := by
  subst hn
  intro p e s m args below meth c hc v μ' hr H locs ls hP hS hl
  exact lv_if_eq hc.1.1 hc.1.2.1 d ht (fun h => KT h p e s m args below meth c hc v μ' (by rw [if_pos h] at hr; exact hr) H locs ls hP hS hl) (fun h => KF h p e s m args below meth c hc v μ' (by rw [if_neg h] at hr; exact hr) H locs ls hP hS hl)
theorem aw_if_ne {off : Int} {x : Int32} {rt rf : Option (ρ × qM)} {inst : Decidable (x = 0)} (d : decode M.2.2.2.1 pc = .ok (.ifCond .ne off, 3)) (n : Nat) (hn : pc + 3 = n) (t : Nat) (ht : (pc : Int) + off = (t : Int)) (KT : ¬ x = 0 → qAW l G M X t lv st μ rt) (KF : x = 0 → qAW l G M X n lv st μ rf) : qAW l G M X pc lv (.int x :: st) μ (@ite _ (x = 0) inst rf rt) := by
  subst hn
  intro p e s m args below meth c hc v μ' hr H locs ls hP hS hl
  exact lv_if_ne hc.1.1 hc.1.2.1 d ht (fun h => KT h p e s m args below meth c hc v μ' (by rw [if_neg h] at hr; exact hr) H locs ls hP hS hl) (fun h => KF h p e s m args below meth c hc v μ' (by rw [if_pos h] at hr; exact hr) H locs ls hP hS hl)
theorem aw_if_lt {off : Int} {x : Int32} {rt rf : Option (ρ × qM)} {inst : Decidable (x < 0)} (d : decode M.2.2.2.1 pc = .ok (.ifCond .lt off, 3)) (n : Nat) (hn : pc + 3 = n) (t : Nat) (ht : (pc : Int) + off = (t : Int)) (KT : x < 0 → qAW l G M X t lv st μ rt) (KF : ¬ x < 0 → qAW l G M X n lv st μ rf) : qAW l G M X pc lv (.int x :: st) μ (@ite _ (x < 0) inst rt rf) := by
  subst hn
  intro p e s m args below meth c hc v μ' hr H locs ls hP hS hl
  exact lv_if_lt hc.1.1 hc.1.2.1 d ht (fun h => KT h p e s m args below meth c hc v μ' (by rw [if_pos h] at hr; exact hr) H locs ls hP hS hl) (fun h => KF h p e s m args below meth c hc v μ' (by rw [if_neg h] at hr; exact hr) H locs ls hP hS hl)
theorem aw_if_ge {off : Int} {x : Int32} {rt rf : Option (ρ × qM)} {inst : Decidable (0 ≤ x)} (d : decode M.2.2.2.1 pc = .ok (.ifCond .ge off, 3)) (n : Nat) (hn : pc + 3 = n) (t : Nat) (ht : (pc : Int) + off = (t : Int)) (KT : 0 ≤ x → qAW l G M X t lv st μ rt) (KF : ¬ 0 ≤ x → qAW l G M X n lv st μ rf) : qAW l G M X pc lv (.int x :: st) μ (@ite _ (0 ≤ x) inst rt rf) := by
  subst hn
  intro p e s m args below meth c hc v μ' hr H locs ls hP hS hl
  exact lv_if_ge hc.1.1 hc.1.2.1 d ht (fun h => KT h p e s m args below meth c hc v μ' (by rw [if_pos h] at hr; exact hr) H locs ls hP hS hl) (fun h => KF h p e s m args below meth c hc v μ' (by rw [if_neg h] at hr; exact hr) H locs ls hP hS hl)
theorem aw_if_gt {off : Int} {x : Int32} {rt rf : Option (ρ × qM)} {inst : Decidable (0 < x)} (d : decode M.2.2.2.1 pc = .ok (.ifCond .gt off, 3)) (n : Nat) (hn : pc + 3 = n) (t : Nat) (ht : (pc : Int) + off = (t : Int)) (KT : 0 < x → qAW l G M X t lv st μ rt) (KF : ¬ 0 < x → qAW l G M X n lv st μ rf) : qAW l G M X pc lv (.int x :: st) μ (@ite _ (0 < x) inst rt rf) := by
  subst hn
  intro p e s m args below meth c hc v μ' hr H locs ls hP hS hl
  exact lv_if_gt hc.1.1 hc.1.2.1 d ht (fun h => KT h p e s m args below meth c hc v μ' (by rw [if_pos h] at hr; exact hr) H locs ls hP hS hl) (fun h => KF h p e s m args below meth c hc v μ' (by rw [if_neg h] at hr; exact hr) H locs ls hP hS hl)
theorem aw_if_le {off : Int} {x : Int32} {rt rf : Option (ρ × qM)} {inst : Decidable (x ≤ 0)} (d : decode M.2.2.2.1 pc = .ok (.ifCond .le off, 3)) (n : Nat) (hn : pc + 3 = n) (t : Nat) (ht : (pc : Int) + off = (t : Int)) (KT : x ≤ 0 → qAW l G M X t lv st μ rt) (KF : ¬ x ≤ 0 → qAW l G M X n lv st μ rf) : qAW l G M X pc lv (.int x :: st) μ (@ite _ (x ≤ 0) inst rt rf) := by
  subst hn
  intro p e s m args below meth c hc v μ' hr H locs ls hP hS hl
  exact lv_if_le hc.1.1 hc.1.2.1 d ht (fun h => KT h p e s m args below meth c hc v μ' (by rw [if_pos h] at hr; exact hr) H locs ls hP hS hl) (fun h => KF h p e s m args below meth c hc v μ' (by rw [if_neg h] at hr; exact hr) H locs ls hP hS hl)
theorem aw_icmp_eq {off : Int} {x y : Int32} {rt rf : Option (ρ × qM)} {inst : Decidable (x = y)} (d : decode M.2.2.2.1 pc = .ok (.if_icmp .eq off, 3)) (n : Nat) (hn : pc + 3 = n) (t : Nat) (ht : (pc : Int) + off = (t : Int)) (KT : x = y → qAW l G M X t lv st μ rt) (KF : ¬ x = y → qAW l G M X n lv st μ rf) : qAW l G M X pc lv (.int y :: .int x :: st) μ (@ite _ (x = y) inst rt rf) := by
  subst hn
  intro p e s m args below meth c hc v μ' hr H locs ls hP hS hl
  exact lv_icmp_eq hc.1.1 hc.1.2.1 d ht (fun h => KT h p e s m args below meth c hc v μ' (by rw [if_pos h] at hr; exact hr) H locs ls hP hS hl) (fun h => KF h p e s m args below meth c hc v μ' (by rw [if_neg h] at hr; exact hr) H locs ls hP hS hl)
theorem aw_icmp_ne {off : Int} {x y : Int32} {rt rf : Option (ρ × qM)} {inst : Decidable (x = y)} (d : decode M.2.2.2.1 pc = .ok (.if_icmp .ne off, 3)) (n : Nat) (hn : pc + 3 = n) (t : Nat) (ht : (pc : Int) + off = (t : Int)) (KT : ¬ x = y → qAW l G M X t lv st μ rt) (KF : x = y → qAW l G M X n lv st μ rf) : qAW l G M X pc lv (.int y :: .int x :: st) μ (@ite _ (x = y) inst rf rt) := by
  subst hn
  intro p e s m args below meth c hc v μ' hr H locs ls hP hS hl
  exact lv_icmp_ne hc.1.1 hc.1.2.1 d ht (fun h => KT h p e s m args below meth c hc v μ' (by rw [if_neg h] at hr; exact hr) H locs ls hP hS hl) (fun h => KF h p e s m args below meth c hc v μ' (by rw [if_pos h] at hr; exact hr) H locs ls hP hS hl)
theorem aw_icmp_lt {off : Int} {x y : Int32} {rt rf : Option (ρ × qM)} {inst : Decidable (x < y)} (d : decode M.2.2.2.1 pc = .ok (.if_icmp .lt off, 3)) (n : Nat) (hn : pc + 3 = n) (t : Nat) (ht : (pc : Int) + off = (t : Int)) (KT : x < y → qAW l G M X t lv st μ rt) (KF : ¬ x < y → qAW l G M X n lv st μ rf) : qAW l G M X pc lv (.int y :: .int x :: st) μ (@ite _ (x < y) inst rt rf) := by
  subst hn
  intro p e s m args below meth c hc v μ' hr H locs ls hP hS hl
  exact lv_icmp_lt hc.1.1 hc.1.2.1 d ht (fun h => KT h p e s m args below meth c hc v μ' (by rw [if_pos h] at hr; exact hr) H locs ls hP hS hl) (fun h => KF h p e s m args below meth c hc v μ' (by rw [if_neg h] at hr; exact hr) H locs ls hP hS hl)
theorem aw_icmp_ge {off : Int} {x y : Int32} {rt rf : Option (ρ × qM)} {inst : Decidable (y ≤ x)} (d : decode M.2.2.2.1 pc = .ok (.if_icmp .ge off, 3)) (n : Nat) (hn : pc + 3 = n) (t : Nat) (ht : (pc : Int) + off = (t : Int)) (KT : y ≤ x → qAW l G M X t lv st μ rt) (KF : ¬ y ≤ x → qAW l G M X n lv st μ rf) : qAW l G M X pc lv (.int y :: .int x :: st) μ (@ite _ (y ≤ x) inst rt rf) := by
  subst hn
  intro p e s m args below meth c hc v μ' hr H locs ls hP hS hl
  exact lv_icmp_ge hc.1.1 hc.1.2.1 d ht (fun h => KT h p e s m args below meth c hc v μ' (by rw [if_pos h] at hr; exact hr) H locs ls hP hS hl) (fun h => KF h p e s m args below meth c hc v μ' (by rw [if_neg h] at hr; exact hr) H locs ls hP hS hl)
theorem aw_icmp_gt {off : Int} {x y : Int32} {rt rf : Option (ρ × qM)} {inst : Decidable (y < x)} (d : decode M.2.2.2.1 pc = .ok (.if_icmp .gt off, 3)) (n : Nat) (hn : pc + 3 = n) (t : Nat) (ht : (pc : Int) + off = (t : Int)) (KT : y < x → qAW l G M X t lv st μ rt) (KF : ¬ y < x → qAW l G M X n lv st μ rf) : qAW l G M X pc lv (.int y :: .int x :: st) μ (@ite _ (y < x) inst rt rf) := by
  subst hn
  intro p e s m args below meth c hc v μ' hr H locs ls hP hS hl
  exact lv_icmp_gt hc.1.1 hc.1.2.1 d ht (fun h => KT h p e s m args below meth c hc v μ' (by rw [if_pos h] at hr; exact hr) H locs ls hP hS hl) (fun h => KF h p e s m args below meth c hc v μ' (by rw [if_neg h] at hr; exact hr) H locs ls hP hS hl)
theorem aw_icmp_le {off : Int} {x y : Int32} {rt rf : Option (ρ × qM)} {inst : Decidable (x ≤ y)} (d : decode M.2.2.2.1 pc = .ok (.if_icmp .le off, 3)) (n : Nat) (hn : pc + 3 = n) (t : Nat) (ht : (pc : Int) + off = (t : Int)) (KT : x ≤ y → qAW l G M X t lv st μ rt) (KF : ¬ x ≤ y → qAW l G M X n lv st μ rf) : qAW l G M X pc lv (.int y :: .int x :: st) μ (@ite _ (x ≤ y) inst rt rf) := by
  subst hn
  intro p e s m args below meth c hc v μ' hr H locs ls hP hS hl
  exact lv_icmp_le hc.1.1 hc.1.2.1 d ht (fun h => KT h p e s m args below meth c hc v μ' (by rw [if_pos h] at hr; exact hr) H locs ls hP hS hl) (fun h => KF h p e s m args below meth c hc v μ' (by rw [if_neg h] at hr; exact hr) H locs ls hP hS hl)
theorem aw_swIn {dflt lo hi : Int} {offs : Array Int} {len : Nat} {x y : Int32} {inst : Decidable (x = y)} {off : Int} {rt rf : Option (ρ × qM)} (d : decode M.2.2.2.1 pc = .ok (.tableswitch dflt lo hi offs, len)) (t : Nat) (h1 : ¬ y.toInt < lo) (h2 : ¬ hi < y.toInt) (ho : offs[(y.toInt - lo).toNat]? = some off) (ht : (pc : Int) + off = (t : Int)) (KT : x = y → qAW l G M X t lv st μ rt) (KF : ¬ x = y → qAW l G M X pc lv (.int x :: st) μ rf) : qAW l G M X pc lv (.int x :: st) μ (@ite _ (x = y) inst rt rf) := by
  intro p e s m args below meth c hc v μ' hr H locs ls hP hS hl
  by_cases h : x = y
  · rw [if_pos h] at hr
    have hk := KT h p e s m args below meth c hc v μ' hr H locs ls hP hS hl
    subst h
    exact lv_tableIn hc.1.1 hc.1.2.1 d h1 h2 ho ht hk
  · rw [if_neg h] at hr
    exact KF h p e s m args below meth c hc v μ' hr H locs ls hP hS hl
theorem aw_swOut {dflt lo hi : Int} {offs : Array Int} {len : Nat} {x : Int32} (d : decode M.2.2.2.1 pc = .ok (.tableswitch dflt lo hi offs, len)) (t : Nat) (ht : (pc : Int) + dflt = (t : Int)) (h : x.toInt < lo ∨ hi < x.toInt ∨ offs[(x.toInt - lo).toNat]? = some dflt) (K : qAW l G M X t lv st μ r) : qAW l G M X pc lv (.int x :: st) μ r := by
  intro p e s m args below meth c hc v μ' hr H locs ls hP hS hl
  have hk := K p e s m args below meth c hc v μ' hr H locs ls hP hS hl
  by_cases h1 : x.toInt < lo
  · exact lv_tableOut hc.1.1 hc.1.2.1 d (Or.inl h1) ht hk
  · by_cases h2 : hi < x.toInt
    · exact lv_tableOut hc.1.1 hc.1.2.1 d (Or.inr h2) ht hk
    · rcases h with h | h | h
      · exact absurd h h1
      · exact absurd h h2
      · exact lv_tableIn hc.1.1 hc.1.2.1 d h1 h2 h ht hk
theorem aw_get {k i ci N f idx : Nat} {C : String} {T : u_T} {fs : List Value} {x : Value} (d : decode M.2.2.2.1 pc = .ok (.getfield idx, 3)) (n : Nat) (hn : pc + 3 = n) (hw : Cond.fieldLink M.2.1 idx (T f).1 (T f).2.1 (T f).2.2.1 ∈ q_tb) (hin : ∀ w ∈ u_ws C T N, w ∈ q_tb) (hat : q_at k = 9) (hok : q_ok k i = true) (hfl : q_fl G (μ.1 k i) (μ.2.1 k i) μ.2.2 k i = (ci, fs)) (hcl : vwCl[ci]? = some (C, T, N)) (hf : f < N) (hx : fs[f]? = some x) (K : qAW l G M X n lv (x :: st) μ r) : qAW l G M X pc lv (.ref (q_ad G k i) :: st) μ r := by
  subst hn
  intro p e s m args below meth c hc v μ' hr H locs ls hP hS hl
  obtain ⟨q0, h0⟩ := q_ix hok
  have he : (q_pic G μ)[q0]? = some (q_ad G k i, .inr (ci, fs)) := by rw [q_pic_at h0, q_rep9 hat, hfl]
  exact va_get hc.1.1 hc.1.2.1 hc.1.2.2.2.2 hin hc.1.2.2.2.1 hc.2.2.2.1 hP q0 he hcl f hf (hc.1.2.2.2.2 _ hw) (fun _ h => h) hx d (K p e s m args below meth c hc v μ' hr H locs ls hP hS hl)
theorem aw_put {k i ci N f idx : Nat} {C : String} {T : u_T} {ty0 : Nat → FieldType} {ty : FieldType} {fs : List Value} {x : Value} {μ2 : qM} (d : decode M.2.2.2.1 pc = .ok (.putfield idx, 3)) (n : Nat) (hn : pc + 3 = n) (hw : Cond.fieldLink M.2.1 idx (T f).1 (T f).2.1 (T f).2.2.1 ∈ q_tb) (hin : ∀ w ∈ u_ws C T N, w ∈ q_tb) (hty : ∀ k, k < N → parseFieldDescriptor (T k).2.2.1 = some (ty0 k)) (hnm : ∀ a, a < N → ∀ b, b < N → a ≠ b → (T a).2.1 ≠ (T b).2.1) (hat : q_at k = 9) (hok : q_ok k i = true) (hfl : q_fl G (μ.1 k i) (μ.2.1 k i) μ.2.2 k i = (ci, fs)) (hcl : vwCl[ci]? = some (C, T, N)) (hf : f < N) (hlen : f < fs.length) (hfin : (T f).2.2.2 = false) (hd : parseFieldDescriptor (T f).2.2.1 = some ty) (hnar : narrow ty x = x) (hfit : fits ty x = true)
    (hm : q_fl G (μ2.1 k i) (μ2.2.1 k i) μ2.2.2 k i = (ci, fs.set f x)) (hoth : ∀ a b, (a, b) ∈ q_objs → ¬ (a = k ∧ b = i) → q_rep G μ2 a b = q_rep G μ a b) (K : qAW l G M X n lv st μ2 r) : qAW l G M X pc lv (x :: .ref (q_ad G k i) :: st) μ r := by
  subst hn
  intro p e s m args below meth c hc v μ' hr H locs ls hP hS hl
  obtain ⟨q0, h0⟩ := q_ix hok
  have he : (q_pic G μ)[q0]? = some (q_ad G k i, .inr (ci, fs)) := by rw [q_pic_at h0, q_rep9 hat, hfl]
  have hset : (q_pic G μ).set q0 (q_ad G k i, .inr (ci, fs.set f x)) = q_pic G μ2 := by
    have h := q_set (G := G) (μ := μ) (μ' := μ2) h0 hoth
    rw [q_rep9 hat, hm] at h
    exact h
  refine va_put hc.1.1 hc.1.2.1 hc.1.2.2.2.2 hin ty0 hty hnm hc.1.2.2.2.1 hc.2.2.2.1 hP (hc.2.2.2.2.1 μ) hS q0 he hcl f hf (hc.1.2.2.2.2 _ hw) (fun _ h => h) hfin hd hnar hfit hlen d (fun H1 locs1 hP1 hD1 hS1 => ?_)
  rw [hset] at hP1
  exact K p e s m args below meth c hc v μ' hr H1 locs1 ls hP1 hS1 hl
theorem aw_getN {k i ci N f idx : Nat} {C : String} {T : u_T} {fs : List Value} {x : Value} (d : decode M.2.2.2.1 pc = .ok (.getfield idx, 3)) (n : Nat) (hn : pc + 3 = n) (host : String) (hw : (M.2.1, idx, (T f).1, (T f).2.1, (T f).2.2.1, host) ∈ q_nsL) (hin : ∀ w ∈ u_ws C T N, w ∈ q_tb) (hat : q_at k = 9) (hok : q_ok k i = true) (hfl : q_fl G (μ.1 k i) (μ.2.1 k i) μ.2.2 k i = (ci, fs)) (hcl : vwCl[ci]? = some (C, T, N)) (hf : f < N) (hx : fs[f]? = some x) (K : qAW l G M X n lv (x :: st) μ r) : qAW l G M X pc lv (.ref (q_ad G k i) :: st) μ r := by
  subst hn
  intro p e s m args below meth c hc v μ' hr H locs ls hP hS hl
  obtain ⟨q0, h0⟩ := q_ix hok
  have he : (q_pic G μ)[q0]? = some (q_ad G k i, .inr (ci, fs)) := by rw [q_pic_at h0, q_rep9 hat, hfl]
  exact va_getN hc.1.1 hc.1.2.1 hc.1.2.2.2.2 hin hc.1.2.2.2.1 hc.2.2.2.1 hP q0 he hcl f hf (va_Nw.use rfl (hc.2.2.2.2.2.2.1 _ hw)) (fun _ h => h) hx d (K p e s m args below meth c hc v μ' hr H locs ls hP hS hl)
theorem aw_putN {k i ci N f idx : Nat} {C : String} {T : u_T} {ty0 : Nat → FieldType} {ty : FieldType} {fs : List Value} {x : Value} {μ2 : qM} (d : decode M.2.2.2.1 pc = .ok (.putfield idx, 3)) (n : Nat) (hn : pc + 3 = n) (host : String) (hw : (M.2.1, idx, (T f).1, (T f).2.1, (T f).2.2.1, host) ∈ q_nsL) (hin : ∀ w ∈ u_ws C T N, w ∈ q_tb) (hty : ∀ k, k < N → parseFieldDescriptor (T k).2.2.1 = some (ty0 k)) (hnm : ∀ a, a < N → ∀ b, b < N → a ≠ b → (T a).2.1 ≠ (T b).2.1) (hat : q_at k = 9) (hok : q_ok k i = true) (hfl : q_fl G (μ.1 k i) (μ.2.1 k i) μ.2.2 k i = (ci, fs)) (hcl : vwCl[ci]? = some (C, T, N)) (hf : f < N) (hlen : f < fs.length) (hfin : (T f).2.2.2 = false) (hd : parseFieldDescriptor (T f).2.2.1 = some ty) (hnar : narrow ty x = x) (hfit : fits ty x = true)
    (hm : q_fl G (μ2.1 k i) (μ2.2.1 k i) μ2.2.2 k i = (ci, fs.set f x)) (hoth : ∀ a b, (a, b) ∈ q_objs → ¬ (a = k ∧ b = i) → q_rep G μ2 a b = q_rep G μ a b) (K : qAW l G M X n lv st μ2 r) : qAW l G M X pc lv (x :: .ref (q_ad G k i) :: st) μ r := by
  subst hn
  intro p e s m args below meth c hc v μ' hr H locs ls hP hS hl
  obtain ⟨q0, h0⟩ := q_ix hok
  have he : (q_pic G μ)[q0]? = some (q_ad G k i, .inr (ci, fs)) := by rw [q_pic_at h0, q_rep9 hat, hfl]
  have hset : (q_pic G μ).set q0 (q_ad G k i, .inr (ci, fs.set f x)) = q_pic G μ2 := by
    have h := q_set (G := G) (μ := μ) (μ' := μ2) h0 hoth
    rw [q_rep9 hat, hm] at h
    exact h
  refine va_putN hc.1.1 hc.1.2.1 hc.1.2.2.2.2 hin ty0 hty hnm hc.1.2.2.2.1 hc.2.2.2.1 hP (hc.2.2.2.2.1 μ) hS q0 he hcl f hf (va_Nw.use rfl (hc.2.2.2.2.2.2.1 _ hw)) (fun _ h => h) hfin hd hnar hfit hlen d (fun H1 locs1 hP1 hD1 hS1 => ?_)
  rw [hset] at hP1
  exact K p e s m args below meth c hc v μ' hr H1 locs1 ls hP1 hS1 hl
theorem aw_iald {k i N : Nat} {j : Int32} (d : decode M.2.2.2.1 pc = .ok (.iaload, 1)) (n : Nat) (hn : pc + 1 = n) (hat : q_at k = 0) (hal : q_al k i = N) (hok : q_ok k i = true) (K : q_in j N = true → qAW l G M X n lv (.int (μ.1 k i j.toNatClampNeg) :: st) μ r) : qAW l G M X pc lv (.int j :: .ref (q_ad G k i) :: st) μ (q_ck (q_in j N) r) := by
  refine aw_ck (fun hj => ?_)
  subst hn hal
  intro p e s m args below meth c hc v μ' hr H locs ls hP hS hl
  obtain ⟨q0, h0⟩ := q_ix hok
  have he := q_pic_at (G := G) (μ := μ) h0
  rw [q_rep0 hat] at he
  exact va_iald hc.1.1 hc.1.2.1 hc.2.2.2.1 hP q0 0 he rfl (q_in_vp hj) d (K hj p e s m args below meth c hc v μ' hr H locs ls hP hS hl)
theorem aw_zald {k i N : Nat} {j : Int32} (d : decode M.2.2.2.1 pc = .ok (.baload, 1)) (n : Nat) (hn : pc + 1 = n) (hat : q_at k = 1) (hal : q_al k i = N) (hok : q_ok k i = true) (K : q_in j N = true → qAW l G M X n lv (.int (μ.1 k i j.toNatClampNeg) :: st) μ r) : qAW l G M X pc lv (.int j :: .ref (q_ad G k i) :: st) μ (q_ck (q_in j N) r) := by
  refine aw_ck (fun hj => ?_)
  subst hn hal
  intro p e s m args below meth c hc v μ' hr H locs ls hP hS hl
  obtain ⟨q0, h0⟩ := q_ix hok
  have he := q_pic_at (G := G) (μ := μ) h0
  rw [q_rep1 hat] at he
  exact va_zald hc.1.1 hc.1.2.1 hc.2.2.2.1 hP q0 1 he rfl (q_in_vp hj) d (K hj p e s m args below meth c hc v μ' hr H locs ls hP hS hl)
theorem aw_iast {k i N : Nat} {j : Int32} {x : Int32} (d : decode M.2.2.2.1 pc = .ok (.iastore, 1)) (n : Nat) (hn : pc + 1 = n) (hat : q_at k = 0) (hal : q_al k i = N) (hok : q_ok k i = true) (K : q_in j N = true → qAW l G M X n lv st (q_si μ k i j.toNatClampNeg x) r) : qAW l G M X pc lv (.int x :: .int j :: .ref (q_ad G k i) :: st) μ (q_ck (q_in j N) r) := by
  refine aw_ck (fun hj => ?_)
  subst hn hal
  intro p e s m args below meth c hc v μ' hr H locs ls hP hS hl
  obtain ⟨q0, h0⟩ := q_ix hok
  have he := q_pic_at (G := G) (μ := μ) h0
  rw [q_rep0 hat] at he
  refine va_iast hc.1.1 hc.1.2.1 hc.2.2.2.1 hP (hc.2.2.2.2.1 μ) hS q0 0 he rfl (q_in_vp hj) d (fun H1 locs1 hP1 hD1 hS1 => ?_)
  have hset := q_set (G := G) (μ := μ) (μ' := q_si μ k i j.toNatClampNeg x) h0 (fun a b _ h => q_rep_si a b h)
  rw [q_rep0 hat, q_si_same] at hset
  rw [hset] at hP1
  exact K hj p e s m args below meth c hc v μ' hr H1 locs1 ls hP1 hS1 hl
theorem aw_zast {k i N : Nat} {j : Int32} {x : Int32} (d : decode M.2.2.2.1 pc = .ok (.bastore, 1)) (n : Nat) (hn : pc + 1 = n) (hat : q_at k = 1) (hal : q_al k i = N) (hok : q_ok k i = true) (K : q_in j N = true → qAW l G M X n lv st (q_si μ k i j.toNatClampNeg (vp_nar .boolean x)) r) : qAW l G M X pc lv (.int x :: .int j :: .ref (q_ad G k i) :: st) μ (q_ck (q_in j N) r) := by
  refine aw_ck (fun hj => ?_)
  subst hn hal
  intro p e s m args below meth c hc v μ' hr H locs ls hP hS hl
  obtain ⟨q0, h0⟩ := q_ix hok
  have he := q_pic_at (G := G) (μ := μ) h0
  rw [q_rep1 hat] at he
  refine va_zast hc.1.1 hc.1.2.1 hc.2.2.2.1 hP (hc.2.2.2.2.1 μ) hS q0 1 he rfl (q_in_vp hj) d (fun H1 locs1 hP1 hD1 hS1 => ?_)
  have hset := q_set (G := G) (μ := μ) (μ' := q_si μ k i j.toNatClampNeg (vp_nar .boolean x)) h0 (fun a b _ h => q_rep_si a b h)
  rw [q_rep1 hat, q_si_same] at hset
  rw [hset] at hP1
  exact K hj p e s m args below meth c hc v μ' hr H1 locs1 ls hP1 hS1 hl
theorem aw_aald {k i N t k2 i2 : Nat} {ty : FieldType} {j : Int32} (d : decode M.2.2.2.1 pc = .ok (.aaload, 1)) (n : Nat) (hn : pc + 1 = n) (hat : q_at k = t) (h3 : 3 ≤ t) (h9 : t < 9) (hty : (q_tys G)[t]? = some (G.2.2.1 t, ty)) (hrf : ty.isReference = true) (hal : q_al k i = N) (hok : q_ok k i = true) (hp : q_pt k i j.toNatClampNeg = (k2, i2)) (K : q_in j N = true → qAW l G M X n lv (.ref (q_ad G k2 i2) :: st) μ r) : qAW l G M X pc lv (.int j :: .ref (q_ad G k i) :: st) μ (q_ck (q_in j N) r) := by
  refine aw_ck (fun hj => ?_)
  subst hn hal
  intro p e s m args below meth c hc v μ' hr H locs ls hP hS hl
  obtain ⟨q0, h0⟩ := q_ix hok
  have he := q_pic_at (G := G) (μ := μ) h0
  rw [q_repR t hat h3 h9] at he
  have hlt := q_in_lt hj
  have hin := q_in_vp hj
  have e1 : k2 = (q_pt k i j.toNatClampNeg).1 := by rw [hp]
  have e2 : i2 = (q_pt k i j.toNatClampNeg).2 := by rw [hp]
  subst e1 e2
  exact W.aald (v := va_rf (some (q_ad G (q_pt k i j.toNatClampNeg).1 (q_pt k i j.toNatClampNeg).2))) (ty := ty) hc.1.1 hc.1.2.1 (hP q0 _ he) ((hc.2.2.2.1.2 t _ hty).1 (q_al k i) (fun e => va_rf (some (q_ad G (q_pt k i e).1 (q_pt k i e).2)))) hrf (fun q => by cases q) (by show ¬ (j < 0 ∨ (arrV _ _ _).slots.size ≤ _); rw [arrV_size]; exact hin) (by show (arrV _ _ _).slots[_]? = _; rw [arrV_read _ _ hlt]) rfl rfl d (K hj p e s m args below meth c hc v μ' hr H locs ls hP hS hl)
theorem aw_alen {k i N : Nat} {x : Int32} (d : decode M.2.2.2.1 pc = .ok (.arraylength, 1)) (n : Nat) (hn : pc + 1 = n) (hat : q_at k = 0) (hal : q_al k i = N) (hx : Int32.ofNat N = x) (hok : q_ok k i = true) (K : qAW l G M X n lv (.int x :: st) μ r) : qAW l G M X pc lv (.ref (q_ad G k i) :: st) μ r := by
  subst hn hal hx
  intro p e s m args below meth c hc v μ' hr H locs ls hP hS hl
  obtain ⟨q0, h0⟩ := q_ix hok
  have he := q_pic_at (G := G) (μ := μ) h0
  rw [q_rep0 hat] at he
  exact va_alen hc.1.1 hc.1.2.1 hc.2.2.2.1 hP q0 0 he rfl rfl d (K p e s m args below meth c hc v μ' hr H locs ls hP hS hl)
def q_cr (sp dp n : Int32) (n0 n1 : Nat) : Bool := decide (¬ sp < 0 ∧ ¬ dp < 0 ∧ ¬ n < 0 ∧ sp.toNatClampNeg + n.toNatClampNeg ≤ n0 ∧ dp.toNatClampNeg + n.toNatClampNeg ≤ n1)
theorem aw_copy {k0 i0 k i idx : Nat} {sp dp z : Int32} {n0 n1 : Nat} (d : decode M.2.2.2.1 pc = .ok (.invokestatic idx, 3)) (n : Nat) (hn : pc + 3 = n) (hw1 : Cond.methodLink M.2.1 idx arraycopyName ∈ q_tb) (hw2 : Cond.native arraycopyName ∈ q_tb) (hw3 : Cond.static arraycopyName ∈ q_tb) (hw4 : Cond.initialized "java/lang/System" ∈ q_tb) (hat0 : q_at k0 = 0) (hal0 : q_al k0 i0 = n0) (hok0 : q_ok k0 i0 = true) (hat : q_at k = 0) (hal : q_al k i = n1) (hok : q_ok k i = true)
    (hf : 1 ≤ M.1.frames) (hlo : (st.map fun v => v.category).sum + (nativeFrameWords "java/lang/System" "arraycopy" 5 + 11) ≤ M.1.locals) (K : q_cr sp dp z n0 n1 = true → qAW l G M X n lv st (q_sc μ k0 i0 k i sp.toNatClampNeg dp.toNatClampNeg z.toNatClampNeg) r) : qAW l G M X pc lv (.int z :: .int dp :: .ref (q_ad G k i) :: .int sp :: .ref (q_ad G k0 i0) :: st) μ (q_ck (q_cr sp dp z n0 n1) r) := by
  refine aw_ck (fun hj => ?_)
  subst hn hal hal0
  intro p e s m args below meth c hc v μ' hr H locs ls hP hS hl
  obtain ⟨q0, h0⟩ := q_ix hok0
  obtain ⟨q1, h1⟩ := q_ix hok
  have he0 := q_pic_at (G := G) (μ := μ) h0
  rw [q_rep0 hat0] at he0
  have he := q_pic_at (G := G) (μ := μ) h1
  rw [q_rep0 hat] at he
  obtain ⟨c1, c2, c3, c4, c5⟩ := of_decide_eq_true hj
  refine va_copyi hc.1.1 hc.1.2.1 (hc.1.2.2.1.trans hl.1.symm) hc.1.2.2.2.1 (hc.1.2.2.2.2 _ hw1) (hc.1.2.2.2.2 _ hw2) (hc.1.2.2.2.2 _ hw3) (hc.1.2.2.2.2 _ hw4) hc.2.2.2.1 hP (hc.2.2.2.2.1 μ) hS q0 q1 0 0 he0 he rfl rfl rfl c1 c2 c3 c4 c5 (fun i _ => rfl) hf hlo d (fun H1 locs1 hP1 hD1 hS1 => ?_)
  have hset := q_set (G := G) (μ := μ) (μ' := q_sc μ k0 i0 k i sp.toNatClampNeg dp.toNatClampNeg z.toNatClampNeg) h1 (fun a b _ h => q_rep_sc a b h)
  rw [q_rep0 hat, q_sc_same] at hset
  rw [hset] at hP1
  exact K hj p e s m args below meth c hc v μ' hr H1 locs1 ls hP1 hS1 hl
theorem aw_max {idx : Nat} {x y : Int32} (d : decode M.2.2.2.1 pc = .ok (.invokestatic idx, 3)) (n : Nat) (hn : pc + 3 = n) (hw1 : Cond.methodLink M.2.1 idx Lib.Math.max.name ∈ q_tb) (hw3 : Cond.static Lib.Math.max.name ∈ q_tb) (hw4 : Cond.initialized "java/lang/Math" ∈ q_tb) (hw5 : Cond.code Lib.Math.max.name Lib.Math.max.code 2 (some .int) ∈ q_tb) (hf : 1 ≤ M.1.frames) (hlo : (st.map fun v => v.category).sum + 13 ≤ M.1.locals) (hcc : X.2.1 ≤ M.1.cells) (hss : X.2.2.1 ≤ M.1.slots) (K : qAW l G M X n lv (.int (if x < y then y else x) :: st) μ r) : qAW l G M X pc lv (.int y :: .int x :: st) μ r := by
  subst hn
  intro p e s m args below meth c hc v μ' hr H locs ls hP hS hl
  exact va_mmax hc.1.1 hc.1.2.1 (hc.1.2.2.1.trans hl.1.symm) hc.1.2.2.2.1 (hc.1.2.2.2.2 _ hw1) (hc.1.2.2.2.2 _ hw3) (hc.1.2.2.2.2 _ hw4) (hc.1.2.2.2.2 _ hw5) hf hlo hcc hss d (K p e s m args below meth c hc v μ' hr H locs ls hP hS hl)
theorem aw_min {idx : Nat} {x y : Int32} (d : decode M.2.2.2.1 pc = .ok (.invokestatic idx, 3)) (n : Nat) (hn : pc + 3 = n) (hw1 : Cond.methodLink M.2.1 idx Lib.Math.min.name ∈ q_tb) (hw3 : Cond.static Lib.Math.min.name ∈ q_tb) (hw4 : Cond.initialized "java/lang/Math" ∈ q_tb) (hw5 : Cond.code Lib.Math.min.name Lib.Math.min.code 2 (some .int) ∈ q_tb) (hf : 1 ≤ M.1.frames) (hlo : (st.map fun v => v.category).sum + 13 ≤ M.1.locals) (hcc : X.2.1 ≤ M.1.cells) (hss : X.2.2.1 ≤ M.1.slots) (K : qAW l G M X n lv (.int (if y < x then y else x) :: st) μ r) : qAW l G M X pc lv (.int y :: .int x :: st) μ r := by
  subst hn
  intro p e s m args below meth c hc v μ' hr H locs ls hP hS hl
  exact va_mmin hc.1.1 hc.1.2.1 (hc.1.2.2.1.trans hl.1.symm) hc.1.2.2.2.1 (hc.1.2.2.2.2 _ hw1) (hc.1.2.2.2.2 _ hw3) (hc.1.2.2.2.2 _ hw4) (hc.1.2.2.2.2 _ hw5) hf hlo hcc hss d (K p e s m args below meth c hc v μ' hr H locs ls hP hS hl)
theorem aw_abs {idx : Nat} {x : Int32} (d : decode M.2.2.2.1 pc = .ok (.invokestatic idx, 3)) (n : Nat) (hn : pc + 3 = n) (hw1 : Cond.methodLink M.2.1 idx Lib.Math.abs.name ∈ q_tb) (hw3 : Cond.static Lib.Math.abs.name ∈ q_tb) (hw4 : Cond.initialized "java/lang/Math" ∈ q_tb) (hw5 : Cond.code Lib.Math.abs.name Lib.Math.abs.code 1 (some .int) ∈ q_tb) (hf : 1 ≤ M.1.frames) (hlo : (st.map fun v => v.category).sum + 13 ≤ M.1.locals) (hcc : X.2.1 ≤ M.1.cells) (hss : X.2.2.1 ≤ M.1.slots) (K : qAW l G M X n lv (.int (if 0 ≤ x then x else 0 - x) :: st) μ r) : qAW l G M X pc lv (.int x :: st) μ r := by
  subst hn
  intro p e s m args below meth c hc v μ' hr H locs ls hP hS hl
  exact va_mabs hc.1.1 hc.1.2.1 (hc.1.2.2.1.trans hl.1.symm) hc.1.2.2.2.1 (hc.1.2.2.2.2 _ hw1) (hc.1.2.2.2.2 _ hw3) (hc.1.2.2.2.2 _ hw4) (hc.1.2.2.2.2 _ hw5) hf hlo hcc hss d (K p e s m args below meth c hc v μ' hr H locs ls hP hS hl)
theorem q_leave {w : Option Value} {p : Program} {e : Env} {s : State} {m : MethodId} {args : Array Value} {below : List Frame} {meth : Method} {c : Code} {H : Heap} {locs : List Loc} (hP : q_W G μ H) (hS : va_S (q_A G) s.heap H locs) : ∀ t : State, t.heap = H → s.WarmedH t.vm → q_QC G w μ args s (.returned w) t := fun t ht _ => ⟨rfl, by rw [ht]; exact hP, hS.F ht⟩
end QA
section QR
variable {l : Launch} {G : qG} {M : qMd} {pc : Nat} {lv : List (Nat × Value)} {st : List Value} {μ : qM}
theorem aw_iret {x : Int32} (d : decode M.2.2.2.1 pc = .ok (.ireturn, 1)) (hret : M.2.2.2.2.2 = some .int) : qAW l G M (q_mq G q_cI) pc lv [.int x] μ (some (x, μ)) := by
  intro p e s m args below meth c hc v μ' hr H locs ls hP hS hl
  cases hr
  exact W.iret hc.1.1 hc.1.2.1 (hc.2.1.trans hret) (fun t ht _ => ⟨rfl, by rw [ht]; exact hP, hS.F ht⟩) hS.2.2 d hc.2.2.1
theorem q_nb {x : Int32} (h : q_b x = true) : narrow .boolean (.int x) = .int x ∧ fits .boolean (.int x) = true := by
  rcases of_decide_eq_true h with rfl | rfl <;> exact ⟨rfl, rfl⟩
theorem aw_zret {x : Int32} (d : decode M.2.2.2.1 pc = .ok (.ireturn, 1)) (hret : M.2.2.2.2.2 = some .boolean) (hb : q_b x = true) : qAW l G M (q_mq G q_cI) pc lv [.int x] μ (some (x, μ)) := by
  intro p e s m args below meth c hc v μ' hr H locs ls hP hS hl
  cases hr
  exact W.zret hc.1.1 hc.1.2.1 (hc.2.1.trans hret) (q_nb hb).1 (fun t ht _ => ⟨rfl, by rw [ht]; exact hP, hS.F ht⟩) hS.2.2 d hc.2.2.1
theorem aw_lret {x : Int64} (d : decode M.2.2.2.1 pc = .ok (.lreturn, 1)) (hret : M.2.2.2.2.2 = some .long) : qAW l G M (q_mq G q_cL) pc lv [.long x] μ (some (x, μ)) := by
  intro p e s m args below meth c hc v μ' hr H locs ls hP hS hl
  cases hr
  exact W.lret hc.1.1 hc.1.2.1 (hc.2.1.trans hret) (fun t ht _ => ⟨rfl, by rw [ht]; exact hP, hS.F ht⟩) hS.2.2 d hc.2.2.1
theorem aw_vret (d : decode M.2.2.2.1 pc = .ok (.return_, 1)) (hret : M.2.2.2.2.2 = none) : qAW l G M (q_mq G q_cU) pc lv [] μ (some ((), μ)) := by
  intro p e s m args below meth c hc v μ' hr H locs ls hP hS hl
  cases hr
  exact W.vret hc.1.1 hc.1.2.1 (hc.2.1.trans hret) (fun t ht _ => ⟨rfl, by rw [ht]; exact hP, hS.F ht⟩) hS.2.2 d hc.2.2.1
end QR
section QC
variable {ρ α : Type} {l : Launch} {G : qG} {M M2 : qMd} {X : qX ρ} {pc : Nat} {lv : List (Nat × Value)} {st : List Value} {μ : qM}
theorem q_call {p : Program} {e : Env} {R : Room} {s : State} {m : MethodId} {args a0 : Array Value} {below : List Frame} {meth : Method} {c : Code} {H : Heap} {locs : List Loc} {cells slots : Nat} {ls : Array Slot} {st0 rest : List Value} {w : Option Value} {μ2 : qM} {Q : State → Prop}
    (hr : va_Run p l e R s m args below meth c H locs cells slots 0 0 (F0 m pc ls st0) rest (q_QC G w μ2 a0) (q_A G)) (hS : va_S (q_A G) s.heap H locs)
    (kk : ∀ (H1 : Heap) (locs1 : List Loc), q_W G μ2 H1 → va_S (q_A G) s.heap H1 locs1 → W p l e R s m args below meth c H1 locs1 cells slots Q (F0 m (pc + 3) ls (w.toList ++ rest))) : W p l e R s m args below meth c H locs cells slots Q (F0 m pc ls st0) := by
  intro T hT Xs
  obtain ⟨v, st₀, t, T', L, h0, X', hL, e1, e2, ⟨hv, hP, hz, hk⟩, stp⟩ := hr T hT Xs
  cases hv
  rw [h0] at hz hk
  obtain ⟨t2, a1, b1⟩ := kk T'.heap (locs ++ L) (by rw [e1]; exact hP)
    ⟨Nat.le_trans hS.1 (by rw [e1]; exact hz), fun q h1 h2 => by rw [e1, hk q (Nat.lt_of_lt_of_le h1 hS.1) h2]; exact hS.2.1 q h1 h2, fun q hq => by
      rcases List.mem_append.mp hq with h | h
      · exact hS.2.2 q h
      · exact hL q h⟩ T' rfl X'
  exact ⟨t2, stp t2 a1, b1⟩
theorem q_blind {as : List Value} : FrameBlind (va_Pc as (fun U => q_W G μ U.heap ∧ q_K G U ∧ q_D G ∧ q_N U ∧ ∀ q, U.heap.size ≤ q → q_A G q)) := by
  intro a U g mk q
  obtain ⟨h1, h2, h3, h4, h5, h6⟩ := q
  exact ⟨h1, h2, va_K.moved (u := U) (U := U.calling g mk a) (Vm.Alike.refl U.vm) h3, h4, fun t ht => va_Nw.same (u := U) (U := U.calling g mk a) rfl rfl (h5 t ht), h6⟩
theorem aw_callV {k i idx nn ci N : Nat} {C : String} {T : u_T} {fs : List Value} {As rest : List Value} {cv : α → Option Value} {t : Option (α × qM)} {kt : α → qM → Option (ρ × qM)} (d : decode M.2.2.2.1 pc = .ok (.invokevirtual idx, 3)) (n : Nat) (hn : pc + 3 = n) (hC : qCt l G M2 cv (.ref (q_ad G k i) :: As) μ t) (hl2 : Cond.methodLink M.2.1 idx M2.2.2.1 ∈ q_tb) (hwv : q_Wv M2) (pk : q_Pk M2 nn) (hnn : As.length = nn) (hyC : M2.2.2.1.cls = C) (hR : M2.1.frames + 1 ≤ M.1.frames ∧ 8 + (M2.2.2.2.2.1 + 11) + M2.1.locals ≤ M.1.locals) (hX : X.2.1 ≤ M.1.cells ∧ X.2.2.1 ≤ M.1.slots) (hat : q_at k = 9) (hok : q_ok k i = true) (hfl : q_fl G (μ.1 k i) (μ.2.1 k i) μ.2.2 k i = (ci, fs)) (hcl : vwCl[ci]? = some (C, T, N)) (hst : st = As.reverse ++ .ref (q_ad G k i) :: rest) (hcat : (rest.map fun v => v.category).sum ≤ 8) (K : ∀ (v : α) (μ1 : qM), qAW l G M X n lv ((cv v).toList ++ rest) μ1 (kt v μ1)) : qAW l G M X pc lv st μ (q_bd t kt) := by
  subst hn hst
  intro p e s m args below meth c hc v μ' hr H locs ls hP hS hl
  cases ht : t with
  | none => rw [ht] at hr; cases hr
  | some q =>
    obtain ⟨v1, μ1⟩ := q
    rw [ht] at hr
    have hr1 : kt v1 μ1 = some (v, μ') := hr
    obtain ⟨hc0, hs0, -, -, hd1, hd2, hd3⟩ := pk
    obtain ⟨q0, h0⟩ := q_ix hok
    have he : (q_pic G μ)[q0]? = some (q_ad G k i, .inr (ci, fs)) := by rw [q_pic_at h0, q_rep9 hat, hfl]
    refine q_call (va_runV (nL := M.2.2.2.2.1) hc.1 (hC v1 μ1 ht) (cwV (C := C) (ws' := q_tb) nn hc.1.2.2.2.2 (by rw [← hyC]; exact q_gV hwv hl2) rfl hc0 hs0 ⟨hyC, hd1, hd2, hd3⟩ hR) ⟨q_blind, va_recv hc.2.2.2.1 hP hcl he, fun U hU hW => ⟨rfl, by rw [hU]; exact hP, va_K.moved hW.alike hc.2.2.2.1, hc.2.2.2.2.1, q_N_warm hW hc.2.2.2.2.2.2.1, fun q hq => hc.2.2.2.2.2.1 q (Nat.le_trans (by rw [← hU] at hS; exact hS.1) hq)⟩⟩ rfl hnn hl.1 rfl (by show 2 * 0 + _ ≤ 8; omega) d hX) hS (fun H1 locs1 hP1 hS1 => K v1 μ1 p e s m args below meth c hc v μ' hr1 H1 locs1 ls hP1 hS1 hl)
theorem aw_callS {idx nn : Nat} {As rest : List Value} {cv : α → Option Value} {t : Option (α × qM)} {kt : α → qM → Option (ρ × qM)} (d : decode M.2.2.2.1 pc = .ok (.invokestatic idx, 3)) (n : Nat) (hn : pc + 3 = n) (hC : qCt l G M2 cv As μ t) (hl2 : Cond.methodLink M.2.1 idx M2.2.2.1 ∈ q_tb) (hwv : q_Wst M2) (pk : q_Pk M2 nn) (hnn : As.length = nn) (hR : M2.1.frames + 1 ≤ M.1.frames ∧ 8 + (M2.2.2.2.2.1 + 11) + M2.1.locals ≤ M.1.locals) (hX : X.2.1 ≤ M.1.cells ∧ X.2.2.1 ≤ M.1.slots) (hst : st = As.reverse ++ rest) (hcat : (rest.map fun v => v.category).sum ≤ 8) (K : ∀ (v : α) (μ1 : qM), qAW l G M X n lv ((cv v).toList ++ rest) μ1 (kt v μ1)) : qAW l G M X pc lv st μ (q_bd t kt) := by
  subst hn hst
  intro p e s m args below meth c hc v μ' hr H locs ls hP hS hl
  cases ht : t with
  | none => rw [ht] at hr; cases hr
  | some q =>
    obtain ⟨v1, μ1⟩ := q
    rw [ht] at hr
    have hr1 : kt v1 μ1 = some (v, μ') := hr
    obtain ⟨hc0, hs0, -, -, hd1, hd2, hd3⟩ := pk
    refine q_call (va_runS (nL := M.2.2.2.2.1) hc.1 (hC v1 μ1 ht) (va_cwS (ws' := q_tb) nn hc.1.2.2.2.2 (q_gS hwv hl2) rfl hc0 hs0 ⟨hd1, hd2, hd3⟩ hR) ⟨q_blind, fun U hU hW => ⟨rfl, by rw [hU]; exact hP, va_K.moved hW.alike hc.2.2.2.1, hc.2.2.2.2.1, q_N_warm hW hc.2.2.2.2.2.2.1, fun q hq => hc.2.2.2.2.2.1 q (Nat.le_trans (by rw [← hU] at hS; exact hS.1) hq)⟩⟩ rfl hnn hl.1 rfl (by show 2 * 0 + _ ≤ 8; omega) d hX) hS (fun H1 locs1 hP1 hS1 => K v1 μ1 p e s m args below meth c hc v μ' hr1 H1 locs1 ls hP1 hS1 hl)
end QC
