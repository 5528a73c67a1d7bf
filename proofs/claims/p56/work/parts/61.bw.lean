/-! The building of both systems: the world is the cells made so far, one behind the other from the base on. -/
abbrev qV : Type := Nat → va_E
def b_up (V : qV) (i : Nat) (e : va_E) : qV := fun j => if j = i then e else V j
theorem b_same {V : qV} {i : Nat} {e : va_E} : b_up V i e i = e := if_pos rfl
theorem b_ne {V : qV} {i j : Nat} {e : va_E} (h : j ≠ i) : b_up V i e j = V j := if_neg h
def b_pic (G : qG) (n : Nat) (V : qV) : va_W := (List.range n).map (fun i => (G.2.2.2 + i, V i))
def b_W (G : qG) (n : Nat) (V : qV) (H : Heap) : Prop := va_P G.1 vwCl (b_pic G n V) H
theorem b_get {G : qG} {n i : Nat} {V : qV} (h : i < n) : (b_pic G n V)[i]? = some (G.2.2.2 + i, V i) := by
  unfold b_pic
  rw [List.getElem?_map, List.getElem?_range h]
  rfl
theorem b_get' {G : qG} {n k : Nat} {V : qV} {q : Nat × va_E} (h : (b_pic G n V)[k]? = some q) : k < n ∧ q = (G.2.2.2 + k, V k) := by
  have hk : k < n := by
    have := (List.getElem?_eq_some_iff.mp h).1
    unfold b_pic at this
    rwa [List.length_map, List.length_range] at this
  rw [b_get hk] at h
  exact ⟨hk, (Option.some.inj h).symm⟩
theorem b_D {G : qG} {n : Nat} {V : qV} : va_D (q_A G) (b_pic G n V) := by
  refine ⟨fun i j p q hi hj hpq => ?_, fun k q hk => ?_⟩
  · obtain ⟨-, rfl⟩ := b_get' hi
    obtain ⟨-, rfl⟩ := b_get' hj
    have h : G.2.2.2 + i = G.2.2.2 + j := hpq
    omega
  · obtain ⟨-, rfl⟩ := b_get' hk
    exact Nat.le_add_right _ _
theorem b_set {G : qG} {n i : Nat} {V : qV} {e : va_E} (h : i < n) : (b_pic G n V).set i (G.2.2.2 + i, e) = b_pic G n (b_up V i e) := by
  apply List.ext_getElem?
  intro j
  have hl : i < (b_pic G n V).length := by
    unfold b_pic
    rwa [List.length_map, List.length_range]
  by_cases hj : j = i
  · subst hj
    rw [List.getElem?_set_self hl, b_get h, b_same]
  · rw [List.getElem?_set_ne (Ne.symm hj)]
    unfold b_pic
    rw [List.getElem?_map, List.getElem?_map]
    cases hr : (List.range n)[j]? with
    | none => rfl
    | some x =>
      have hx : x = j := by
        obtain ⟨h1, h2⟩ := List.getElem?_eq_some_iff.mp hr
        rw [List.getElem_range] at h2
        exact h2.symm
      subst hx
      show some (G.2.2.2 + x, V x) = some (G.2.2.2 + x, b_up V i e x)
      rw [b_ne hj]
theorem b_push {G : qG} {n : Nat} {V : qV} {e : va_E} {H H1 : Heap} (h : b_W G n V H) (o : ∀ q, q < H.size → H1[q]? = H[q]?) (he : va_at G.1 vwCl (G.2.2.2 + n, e) H1) : b_W G (n + 1) (b_up V n e) H1 := by
  intro k q hk
  obtain ⟨hkn, rfl⟩ := b_get' hk
  by_cases e1 : k = n
  · subst e1
    rw [b_same]
    exact he
  · rw [b_ne e1]
    have hP := h k _ (b_get (G := G) (V := V) (show k < n by omega))
    exact hP.kept (o _ hP.lt)
def b_mw (t : String × Nat × MethodName × String) : Cond := .methodLinkNest t.1 t.2.1 t.2.2.1 t.2.2.2
def b_nmL : List (String × Nat × MethodName × String) := [("SeaCells", 34, ⟨"SeaCells$Board", "<init>", "()V"⟩, "SeaCells"), ("SeaCells$Board", 30, ⟨"SeaCells$Laws", "<init>", "()V"⟩, "SeaCells"), ("SeaCells$Board", 37, ⟨"SeaCells$Rivers", "<init>", "()V"⟩, "SeaCells"), ("SeaCells$Board", 44, ⟨"SeaCells$Lie", "<init>", "()V"⟩, "SeaCells"), ("SeaCells", 41, ⟨"SeaCells$Stepper", "<init>", "()V"⟩, "SeaCells"), ("SeaCells", 48, ⟨"SeaCells$Script", "<init>", "()V"⟩, "SeaCells"), ("SeaCells", 67, ⟨"SeaCells$Tone", "<init>", "()V"⟩, "SeaCells"), ("SeaCells", 85, ⟨"SeaCells$Boat", "<init>", "()V"⟩, "SeaCells"), ("SeaCells", 86, ⟨"SeaCells$Gauge", "<init>", "()V"⟩, "SeaCells")]
/-- what a constructor hands on beside the words: the nest mates' constructors, the classes of arrays -/
def b_N (s : State) : Prop := ∀ t ∈ b_nmL, va_Nw (b_mw t) s
def b_aoL : List FieldType := [.array .int, .object "SeaCells$Board", .object "SeaCells$Boat", .object "SeaCells$Gauge"]
def b_AO (s : State) : Prop := ∀ t ∈ b_aoL, (Cond.arrayOver t).before #[] s = true
def b_QC (G : qG) (n : Nat) (V : qV) : Array Value → State → Outcome → State → Prop := fun _ st o t => o = .returned none ∧ b_W G n V t.heap ∧ va_F (q_A G) st t
def b_St (G : qG) (U : State) : Prop := q_K G U ∧ b_N U ∧ b_AO U ∧ ∀ q, U.heap.size ≤ q → q_A G q
def b_CX (G : qG) (M : qMd) (p : Program) (s : State) (m : MethodId) (args : Array Value) (meth : Method) (c : Code) : Prop :=
  CallFix p m c M.2.2.2.1 M.2.2.2.2.1 s args q_tb M.2.1 ∧ meth.sig.returnType = M.2.2.2.2.2 ∧ meth.locks = false ∧ b_St G s ∧ meth.name = "<init>"
abbrev qFn : Type := Nat × qV × Nat × Nat
def qBW (l : Launch) (G : qG) (M : qMd) (F : qFn) (pc : Nat) (lv : List (Nat × Value)) (st : List Value) (n : Nat) (V : qV) (cl sl : Nat) : Prop :=
  ∀ (p : Program) (e : Env) (s : State) (m : MethodId) (args : Array Value) (below : List Frame) (meth : Method) (c : Code), b_CX G M p s m args meth c → s.heap.size + cl = G.2.2.2 + n →
    ∀ (H : Heap) (locs : List Loc) (ls : Array Slot), b_W G n V H → va_S (q_A G) s.heap H locs → lv_has ls M.2.2.2.2.1 lv →
      W p l e M.1 s m args below meth c H locs cl sl (MQ below (b_QC G F.1 F.2.1) args s F.2.2.1 F.2.2.2 (q_A G)) (F0 m pc ls st)
def qBC (l : Launch) (G : qG) (M : qMd) (as : List Value) (n : Nat) (V : qV) (F : qFn) : Prop :=
  Met l M.2.2.1 (q_ws M) M.1 (va_Pc as (fun U => b_W G n V U.heap ∧ b_St G U ∧ U.heap.size = G.2.2.2 + n)) (b_QC G F.1 F.2.1) F.2.2.1 F.2.2.2 (q_A G)
def b_Pk (M : qMd) (n mc ms : Nat) : Prop := M.1.cells = mc ∧ M.1.slots = ms ∧ M.2.2.1.cls = M.2.1 ∧ plainName M.2.2.1.cls = true ∧ M.2.2.1.name = "<init>" ∧ (M.2.2.1.cls ≠ "java/lang/invoke/MethodHandle" ∧ M.2.2.1.cls ≠ "java/lang/invoke/VarHandle" ∧ (parseMethodDescriptor M.2.2.1.desc).map (fun d => d.parameters.length) = some n) ∧ M.2.2.2.2.2 = none
def b_Wi (M : qMd) : Prop := Cond.code M.2.2.1 M.2.2.2.1 M.2.2.2.2.1 M.2.2.2.2.2 ∈ q_tb ∧ Cond.initialized M.2.2.1.cls ∈ q_tb ∧ Cond.instanceMethod M.2.2.1 ∈ q_tb
section QBA
variable {l : Launch} {G : qG} {M M2 : qMd} {F : qFn} {pc : Nat} {lv : List (Nat × Value)} {st : List Value} {n cl sl : Nat} {V : qV}
theorem b_entry {k : Nat} {as : List Value} (hp : b_Pk M k F.2.2.1 F.2.2.2) (hlen : (lg_sl as).length ≤ M.2.2.2.2.1) (K : qBW l G M F 0 (lv_args 0 as) [] n V 0 0) : qBC l G M as n V F := by
  obtain ⟨hc0, hs0, hown, hy, hnm, -, -⟩ := hp
  refine Met.ofW hy (ws' := q_tb) rfl ?_
  intro p e s m args below meth c s₁ B hml hv
  obtain ⟨rfl, hP, hSt, hsz⟩ := hv
  have hl := lv_entry as (n := M.2.2.2.2.1) hlen
  rw [lg_entry_eq]
  generalize (lg_sl as ++ List.replicate (M.2.2.2.2.1 - (lg_sl as).length) Slot.unset).toArray = ls at hl ⊢
  exact K p e s m _ below meth c ⟨⟨B.exec, B.bytes, hml, by rw [← hown]; exact findClass_of_methodNamed B.named, fun w hw => atoms_spec (ws := q_ws M) B.pre w (List.mem_cons_of_mem _ hw)⟩, B.returns, B.notSynchronized, hSt, by rw [← hnm]; exact (name_of_methodNamed B.named B.method).1⟩ hsz s.heap [] ls hP va_S.rf hl

theorem bw_iconst {z : Int} {x : Int32} (d : decode M.2.2.2.1 pc = .ok (.iconst z, 1)) (k : Nat) (hn : pc + 1 = k) (hv : Int32.ofInt z = x) (K : qBW l G M F k lv (.int x :: st) n V cl sl) : qBW l G M F pc lv st n V cl sl := by
  subst hn
  intro p e s m args below meth c hc hz H locs ls hP hS hl
  exact lv_iconst hc.1.1 hc.1.2.1 d hv (K p e s m args below meth c hc hz H locs ls hP hS hl)
theorem bw_bipush {z : Int} {x : Int32} (d : decode M.2.2.2.1 pc = .ok (.bipush z, 2)) (k : Nat) (hn : pc + 2 = k) (hv : (Int8.ofInt z).toInt32 = x) (K : qBW l G M F k lv (.int x :: st) n V cl sl) : qBW l G M F pc lv st n V cl sl := by
  subst hn
  intro p e s m args below meth c hc hz H locs ls hP hS hl
  exact lv_bipush hc.1.1 hc.1.2.1 d hv (K p e s m args below meth c hc hz H locs ls hP hS hl)
theorem bw_sipush {z : Int} {x : Int32} (d : decode M.2.2.2.1 pc = .ok (.sipush z, 3)) (k : Nat) (hn : pc + 3 = k) (hv : (Int16.ofInt z).toInt32 = x) (K : qBW l G M F k lv (.int x :: st) n V cl sl) : qBW l G M F pc lv st n V cl sl := by
  subst hn
  intro p e s m args below meth c hc hz H locs ls hP hS hl
  exact lv_sipush hc.1.1 hc.1.2.1 d hv (K p e s m args below meth c hc hz H locs ls hP hS hl)
theorem bw_lconst {z : Fin 2} {x : Int64} (d : decode M.2.2.2.1 pc = .ok (.lconst z, 1)) (k : Nat) (hn : pc + 1 = k) (hv : Int64.ofNat (z : Nat) = x) (K : qBW l G M F k lv (.long x :: st) n V cl sl) : qBW l G M F pc lv st n V cl sl := by
  subst hn
  intro p e s m args below meth c hc hz H locs ls hP hS hl
  exact lv_lconst hc.1.1 hc.1.2.1 d hv (K p e s m args below meth c hc hz H locs ls hP hS hl)
theorem bw_iload_n {j : Fin 4} {i : Nat} {x : Int32} (d : decode M.2.2.2.1 pc = .ok (.iload_n j, 1)) (k : Nat) (hn : pc + 1 = k) (hi : (j : Nat) = i) (q : Nat) (h : lv[q]? = some (i, .int x)) (K : qBW l G M F k lv (.int x :: st) n V cl sl) : qBW l G M F pc lv st n V cl sl := by
  subst hn
  intro p e s m args below meth c hc hz H locs ls hP hS hl
  exact lv_iload_n hc.1.1 hc.1.2.1 d hi (lv_at hl q h) (K p e s m args below meth c hc hz H locs ls hP hS hl)
theorem bw_aload_n {j : Fin 4} {i : Nat} {x : Nat} (d : decode M.2.2.2.1 pc = .ok (.aload_n j, 1)) (k : Nat) (hn : pc + 1 = k) (hi : (j : Nat) = i) (q : Nat) (h : lv[q]? = some (i, .ref x)) (K : qBW l G M F k lv (.ref x :: st) n V cl sl) : qBW l G M F pc lv st n V cl sl := by
  subst hn
  intro p e s m args below meth c hc hz H locs ls hP hS hl
  exact lv_aload_n hc.1.1 hc.1.2.1 d hi (lv_at hl q h) (K p e s m args below meth c hc hz H locs ls hP hS hl)
theorem bw_istore_n {j : Fin 4} {i : Nat} {x : Int32} (d : decode M.2.2.2.1 pc = .ok (.istore_n j, 1)) (k : Nat) (hn : pc + 1 = k) (hi : (j : Nat) = i) (lv' : List (Nat × Value)) (hi2 : i < M.2.2.2.2.1) (hl2 : (i, Value.int x) :: lv.filter (fun q => !(q.1 == i) && !(q.1 + 1 == i && q.2.category == 2)) = lv') (K : qBW l G M F k lv' st n V cl sl) : qBW l G M F pc lv (.int x :: st) n V cl sl := by
  subst hn
  intro p e s m args below meth c hc hz H locs ls hP hS hl
  exact lv_istore_n hc.1.1 hc.1.2.1 d hi hl hi2 hl2 (fun ls hl => K p e s m args below meth c hc hz H locs ls hP hS hl)
theorem bw_iinc {i : Nat} {z : Int} {x : Int32} (d : decode M.2.2.2.1 pc = .ok (.iinc i z, 3)) (k : Nat) (hn : pc + 3 = k) (q : Nat) (hk : lv[q]? = some (i, .int x)) (x' : Int32) (hv : x + Int32.ofInt z = x') (lv' : List (Nat × Value)) (hi2 : i < M.2.2.2.2.1) (hl2 : (i, Value.int x') :: lv.filter (fun q => !(q.1 == i) && !(q.1 + 1 == i && q.2.category == 2)) = lv') (K : qBW l G M F k lv' st n V cl sl) : qBW l G M F pc lv st n V cl sl := by
  subst hn
  intro p e s m args below meth c hc hz H locs ls hP hS hl
  exact lv_iinc hc.1.1 hc.1.2.1 d hl hk hv hi2 hl2 (fun ls hl => K p e s m args below meth c hc hz H locs ls hP hS hl)
theorem bw_dup {va : Value} (d : decode M.2.2.2.1 pc = .ok (.dup, 1)) (k : Nat) (hn : pc + 1 = k) (h1 : va.category = 1) (K : qBW l G M F k lv (va :: va :: st) n V cl sl) : qBW l G M F pc lv (va :: st) n V cl sl := by
  subst hn
  intro p e s m args below meth c hc hz H locs ls hP hS hl
  exact lv_dup hc.1.1 hc.1.2.1 d h1 (K p e s m args below meth c hc hz H locs ls hP hS hl)
theorem bw_goto {off : Int} (d : decode M.2.2.2.1 pc = .ok (.goto off, 3)) (k : Nat) (hn : (pc : Int) + off = (k : Int)) (K : qBW l G M F k lv st n V cl sl) : qBW l G M F pc lv st n V cl sl := by
  intro p e s m args below meth c hc hz H locs ls hP hS hl
  exact lv_goto hc.1.1 hc.1.2.1 d hn (K p e s m args below meth c hc hz H locs ls hP hS hl)
theorem bw_icmp_ge {off : Int} {x y : Int32} (d : decode M.2.2.2.1 pc = .ok (.if_icmp .ge off, 3)) (k : Nat) (hn : (pc : Int) + off = (k : Int)) (h : y ≤ x) (K : qBW l G M F k lv st n V cl sl) : qBW l G M F pc lv (.int y :: .int x :: st) n V cl sl := by
  intro p e s m args below meth c hc hz H locs ls hP hS hl
  exact lv_icmp_ge hc.1.1 hc.1.2.1 d hn (fun _ => K p e s m args below meth c hc hz H locs ls hP hS hl) (fun q => absurd h q)
theorem bw_icmp_nge {off : Int} {x y : Int32} {t : Nat} (d : decode M.2.2.2.1 pc = .ok (.if_icmp .ge off, 3)) (k : Nat) (hn : pc + 3 = k) (ht : (pc : Int) + off = (t : Int)) (h : ¬ y ≤ x) (K : qBW l G M F k lv st n V cl sl) : qBW l G M F pc lv (.int y :: .int x :: st) n V cl sl := by
  subst hn
  intro p e s m args below meth c hc hz H locs ls hP hS hl
  exact lv_icmp_ge hc.1.1 hc.1.2.1 d ht (fun q => absurd q h) (fun _ => K p e s m args below meth c hc hz H locs ls hP hS hl)
theorem bw_get {i ci N f idx : Nat} {C : String} {T : u_T} {fs : List Value} {x : Value} (d : decode M.2.2.2.1 pc = .ok (.getfield idx, 3)) (k : Nat) (hn : pc + 3 = k) (hw : Cond.fieldLink M.2.1 idx (T f).1 (T f).2.1 (T f).2.2.1 ∈ q_tb) (hin : ∀ w ∈ u_ws C T N, w ∈ q_tb) (hi : i < n) (hV : V i = .inr (ci, fs)) (hcl : vwCl[ci]? = some (C, T, N)) (hf : f < N) (hx : fs[f]? = some x) (K : qBW l G M F k lv (x :: st) n V cl sl) : qBW l G M F pc lv (.ref (G.2.2.2 + i) :: st) n V cl sl := by
  subst hn
  intro p e s m args below meth c hc hz H locs ls hP hS hl
  have he := b_get (G := G) (V := V) hi
  rw [hV] at he
  exact va_get hc.1.1 hc.1.2.1 hc.1.2.2.2.2 hin hc.1.2.2.2.1 hc.2.2.2.1.1 hP i he hcl f hf (hc.1.2.2.2.2 _ hw) (fun _ h => h) hx d (K p e s m args below meth c hc hz H locs ls hP hS hl)
theorem bw_put {i ci N f idx : Nat} {C : String} {T : u_T} {ty0 : Nat → FieldType} {ty : FieldType} {fs : List Value} {x : Value} (d : decode M.2.2.2.1 pc = .ok (.putfield idx, 3)) (k : Nat) (hn : pc + 3 = k) (hw : Cond.fieldLink M.2.1 idx (T f).1 (T f).2.1 (T f).2.2.1 ∈ q_tb) (hin : ∀ w ∈ u_ws C T N, w ∈ q_tb) (hty : ∀ k, k < N → parseFieldDescriptor (T k).2.2.1 = some (ty0 k)) (hnm : ∀ a, a < N → ∀ b, b < N → a ≠ b → (T a).2.1 ≠ (T b).2.1) (hi : i < n) (hV : V i = .inr (ci, fs)) (hcl : vwCl[ci]? = some (C, T, N)) (hf : f < N) (hlen : f < fs.length) (hfin : (T f).2.2.2 = false) (hd : parseFieldDescriptor (T f).2.2.1 = some ty) (hnar : narrow ty x = x) (hfit : fits ty x = true) (fs' : List Value) (hfs : fs.set f x = fs') (K : qBW l G M F k lv st n (b_up V i (.inr (ci, fs'))) cl sl) : qBW l G M F pc lv (x :: .ref (G.2.2.2 + i) :: st) n V cl sl := by
  subst hn hfs
  intro p e s m args below meth c hc hz H locs ls hP hS hl
  have he := b_get (G := G) (V := V) hi
  rw [hV] at he
  refine va_put hc.1.1 hc.1.2.1 hc.1.2.2.2.2 hin ty0 hty hnm hc.1.2.2.2.1 hc.2.2.2.1.1 hP b_D hS i he hcl f hf (hc.1.2.2.2.2 _ hw) (fun _ h => h) hfin hd hnar hfit hlen d (fun H1 locs1 hP1 hD1 hS1 => ?_)
  rw [b_set hi] at hP1
  exact K p e s m args below meth c hc hz H1 locs1 ls hP1 hS1 hl
theorem bw_putF {i ci N f idx : Nat} {C : String} {T : u_T} {ty0 : Nat → FieldType} {ty : FieldType} {fs : List Value} {x : Value} (d : decode M.2.2.2.1 pc = .ok (.putfield idx, 3)) (k : Nat) (hn : pc + 3 = k) (hw : Cond.fieldLink M.2.1 idx (T f).1 (T f).2.1 (T f).2.2.1 ∈ q_tb) (hin : ∀ w ∈ u_ws C T N, w ∈ q_tb) (hty : ∀ k, k < N → parseFieldDescriptor (T k).2.2.1 = some (ty0 k)) (hnm : ∀ a, a < N → ∀ b, b < N → a ≠ b → (T a).2.1 ≠ (T b).2.1) (hi : i < n) (hV : V i = .inr (ci, fs)) (hcl : vwCl[ci]? = some (C, T, N)) (hf : f < N) (hlen : f < fs.length) (hfin : (T f).2.2.2 = true) (hdecl : (T f).1 = M.2.1) (hd : parseFieldDescriptor (T f).2.2.1 = some ty) (hnar : narrow ty x = x) (hfit : fits ty x = true) (fs' : List Value) (hfs : fs.set f x = fs') (K : qBW l G M F k lv st n (b_up V i (.inr (ci, fs'))) cl sl) : qBW l G M F pc lv (x :: .ref (G.2.2.2 + i) :: st) n V cl sl := by
  subst hn hfs
  intro p e s m args below meth c hc hz H locs ls hP hS hl
  have he := b_get (G := G) (V := V) hi
  rw [hV] at he
  refine va_putF hc.1.1 hc.1.2.1 hc.1.2.2.2.2 hin ty0 hty hnm hc.1.2.2.2.1 hc.2.2.2.1.1 hP b_D hS i he hcl f hf (hc.1.2.2.2.2 _ hw) (fun _ h => h) hfin hc.2.2.2.2 hdecl hd hnar hfit hlen d (fun H1 locs1 hP1 hD1 hS1 => ?_)
  rw [b_set hi] at hP1
  exact K p e s m args below meth c hc hz H1 locs1 ls hP1 hS1 hl
theorem bw_iast {i N : Nat} {f : Nat → Int32} {j x : Int32} (d : decode M.2.2.2.1 pc = .ok (.iastore, 1)) (k : Nat) (hn : pc + 1 = k) (hi : i < n) (hV : V i = .inl (G.2.2.1 0, N, .inl f)) (hj : q_in j N = true) (K : qBW l G M F k lv st n (b_up V i (.inl (G.2.2.1 0, N, .inl (upd f j.toNatClampNeg x)))) cl sl) : qBW l G M F pc lv (.int x :: .int j :: .ref (G.2.2.2 + i) :: st) n V cl sl := by
  subst hn
  intro p e s m args below meth c hc hz H locs ls hP hS hl
  have he := b_get (G := G) (V := V) hi
  rw [hV] at he
  refine va_iast hc.1.1 hc.1.2.1 hc.2.2.2.1.1 hP b_D hS i 0 he rfl (q_in_vp hj) d (fun H1 locs1 hP1 hD1 hS1 => ?_)
  rw [b_set hi] at hP1
  exact K p e s m args below meth c hc hz H1 locs1 ls hP1 hS1 hl
theorem bw_aast {i i2 ci N t : Nat} {r : vw_C} {vs : List Value} {f : Nat → Option Nat} {j : Int32} (d : decode M.2.2.2.1 pc = .ok (.aastore, 1)) (k : Nat) (hn : pc + 1 = k) (hi : i < n) (hV : V i = .inl (G.2.2.1 t, N, .inr (.inr (.inr (.inr f))))) (ht : (q_tys G)[t]? = some (G.2.2.1 t, .object r.1)) (hi2 : i2 < n) (hV2 : V i2 = .inr (ci, vs)) (hcl : vwCl[ci]? = some r) (hj : q_in j N = true) (K : qBW l G M F k lv st n (b_up V i (.inl (G.2.2.1 t, N, .inr (.inr (.inr (.inr (va_up f j.toNatClampNeg (some (G.2.2.2 + i2))))))))) cl sl) : qBW l G M F pc lv (.ref (G.2.2.2 + i2) :: .int j :: .ref (G.2.2.2 + i) :: st) n V cl sl := by
  subst hn
  intro p e s m args below meth c hc hz H locs ls hP hS hl
  have he := b_get (G := G) (V := V) hi
  rw [hV] at he
  have he2 := b_get (G := G) (V := V) hi2
  rw [hV2] at he2
  refine va_astq hc.1.1 hc.1.2.1 hc.2.2.2.1.1 hP b_D hS i t i2 ci he ht he2 hcl (q_in_vp hj) d (fun H1 locs1 hP1 hD1 hS1 => ?_)
  rw [b_set hi] at hP1
  exact K p e s m args below meth c hc hz H1 locs1 ls hP1 hS1 hl
/-- the heap ends where the world does -/
theorem b_size {p : Program} {e : Env} {R : Room} {s : State} {m : MethodId} {args : Array Value} {below : List Frame} {meth : Method} {c : Code} {H : Heap} {locs : List Loc} {Q : State → Prop} {g : JFrame} (hP : b_W G n V H) (hS : va_S (q_A G) s.heap H locs) (hz : s.heap.size + cl = G.2.2.2 + n) (hA : ∀ q, s.heap.size ≤ q → q_A G q) (kk : H.size = G.2.2.2 + n → W p l e R s m args below meth c H locs cl sl Q g) : W p l e R s m args below meth c H locs cl sl Q g := by
  intro T hT X
  refine kk ?_ T hT X
  have h1 := X.heapSize
  rw [hT] at h1
  have h2 : G.2.2.2 ≤ s.heap.size := hA _ (Nat.le_refl _)
  have h3 := hS.1
  rcases Nat.eq_zero_or_pos n with h0 | h0
  · omega
  · have h4 := (hP (n - 1) _ (b_get (G := G) (V := V) (show n - 1 < n by omega))).lt
    have h5 : G.2.2.2 + (n - 1) < H.size := h4
    omega
theorem b_keepS {A : Nat → Prop} {H0 H H1 : Heap} {locs : List Loc} (hS : va_S A H0 H locs) (z : H.size ≤ H1.size) (o : ∀ q, q < H.size → H1[q]? = H[q]?) : va_S A H0 H1 locs := ⟨Nat.le_trans hS.1 z, fun q h1 h2 => (o q (Nat.lt_of_lt_of_le h1 hS.1)).trans (hS.2.1 q h1 h2), hS.2.2⟩
theorem bw_new {N ci idx : Nat} {C : String} {T : u_T} {ty : Nat → FieldType} {fs : List Value} (d : decode M.2.2.2.1 pc = .ok (.new idx, 3)) (k : Nat) (hn : pc + 3 = k) (hin : ∀ w ∈ u_ws C T N, w ∈ q_tb) (hty : ∀ k, k < N → parseFieldDescriptor (T k).2.2.1 = some (ty k)) (hw1 : Cond.classLink M.2.1 idx C ∈ q_tb) (hw2 : Cond.instantiable C N ∈ q_tb) (hw3 : Cond.initialized C ∈ q_tb) (hcl : vwCl[ci]? = some (C, T, N)) (hfs : ∀ j, j < N → defaultValue (ty j) = vp_V fs j) (hcells : cl + 1 ≤ M.1.cells) (hslots : sl + N ≤ M.1.slots) (n' c' s' : Nat) (e1 : n + 1 = n') (e2 : cl + 1 = c') (e3 : sl + N = s') (K : qBW l G M F k lv (.ref (G.2.2.2 + n) :: st) n' (b_up V n (.inr (ci, fs))) c' s') : qBW l G M F pc lv st n V cl sl := by
  subst hn
  subst e1 e2 e3
  intro p e s m args below meth c hc hz H locs ls hP hS hl
  refine b_size hP hS hz hc.2.2.2.1.2.2.2 (fun hsz => ?_)
  have hKn := hc.2.2.2.1.1.1 ci _ hcl
  refine W.newcK hc.1.1 hc.1.2.1 hc.1.2.2.2.1 (hc.1.2.2.2.2 _ hw1) (hc.1.2.2.2.2 _ hw2) (hc.1.2.2.2.2 _ hw3) rfl d hcells hslots hKn.2.1 hsz fun H1 kC hkC e1 z1 o1 => ?_
  refine K p e s m args below meth c hc (by omega) H1 locs ls (b_push hP (fun q hq => o1 q (by omega)) ⟨_, hcl, (u_born ty hc.1.2.2.2.2 hin hKn hkC e1 hty).to hfs⟩) (b_keepS hS (by omega) (fun q hq => o1 q (by omega))) hl
theorem bw_newa {t N' : Nat} {atype : ArrayType} {ty : FieldType} {a0 : vp_A} {x : Int32} (d : decode M.2.2.2.1 pc = .ok (.newarray atype, 2)) (k : Nat) (hn : pc + 2 = k) (hw : Cond.arrayClass ty ∈ q_tb) (hty : newarray.typeOf atype = ty) (htt : (q_tys G)[t]? = some (G.2.2.1 t, ty)) (ha : vp_cell (G.2.2.1 t) a0 = arrV (G.2.2.1 t) N' (fun _ => defaultValue ty)) (hnot : ∀ (U : State) (cA : ClassId), va_RA U cA ty = (U.vm.findClass ("[" ++ ty.toString) = some cA)) (hx : ¬ x < 0) (hN : x.toNatClampNeg = N') (hbytes : N' * componentBytes ty ≤ 536870912) (hcells : cl + 1 ≤ M.1.cells) (hslots : sl + N' ≤ M.1.slots) (n' c' s' : Nat) (e1 : n + 1 = n') (e2 : cl + 1 = c') (e3 : sl + N' = s') (K : qBW l G M F k lv (.ref (G.2.2.2 + n) :: st) n' (b_up V n (.inl (G.2.2.1 t, a0))) c' s') : qBW l G M F pc lv (.int x :: st) n V cl sl := by
  subst hn hty
  subst e1 e2 e3
  intro p e s m args below meth c hc hz H locs ls hP hS hl
  refine b_size hP hS hz hc.2.2.2.1.2.2.2 (fun hsz => ?_)
  refine va_newaK hc.1.1 hc.1.2.1 (hc.1.2.2.2.2 _ hw) rfl d rfl hx hN hbytes hcells hslots hsz fun H1 cA e1 z1 o1 hAr hNm => ?_
  have hca : cA = G.2.2.1 t := by
    have h := (hc.2.2.2.1.1.2 t _ htt).2
    rw [hnot] at h
    exact Option.some.inj (hNm.symm.trans h)
  subst hca
  refine K p e s m args below meth c hc (by omega) H1 locs ls (b_push hP (fun q hq => o1 q (by omega)) ?_) (b_keepS hS (by omega) (fun q hq => o1 q (by omega))) hl
  show H1[G.2.2.2 + n]? = some (vp_cell _ _)
  rw [ha]
  exact e1
theorem bw_newq {t N' idx : Nat} {C : String} {x : Int32} (d : decode M.2.2.2.1 pc = .ok (.anewarray idx, 3)) (k : Nat) (hn : pc + 3 = k) (hw : Cond.classLink M.2.1 idx C ∈ q_tb) (hao : FieldType.object C ∈ b_aoL) (htt : (q_tys G)[t]? = some (G.2.2.1 t, .object C)) (hx : ¬ x < 0) (hN : x.toNatClampNeg = N') (hbytes : N' * 4 ≤ 536870912) (hcells : cl + 1 ≤ M.1.cells) (hslots : sl + N' ≤ M.1.slots) (n' c' s' : Nat) (e1 : n + 1 = n') (e2 : cl + 1 = c') (e3 : sl + N' = s') (K : qBW l G M F k lv (.ref (G.2.2.2 + n) :: st) n' (b_up V n (.inl (G.2.2.1 t, N', .inr (.inr (.inr (.inr (fun _ => none))))))) c' s') : qBW l G M F pc lv (.int x :: st) n V cl sl := by
  subst hn hN
  subst e1 e2 e3
  intro p e s m args below meth c hc hz H locs ls hP hS hl
  refine b_size hP hS hz hc.2.2.2.1.2.2.2 (fun hsz => ?_)
  refine W.anew hc.1.1 hc.1.2.1 hc.1.2.2.2.1 (hc.1.2.2.2.2 _ hw) (hc.2.2.2.1.2.2.1 _ hao) rfl d rfl hx hbytes hcells hslots fun cA kA comp f1 f2 f3 f4 => ?_
  generalize hH1 : H.push ({ cls := cA, slots := Array.replicate x.toNatClampNeg .null, vm := .none } : Cell) = H1
  have z1 : H1.size = H.size + 1 := by rw [← hH1, Array.size_push]
  have e1 : H1[H.size]? = some (arrV cA x.toNatClampNeg (fun _ => .null)) := by rw [← hH1, Array.getElem?_push_size, ← arrV_new]
  have o1 : ∀ q : Nat, q < H.size → H1[q]? = H[q]? := fun q hq => by rw [← hH1, Array.getElem?_push, if_neg (Nat.ne_of_lt hq)]
  have hca : cA = G.2.2.1 t := by
    obtain ⟨kB, cB, g1, g2, g3, g4⟩ := (hc.2.2.2.1.1.2 t _ htt).2
    exact Option.some.inj (f1.symm.trans g4)
  subst hca
  rw [hsz]
  refine K p e s m args below meth c hc (by omega) H1 locs ls (b_push hP o1 ?_) (b_keepS hS (by omega) o1) hl
  show H1[G.2.2.2 + n]? = some (vp_cell _ _)
  rw [← hsz]
  exact e1
theorem b_outer (c : ClassId) (N h0 : Nat) : ∀ i : Nat, Jvm.Free.Multi.outerC c N h0 i = arrV c N (fun j => va_rf (if j < i then some (h0 + 1 + j) else none))
  | 0 => by
    show ({ cls := c, slots := Array.replicate N .null, vm := .none } : Cell) = _
    rw [arrV_new]
    refine congrArg (arrV c N) (funext fun j => ?_)
    simp [va_rf]
  | i + 1 => by
    show (Jvm.Free.Multi.outerC c N h0 i).setSlot i (.ref (h0 + 1 + i)) = _
    rw [b_outer c N h0 i, arrV_store]
    refine congrArg (arrV c N) (funext fun j => ?_)
    by_cases e : j = i
    · subst e
      simp [updV, va_rf]
    · by_cases h : j < i
      · simp [updV, e, h, Nat.lt_succ_of_lt h]
      · simp [updV, e, h, show ¬ j < i + 1 by omega]
def b_mn (V : qV) (n N : Nat) (o r : va_E) : qV := fun j => if j = n then o else if n < j ∧ j < n + 1 + N then r else V j
theorem bw_mna {idx N' K' : Nat} {x y : Int32} (d : decode M.2.2.2.1 pc = .ok (.multianewarray idx 2, 4)) (k : Nat) (hn : pc + 4 = k) (hw : Cond.classLink M.2.1 idx "[[I" ∈ q_tb) (hwc : Cond.arrayClass .int ∈ q_tb) (hx : ¬ x < 0) (hy : ¬ y < 0) (hN : x.toNatClampNeg = N') (hM : y.toNatClampNeg = K') (hb1 : N' * 4 ≤ 536870912) (hb2 : K' * 4 ≤ 536870912) (hb3 : K' ≤ 536870912) (hcells : cl + (1 + N') ≤ M.1.cells) (hslots : sl + (N' + N' * K') ≤ M.1.slots) (n' c' s' : Nat) (e1 : n + 1 + N' = n') (e2 : cl + 1 + N' = c') (e3 : sl + N' + N' * K' = s') (K : qBW l G M F k lv (.ref (G.2.2.2 + n) :: st) n' (b_mn V n N' (.inl (G.2.2.1 6, N', .inr (.inr (.inr (.inr (fun i => if i < N' then some (G.2.2.2 + n + 1 + i) else none)))))) (.inl (G.2.2.1 0, K', .inl (fun _ => 0)))) c' s') : qBW l G M F pc lv (.int y :: .int x :: st) n V cl sl := by
  subst hn hN hM
  subst e1 e2 e3
  intro p e s m args below meth c hc hz H locs ls hP hS hl
  refine b_size hP hS hz hc.2.2.2.1.2.2.2 (fun hsz => ?_)
  intro T hT Xs
  obtain ⟨vm₁, cA, comp, -, fA, fC, hO, -, X', step⟩ := Xs.multianewarray2F (ty := .int) hc.1.1 hc.1.2.2.2.1 (hc.1.2.2.2.2 _ hw) (hc.2.2.2.1.2.2.1 _ (by unfold b_aoL; exact List.mem_cons_self)) (hc.1.2.2.2.2 _ hwc) (g := F0 m pc ls (.int y :: .int x :: st)) rfl (by rw [hc.1.2.1]; exact d) rfl hx hy hb1 hb2 hb3 rfl rfl hcells hslots
  have hcA : cA = G.2.2.1 6 := by
    have h : s.vm.findClass ("[" ++ (FieldType.array .int).toString) = some (G.2.2.1 6) := (hc.2.2.2.1.1.2 6 _ (show (q_tys G)[6]? = some (G.2.2.1 6, .array .int) from rfl)).2
    exact Option.some.inj (fA.symm.trans h)
  have hcO : comp = G.2.2.1 0 := by
    have h : s.vm.findClass ("[" ++ FieldType.int.toString) = some (G.2.2.1 0) := (hc.2.2.2.1.1.2 0 _ (show (q_tys G)[0]? = some (G.2.2.1 0, .int) from rfl)).2
    exact Option.some.inj (fC.symm.trans h)
  subst hcA hcO
  generalize hF : Jvm.Free.Multi.fill (T.setVm vm₁) (G.2.2.1 6) (G.2.2.1 0) x.toNatClampNeg y.toNatClampNeg (defaultValue .int) x.toNatClampNeg = FF at X' step
  have hTh : (T.setVm vm₁).heap = H := hT
  obtain ⟨f1, f2, -, -⟩ := Jvm.Free.Multi.fill_facts (T.setVm vm₁) (G.2.2.1 6) (G.2.2.1 0) x.toNatClampNeg y.toNatClampNeg (defaultValue .int) x.toNatClampNeg
  rw [hF, hTh] at f1 f2
  have hold : ∀ q : Nat, q < H.size → FF.heap[q]? = H[q]? := fun q hq => by
    have := Jvm.Free.Multi.fill_old (T.setVm vm₁) (G.2.2.1 6) (G.2.2.1 0) x.toNatClampNeg y.toNatClampNeg (defaultValue .int) (a := q) (by rw [hTh]; exact hq) x.toNatClampNeg
    rw [hF, hTh] at this
    exact this
  have hrow : ∀ j : Nat, j < x.toNatClampNeg → FF.heap[H.size + 1 + j]? = some (vp_cell (G.2.2.1 0) (y.toNatClampNeg, .inl (fun _ => 0))) := fun j hj => by
    have := Jvm.Free.Multi.fill_inner (T.setVm vm₁) (G.2.2.1 6) (G.2.2.1 0) x.toNatClampNeg y.toNatClampNeg (defaultValue .int) x.toNatClampNeg j hj
    rw [hF, hTh] at this
    rw [this, vp_cell_i, ← arrV_new]
    rfl
  have hout : Jvm.Free.Multi.outerC (G.2.2.1 6) x.toNatClampNeg H.size x.toNatClampNeg = vp_cell (G.2.2.1 6) (x.toNatClampNeg, .inr (.inr (.inr (.inr (fun i => if i < x.toNatClampNeg then some (H.size + 1 + i) else none))))) := by
    rw [vp_cell_q]
    exact b_outer (G.2.2.1 6) x.toNatClampNeg H.size x.toNatClampNeg
  rw [hout] at f2
  have hP1 : b_W G (n + 1 + x.toNatClampNeg) (b_mn V n x.toNatClampNeg (.inl (G.2.2.1 6, x.toNatClampNeg, .inr (.inr (.inr (.inr (fun i => if i < x.toNatClampNeg then some (G.2.2.2 + n + 1 + i) else none)))))) (.inl (G.2.2.1 0, y.toNatClampNeg, .inl (fun _ => 0)))) FF.heap := by
    intro k q hk
    obtain ⟨hkn, rfl⟩ := b_get' hk
    unfold b_mn
    by_cases h1 : k = n
    · subst h1
      rw [if_pos rfl]
      show FF.heap[G.2.2.2 + k]? = some (vp_cell _ _)
      rw [← hsz]
      exact f2
    · rw [if_neg h1]
      by_cases h2 : n < k ∧ k < n + 1 + x.toNatClampNeg
      · rw [if_pos h2]
        show FF.heap[G.2.2.2 + k]? = some (vp_cell _ _)
        have h3 := hrow (k - n - 1) (by omega)
        rw [show H.size + 1 + (k - n - 1) = G.2.2.2 + k by omega] at h3
        exact h3
      · rw [if_neg h2]
        have h3 := hP k _ (b_get (G := G) (V := V) (show k < n by omega))
        exact h3.kept (hold _ h3.lt)
  obtain ⟨t, a1, b1⟩ := K p e s m args below meth c hc (by omega) FF.heap locs ls hP1 ⟨by rw [f1]; have := hS.1; omega, fun q h1 h2 => (hold q (Nat.lt_of_lt_of_le h1 hS.1)).trans (hS.2.1 q h1 h2), hS.2.2⟩ hl FF rfl X'
  refine ⟨t, step t ?_, b1⟩
  have e : T.heap.size = G.2.2.2 + n := by rw [hT]; exact hsz
  rw [e]
  exact a1
theorem bw_objInit {idx i : Nat} (d : decode M.2.2.2.1 pc = .ok (.invokespecial idx, 3)) (k : Nat) (hn : pc + 3 = k) (hw1 : Cond.methodLink M.2.1 idx Lib.objectInit ∈ q_tb) (hw2 : Cond.instanceMethod Lib.objectInit ∈ q_tb) (hw3 : Cond.code Lib.objectInit ⟨#[0xb1]⟩ 1 none ∈ q_tb) (hf : 1 ≤ M.1.frames) (hlo : (st.map fun v => v.category).sum + 12 ≤ M.1.locals) (K : qBW l G M F k lv st n V cl sl) : qBW l G M F pc lv (.ref i :: st) n V cl sl := by
  subst hn
  intro p e s m args below meth c hc hz H locs ls hP hS hl
  exact W.objInit hc.1.1 hc.1.2.1 hc.1.2.2.2.1 (hc.1.2.2.2.2 _ hw1) (hc.1.2.2.2.2 _ hw2) (hc.1.2.2.2.2 _ hw3) rfl (hl.1.trans hc.1.2.2.1.symm) rfl d hf (by show 2 * 0 + _ + 12 ≤ _; omega) (K p e s m args below meth c hc hz H locs ls hP hS hl)
theorem bw_ret (d : decode M.2.2.2.1 pc = .ok (.return_, 1)) (hret : M.2.2.2.2.2 = none) (e1 : F.1 = n) (e2 : F.2.1 = V) (e3 : F.2.2.1 = cl) (e4 : F.2.2.2 = sl) : qBW l G M F pc lv [] n V cl sl := by
  subst e1 e2 e3 e4
  intro p e s m args below meth c hc hz H locs ls hP hS hl
  exact W.vret hc.1.1 hc.1.2.1 (hc.2.1.trans hret) (fun t ht _ => ⟨rfl, by rw [ht]; exact hP, hS.F ht⟩) hS.2.2 d hc.2.2.1
theorem b_blind {as : List Value} : FrameBlind (va_Pc as (fun U => b_W G n V U.heap ∧ b_St G U ∧ U.heap.size = G.2.2.2 + n)) := by
  intro a U g mk q
  obtain ⟨h1, h2, ⟨h3, h4, h5, h6⟩, h7⟩ := q
  exact ⟨h1, h2, ⟨va_K.moved (u := U) (U := U.calling g mk a) (Vm.Alike.refl U.vm) h3, fun t ht => va_Nw.same (u := U) (U := U.calling g mk a) rfl rfl (h4 t ht), h5, h6⟩, h7⟩
theorem b_callR {p : Program} {e : Env} {R : Room} {s : State} {m : MethodId} {args a0 : Array Value} {below : List Frame} {meth : Method} {c : Code} {H : Heap} {locs : List Loc} {mc ms n2 : Nat} {V2 : qV} {ls : Array Slot} {st0 rest : List Value} {Q : State → Prop}
    (hr : va_Run p l e R s m args below meth c H locs cl sl mc ms (F0 m pc ls st0) rest (b_QC G n2 V2 a0) (q_A G)) (hS : va_S (q_A G) s.heap H locs)
    (kk : ∀ (H1 : Heap) (locs1 : List Loc), b_W G n2 V2 H1 → va_S (q_A G) s.heap H1 locs1 → W p l e R s m args below meth c H1 locs1 (cl + mc) (sl + ms) Q (F0 m (pc + 3) ls rest)) : W p l e R s m args below meth c H locs cl sl Q (F0 m pc ls st0) := by
  intro T hT Xs
  obtain ⟨v, st₀, t, T', L, h0, X', hL, e1, e2, ⟨hv, hP, hz, hk⟩, stp⟩ := hr T hT Xs
  cases hv
  rw [h0] at hz hk
  obtain ⟨t2, a1, b1⟩ := kk T'.heap (locs ++ L) (by rw [e1]; exact hP)
    ⟨Nat.le_trans hS.1 (by rw [e1]; exact hz), fun q h1 h2 => by rw [e1, hk q (Nat.lt_of_lt_of_le h1 hS.1) h2]; exact hS.2.1 q h1 h2, fun q hq => by
      rcases List.mem_append.mp hq with h | h
      · exact hS.2.2 q h
      · exact hL q h⟩ T' rfl X'
  exact ⟨t2, stp t2 a1, b1⟩
theorem b_N_warm {s U : State} (hW : s.WarmedH U.vm) (h : b_N s) : b_N U := fun t ht => va_Nw.warmM hW (h t ht)
theorem b_AOA_moved {u U : State} (hvm : u.vm.Alike U.vm) (h : (Cond.arrayOver (.array .int)).before #[] u = true) : (Cond.arrayOver (.array .int)).before #[] U = true := by
  unfold Cond.before Cond.holds at h ⊢
  simp only [Cond.value, beq_iff_eq] at h ⊢
  cases hc : u.vm.findClass (FieldType.array .int).toString with
  | none => rw [hc] at h; simp at h
  | some comp =>
    rw [hc, Option.bind_some, Option.bind_eq_some_iff] at h
    obtain ⟨c, hi, h2⟩ := h
    rw [Option.map_eq_some_iff] at h2
    obtain ⟨k, hk, hb⟩ := h2
    obtain ⟨k', hk', he⟩ := hvm.2.2 _ _ hk
    have hi2 : (U.vm.classes.findIdx? fun (x : Class) => match x.kind with | .array component _ => component == comp | _ => false) = some c := by
      have e1 := (va_idx_bare U.vm comp).symm
      have e2 := va_idx_bare u.vm comp
      first | rw [hvm.bare_eq] at e1 | rw [← hvm.bare_eq] at e1
      exact (e1.trans e2).trans hi
    have f1 : U.vm.findClass (FieldType.array .int).toString = some comp := by rw [hvm.findClass]; exact hc
    rw [f1, Option.bind_some, Option.bind_eq_some_iff]
    refine ⟨c, hi2, ?_⟩
    rw [Option.map_eq_some_iff]
    refine ⟨k', hk', ?_⟩
    rw [hvm.findClass, he]
    exact hb
theorem b_AO_warm {s U : State} (hW : s.WarmedH U.vm) (h : b_AO s) : b_AO U := by
  intro t ht
  have h1 := h t ht
  simp only [b_aoL, List.mem_cons, List.not_mem_nil, or_false] at ht
  rcases ht with rfl | rfl | rfl | rfl
  · exact b_AOA_moved hW.alike h1
  · exact va_AO.moved hW.alike h1
  · exact va_AO.moved hW.alike h1
  · exact va_AO.moved hW.alike h1
theorem b_St_call {s U : State} {H : Heap} (hU : U.heap = H) (hW : s.WarmedH U.vm) (h : b_St G s) (hle : s.heap.size ≤ H.size) : b_St G U := ⟨va_K.moved hW.alike h.1, b_N_warm hW h.2.1, b_AO_warm hW h.2.2.1, fun q hq => h.2.2.2 q (Nat.le_trans hle (by rw [← hU]; exact hq))⟩
theorem bw_callI {idx nn i n2 mc ms : Nat} {V2 : qV} {As rest : List Value} (d : decode M.2.2.2.1 pc = .ok (.invokespecial idx, 3)) (k : Nat) (hn : pc + 3 = k) (hC : qBC l G M2 (.ref i :: As) n V (n2, V2, mc, ms)) (hl2 : Cond.methodLink M.2.1 idx M2.2.2.1 ∈ q_tb) (hwi : b_Wi M2) (pk : b_Pk M2 nn mc ms) (hnn : As.length = nn) (hR : M2.1.frames + 1 ≤ M.1.frames ∧ 8 + (M2.2.2.2.2.1 + 11) + M2.1.locals ≤ M.1.locals) (hX : cl + mc ≤ M.1.cells ∧ sl + ms ≤ M.1.slots) (hst : st = As.reverse ++ .ref i :: rest) (hcat : (rest.map fun v => v.category).sum ≤ 8) (hn2 : n2 = n + mc) (c' s' : Nat) (e2 : cl + mc = c') (e3 : sl + ms = s') (K : qBW l G M F k lv rest n2 V2 c' s') : qBW l G M F pc lv st n V cl sl := by
  subst hn hst e2 e3
  obtain ⟨hc0, hs0, -, -, hnm, ⟨hd1, hd2, hd3⟩, hrt⟩ := pk
  intro p e s m args below meth c hc hz H locs ls hP hS hl
  refine b_size hP hS hz hc.2.2.2.1.2.2.2 (fun hsz => ?_)
  refine b_callR (va_runI (nL := M.2.2.2.2.1) (bytes := M2.2.2.2.1) (maxL := M2.2.2.2.2.1) hc.1 hC (cwI (ws' := q_tb) nn hc.1.2.2.2.2 (q_gws hwi.1) (by unfold q_ws; rw [hrt]) hc0 hs0 (hc.1.2.2.2.2 _ hwi.2.1) (hc.1.2.2.2.2 _ hl2) (hc.1.2.2.2.2 _ hwi.2.2) hnm ⟨hd1, hd2, hd3⟩ hR) ⟨b_blind, fun U hU hW => ⟨rfl, by rw [hU]; exact hP, b_St_call hU hW hc.2.2.2.1 hS.1, by rw [hU]; exact hsz⟩⟩ rfl hnn hl.1 rfl (by show 2 * 0 + _ ≤ 8; omega) d hX) hS (fun H1 locs1 hP1 hS1 => K p e s m args below meth c hc (by omega) H1 locs1 ls hP1 hS1 hl)
theorem bw_callIN {idx nn i n2 mc ms : Nat} {V2 : qV} {host : String} {As rest : List Value} (d : decode M.2.2.2.1 pc = .ok (.invokespecial idx, 3)) (k : Nat) (hn : pc + 3 = k) (hC : qBC l G M2 (.ref i :: As) n V (n2, V2, mc, ms)) (hl2 : (M.2.1, idx, M2.2.2.1, host) ∈ b_nmL) (hwi : b_Wi M2) (pk : b_Pk M2 nn mc ms) (hnn : As.length = nn) (hR : M2.1.frames + 1 ≤ M.1.frames ∧ 8 + (M2.2.2.2.2.1 + 11) + M2.1.locals ≤ M.1.locals) (hX : cl + mc ≤ M.1.cells ∧ sl + ms ≤ M.1.slots) (hst : st = As.reverse ++ .ref i :: rest) (hcat : (rest.map fun v => v.category).sum ≤ 8) (hn2 : n2 = n + mc) (c' s' : Nat) (e2 : cl + mc = c') (e3 : sl + ms = s') (K : qBW l G M F k lv rest n2 V2 c' s') : qBW l G M F pc lv st n V cl sl := by
  subst hn hst e2 e3
  obtain ⟨hc0, hs0, -, -, hnm, ⟨hd1, hd2, hd3⟩, hrt⟩ := pk
  intro p e s m args below meth c hc hz H locs ls hP hS hl
  refine b_size hP hS hz hc.2.2.2.1.2.2.2 (fun hsz => ?_)
  refine b_callR (va_runIN (nL := M.2.2.2.2.1) (bytes := M2.2.2.2.1) (maxL := M2.2.2.2.2.1) hc.1 hC ⟨va_cnB (ws' := q_tb) (host := host) nn hc.1.2.2.2.2 (q_gws hwi.1) (by unfold q_ws; rw [hrt]) hc0 hs0 (hc.2.2.2.1.2.1 _ hl2) (hc.1.2.2.2.2 _ hwi.2.1) ⟨hd1, hd2, hd3⟩ hR, hnm, hc.1.2.2.2.2 _ hwi.2.2⟩ ⟨b_blind, fun U hU hW => ⟨rfl, by rw [hU]; exact hP, b_St_call hU hW hc.2.2.2.1 hS.1, by rw [hU]; exact hsz⟩⟩ rfl hnn hl.1 rfl (by show 2 * 0 + _ ≤ 8; omega) d hX) hS (fun H1 locs1 hP1 hS1 => K p e s m args below meth c hc (by omega) H1 locs1 ls hP1 hS1 hl)
end QBA
