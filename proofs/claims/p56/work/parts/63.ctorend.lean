/-- what stands in a cell, as far as it is read -/
def b_eqv (e e' : va_E) : Prop := ∀ (D : va_G) (cl : List vw_C) (a : Nat) (H : Heap), va_at D cl (a, e) H → va_at D cl (a, e') H
theorem b_eqv_of {e e' : va_E} (h : e = e') : b_eqv e e' := fun _ _ _ _ q => h ▸ q
theorem b_arrV {c : ClassId} {N : Nat} {f g : Nat → Value} (h : ∀ j, j < N → f j = g j) : arrV c N f = arrV c N g := by
  unfold arrV
  congr 1
  apply Array.ext
  · simp
  · intro i h1 h2
    simp at h1 h2 ⊢
    exact h i h1
theorem b_eqv_r {e e' : va_E} {c : ClassId} {N : Nat} {f g : Nat → Option Nat} (h1 : e = .inl (c, N, .inr (.inr (.inr (.inr f))))) (h2 : e' = .inl (c, N, .inr (.inr (.inr (.inr g))))) (h : ∀ j, j < N → f j = g j) : b_eqv e e' := by
  subst h1 h2
  intro D cl a H q
  have q1 : H[a]? = some (arrV c N (fun j => va_rf (f j))) := q
  show H[a]? = some (arrV c N (fun j => va_rf (g j)))
  rw [q1, b_arrV (fun j hj => by rw [h j hj])]
/-! Where each cell stands behind both constructors, and what the memory is then. -/
def b_offL : List (List Nat) := [[0], [1, 10, 19], [59, 73, 87, 101, 115, 129, 32], [65, 79, 93, 107, 121, 135, 38], [66, 80, 94, 108, 122, 136, 39], [69, 83, 97, 111, 125, 139, 42], [46], [51], [143, 144, 145, 146, 147, 148, 149, 150], [151, 154, 157, 160, 163, 166, 169, 172], [55, 56], [], [], [], [], [], [], [], [], [], [2, 11, 20], [31], [53], [54], [], [], [], [], [], [], [3, 4, 5, 6, 7, 8], [12, 13, 14, 15, 16, 17], [21, 22, 23, 24, 25, 26, 27, 28], [9, 18, 29], [30], [57], [58], [60, 74, 88, 102, 116, 130, 33], [61, 75, 89, 103, 117, 131, 34], [62, 76, 90, 104, 118, 132, 35], [63, 77, 91, 105, 119, 133, 36], [64, 78, 92, 106, 120, 134, 37], [72, 86, 100, 114, 128, 142, 45], [67, 81, 95, 109, 123, 137, 40], [68, 82, 96, 110, 124, 138, 41], [70, 84, 98, 112, 126, 140, 43], [71, 85, 99, 113, 127, 141, 44], [47], [48], [49], [50], [52], [152, 155, 158, 161, 164, 167, 170, 173], [153, 156, 159, 162, 165, 168, 171, 174], [], [], [], [], [], []]
def b_off (k i : Nat) : Nat := (b_offL.getD k []).getD i 0
def b_m0 : Nat → Nat → Nat → Int32 := fun k i => match k with
  | 2 => fun s => match s with
    | 12 => 2
    | 13 => 1
    | 17 => (-9)
    | _ => 0
  | 3 => fun s => match s with
    | 0 => 4
    | 1 => 10
    | _ => 0
  | 5 => fun s => match s with
    | 2 => (-9)
    | _ => 0
  | 7 => fun s => match s with
    | 6 => (-9)
    | _ => 0
  | 8 => fun s => match s with
    | 0 => (-9)
    | _ => 0
  | 9 => fun s => match s with
    | 2 => (-9)
    | _ => 0
  | 33 => match i with
    | 0 => (upd (upd (upd (upd (upd (upd (fun _ => 0) (Int32.toNatClampNeg 0) (-1)) (Int32.toNatClampNeg 1) (-1)) (Int32.toNatClampNeg 2) (-1)) (Int32.toNatClampNeg 3) (-1)) (Int32.toNatClampNeg 4) (-1)) (Int32.toNatClampNeg 5) (-1))
    | 1 => (upd (upd (upd (upd (upd (upd (fun _ => 0) (Int32.toNatClampNeg 0) (-1)) (Int32.toNatClampNeg 1) (-1)) (Int32.toNatClampNeg 2) (-1)) (Int32.toNatClampNeg 3) (-1)) (Int32.toNatClampNeg 4) (-1)) (Int32.toNatClampNeg 5) (-1))
    | _ => (upd (upd (upd (upd (upd (upd (upd (upd (fun _ => 0) (Int32.toNatClampNeg 0) (-1)) (Int32.toNatClampNeg 1) (-1)) (Int32.toNatClampNeg 2) (-1)) (Int32.toNatClampNeg 3) (-1)) (Int32.toNatClampNeg 4) (-1)) (Int32.toNatClampNeg 5) (-1)) (Int32.toNatClampNeg 6) (-1)) (Int32.toNatClampNeg 7) (-1))
  | _ => fun _ => 0
def b_l0 : Nat → Nat → Nat → Int64 := fun k _ => match k with
  | 0 => fun s => match s with
    | 18 => 1
    | _ => 0
  | _ => fun _ => 0
def b_mem0 : qM := (b_m0, b_l0, (51, 0))
noncomputable def b_V (G : qG) (V : qV) : qV := bV_X10_init G (b_up V 0 (.inr (10, [.null, .null, .null, .null, .null, .null, .null, .null, .null, .null, .null, .null, .null, .null, .int 0, .int 0, .int 0, .long 0, .long 0])))
def b_G (D : va_G) (ca : Nat → ClassId) (base : Nat) : qG := (D, fun k i => base + b_off k i, ca, base)
set_option maxRecDepth 100000 in
theorem bf_0_0 (D : va_G) (ca : Nat → ClassId) (base : Nat) (V : qV) : b_eqv (b_V (b_G D ca base) V 0) (q_rep (b_G D ca base) b_mem0 0 0) :=
  b_eqv_of rfl
set_option maxRecDepth 100000 in
theorem bf_1_0 (D : va_G) (ca : Nat → ClassId) (base : Nat) (V : qV) : b_eqv (b_V (b_G D ca base) V 1) (q_rep (b_G D ca base) b_mem0 1 0) :=
  b_eqv_of rfl
set_option maxRecDepth 100000 in
theorem bf_1_1 (D : va_G) (ca : Nat → ClassId) (base : Nat) (V : qV) : b_eqv (b_V (b_G D ca base) V 10) (q_rep (b_G D ca base) b_mem0 1 1) :=
  b_eqv_of rfl
set_option maxRecDepth 100000 in
theorem bf_1_2 (D : va_G) (ca : Nat → ClassId) (base : Nat) (V : qV) : b_eqv (b_V (b_G D ca base) V 19) (q_rep (b_G D ca base) b_mem0 1 2) :=
  b_eqv_of rfl
set_option maxRecDepth 100000 in
theorem bf_2_0 (D : va_G) (ca : Nat → ClassId) (base : Nat) (V : qV) : b_eqv (b_V (b_G D ca base) V 59) (q_rep (b_G D ca base) b_mem0 2 0) :=
  b_eqv_of rfl
set_option maxRecDepth 100000 in
theorem bf_2_1 (D : va_G) (ca : Nat → ClassId) (base : Nat) (V : qV) : b_eqv (b_V (b_G D ca base) V 73) (q_rep (b_G D ca base) b_mem0 2 1) :=
  b_eqv_of rfl
set_option maxRecDepth 100000 in
theorem bf_2_2 (D : va_G) (ca : Nat → ClassId) (base : Nat) (V : qV) : b_eqv (b_V (b_G D ca base) V 87) (q_rep (b_G D ca base) b_mem0 2 2) :=
  b_eqv_of rfl
set_option maxRecDepth 100000 in
theorem bf_2_3 (D : va_G) (ca : Nat → ClassId) (base : Nat) (V : qV) : b_eqv (b_V (b_G D ca base) V 101) (q_rep (b_G D ca base) b_mem0 2 3) :=
  b_eqv_of rfl
set_option maxRecDepth 100000 in
theorem bf_2_4 (D : va_G) (ca : Nat → ClassId) (base : Nat) (V : qV) : b_eqv (b_V (b_G D ca base) V 115) (q_rep (b_G D ca base) b_mem0 2 4) :=
  b_eqv_of rfl
set_option maxRecDepth 100000 in
theorem bf_2_5 (D : va_G) (ca : Nat → ClassId) (base : Nat) (V : qV) : b_eqv (b_V (b_G D ca base) V 129) (q_rep (b_G D ca base) b_mem0 2 5) :=
  b_eqv_of rfl
set_option maxRecDepth 100000 in
theorem bf_2_6 (D : va_G) (ca : Nat → ClassId) (base : Nat) (V : qV) : b_eqv (b_V (b_G D ca base) V 32) (q_rep (b_G D ca base) b_mem0 2 6) :=
  b_eqv_of rfl
set_option maxRecDepth 100000 in
theorem bf_3_0 (D : va_G) (ca : Nat → ClassId) (base : Nat) (V : qV) : b_eqv (b_V (b_G D ca base) V 65) (q_rep (b_G D ca base) b_mem0 3 0) :=
  b_eqv_of rfl
set_option maxRecDepth 100000 in
theorem bf_3_1 (D : va_G) (ca : Nat → ClassId) (base : Nat) (V : qV) : b_eqv (b_V (b_G D ca base) V 79) (q_rep (b_G D ca base) b_mem0 3 1) :=
  b_eqv_of rfl
set_option maxRecDepth 100000 in
theorem bf_3_2 (D : va_G) (ca : Nat → ClassId) (base : Nat) (V : qV) : b_eqv (b_V (b_G D ca base) V 93) (q_rep (b_G D ca base) b_mem0 3 2) :=
  b_eqv_of rfl
set_option maxRecDepth 100000 in
theorem bf_3_3 (D : va_G) (ca : Nat → ClassId) (base : Nat) (V : qV) : b_eqv (b_V (b_G D ca base) V 107) (q_rep (b_G D ca base) b_mem0 3 3) :=
  b_eqv_of rfl
set_option maxRecDepth 100000 in
theorem bf_3_4 (D : va_G) (ca : Nat → ClassId) (base : Nat) (V : qV) : b_eqv (b_V (b_G D ca base) V 121) (q_rep (b_G D ca base) b_mem0 3 4) :=
  b_eqv_of rfl
set_option maxRecDepth 100000 in
theorem bf_3_5 (D : va_G) (ca : Nat → ClassId) (base : Nat) (V : qV) : b_eqv (b_V (b_G D ca base) V 135) (q_rep (b_G D ca base) b_mem0 3 5) :=
  b_eqv_of rfl
set_option maxRecDepth 100000 in
theorem bf_3_6 (D : va_G) (ca : Nat → ClassId) (base : Nat) (V : qV) : b_eqv (b_V (b_G D ca base) V 38) (q_rep (b_G D ca base) b_mem0 3 6) :=
  b_eqv_of rfl
set_option maxRecDepth 100000 in
theorem bf_4_0 (D : va_G) (ca : Nat → ClassId) (base : Nat) (V : qV) : b_eqv (b_V (b_G D ca base) V 66) (q_rep (b_G D ca base) b_mem0 4 0) :=
  b_eqv_of rfl
set_option maxRecDepth 100000 in
theorem bf_4_1 (D : va_G) (ca : Nat → ClassId) (base : Nat) (V : qV) : b_eqv (b_V (b_G D ca base) V 80) (q_rep (b_G D ca base) b_mem0 4 1) :=
  b_eqv_of rfl
set_option maxRecDepth 100000 in
theorem bf_4_2 (D : va_G) (ca : Nat → ClassId) (base : Nat) (V : qV) : b_eqv (b_V (b_G D ca base) V 94) (q_rep (b_G D ca base) b_mem0 4 2) :=
  b_eqv_of rfl
set_option maxRecDepth 100000 in
theorem bf_4_3 (D : va_G) (ca : Nat → ClassId) (base : Nat) (V : qV) : b_eqv (b_V (b_G D ca base) V 108) (q_rep (b_G D ca base) b_mem0 4 3) :=
  b_eqv_of rfl
set_option maxRecDepth 100000 in
theorem bf_4_4 (D : va_G) (ca : Nat → ClassId) (base : Nat) (V : qV) : b_eqv (b_V (b_G D ca base) V 122) (q_rep (b_G D ca base) b_mem0 4 4) :=
  b_eqv_of rfl
set_option maxRecDepth 100000 in
theorem bf_4_5 (D : va_G) (ca : Nat → ClassId) (base : Nat) (V : qV) : b_eqv (b_V (b_G D ca base) V 136) (q_rep (b_G D ca base) b_mem0 4 5) :=
  b_eqv_of rfl
set_option maxRecDepth 100000 in
theorem bf_4_6 (D : va_G) (ca : Nat → ClassId) (base : Nat) (V : qV) : b_eqv (b_V (b_G D ca base) V 39) (q_rep (b_G D ca base) b_mem0 4 6) :=
  b_eqv_of rfl
set_option maxRecDepth 100000 in
theorem bf_5_0 (D : va_G) (ca : Nat → ClassId) (base : Nat) (V : qV) : b_eqv (b_V (b_G D ca base) V 69) (q_rep (b_G D ca base) b_mem0 5 0) :=
  b_eqv_of rfl
set_option maxRecDepth 100000 in
theorem bf_5_1 (D : va_G) (ca : Nat → ClassId) (base : Nat) (V : qV) : b_eqv (b_V (b_G D ca base) V 83) (q_rep (b_G D ca base) b_mem0 5 1) :=
  b_eqv_of rfl
set_option maxRecDepth 100000 in
theorem bf_5_2 (D : va_G) (ca : Nat → ClassId) (base : Nat) (V : qV) : b_eqv (b_V (b_G D ca base) V 97) (q_rep (b_G D ca base) b_mem0 5 2) :=
  b_eqv_of rfl
set_option maxRecDepth 100000 in
theorem bf_5_3 (D : va_G) (ca : Nat → ClassId) (base : Nat) (V : qV) : b_eqv (b_V (b_G D ca base) V 111) (q_rep (b_G D ca base) b_mem0 5 3) :=
  b_eqv_of rfl
set_option maxRecDepth 100000 in
theorem bf_5_4 (D : va_G) (ca : Nat → ClassId) (base : Nat) (V : qV) : b_eqv (b_V (b_G D ca base) V 125) (q_rep (b_G D ca base) b_mem0 5 4) :=
  b_eqv_of rfl
set_option maxRecDepth 100000 in
theorem bf_5_5 (D : va_G) (ca : Nat → ClassId) (base : Nat) (V : qV) : b_eqv (b_V (b_G D ca base) V 139) (q_rep (b_G D ca base) b_mem0 5 5) :=
  b_eqv_of rfl
set_option maxRecDepth 100000 in
theorem bf_5_6 (D : va_G) (ca : Nat → ClassId) (base : Nat) (V : qV) : b_eqv (b_V (b_G D ca base) V 42) (q_rep (b_G D ca base) b_mem0 5 6) :=
  b_eqv_of rfl
set_option maxRecDepth 100000 in
theorem bf_6_0 (D : va_G) (ca : Nat → ClassId) (base : Nat) (V : qV) : b_eqv (b_V (b_G D ca base) V 46) (q_rep (b_G D ca base) b_mem0 6 0) :=
  b_eqv_of rfl
set_option maxRecDepth 100000 in
theorem bf_7_0 (D : va_G) (ca : Nat → ClassId) (base : Nat) (V : qV) : b_eqv (b_V (b_G D ca base) V 51) (q_rep (b_G D ca base) b_mem0 7 0) :=
  b_eqv_of rfl
set_option maxRecDepth 100000 in
theorem bf_8_0 (D : va_G) (ca : Nat → ClassId) (base : Nat) (V : qV) : b_eqv (b_V (b_G D ca base) V 143) (q_rep (b_G D ca base) b_mem0 8 0) :=
  b_eqv_of rfl
set_option maxRecDepth 100000 in
theorem bf_8_1 (D : va_G) (ca : Nat → ClassId) (base : Nat) (V : qV) : b_eqv (b_V (b_G D ca base) V 144) (q_rep (b_G D ca base) b_mem0 8 1) :=
  b_eqv_of rfl
set_option maxRecDepth 100000 in
theorem bf_8_2 (D : va_G) (ca : Nat → ClassId) (base : Nat) (V : qV) : b_eqv (b_V (b_G D ca base) V 145) (q_rep (b_G D ca base) b_mem0 8 2) :=
  b_eqv_of rfl
set_option maxRecDepth 100000 in
theorem bf_8_3 (D : va_G) (ca : Nat → ClassId) (base : Nat) (V : qV) : b_eqv (b_V (b_G D ca base) V 146) (q_rep (b_G D ca base) b_mem0 8 3) :=
  b_eqv_of rfl
set_option maxRecDepth 100000 in
theorem bf_8_4 (D : va_G) (ca : Nat → ClassId) (base : Nat) (V : qV) : b_eqv (b_V (b_G D ca base) V 147) (q_rep (b_G D ca base) b_mem0 8 4) :=
  b_eqv_of rfl
set_option maxRecDepth 100000 in
theorem bf_8_5 (D : va_G) (ca : Nat → ClassId) (base : Nat) (V : qV) : b_eqv (b_V (b_G D ca base) V 148) (q_rep (b_G D ca base) b_mem0 8 5) :=
  b_eqv_of rfl
set_option maxRecDepth 100000 in
theorem bf_8_6 (D : va_G) (ca : Nat → ClassId) (base : Nat) (V : qV) : b_eqv (b_V (b_G D ca base) V 149) (q_rep (b_G D ca base) b_mem0 8 6) :=
  b_eqv_of rfl
set_option maxRecDepth 100000 in
theorem bf_8_7 (D : va_G) (ca : Nat → ClassId) (base : Nat) (V : qV) : b_eqv (b_V (b_G D ca base) V 150) (q_rep (b_G D ca base) b_mem0 8 7) :=
  b_eqv_of rfl
set_option maxRecDepth 100000 in
theorem bf_9_0 (D : va_G) (ca : Nat → ClassId) (base : Nat) (V : qV) : b_eqv (b_V (b_G D ca base) V 151) (q_rep (b_G D ca base) b_mem0 9 0) :=
  b_eqv_of rfl
set_option maxRecDepth 100000 in
theorem bf_9_1 (D : va_G) (ca : Nat → ClassId) (base : Nat) (V : qV) : b_eqv (b_V (b_G D ca base) V 154) (q_rep (b_G D ca base) b_mem0 9 1) :=
  b_eqv_of rfl
set_option maxRecDepth 100000 in
theorem bf_9_2 (D : va_G) (ca : Nat → ClassId) (base : Nat) (V : qV) : b_eqv (b_V (b_G D ca base) V 157) (q_rep (b_G D ca base) b_mem0 9 2) :=
  b_eqv_of rfl
set_option maxRecDepth 100000 in
theorem bf_9_3 (D : va_G) (ca : Nat → ClassId) (base : Nat) (V : qV) : b_eqv (b_V (b_G D ca base) V 160) (q_rep (b_G D ca base) b_mem0 9 3) :=
  b_eqv_of rfl
set_option maxRecDepth 100000 in
theorem bf_9_4 (D : va_G) (ca : Nat → ClassId) (base : Nat) (V : qV) : b_eqv (b_V (b_G D ca base) V 163) (q_rep (b_G D ca base) b_mem0 9 4) :=
  b_eqv_of rfl
set_option maxRecDepth 100000 in
theorem bf_9_5 (D : va_G) (ca : Nat → ClassId) (base : Nat) (V : qV) : b_eqv (b_V (b_G D ca base) V 166) (q_rep (b_G D ca base) b_mem0 9 5) :=
  b_eqv_of rfl
set_option maxRecDepth 100000 in
theorem bf_9_6 (D : va_G) (ca : Nat → ClassId) (base : Nat) (V : qV) : b_eqv (b_V (b_G D ca base) V 169) (q_rep (b_G D ca base) b_mem0 9 6) :=
  b_eqv_of rfl
set_option maxRecDepth 100000 in
theorem bf_9_7 (D : va_G) (ca : Nat → ClassId) (base : Nat) (V : qV) : b_eqv (b_V (b_G D ca base) V 172) (q_rep (b_G D ca base) b_mem0 9 7) :=
  b_eqv_of rfl
set_option maxRecDepth 100000 in
theorem bf_10_0 (D : va_G) (ca : Nat → ClassId) (base : Nat) (V : qV) : b_eqv (b_V (b_G D ca base) V 55) (q_rep (b_G D ca base) b_mem0 10 0) :=
  b_eqv_of rfl
set_option maxRecDepth 100000 in
theorem bf_10_1 (D : va_G) (ca : Nat → ClassId) (base : Nat) (V : qV) : b_eqv (b_V (b_G D ca base) V 56) (q_rep (b_G D ca base) b_mem0 10 1) :=
  b_eqv_of rfl
set_option maxRecDepth 100000 in
theorem bf_20_0 (D : va_G) (ca : Nat → ClassId) (base : Nat) (V : qV) : b_eqv (b_V (b_G D ca base) V 2) (q_rep (b_G D ca base) b_mem0 20 0) :=
  b_eqv_r (N := 6) rfl rfl (fun j hj => by
    match j, hj with
    | 0, _ => rfl
    | 1, _ => rfl
    | 2, _ => rfl
    | 3, _ => rfl
    | 4, _ => rfl
    | 5, _ => rfl
    | n + 6, h => exact absurd h (by omega))
set_option maxRecDepth 100000 in
theorem bf_20_1 (D : va_G) (ca : Nat → ClassId) (base : Nat) (V : qV) : b_eqv (b_V (b_G D ca base) V 11) (q_rep (b_G D ca base) b_mem0 20 1) :=
  b_eqv_r (N := 6) rfl rfl (fun j hj => by
    match j, hj with
    | 0, _ => rfl
    | 1, _ => rfl
    | 2, _ => rfl
    | 3, _ => rfl
    | 4, _ => rfl
    | 5, _ => rfl
    | n + 6, h => exact absurd h (by omega))
set_option maxRecDepth 100000 in
theorem bf_20_2 (D : va_G) (ca : Nat → ClassId) (base : Nat) (V : qV) : b_eqv (b_V (b_G D ca base) V 20) (q_rep (b_G D ca base) b_mem0 20 2) :=
  b_eqv_r (N := 8) rfl rfl (fun j hj => by
    match j, hj with
    | 0, _ => rfl
    | 1, _ => rfl
    | 2, _ => rfl
    | 3, _ => rfl
    | 4, _ => rfl
    | 5, _ => rfl
    | 6, _ => rfl
    | 7, _ => rfl
    | n + 8, h => exact absurd h (by omega))
set_option maxRecDepth 100000 in
theorem bf_21_0 (D : va_G) (ca : Nat → ClassId) (base : Nat) (V : qV) : b_eqv (b_V (b_G D ca base) V 31) (q_rep (b_G D ca base) b_mem0 21 0) :=
  b_eqv_r (N := 6) rfl rfl (fun j hj => by
    match j, hj with
    | 0, _ => rfl
    | 1, _ => rfl
    | 2, _ => rfl
    | 3, _ => rfl
    | 4, _ => rfl
    | 5, _ => rfl
    | n + 6, h => exact absurd h (by omega))
set_option maxRecDepth 100000 in
theorem bf_22_0 (D : va_G) (ca : Nat → ClassId) (base : Nat) (V : qV) : b_eqv (b_V (b_G D ca base) V 53) (q_rep (b_G D ca base) b_mem0 22 0) :=
  b_eqv_r (N := 8) rfl rfl (fun j hj => by
    match j, hj with
    | 0, _ => rfl
    | 1, _ => rfl
    | 2, _ => rfl
    | 3, _ => rfl
    | 4, _ => rfl
    | 5, _ => rfl
    | 6, _ => rfl
    | 7, _ => rfl
    | n + 8, h => exact absurd h (by omega))
set_option maxRecDepth 100000 in
theorem bf_23_0 (D : va_G) (ca : Nat → ClassId) (base : Nat) (V : qV) : b_eqv (b_V (b_G D ca base) V 54) (q_rep (b_G D ca base) b_mem0 23 0) :=
  b_eqv_r (N := 8) rfl rfl (fun j hj => by
    match j, hj with
    | 0, _ => rfl
    | 1, _ => rfl
    | 2, _ => rfl
    | 3, _ => rfl
    | 4, _ => rfl
    | 5, _ => rfl
    | 6, _ => rfl
    | 7, _ => rfl
    | n + 8, h => exact absurd h (by omega))
set_option maxRecDepth 100000 in
theorem bf_30_0 (D : va_G) (ca : Nat → ClassId) (base : Nat) (V : qV) : b_eqv (b_V (b_G D ca base) V 3) (q_rep (b_G D ca base) b_mem0 30 0) :=
  b_eqv_of rfl
set_option maxRecDepth 100000 in
theorem bf_30_1 (D : va_G) (ca : Nat → ClassId) (base : Nat) (V : qV) : b_eqv (b_V (b_G D ca base) V 4) (q_rep (b_G D ca base) b_mem0 30 1) :=
  b_eqv_of rfl
set_option maxRecDepth 100000 in
theorem bf_30_2 (D : va_G) (ca : Nat → ClassId) (base : Nat) (V : qV) : b_eqv (b_V (b_G D ca base) V 5) (q_rep (b_G D ca base) b_mem0 30 2) :=
  b_eqv_of rfl
set_option maxRecDepth 100000 in
theorem bf_30_3 (D : va_G) (ca : Nat → ClassId) (base : Nat) (V : qV) : b_eqv (b_V (b_G D ca base) V 6) (q_rep (b_G D ca base) b_mem0 30 3) :=
  b_eqv_of rfl
set_option maxRecDepth 100000 in
theorem bf_30_4 (D : va_G) (ca : Nat → ClassId) (base : Nat) (V : qV) : b_eqv (b_V (b_G D ca base) V 7) (q_rep (b_G D ca base) b_mem0 30 4) :=
  b_eqv_of rfl
set_option maxRecDepth 100000 in
theorem bf_30_5 (D : va_G) (ca : Nat → ClassId) (base : Nat) (V : qV) : b_eqv (b_V (b_G D ca base) V 8) (q_rep (b_G D ca base) b_mem0 30 5) :=
  b_eqv_of rfl
set_option maxRecDepth 100000 in
theorem bf_31_0 (D : va_G) (ca : Nat → ClassId) (base : Nat) (V : qV) : b_eqv (b_V (b_G D ca base) V 12) (q_rep (b_G D ca base) b_mem0 31 0) :=
  b_eqv_of rfl
set_option maxRecDepth 100000 in
theorem bf_31_1 (D : va_G) (ca : Nat → ClassId) (base : Nat) (V : qV) : b_eqv (b_V (b_G D ca base) V 13) (q_rep (b_G D ca base) b_mem0 31 1) :=
  b_eqv_of rfl
set_option maxRecDepth 100000 in
theorem bf_31_2 (D : va_G) (ca : Nat → ClassId) (base : Nat) (V : qV) : b_eqv (b_V (b_G D ca base) V 14) (q_rep (b_G D ca base) b_mem0 31 2) :=
  b_eqv_of rfl
set_option maxRecDepth 100000 in
theorem bf_31_3 (D : va_G) (ca : Nat → ClassId) (base : Nat) (V : qV) : b_eqv (b_V (b_G D ca base) V 15) (q_rep (b_G D ca base) b_mem0 31 3) :=
  b_eqv_of rfl
set_option maxRecDepth 100000 in
theorem bf_31_4 (D : va_G) (ca : Nat → ClassId) (base : Nat) (V : qV) : b_eqv (b_V (b_G D ca base) V 16) (q_rep (b_G D ca base) b_mem0 31 4) :=
  b_eqv_of rfl
set_option maxRecDepth 100000 in
theorem bf_31_5 (D : va_G) (ca : Nat → ClassId) (base : Nat) (V : qV) : b_eqv (b_V (b_G D ca base) V 17) (q_rep (b_G D ca base) b_mem0 31 5) :=
  b_eqv_of rfl
set_option maxRecDepth 100000 in
theorem bf_32_0 (D : va_G) (ca : Nat → ClassId) (base : Nat) (V : qV) : b_eqv (b_V (b_G D ca base) V 21) (q_rep (b_G D ca base) b_mem0 32 0) :=
  b_eqv_of rfl
set_option maxRecDepth 100000 in
theorem bf_32_1 (D : va_G) (ca : Nat → ClassId) (base : Nat) (V : qV) : b_eqv (b_V (b_G D ca base) V 22) (q_rep (b_G D ca base) b_mem0 32 1) :=
  b_eqv_of rfl
set_option maxRecDepth 100000 in
theorem bf_32_2 (D : va_G) (ca : Nat → ClassId) (base : Nat) (V : qV) : b_eqv (b_V (b_G D ca base) V 23) (q_rep (b_G D ca base) b_mem0 32 2) :=
  b_eqv_of rfl
set_option maxRecDepth 100000 in
theorem bf_32_3 (D : va_G) (ca : Nat → ClassId) (base : Nat) (V : qV) : b_eqv (b_V (b_G D ca base) V 24) (q_rep (b_G D ca base) b_mem0 32 3) :=
  b_eqv_of rfl
set_option maxRecDepth 100000 in
theorem bf_32_4 (D : va_G) (ca : Nat → ClassId) (base : Nat) (V : qV) : b_eqv (b_V (b_G D ca base) V 25) (q_rep (b_G D ca base) b_mem0 32 4) :=
  b_eqv_of rfl
set_option maxRecDepth 100000 in
theorem bf_32_5 (D : va_G) (ca : Nat → ClassId) (base : Nat) (V : qV) : b_eqv (b_V (b_G D ca base) V 26) (q_rep (b_G D ca base) b_mem0 32 5) :=
  b_eqv_of rfl
set_option maxRecDepth 100000 in
theorem bf_32_6 (D : va_G) (ca : Nat → ClassId) (base : Nat) (V : qV) : b_eqv (b_V (b_G D ca base) V 27) (q_rep (b_G D ca base) b_mem0 32 6) :=
  b_eqv_of rfl
set_option maxRecDepth 100000 in
theorem bf_32_7 (D : va_G) (ca : Nat → ClassId) (base : Nat) (V : qV) : b_eqv (b_V (b_G D ca base) V 28) (q_rep (b_G D ca base) b_mem0 32 7) :=
  b_eqv_of rfl
set_option maxRecDepth 100000 in
theorem bf_33_0 (D : va_G) (ca : Nat → ClassId) (base : Nat) (V : qV) : b_eqv (b_V (b_G D ca base) V 9) (q_rep (b_G D ca base) b_mem0 33 0) :=
  b_eqv_of rfl
set_option maxRecDepth 100000 in
theorem bf_33_1 (D : va_G) (ca : Nat → ClassId) (base : Nat) (V : qV) : b_eqv (b_V (b_G D ca base) V 18) (q_rep (b_G D ca base) b_mem0 33 1) :=
  b_eqv_of rfl
set_option maxRecDepth 100000 in
theorem bf_33_2 (D : va_G) (ca : Nat → ClassId) (base : Nat) (V : qV) : b_eqv (b_V (b_G D ca base) V 29) (q_rep (b_G D ca base) b_mem0 33 2) :=
  b_eqv_of rfl
set_option maxRecDepth 100000 in
theorem bf_34_0 (D : va_G) (ca : Nat → ClassId) (base : Nat) (V : qV) : b_eqv (b_V (b_G D ca base) V 30) (q_rep (b_G D ca base) b_mem0 34 0) :=
  b_eqv_of rfl
set_option maxRecDepth 100000 in
theorem bf_35_0 (D : va_G) (ca : Nat → ClassId) (base : Nat) (V : qV) : b_eqv (b_V (b_G D ca base) V 57) (q_rep (b_G D ca base) b_mem0 35 0) :=
  b_eqv_of rfl
set_option maxRecDepth 100000 in
theorem bf_36_0 (D : va_G) (ca : Nat → ClassId) (base : Nat) (V : qV) : b_eqv (b_V (b_G D ca base) V 58) (q_rep (b_G D ca base) b_mem0 36 0) :=
  b_eqv_of rfl
set_option maxRecDepth 100000 in
theorem bf_37_0 (D : va_G) (ca : Nat → ClassId) (base : Nat) (V : qV) : b_eqv (b_V (b_G D ca base) V 60) (q_rep (b_G D ca base) b_mem0 37 0) :=
  b_eqv_of rfl
set_option maxRecDepth 100000 in
theorem bf_37_1 (D : va_G) (ca : Nat → ClassId) (base : Nat) (V : qV) : b_eqv (b_V (b_G D ca base) V 74) (q_rep (b_G D ca base) b_mem0 37 1) :=
  b_eqv_of rfl
set_option maxRecDepth 100000 in
theorem bf_37_2 (D : va_G) (ca : Nat → ClassId) (base : Nat) (V : qV) : b_eqv (b_V (b_G D ca base) V 88) (q_rep (b_G D ca base) b_mem0 37 2) :=
  b_eqv_of rfl
set_option maxRecDepth 100000 in
theorem bf_37_3 (D : va_G) (ca : Nat → ClassId) (base : Nat) (V : qV) : b_eqv (b_V (b_G D ca base) V 102) (q_rep (b_G D ca base) b_mem0 37 3) :=
  b_eqv_of rfl
set_option maxRecDepth 100000 in
theorem bf_37_4 (D : va_G) (ca : Nat → ClassId) (base : Nat) (V : qV) : b_eqv (b_V (b_G D ca base) V 116) (q_rep (b_G D ca base) b_mem0 37 4) :=
  b_eqv_of rfl
set_option maxRecDepth 100000 in
theorem bf_37_5 (D : va_G) (ca : Nat → ClassId) (base : Nat) (V : qV) : b_eqv (b_V (b_G D ca base) V 130) (q_rep (b_G D ca base) b_mem0 37 5) :=
  b_eqv_of rfl
set_option maxRecDepth 100000 in
theorem bf_37_6 (D : va_G) (ca : Nat → ClassId) (base : Nat) (V : qV) : b_eqv (b_V (b_G D ca base) V 33) (q_rep (b_G D ca base) b_mem0 37 6) :=
  b_eqv_of rfl
set_option maxRecDepth 100000 in
theorem bf_38_0 (D : va_G) (ca : Nat → ClassId) (base : Nat) (V : qV) : b_eqv (b_V (b_G D ca base) V 61) (q_rep (b_G D ca base) b_mem0 38 0) :=
  b_eqv_of rfl
set_option maxRecDepth 100000 in
theorem bf_38_1 (D : va_G) (ca : Nat → ClassId) (base : Nat) (V : qV) : b_eqv (b_V (b_G D ca base) V 75) (q_rep (b_G D ca base) b_mem0 38 1) :=
  b_eqv_of rfl
set_option maxRecDepth 100000 in
theorem bf_38_2 (D : va_G) (ca : Nat → ClassId) (base : Nat) (V : qV) : b_eqv (b_V (b_G D ca base) V 89) (q_rep (b_G D ca base) b_mem0 38 2) :=
  b_eqv_of rfl
set_option maxRecDepth 100000 in
theorem bf_38_3 (D : va_G) (ca : Nat → ClassId) (base : Nat) (V : qV) : b_eqv (b_V (b_G D ca base) V 103) (q_rep (b_G D ca base) b_mem0 38 3) :=
  b_eqv_of rfl
set_option maxRecDepth 100000 in
theorem bf_38_4 (D : va_G) (ca : Nat → ClassId) (base : Nat) (V : qV) : b_eqv (b_V (b_G D ca base) V 117) (q_rep (b_G D ca base) b_mem0 38 4) :=
  b_eqv_of rfl
set_option maxRecDepth 100000 in
theorem bf_38_5 (D : va_G) (ca : Nat → ClassId) (base : Nat) (V : qV) : b_eqv (b_V (b_G D ca base) V 131) (q_rep (b_G D ca base) b_mem0 38 5) :=
  b_eqv_of rfl
set_option maxRecDepth 100000 in
theorem bf_38_6 (D : va_G) (ca : Nat → ClassId) (base : Nat) (V : qV) : b_eqv (b_V (b_G D ca base) V 34) (q_rep (b_G D ca base) b_mem0 38 6) :=
  b_eqv_of rfl
set_option maxRecDepth 100000 in
theorem bf_39_0 (D : va_G) (ca : Nat → ClassId) (base : Nat) (V : qV) : b_eqv (b_V (b_G D ca base) V 62) (q_rep (b_G D ca base) b_mem0 39 0) :=
  b_eqv_of rfl
set_option maxRecDepth 100000 in
theorem bf_39_1 (D : va_G) (ca : Nat → ClassId) (base : Nat) (V : qV) : b_eqv (b_V (b_G D ca base) V 76) (q_rep (b_G D ca base) b_mem0 39 1) :=
  b_eqv_of rfl
set_option maxRecDepth 100000 in
theorem bf_39_2 (D : va_G) (ca : Nat → ClassId) (base : Nat) (V : qV) : b_eqv (b_V (b_G D ca base) V 90) (q_rep (b_G D ca base) b_mem0 39 2) :=
  b_eqv_of rfl
set_option maxRecDepth 100000 in
theorem bf_39_3 (D : va_G) (ca : Nat → ClassId) (base : Nat) (V : qV) : b_eqv (b_V (b_G D ca base) V 104) (q_rep (b_G D ca base) b_mem0 39 3) :=
  b_eqv_of rfl
set_option maxRecDepth 100000 in
theorem bf_39_4 (D : va_G) (ca : Nat → ClassId) (base : Nat) (V : qV) : b_eqv (b_V (b_G D ca base) V 118) (q_rep (b_G D ca base) b_mem0 39 4) :=
  b_eqv_of rfl
set_option maxRecDepth 100000 in
theorem bf_39_5 (D : va_G) (ca : Nat → ClassId) (base : Nat) (V : qV) : b_eqv (b_V (b_G D ca base) V 132) (q_rep (b_G D ca base) b_mem0 39 5) :=
  b_eqv_of rfl
set_option maxRecDepth 100000 in
theorem bf_39_6 (D : va_G) (ca : Nat → ClassId) (base : Nat) (V : qV) : b_eqv (b_V (b_G D ca base) V 35) (q_rep (b_G D ca base) b_mem0 39 6) :=
  b_eqv_of rfl
set_option maxRecDepth 100000 in
theorem bf_40_0 (D : va_G) (ca : Nat → ClassId) (base : Nat) (V : qV) : b_eqv (b_V (b_G D ca base) V 63) (q_rep (b_G D ca base) b_mem0 40 0) :=
  b_eqv_of rfl
set_option maxRecDepth 100000 in
theorem bf_40_1 (D : va_G) (ca : Nat → ClassId) (base : Nat) (V : qV) : b_eqv (b_V (b_G D ca base) V 77) (q_rep (b_G D ca base) b_mem0 40 1) :=
  b_eqv_of rfl
set_option maxRecDepth 100000 in
theorem bf_40_2 (D : va_G) (ca : Nat → ClassId) (base : Nat) (V : qV) : b_eqv (b_V (b_G D ca base) V 91) (q_rep (b_G D ca base) b_mem0 40 2) :=
  b_eqv_of rfl
set_option maxRecDepth 100000 in
theorem bf_40_3 (D : va_G) (ca : Nat → ClassId) (base : Nat) (V : qV) : b_eqv (b_V (b_G D ca base) V 105) (q_rep (b_G D ca base) b_mem0 40 3) :=
  b_eqv_of rfl
set_option maxRecDepth 100000 in
theorem bf_40_4 (D : va_G) (ca : Nat → ClassId) (base : Nat) (V : qV) : b_eqv (b_V (b_G D ca base) V 119) (q_rep (b_G D ca base) b_mem0 40 4) :=
  b_eqv_of rfl
set_option maxRecDepth 100000 in
theorem bf_40_5 (D : va_G) (ca : Nat → ClassId) (base : Nat) (V : qV) : b_eqv (b_V (b_G D ca base) V 133) (q_rep (b_G D ca base) b_mem0 40 5) :=
  b_eqv_of rfl
set_option maxRecDepth 100000 in
theorem bf_40_6 (D : va_G) (ca : Nat → ClassId) (base : Nat) (V : qV) : b_eqv (b_V (b_G D ca base) V 36) (q_rep (b_G D ca base) b_mem0 40 6) :=
  b_eqv_of rfl
set_option maxRecDepth 100000 in
theorem bf_41_0 (D : va_G) (ca : Nat → ClassId) (base : Nat) (V : qV) : b_eqv (b_V (b_G D ca base) V 64) (q_rep (b_G D ca base) b_mem0 41 0) :=
  b_eqv_of rfl
set_option maxRecDepth 100000 in
theorem bf_41_1 (D : va_G) (ca : Nat → ClassId) (base : Nat) (V : qV) : b_eqv (b_V (b_G D ca base) V 78) (q_rep (b_G D ca base) b_mem0 41 1) :=
  b_eqv_of rfl
set_option maxRecDepth 100000 in
theorem bf_41_2 (D : va_G) (ca : Nat → ClassId) (base : Nat) (V : qV) : b_eqv (b_V (b_G D ca base) V 92) (q_rep (b_G D ca base) b_mem0 41 2) :=
  b_eqv_of rfl
set_option maxRecDepth 100000 in
theorem bf_41_3 (D : va_G) (ca : Nat → ClassId) (base : Nat) (V : qV) : b_eqv (b_V (b_G D ca base) V 106) (q_rep (b_G D ca base) b_mem0 41 3) :=
  b_eqv_of rfl
set_option maxRecDepth 100000 in
theorem bf_41_4 (D : va_G) (ca : Nat → ClassId) (base : Nat) (V : qV) : b_eqv (b_V (b_G D ca base) V 120) (q_rep (b_G D ca base) b_mem0 41 4) :=
  b_eqv_of rfl
set_option maxRecDepth 100000 in
theorem bf_41_5 (D : va_G) (ca : Nat → ClassId) (base : Nat) (V : qV) : b_eqv (b_V (b_G D ca base) V 134) (q_rep (b_G D ca base) b_mem0 41 5) :=
  b_eqv_of rfl
set_option maxRecDepth 100000 in
theorem bf_41_6 (D : va_G) (ca : Nat → ClassId) (base : Nat) (V : qV) : b_eqv (b_V (b_G D ca base) V 37) (q_rep (b_G D ca base) b_mem0 41 6) :=
  b_eqv_of rfl
set_option maxRecDepth 100000 in
theorem bf_42_0 (D : va_G) (ca : Nat → ClassId) (base : Nat) (V : qV) : b_eqv (b_V (b_G D ca base) V 72) (q_rep (b_G D ca base) b_mem0 42 0) :=
  b_eqv_of rfl
set_option maxRecDepth 100000 in
theorem bf_42_1 (D : va_G) (ca : Nat → ClassId) (base : Nat) (V : qV) : b_eqv (b_V (b_G D ca base) V 86) (q_rep (b_G D ca base) b_mem0 42 1) :=
  b_eqv_of rfl
set_option maxRecDepth 100000 in
theorem bf_42_2 (D : va_G) (ca : Nat → ClassId) (base : Nat) (V : qV) : b_eqv (b_V (b_G D ca base) V 100) (q_rep (b_G D ca base) b_mem0 42 2) :=
  b_eqv_of rfl
set_option maxRecDepth 100000 in
theorem bf_42_3 (D : va_G) (ca : Nat → ClassId) (base : Nat) (V : qV) : b_eqv (b_V (b_G D ca base) V 114) (q_rep (b_G D ca base) b_mem0 42 3) :=
  b_eqv_of rfl
set_option maxRecDepth 100000 in
theorem bf_42_4 (D : va_G) (ca : Nat → ClassId) (base : Nat) (V : qV) : b_eqv (b_V (b_G D ca base) V 128) (q_rep (b_G D ca base) b_mem0 42 4) :=
  b_eqv_of rfl
set_option maxRecDepth 100000 in
theorem bf_42_5 (D : va_G) (ca : Nat → ClassId) (base : Nat) (V : qV) : b_eqv (b_V (b_G D ca base) V 142) (q_rep (b_G D ca base) b_mem0 42 5) :=
  b_eqv_of rfl
set_option maxRecDepth 100000 in
theorem bf_42_6 (D : va_G) (ca : Nat → ClassId) (base : Nat) (V : qV) : b_eqv (b_V (b_G D ca base) V 45) (q_rep (b_G D ca base) b_mem0 42 6) :=
  b_eqv_of rfl
set_option maxRecDepth 100000 in
theorem bf_43_0 (D : va_G) (ca : Nat → ClassId) (base : Nat) (V : qV) : b_eqv (b_V (b_G D ca base) V 67) (q_rep (b_G D ca base) b_mem0 43 0) :=
  b_eqv_of rfl
set_option maxRecDepth 100000 in
theorem bf_43_1 (D : va_G) (ca : Nat → ClassId) (base : Nat) (V : qV) : b_eqv (b_V (b_G D ca base) V 81) (q_rep (b_G D ca base) b_mem0 43 1) :=
  b_eqv_of rfl
set_option maxRecDepth 100000 in
theorem bf_43_2 (D : va_G) (ca : Nat → ClassId) (base : Nat) (V : qV) : b_eqv (b_V (b_G D ca base) V 95) (q_rep (b_G D ca base) b_mem0 43 2) :=
  b_eqv_of rfl
set_option maxRecDepth 100000 in
theorem bf_43_3 (D : va_G) (ca : Nat → ClassId) (base : Nat) (V : qV) : b_eqv (b_V (b_G D ca base) V 109) (q_rep (b_G D ca base) b_mem0 43 3) :=
  b_eqv_of rfl
set_option maxRecDepth 100000 in
theorem bf_43_4 (D : va_G) (ca : Nat → ClassId) (base : Nat) (V : qV) : b_eqv (b_V (b_G D ca base) V 123) (q_rep (b_G D ca base) b_mem0 43 4) :=
  b_eqv_of rfl
set_option maxRecDepth 100000 in
theorem bf_43_5 (D : va_G) (ca : Nat → ClassId) (base : Nat) (V : qV) : b_eqv (b_V (b_G D ca base) V 137) (q_rep (b_G D ca base) b_mem0 43 5) :=
  b_eqv_of rfl
set_option maxRecDepth 100000 in
theorem bf_43_6 (D : va_G) (ca : Nat → ClassId) (base : Nat) (V : qV) : b_eqv (b_V (b_G D ca base) V 40) (q_rep (b_G D ca base) b_mem0 43 6) :=
  b_eqv_of rfl
set_option maxRecDepth 100000 in
theorem bf_44_0 (D : va_G) (ca : Nat → ClassId) (base : Nat) (V : qV) : b_eqv (b_V (b_G D ca base) V 68) (q_rep (b_G D ca base) b_mem0 44 0) :=
  b_eqv_of rfl
set_option maxRecDepth 100000 in
theorem bf_44_1 (D : va_G) (ca : Nat → ClassId) (base : Nat) (V : qV) : b_eqv (b_V (b_G D ca base) V 82) (q_rep (b_G D ca base) b_mem0 44 1) :=
  b_eqv_of rfl
set_option maxRecDepth 100000 in
theorem bf_44_2 (D : va_G) (ca : Nat → ClassId) (base : Nat) (V : qV) : b_eqv (b_V (b_G D ca base) V 96) (q_rep (b_G D ca base) b_mem0 44 2) :=
  b_eqv_of rfl
set_option maxRecDepth 100000 in
theorem bf_44_3 (D : va_G) (ca : Nat → ClassId) (base : Nat) (V : qV) : b_eqv (b_V (b_G D ca base) V 110) (q_rep (b_G D ca base) b_mem0 44 3) :=
  b_eqv_of rfl
set_option maxRecDepth 100000 in
theorem bf_44_4 (D : va_G) (ca : Nat → ClassId) (base : Nat) (V : qV) : b_eqv (b_V (b_G D ca base) V 124) (q_rep (b_G D ca base) b_mem0 44 4) :=
  b_eqv_of rfl
set_option maxRecDepth 100000 in
theorem bf_44_5 (D : va_G) (ca : Nat → ClassId) (base : Nat) (V : qV) : b_eqv (b_V (b_G D ca base) V 138) (q_rep (b_G D ca base) b_mem0 44 5) :=
  b_eqv_of rfl
set_option maxRecDepth 100000 in
theorem bf_44_6 (D : va_G) (ca : Nat → ClassId) (base : Nat) (V : qV) : b_eqv (b_V (b_G D ca base) V 41) (q_rep (b_G D ca base) b_mem0 44 6) :=
  b_eqv_of rfl
set_option maxRecDepth 100000 in
theorem bf_45_0 (D : va_G) (ca : Nat → ClassId) (base : Nat) (V : qV) : b_eqv (b_V (b_G D ca base) V 70) (q_rep (b_G D ca base) b_mem0 45 0) :=
  b_eqv_of rfl
set_option maxRecDepth 100000 in
theorem bf_45_1 (D : va_G) (ca : Nat → ClassId) (base : Nat) (V : qV) : b_eqv (b_V (b_G D ca base) V 84) (q_rep (b_G D ca base) b_mem0 45 1) :=
  b_eqv_of rfl
set_option maxRecDepth 100000 in
theorem bf_45_2 (D : va_G) (ca : Nat → ClassId) (base : Nat) (V : qV) : b_eqv (b_V (b_G D ca base) V 98) (q_rep (b_G D ca base) b_mem0 45 2) :=
  b_eqv_of rfl
set_option maxRecDepth 100000 in
theorem bf_45_3 (D : va_G) (ca : Nat → ClassId) (base : Nat) (V : qV) : b_eqv (b_V (b_G D ca base) V 112) (q_rep (b_G D ca base) b_mem0 45 3) :=
  b_eqv_of rfl
set_option maxRecDepth 100000 in
theorem bf_45_4 (D : va_G) (ca : Nat → ClassId) (base : Nat) (V : qV) : b_eqv (b_V (b_G D ca base) V 126) (q_rep (b_G D ca base) b_mem0 45 4) :=
  b_eqv_of rfl
set_option maxRecDepth 100000 in
theorem bf_45_5 (D : va_G) (ca : Nat → ClassId) (base : Nat) (V : qV) : b_eqv (b_V (b_G D ca base) V 140) (q_rep (b_G D ca base) b_mem0 45 5) :=
  b_eqv_of rfl
set_option maxRecDepth 100000 in
theorem bf_45_6 (D : va_G) (ca : Nat → ClassId) (base : Nat) (V : qV) : b_eqv (b_V (b_G D ca base) V 43) (q_rep (b_G D ca base) b_mem0 45 6) :=
  b_eqv_of rfl
set_option maxRecDepth 100000 in
theorem bf_46_0 (D : va_G) (ca : Nat → ClassId) (base : Nat) (V : qV) : b_eqv (b_V (b_G D ca base) V 71) (q_rep (b_G D ca base) b_mem0 46 0) :=
  b_eqv_of rfl
set_option maxRecDepth 100000 in
theorem bf_46_1 (D : va_G) (ca : Nat → ClassId) (base : Nat) (V : qV) : b_eqv (b_V (b_G D ca base) V 85) (q_rep (b_G D ca base) b_mem0 46 1) :=
  b_eqv_of rfl
set_option maxRecDepth 100000 in
theorem bf_46_2 (D : va_G) (ca : Nat → ClassId) (base : Nat) (V : qV) : b_eqv (b_V (b_G D ca base) V 99) (q_rep (b_G D ca base) b_mem0 46 2) :=
  b_eqv_of rfl
set_option maxRecDepth 100000 in
theorem bf_46_3 (D : va_G) (ca : Nat → ClassId) (base : Nat) (V : qV) : b_eqv (b_V (b_G D ca base) V 113) (q_rep (b_G D ca base) b_mem0 46 3) :=
  b_eqv_of rfl
set_option maxRecDepth 100000 in
theorem bf_46_4 (D : va_G) (ca : Nat → ClassId) (base : Nat) (V : qV) : b_eqv (b_V (b_G D ca base) V 127) (q_rep (b_G D ca base) b_mem0 46 4) :=
  b_eqv_of rfl
set_option maxRecDepth 100000 in
theorem bf_46_5 (D : va_G) (ca : Nat → ClassId) (base : Nat) (V : qV) : b_eqv (b_V (b_G D ca base) V 141) (q_rep (b_G D ca base) b_mem0 46 5) :=
  b_eqv_of rfl
set_option maxRecDepth 100000 in
theorem bf_46_6 (D : va_G) (ca : Nat → ClassId) (base : Nat) (V : qV) : b_eqv (b_V (b_G D ca base) V 44) (q_rep (b_G D ca base) b_mem0 46 6) :=
  b_eqv_of rfl
set_option maxRecDepth 100000 in
theorem bf_47_0 (D : va_G) (ca : Nat → ClassId) (base : Nat) (V : qV) : b_eqv (b_V (b_G D ca base) V 47) (q_rep (b_G D ca base) b_mem0 47 0) :=
  b_eqv_of rfl
set_option maxRecDepth 100000 in
theorem bf_48_0 (D : va_G) (ca : Nat → ClassId) (base : Nat) (V : qV) : b_eqv (b_V (b_G D ca base) V 48) (q_rep (b_G D ca base) b_mem0 48 0) :=
  b_eqv_of rfl
set_option maxRecDepth 100000 in
theorem bf_49_0 (D : va_G) (ca : Nat → ClassId) (base : Nat) (V : qV) : b_eqv (b_V (b_G D ca base) V 49) (q_rep (b_G D ca base) b_mem0 49 0) :=
  b_eqv_of rfl
set_option maxRecDepth 100000 in
theorem bf_50_0 (D : va_G) (ca : Nat → ClassId) (base : Nat) (V : qV) : b_eqv (b_V (b_G D ca base) V 50) (q_rep (b_G D ca base) b_mem0 50 0) :=
  b_eqv_of rfl
set_option maxRecDepth 100000 in
theorem bf_51_0 (D : va_G) (ca : Nat → ClassId) (base : Nat) (V : qV) : b_eqv (b_V (b_G D ca base) V 52) (q_rep (b_G D ca base) b_mem0 51 0) :=
  b_eqv_of rfl
set_option maxRecDepth 100000 in
theorem bf_52_0 (D : va_G) (ca : Nat → ClassId) (base : Nat) (V : qV) : b_eqv (b_V (b_G D ca base) V 152) (q_rep (b_G D ca base) b_mem0 52 0) :=
  b_eqv_of rfl
set_option maxRecDepth 100000 in
theorem bf_52_1 (D : va_G) (ca : Nat → ClassId) (base : Nat) (V : qV) : b_eqv (b_V (b_G D ca base) V 155) (q_rep (b_G D ca base) b_mem0 52 1) :=
  b_eqv_of rfl
set_option maxRecDepth 100000 in
theorem bf_52_2 (D : va_G) (ca : Nat → ClassId) (base : Nat) (V : qV) : b_eqv (b_V (b_G D ca base) V 158) (q_rep (b_G D ca base) b_mem0 52 2) :=
  b_eqv_of rfl
set_option maxRecDepth 100000 in
theorem bf_52_3 (D : va_G) (ca : Nat → ClassId) (base : Nat) (V : qV) : b_eqv (b_V (b_G D ca base) V 161) (q_rep (b_G D ca base) b_mem0 52 3) :=
  b_eqv_of rfl
set_option maxRecDepth 100000 in
theorem bf_52_4 (D : va_G) (ca : Nat → ClassId) (base : Nat) (V : qV) : b_eqv (b_V (b_G D ca base) V 164) (q_rep (b_G D ca base) b_mem0 52 4) :=
  b_eqv_of rfl
set_option maxRecDepth 100000 in
theorem bf_52_5 (D : va_G) (ca : Nat → ClassId) (base : Nat) (V : qV) : b_eqv (b_V (b_G D ca base) V 167) (q_rep (b_G D ca base) b_mem0 52 5) :=
  b_eqv_of rfl
set_option maxRecDepth 100000 in
theorem bf_52_6 (D : va_G) (ca : Nat → ClassId) (base : Nat) (V : qV) : b_eqv (b_V (b_G D ca base) V 170) (q_rep (b_G D ca base) b_mem0 52 6) :=
  b_eqv_of rfl
set_option maxRecDepth 100000 in
theorem bf_52_7 (D : va_G) (ca : Nat → ClassId) (base : Nat) (V : qV) : b_eqv (b_V (b_G D ca base) V 173) (q_rep (b_G D ca base) b_mem0 52 7) :=
  b_eqv_of rfl
set_option maxRecDepth 100000 in
theorem bf_53_0 (D : va_G) (ca : Nat → ClassId) (base : Nat) (V : qV) : b_eqv (b_V (b_G D ca base) V 153) (q_rep (b_G D ca base) b_mem0 53 0) :=
  b_eqv_of rfl
set_option maxRecDepth 100000 in
theorem bf_53_1 (D : va_G) (ca : Nat → ClassId) (base : Nat) (V : qV) : b_eqv (b_V (b_G D ca base) V 156) (q_rep (b_G D ca base) b_mem0 53 1) :=
  b_eqv_of rfl
set_option maxRecDepth 100000 in
theorem bf_53_2 (D : va_G) (ca : Nat → ClassId) (base : Nat) (V : qV) : b_eqv (b_V (b_G D ca base) V 159) (q_rep (b_G D ca base) b_mem0 53 2) :=
  b_eqv_of rfl
set_option maxRecDepth 100000 in
theorem bf_53_3 (D : va_G) (ca : Nat → ClassId) (base : Nat) (V : qV) : b_eqv (b_V (b_G D ca base) V 162) (q_rep (b_G D ca base) b_mem0 53 3) :=
  b_eqv_of rfl
set_option maxRecDepth 100000 in
theorem bf_53_4 (D : va_G) (ca : Nat → ClassId) (base : Nat) (V : qV) : b_eqv (b_V (b_G D ca base) V 165) (q_rep (b_G D ca base) b_mem0 53 4) :=
  b_eqv_of rfl
set_option maxRecDepth 100000 in
theorem bf_53_5 (D : va_G) (ca : Nat → ClassId) (base : Nat) (V : qV) : b_eqv (b_V (b_G D ca base) V 168) (q_rep (b_G D ca base) b_mem0 53 5) :=
  b_eqv_of rfl
set_option maxRecDepth 100000 in
theorem bf_53_6 (D : va_G) (ca : Nat → ClassId) (base : Nat) (V : qV) : b_eqv (b_V (b_G D ca base) V 171) (q_rep (b_G D ca base) b_mem0 53 6) :=
  b_eqv_of rfl
set_option maxRecDepth 100000 in
theorem bf_53_7 (D : va_G) (ca : Nat → ClassId) (base : Nat) (V : qV) : b_eqv (b_V (b_G D ca base) V 174) (q_rep (b_G D ca base) b_mem0 53 7) :=
  b_eqv_of rfl
def N10_ : Nat := 175
def NT_ : Nat := 175
