def b_m0 : Nat → Nat → Nat → Int32 := fun k i => match k with
  | 2 => fun s => match s with
    | 12 => 2
    | 13 => 1
    | 17 => (-9)
    | _ => 0
  | 3 => fun s => match s with
    | 0 => 4
    | 1 => 10
    | _ => 0
  | 5 => fun s => match s with
    | 2 => (-9)
    | _ => 0
  | 7 => fun s => match s with
    | 6 => (-9)
    | _ => 0
  | 8 => fun s => match s with
    | 0 => (-9)
    | _ => 0
  | 9 => fun s => match s with
    | 2 => (-9)
    | _ => 0
  | 33 => match i with
    | 0 => (upd (upd (upd (upd (upd (upd (fun _ => 0) (Int32.toNatClampNeg 0) (-1)) (Int32.toNatClampNeg 1) (-1)) (Int32.toNatClampNeg 2) (-1)) (Int32.toNatClampNeg 3) (-1)) (Int32.toNatClampNeg 4) (-1)) (Int32.toNatClampNeg 5) (-1))
    | 1 => (upd (upd (upd (upd (upd (upd (fun _ => 0) (Int32.toNatClampNeg 0) (-1)) (Int32.toNatClampNeg 1) (-1)) (Int32.toNatClampNeg 2) (-1)) (Int32.toNatClampNeg 3) (-1)) (Int32.toNatClampNeg 4) (-1)) (Int32.toNatClampNeg 5) (-1))
    | _ => (upd (upd (upd (upd (upd (upd (upd (upd (fun _ => 0) (Int32.toNatClampNeg 0) (-1)) (Int32.toNatClampNeg 1) (-1)) (Int32.toNatClampNeg 2) (-1)) (Int32.toNatClampNeg 3) (-1)) (Int32.toNatClampNeg 4) (-1)) (Int32.toNatClampNeg 5) (-1)) (Int32.toNatClampNeg 6) (-1)) (Int32.toNatClampNeg 7) (-1))
  | 66 => (upd (upd (upd (upd (upd (upd (fun _ => 0) (Int32.toNatClampNeg 0) (-9)) (Int32.toNatClampNeg 1) (-9)) (Int32.toNatClampNeg 2) (-9)) (Int32.toNatClampNeg 3) (-9)) (Int32.toNatClampNeg 4) (-9)) (Int32.toNatClampNeg 5) (-9))
  | 69 => (upd (upd (upd (upd (upd (upd (fun _ => 0) (Int32.toNatClampNeg 0) (-9)) (Int32.toNatClampNeg 1) (-9)) (Int32.toNatClampNeg 2) (-9)) (Int32.toNatClampNeg 3) (-9)) (Int32.toNatClampNeg 4) (-9)) (Int32.toNatClampNeg 5) (-9))
  | 74 => (upd (upd (upd (upd (upd (upd (upd (upd (fun _ => 0) (Int32.toNatClampNeg 0) (-9)) (Int32.toNatClampNeg 1) (-9)) (Int32.toNatClampNeg 2) (-9)) (Int32.toNatClampNeg 3) (-9)) (Int32.toNatClampNeg 4) (-9)) (Int32.toNatClampNeg 5) (-9)) (Int32.toNatClampNeg 6) (-9)) (Int32.toNatClampNeg 7) (-9))
  | 105 => (upd (upd (upd (upd (upd (upd (upd (upd (fun _ => 0) (Int32.toNatClampNeg 0) (-9)) (Int32.toNatClampNeg 1) (-9)) (Int32.toNatClampNeg 2) (-9)) (Int32.toNatClampNeg 3) (-9)) (Int32.toNatClampNeg 4) (-9)) (Int32.toNatClampNeg 5) (-9)) (Int32.toNatClampNeg 6) (-9)) (Int32.toNatClampNeg 7) (-9))
  | 108 => (upd (upd (upd (upd (upd (upd (upd (upd (fun _ => 0) (Int32.toNatClampNeg 0) (-9)) (Int32.toNatClampNeg 1) (-9)) (Int32.toNatClampNeg 2) (-9)) (Int32.toNatClampNeg 3) (-9)) (Int32.toNatClampNeg 4) (-9)) (Int32.toNatClampNeg 5) (-9)) (Int32.toNatClampNeg 6) (-9)) (Int32.toNatClampNeg 7) (-9))
  | _ => fun _ => 0
def b_l0 : Nat → Nat → Nat → Int64 := fun k _ => match k with
  | 0 => fun s => match s with
    | 18 => 1
    | _ => 0
  | 11 => fun s => match s with
    | 5 => 1
    | _ => 0
  | _ => fun _ => 0
def b_mem0 : qM := (b_m0, b_l0, (51, 0))
