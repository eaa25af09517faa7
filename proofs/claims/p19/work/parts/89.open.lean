def z0 : S0 := (0, 0, 0, (-1), (-1), 0)
def z1 : S1 := ((-1), 0, 0, (-1), 0)
def z2 : S2 := ((-1), 0, (fun _ => 0), (fun _ => 0), (fun _ => 0), (fun _ => 0), (fun _ => 0), (fun _ => 0))
def z3 : S3 := ((fun _ => 0), 0, 0, 0, (-1))
def z4 : S4 := ((fun _ => 0), (fun _ => 0), (fun _ => 0), 0, 0, 0)
def z5 : S5 := ((-1), (-1), 0, (-1), 0)
def zyz : Syz := (upd (upd (upd (upd (upd (upd (fun _ => 0) (2 : Int32).toNatClampNeg (-1)) (3 : Int32).toNatClampNeg (-1)) (4 : Int32).toNatClampNeg (-1)) (7 : Int32).toNatClampNeg (-1)) (8 : Int32).toNatClampNeg (-1)) (10 : Int32).toNatClampNeg (-1))
theorem pure_law_open (L : Nat) (xs : Nat → Int32) : fL_law_66 L xs 64 z0 z1 z2 z3 z4 z5 (fun _ => 0) zyz (fun _ => 0) (fun _ => 0) (fun _ => 0) 0 = some 1 := sorry
