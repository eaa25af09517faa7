def z0 : S0 := (0, 0, 0, (-1), (-1), 0)
def z1 : S1 := ((-1), 0, 0, (-1), 0)
def z2 : S2 := ((-1), 0, (fun _ => 0), (fun _ => 0), (fun _ => 0), (fun _ => 0), (fun _ => 0), (fun _ => 0))
def z3 : S3 := ((fun _ => 0), 0, 0, 0, (-1))
def z4 : S4 := ((fun _ => 0), (fun _ => 0), (fun _ => 0), 0, 0, 0)
def z5 : S5 := ((-1), (-1), 0, (-1), 0)
def z6 : S6 := (0, (fun _ => 0), (fun _ => 0), (fun _ => 0), (fun _ => 0), (fun _ => 0), 0, (fun _ => 0), (-1), (-1), (-1), 0, 0, (-1), (-1), 0, 0, (fun _ => 0), (fun _ => 0), 0, (-1), 0, 0, 0, 0)
def zO : SO := (fun _ => 0)
theorem pure_law_open (L : Nat) (xs : Nat → Int32) (hL : L ≤ 2048) : fL_law_23 L xs 513 z0 z1 z2 z3 z4 z5 z6 zO 0 = some 1 := sorry
