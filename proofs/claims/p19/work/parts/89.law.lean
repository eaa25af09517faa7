def z0 : S0 := (0, 0, 0, (-1), (-1), 0)
def z1 : S1 := ((-1), 0, 0, (-1), 0)
def z2 : S2 := ((-1), 0, (fun _ => 0), (fun _ => 0), (fun _ => 0), (fun _ => 0), (fun _ => 0), (fun _ => 0))
def z3 : S3 := ((fun _ => 0), 0, 0, 0, (-1))
def z4 : S4 := ((fun _ => 0), (fun _ => 0), (fun _ => 0), 0, 0, 0)
def z5 : S5 := ((-1), (-1), 0, (-1), 0)
def zyz : Syz := (upd (upd (upd (upd (upd (upd (fun _ => 0) (2 : Int32).toNatClampNeg (-1)) (3 : Int32).toNatClampNeg (-1)) (4 : Int32).toNatClampNeg (-1)) (7 : Int32).toNatClampNeg (-1)) (8 : Int32).toNatClampNeg (-1)) (10 : Int32).toNatClampNeg (-1))
def z6 : S6 := (0, (fun _ => 0), (fun _ => 0), (fun _ => 0), (fun _ => 0), (fun _ => 0), 0, (fun _ => 0), (-1), (-1), (-1), 0, 0, (-1), (-1), 0, 0, (fun _ => 0), (fun _ => 0), 0, (-1), 0, 0, 0, 0)
theorem SR_start : SR z1 z2 z3 z4 z5 z6 := by
  refine ⟨0, 0, 0, 0, fun _ => 0, 0, -1, ⟨by omega, rfl, rfl, rfl, by decide, by decide, fun t _ => ⟨Nat.zero_testBit t, Nat.zero_testBit t⟩, [], rfl, fun t => ?_, trivial⟩, ⟨rfl, rfl, rfl, rfl, fun t _ => ?_, fun t _ => ?_⟩, ⟨rfl, ⟨0, by decide, rfl, rfl⟩, rfl, rfl, Or.inl ⟨rfl, rfl⟩⟩, ⟨rfl, by omega, rfl, rfl⟩, ⟨rfl, rfl, rfl⟩, Or.inl ⟨rfl, rfl, rfl⟩⟩
  · constructor
    · intro q; cases q
    · intro q; omega
  · rw [Nat.zero_testBit, if_neg (by decide)]
    rfl
  · rw [Nat.zero_testBit, if_neg (by decide)]
    rfl
theorem LR_start : LRw z1 z2 z3 z4 z5 z6 (fun _ => 0) zyz (fun _ => 0) (fun _ => 0) (fun _ => 0) 0 :=
  ⟨SR_start, rfl, rfl, ⟨by decide, by decide, fun k hk => absurd hk (by omega), rfl⟩, fun k hk => absurd hk (by omega), fun _ _ _ => rfl, ⟨by decide, by decide, by decide, by decide, by decide, by decide, by decide, by decide⟩, ⟨rfl, rfl, by decide⟩, by decide⟩
theorem pure_law_open (L : Nat) (xs : Nat → Int32) : fL_law_66 L xs 64 z0 z1 z2 z3 z4 z5 (fun _ => 0) zyz (fun _ => 0) (fun _ => 0) (fun _ => 0) 0 = some 1 :=
  l_loop L xs 40 64 0 (by decide) (by decide) z0 z1 z2 z3 z4 z5 z6 (fun _ => 0) zyz (fun _ => 0) (fun _ => 0) (fun _ => 0) 0 LR_start
