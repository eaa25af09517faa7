def z0 : S0 := (0, 0, 0, (-1), (-1), 0)
def z1 : S1 := ((-1), 0, 0, (-1), 0)
def z2 : S2 := ((-1), 0, (fun _ => 0), (fun _ => 0), (fun _ => 0), (fun _ => 0), (fun _ => 0), (fun _ => 0))
def z3 : S3 := ((fun _ => 0), 0, 0, 0, (-1))
def z4 : S4 := ((fun _ => 0), (fun _ => 0), (fun _ => 0), 0, 0, 0)
def z5 : S5 := ((-1), (-1), 0, (-1), 0)
def z6 : S6 := (0, (fun _ => 0), (fun _ => 0), (fun _ => 0), (fun _ => 0), (fun _ => 0), 0, (fun _ => 0), (-1), (-1), (-1), 0, 0, (-1), (-1), 0, 0, (fun _ => 0), (fun _ => 0), 0, (-1), 0, 0, 0, 0)
def zO : SO := (fun _ => 0)
theorem SR_start : SR z1 z2 z3 z4 z5 z6 := by
  refine ⟨0, 0, 0, 0, fun _ => 0, 0, -1, ⟨by omega, rfl, rfl, rfl, by decide, by decide, fun t _ => ⟨Nat.zero_testBit t, Nat.zero_testBit t⟩, [], rfl, fun t => ?_, trivial⟩, ⟨rfl, rfl, rfl, rfl, fun t _ => ?_, fun t _ => ?_⟩, ⟨rfl, ⟨0, by decide, rfl, rfl⟩, rfl, rfl, Or.inl ⟨rfl, rfl⟩⟩, ⟨rfl, by omega, rfl, rfl⟩, ⟨rfl, rfl, rfl⟩, Or.inl ⟨rfl, rfl, rfl⟩⟩
  · constructor
    · intro q; cases q
    · intro q; omega
  · rw [Nat.zero_testBit, if_neg (by decide)]
    rfl
  · rw [Nat.zero_testBit, if_neg (by decide)]
    rfl
theorem lgc (x : Int64) : lg_cmp x x = 0 := (lg_cmp_eq x x).mpr rfl
theorem ail {β : Type} {L j : Nat} {x : Option β} (h : j < L) (hL : L ≤ 2048) : ai L (nI j) x = x := ai_s h (by omega)
theorem nI_p (a b : Nat) : nI a + nI b = nI (a + b) := nI_add a b
/-- the law's loop -/
theorem e_law (L : Nat) (xs : Nat → Int32) (hL : L ≤ 2048) : ∀ (fu j : Nat) (s0 : S0) (s1 : S1) (s2 : S2) (s3 : S3) (s4 : S4) (s5 : S5) (m : S6) (sO : SO), 513 ≤ j + fu → SR s1 s2 s3 s4 s5 m → fL_law_23 L xs fu s0 s1 s2 s3 s4 s5 m sO (nI (4 * j)) = some 1
  | 0, j, s0, s1, s2, s3, s4, s5, m, sO, hf, h => by
    sorry
  | fu + 1, j, s0, s1, s2, s3, s4, s5, m, sO, hf, h => by
    sorry
theorem pure_law_open (L : Nat) (xs : Nat → Int32) (hL : L ≤ 2048) : fL_law_23 L xs 513 z0 z1 z2 z3 z4 z5 z6 zO 0 = some 1 :=
  e_law L xs hL 513 0 z0 z1 z2 z3 z4 z5 z6 zO (by omega) SR_start
