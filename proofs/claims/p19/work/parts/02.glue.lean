theorem it_t {α : Type} {c : Prop} {d : Decidable c} {a b r : α} (hc : c) (h : @ite α c d a b = r) : a = r := (if_pos hc).symm.trans h
theorem it_f {α : Type} {c : Prop} {d : Decidable c} {a b r : α} (hc : ¬ c) (h : @ite α c d a b = r) : b = r := (if_neg hc).symm.trans h
def ai {β : Type} (n : Nat) (i : Int32) (x : Option β) : Option β := if i < 0 ∨ n ≤ i.toNatClampNeg then none else x
theorem ai_ok {β : Type} {n : Nat} {i : Int32} {x : Option β} {r : β} (h : ai n i x = some r) : vp_in i n ∧ x = some r := by
  unfold ai at h
  by_cases q : i < 0 ∨ n ≤ i.toNatClampNeg
  · rw [if_pos q] at h; cases h
  · rw [if_neg q] at h; exact ⟨q, h⟩
def bo {β : Type} (v : Int32) (x : Option β) : Option β := if v = 0 ∨ v = 1 then x else none
theorem bo_ok {β : Type} {v : Int32} {x : Option β} {r : β} (h : bo v x = some r) : narrow .boolean (.int v) = .int v ∧ x = some r := by
  unfold bo at h
  by_cases q : v = 0 ∨ v = 1
  · rw [if_pos q] at h
    refine ⟨?_, h⟩
    rcases q with rfl | rfl <;> rfl
  · rw [if_neg q] at h; cases h
def bl {α β : Type} (x : α) (k : α → β) : β := k x
theorem bl_ok {α β : Type} {x y : α} {k : α → β} {r : β} (e : y = x) (h : bl x k = r) : k y = r := by rw [e]; exact h
def bn1 {α β : Type} (x : Option α) (k : α → Option β) : Option β := match x with
  | none => none
  | some a => k a
theorem bn1_ok {α β : Type} {x : Option α} {k : α → Option β} {r : β} (h : bn1 x k = some r) : ∃ a, x = some a ∧ k a = some r := by
  cases x with
  | none => cases h
  | some a => exact ⟨a, rfl, h⟩
def bn2 {α α2 β : Type} (x : Option (α × α2)) (k : α → α2 → Option β) : Option β := match x with
  | none => none
  | some a => k a.1 a.2
theorem bn2_ok {α α2 β : Type} {x : Option (α × α2)} {k : α → α2 → Option β} {r : β} (h : bn2 x k = some r) : ∃ a b, x = some (a, b) ∧ k a b = some r := by
  cases x with
  | none => cases h
  | some a => exact ⟨a.1, a.2, rfl, h⟩
def bn3 {α α2 α3 β : Type} (x : Option (α × α2 × α3)) (k : α → α2 → α3 → Option β) : Option β := match x with
  | none => none
  | some a => k a.1 a.2.1 a.2.2
theorem bn3_ok {α α2 α3 β : Type} {x : Option (α × α2 × α3)} {k : α → α2 → α3 → Option β} {r : β} (h : bn3 x k = some r) : ∃ a b c, x = some (a, b, c) ∧ k a b c = some r := by
  cases x with
  | none => cases h
  | some a => exact ⟨a.1, a.2.1, a.2.2, rfl, h⟩
def bn4 {α α2 α3 α4 β : Type} (x : Option (α × α2 × α3 × α4)) (k : α → α2 → α3 → α4 → Option β) : Option β := match x with
  | none => none
  | some a => k a.1 a.2.1 a.2.2.1 a.2.2.2
theorem bn4_ok {α α2 α3 α4 β : Type} {x : Option (α × α2 × α3 × α4)} {k : α → α2 → α3 → α4 → Option β} {r : β} (h : bn4 x k = some r) : ∃ a b c d, x = some (a, b, c, d) ∧ k a b c d = some r := by
  cases x with
  | none => cases h
  | some a => exact ⟨a.1, a.2.1, a.2.2.1, a.2.2.2, rfl, h⟩
def bn5 {α α2 α3 α4 α5 β : Type} (x : Option (α × α2 × α3 × α4 × α5)) (k : α → α2 → α3 → α4 → α5 → Option β) : Option β := match x with
  | none => none
  | some a => k a.1 a.2.1 a.2.2.1 a.2.2.2.1 a.2.2.2.2
theorem bn5_ok {α α2 α3 α4 α5 β : Type} {x : Option (α × α2 × α3 × α4 × α5)} {k : α → α2 → α3 → α4 → α5 → Option β} {r : β} (h : bn5 x k = some r) : ∃ a b c d e, x = some (a, b, c, d, e) ∧ k a b c d e = some r := by
  cases x with
  | none => cases h
  | some a => exact ⟨a.1, a.2.1, a.2.2.1, a.2.2.2.1, a.2.2.2.2, rfl, h⟩
def bn6 {α α2 α3 α4 α5 α6 β : Type} (x : Option (α × α2 × α3 × α4 × α5 × α6)) (k : α → α2 → α3 → α4 → α5 → α6 → Option β) : Option β := match x with
  | none => none
  | some a => k a.1 a.2.1 a.2.2.1 a.2.2.2.1 a.2.2.2.2.1 a.2.2.2.2.2
theorem bn6_ok {α α2 α3 α4 α5 α6 β : Type} {x : Option (α × α2 × α3 × α4 × α5 × α6)} {k : α → α2 → α3 → α4 → α5 → α6 → Option β} {r : β} (h : bn6 x k = some r) : ∃ a b c d e f, x = some (a, b, c, d, e, f) ∧ k a b c d e f = some r := by
  cases x with
  | none => cases h
  | some a => exact ⟨a.1, a.2.1, a.2.2.1, a.2.2.2.1, a.2.2.2.2.1, a.2.2.2.2.2, rfl, h⟩
def bn7 {α α2 α3 α4 α5 α6 α7 β : Type} (x : Option (α × α2 × α3 × α4 × α5 × α6 × α7)) (k : α → α2 → α3 → α4 → α5 → α6 → α7 → Option β) : Option β := match x with
  | none => none
  | some a => k a.1 a.2.1 a.2.2.1 a.2.2.2.1 a.2.2.2.2.1 a.2.2.2.2.2.1 a.2.2.2.2.2.2
theorem bn7_ok {α α2 α3 α4 α5 α6 α7 β : Type} {x : Option (α × α2 × α3 × α4 × α5 × α6 × α7)} {k : α → α2 → α3 → α4 → α5 → α6 → α7 → Option β} {r : β} (h : bn7 x k = some r) : ∃ a b c d e f g, x = some (a, b, c, d, e, f, g) ∧ k a b c d e f g = some r := by
  cases x with
  | none => cases h
  | some a => exact ⟨a.1, a.2.1, a.2.2.1, a.2.2.2.1, a.2.2.2.2.1, a.2.2.2.2.2.1, a.2.2.2.2.2.2, rfl, h⟩
