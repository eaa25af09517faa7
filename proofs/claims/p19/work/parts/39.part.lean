/-- all, or a plural, from k on, ended by the word at e -/
def Al (w : Nat → Int32) (len k e : Nat) (a n : Int32) : Prop :=
  a = nI (AS w k (e - k)) ∧ k ≤ e ∧
  ((w k = 11 ∧ e = k ∧ n = -1 ∧ (k + 1 < len → wA (w (k + 1)) = false ∧ wP (w (k + 1)) = false))
  ∨ (w k = 11 ∧ k < e ∧ (∀ j, k < j → j < e → wA (w j) = true) ∧ wP (w e) = true ∧ n = w e - 40)
  ∨ ((∀ j, k ≤ j → j < e → w j = 10 ∨ wA (w j) = true) ∧ wP (w e) = true ∧ n = w e - 40))
def lr (s2 : S2) (c : Nat) : Int32 := if c ≠ 0 ∧ S2_roles s2 (c - 1) = 1 then 1 else 0
/-- what was read of a part: the phrases that it adds -/
def Gd (w : Nat → Int32) (len : Nat) (s2 : S2) (c k k2 : Nat) (y : Int32) (t2 : S2) : Prop :=
  (∃ kd role a n e, t2 = addP s2 c kd role a n (nI e) ∧ e + 1 = k2 ∧ k ≤ e ∧ (y = 11 ↔ role = 1) ∧
    ((kd = 15 ∧ role = 0 ∧ e = k ∧ w k = 15) ∨ (kd = 11 ∧ role = 0 ∧ Al w len k e a n) ∨ (role = lr s2 c ∧ Sg w k e a n kd)))
  ∨ (∃ a n e kd' a' n' e', t2 = addP (addP s2 c 11 0 a n (nI e)) (c + 1) kd' 1 a' n' (nI e') ∧ Al w len k e a n ∧ w (e + 1) = 12 ∧ e + 2 ≤ e' ∧ Sg w (e + 2) e' a' n' kd' ∧ e' + 1 = k2 ∧ y = 11)
def Pok (s : S6) (w : Nat → Int32) (len : Nat) (s2 : S2) (c k : Nat) (t2 : S2) (k2 : Nat) (y : Int32) : Prop :=
  DF s 1 (lr s2 c) 0 k = DF s y (lr s2 c) 0 k2 ∧ k < k2 ∧ k2 ≤ len ∧ (y = 4 ∨ y = 6 ∨ y = 7 ∨ y = 11) ∧ (y = 4 ∨ y = 6 → ¬ (k2 < len ∧ w k2 = 12)) ∧ (y = 4 → k2 < len → wA (w k2) = false ∧ wP (w k2) = false) ∧ Gd w len s2 c k k2 y t2
def Pres (s : S6) (w : Nat → Int32) (len : Nat) (s2 : S2) (c k : Nat) (r : Option (Int32 × S2 × S3)) : Prop :=
  (∃ t2 k2 a n y, r = some (1, t2, mk3 w len k2 a n) ∧ Pok s w len s2 c k t2 k2 y)
  ∨ (∃ t2 e a n, r = some (0, t2, mk3 w len e a n) ∧ e ≤ len ∧ DF s 1 (lr s2 c) 0 k = some (nI e))
theorem lr_01 (s2 : S2) (c : Nat) : lr s2 c = 0 ∨ lr s2 c = 1 := by unfold lr; split; exact Or.inr rfl; exact Or.inl rfl
theorem e_next {s2 : S2} {c : Nat} (hc : S2_count s2 = nI c) (h : c ≤ 24) : fX2_nextSingleRole s2 = some (lr s2 c) := by
  unfold fX2_nextSingleRole fX2_nextSingleRole_19 fX2_roleOf fX2_roleOf_18 fX2_hasPhrase fX2_hasPhrase_22 fX2_hasPhrase_23
  unfold lr
  rw [hc]
  by_cases z : c = 0
  · subst z
    rw [if_pos (show nI 0 - 1 < 0 by decide), bo0, bn1_s, if_pos rfl, bn1_s, if_neg (by decide), if_neg (fun q => q.1 rfl)]
  · rw [show nI c - 1 = nI (c - 1) from pk_sub (a := c) (b := 1) (by omega), if_neg (ng (by omega)), if_neg (nI_ge (by omega) (by omega)), if_neg (ge24 (by omega)), bo1, bn1_s, if_neg (by decide), ai24 (by omega), cl_nI (by omega), bn1_s]
    by_cases r : S2_roles s2 (c - 1) = 1
    · rw [if_pos r, if_pos ⟨z, r⟩]
    · rw [if_neg r, if_neg (fun q => r q.2)]
theorem en_1 (x2 : Int32) : en 1 x2 0 = if x2 = 0 then 7 else 11 := by unfold en; rw [if_pos rfl, if_neg (by decide)]
theorem en_2 (x2 : Int32) : en 2 x2 0 = if x2 = 0 then 7 else 11 := by unfold en; rw [if_pos rfl, if_neg (by decide)]
theorem en_3 (x2 : Int32) : en 3 x2 0 = if x2 = 0 then 7 else 11 := by unfold en; rw [if_pos rfl, if_neg (by decide)]
theorem eg_ne (x2 : Int32) : (if x2 = 0 then (7 : Int32) else 11) ≠ 13 := by split <;> decide
theorem DF_adj3 {s : S6} {w : Nat → Int32} {len : Nat} (hs : WS s w len) (x2 x3 : Int32) {k : Nat} : ∀ d, k + d ≤ len → (∀ j, j < d → wA (w (k + j)) = true) → DF s 3 x2 x3 k = DF s 3 x2 x3 (k + d)
  | 0, _, _ => rfl
  | d + 1, h, hj => by
    rw [DF_adj3 hs x2 x3 d (by omega) (fun j q => hj j (by omega)), DF_3 hs (by omega)]
    have a := hj d (by omega)
    have e : phN false true false false (w (k + d)) (en 3 x2 x3) = 3 := by simp [phN, a]
    rw [e, NX_ok (by decide)]
    rfl
theorem DF_adj5 {s : S6} {w : Nat → Int32} {len : Nat} (hs : WS s w len) (x2 x3 : Int32) {k : Nat} : ∀ d, k + d ≤ len → (∀ j, j < d → wA (w (k + j)) = true) → DF s 5 x2 x3 k = DF s 5 x2 x3 (k + d)
  | 0, _, _ => rfl
  | d + 1, h, hj => by
    rw [DF_adj5 hs x2 x3 d (by omega) (fun j q => hj j (by omega)), DF_5 hs (by omega), if_pos (hj d (by omega)), NX_ok (by decide)]
    rfl
theorem wA12 : wA 12 = false := by decide
theorem wA13 : wA 13 = false := by decide
theorem wP12 : wP 12 = false := by decide
theorem wP13 : wP 13 = false := by decide
theorem DF_adj4 {s : S6} {w : Nat → Int32} {len : Nat} (hs : WS s w len) (x2 x3 : Int32) {k d : Nat} (h : k + d ≤ len) (hj : ∀ j, j < d → wA (w (k + j)) = true) : DF s 4 x2 x3 k = DF s (if d = 0 then 4 else 5) x2 x3 (k + d) := by
  by_cases z : d = 0
  · subst z; rfl
  · have a := hj 0 (by omega)
    rw [Nat.add_zero] at a
    rw [if_neg z, DF_4 hs (by omega), if_neg (wA_ne a wA13), if_neg (show ¬ (w k = 16 ∧ w 0 = 2) from fun q => wA_ne a wA16 q.1), if_neg (wA_ne a wA12), if_pos a, NX_ok (by decide), DF_adj5 hs x2 x3 (d - 1) (by omega) (fun j q => by rw [show k + 1 + j = k + (j + 1) by omega]; exact hj (j + 1) (by omega)), show k + 1 + (d - 1) = k + d by omega]
theorem DF_adj1 {s : S6} {w : Nat → Int32} {len : Nat} (hs : WS s w len) (x2 x3 : Int32) {k d : Nat} (h : k + d ≤ len) (hj : ∀ j, j < d → wA (w (k + j)) = true) : DF s 1 x2 x3 k = DF s (if d = 0 then 1 else 3) x2 x3 (k + d) := by
  by_cases z : d = 0
  · subst z; rfl
  · have a := hj 0 (by omega)
    rw [Nat.add_zero] at a
    have e : phN true false false true (w k) (en 1 x2 x3) = 3 := by simp [phN, a, wA_ne a wA10]
    rw [if_neg z, DF_1 hs (by omega), e, NX_ok (by decide), DF_adj3 hs x2 x3 (d - 1) (by omega) (fun j q => by rw [show k + 1 + j = k + (j + 1) by omega]; exact hj (j + 1) (by omega)), show k + 1 + (d - 1) = k + d by omega]
theorem DF_adj2 {s : S6} {w : Nat → Int32} {len : Nat} (hs : WS s w len) (x2 x3 : Int32) {k d : Nat} (h : k + d ≤ len) (hj : ∀ j, j < d → wA (w (k + j)) = true) : DF s 2 x2 x3 k = DF s (if d = 0 then 2 else 3) x2 x3 (k + d) := by
  by_cases z : d = 0
  · subst z; rfl
  · have a := hj 0 (by omega)
    rw [Nat.add_zero] at a
    have e : phN false false false false (w k) (en 2 x2 x3) = 3 := by simp [phN, a]
    rw [if_neg z, DF_2 hs (by omega), e, NX_ok (by decide), DF_adj3 hs x2 x3 (d - 1) (by omega) (fun j q => by rw [show k + 1 + j = k + (j + 1) by omega]; exact hj (j + 1) (by omega)), show k + 1 + (d - 1) = k + d by omega]
theorem bF {b : Bool} (h : ¬ b = true) : b = false := by cases b; rfl; exact absurd rfl h
/-- the word behind the adjectives of a part without all -/
theorem DF_ghead {s : S6} {w : Nat → Int32} {len : Nat} (hs : WS s w len) (x2 : Int32) {q : Int32} (hq : q = 1 ∨ q = 2) {d p : Nat} (hp : p ≤ len) (h1 : q = 1 → d = 0 → p < len → w p ≠ 10 ∧ w p ≠ 14 ∧ w p ≠ 11 ∧ w p ≠ 15) (h2 : ¬ (p < len ∧ wA (w p) = true)) :
    (p < len ∧ wP (w p) = true → DF s (if d = 0 then q else 3) x2 0 p = DF s 6 x2 0 (p + 1))
    ∧ (¬ (p < len ∧ wP (w p) = true) → DF s (if d = 0 then q else 3) x2 0 p = if p < len ∧ wN (w p) = true then DF s (if x2 = 0 then 7 else 11) x2 0 (p + 1) else if d ≠ 0 ∧ p < len ∧ w p = 17 then DF s (if x2 = 0 then 7 else 11) x2 0 (p + 1) else some (nI p)) := by
  by_cases a : p < len
  · have hA : wA (w p) = false := bF (fun z => h2 ⟨a, z⟩)
    have key : DF s (if d = 0 then q else 3) x2 0 p = NX s (if wN (w p) = true then (if x2 = 0 then 7 else 11) else if d ≠ 0 ∧ w p = 17 then (if x2 = 0 then 7 else 11) else if wP (w p) = true then 6 else 13) x2 0 p := by
      by_cases z : d = 0
      · rw [if_pos z]
        rcases hq with rfl | rfl
        · obtain ⟨m1, m2, m3, m4⟩ := h1 rfl z a
          rw [DF_1 hs a, en_1]
          congr 1
          simp [phN, hA, m1, m2, m3, m4, z]
        · rw [DF_2 hs a, en_2]
          congr 1
          simp [phN, hA, z]
      · rw [if_neg z, DF_3 hs a, en_3]
        congr 1
        simp [phN, hA, z]
    rw [key]
    by_cases hN : wN (w p) = true
    · refine ⟨fun y => ?_, fun _ => ?_⟩
      · exact absurd (wP_N y.2) (by rw [hN]; decide)
      · rw [if_pos hN, if_pos (show p < len ∧ wN (w p) = true from ⟨a, hN⟩), NX_ok (eg_ne x2)]
    · rw [if_neg hN, if_neg (show ¬ (p < len ∧ wN (w p) = true) from fun r => hN r.2)]
      by_cases b : d ≠ 0 ∧ w p = 17
      · refine ⟨fun y => ?_, fun _ => ?_⟩
        · exact absurd b.2 (wP_ne y.2 wP17)
        · rw [if_pos b, if_pos (show d ≠ 0 ∧ p < len ∧ w p = 17 from ⟨b.1, a, b.2⟩), NX_ok (eg_ne x2)]
      · rw [if_neg b, if_neg (show ¬ (d ≠ 0 ∧ p < len ∧ w p = 17) from fun r => b ⟨r.1, r.2.2⟩)]
        refine ⟨fun y => ?_, fun y => ?_⟩
        · rw [if_pos y.2, NX_ok (by decide)]
        · rw [if_neg (show ¬ wP (w p) = true from fun r => y ⟨a, r⟩), NX_no]
  · refine ⟨fun y => absurd y.1 a, fun _ => ?_⟩
    rw [if_neg (show ¬ (p < len ∧ wN (w p) = true) from fun r => a r.1), if_neg (show ¬ (d ≠ 0 ∧ p < len ∧ w p = 17) from fun r => a r.2.1)]
    have e : p = len := by omega
    subst e
    rw [DF_end hs]
    have n : ¬ (if w 0 = 2 then (if d = 0 then q else 3) = 12 else (if d = 0 then q else 3) = 4 ∨ (if d = 0 then q else 3) = 6 ∨ (if d = 0 then q else 3) = 7 ∨ (if d = 0 then q else 3) = 11) := by
      rcases hq with rfl | rfl <;> by_cases z : d = 0 <;> by_cases y : w 0 = 2 <;> simp [z, y]
    rw [if_neg n]
