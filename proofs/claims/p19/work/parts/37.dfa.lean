theorem e_mA {v : Int32} : fX6_isAdjective v = some (if wA v = true then 1 else 0) := by
  unfold fX6_isAdjective fX6_isAdjective_16 fX6_isAdjective_17
  by_cases a : v < 20 <;> by_cases b : 26 ≤ v <;> simp [wA, a, b, bo0, bo1]
theorem e_mN {v : Int32} : fX6_isNoun v = some (if wN v = true then 1 else 0) := by
  unfold fX6_isNoun fX6_isNoun_16 fX6_isNoun_17
  by_cases a : v < 30 <;> by_cases b : 38 ≤ v <;> simp [wN, a, b, bo0, bo1]
theorem e_mP {v : Int32} : fX6_isPlural v = some (if wP v = true then 1 else 0) := by
  unfold fX6_isPlural fX6_isPlural_16 fX6_isPlural_17
  by_cases a : v < 40 <;> by_cases b : 48 ≤ v <;> simp [wP, a, b, bo0, bo1]
/-- what a word makes of a phrase that is being read -/
def phN (st ad sg part : Bool) (v e : Int32) : Int32 :=
  if st = true ∧ v = 10 then (if sg = true then 9 else 2)
  else if wA v = true then (if sg = true then 10 else 3)
  else if wN v = true then e
  else if st = true ∧ v = 14 then e
  else if ad = true ∧ v = 17 then e
  else if sg = true then 13
  else if wP v = true then 6
  else if part = true ∧ v = 11 then 4
  else if part = true ∧ v = 15 then 7
  else 13
def bi (b : Bool) : Int32 := if b = true then 1 else 0
theorem bi_0 (b : Bool) : (bi b = 0) ↔ (b = false) := by cases b <;> decide
theorem wA10 : wA 10 = false := by decide
theorem wA11 : wA 11 = false := by decide
theorem wA14 : wA 14 = false := by decide
theorem wA15 : wA 15 = false := by decide
theorem wA17 : wA 17 = false := by decide
theorem wN10 : wN 10 = false := by decide
theorem wN11 : wN 11 = false := by decide
theorem wN14 : wN 14 = false := by decide
theorem wN15 : wN 15 = false := by decide
theorem wN17 : wN 17 = false := by decide
theorem wP10 : wP 10 = false := by decide
theorem wP11 : wP 11 = false := by decide
theorem wP14 : wP 14 = false := by decide
theorem wP15 : wP 15 = false := by decide
theorem wP17 : wP 17 = false := by decide
theorem e_ph58 (a0 v e : Int32) (st ad sg : Bool) : fX6_phrase_58 a0 v e (bi sg) (bi st) (bi ad) = some (phN st ad sg (decide (a0 = 1)) v e) := by
  unfold fX6_phrase_58 fX6_phrase_82 fX6_phrase_118 fX6_phrase_131 fX6_phrase_165 fX6_phrase_181 fX6_phrase_183 fX6_phrase_129 fX6_phrase_99 fX6_phrase_81 phN
  simp only [e_mA, e_mN, e_mP, bn1_s, bi_0]
  by_cases c10 : v = 10
  · subst c10
    cases st <;> cases ad <;> cases sg <;> simp [wA10, wN10, wP10]
  cases hA : wA v
  rotate_left
  · cases st <;> cases ad <;> cases sg <;> simp [c10]
  cases hN : wN v
  rotate_left
  · cases st <;> cases ad <;> cases sg <;> simp [c10]
  by_cases c14 : v = 14
  · subst c14
    cases st <;> cases ad <;> cases sg <;> simp [wP14]
  by_cases c17 : v = 17
  · subst c17
    cases st <;> cases ad <;> cases sg <;> simp [wP17]
  cases hP : wP v
  rotate_left
  · cases st <;> cases ad <;> cases sg <;> simp [c10, c14, c17]
  by_cases c11 : v = 11
  · subst c11
    by_cases a1 : a0 = 1 <;> cases st <;> cases ad <;> cases sg <;> simp [a1]
  by_cases c15 : v = 15
  · subst c15
    by_cases a1 : a0 = 1 <;> cases st <;> cases ad <;> cases sg <;> simp [a1]
  by_cases a1 : a0 = 1 <;> cases st <;> cases ad <;> cases sg <;> simp [a1, c10, c14, c17, c11, c15]
theorem e_ph1 (v e : Int32) : fX6_phrase 1 v e = some (phN true false false true v e) := e_ph58 1 v e true false false
theorem e_ph2 (v e : Int32) : fX6_phrase 2 v e = some (phN false false false false v e) := e_ph58 2 v e false false false
theorem e_ph3 (v e : Int32) : fX6_phrase 3 v e = some (phN false true false false v e) := e_ph58 3 v e false true false
theorem e_ph8 (v e : Int32) : fX6_phrase 8 v e = some (phN true false true false v e) := e_ph58 8 v e true false true
theorem e_ph9 (v e : Int32) : fX6_phrase 9 v e = some (phN false false true false v e) := e_ph58 9 v e false false true
theorem e_ph10 (v e : Int32) : fX6_phrase 10 v e = some (phN false true true false v e) := e_ph58 10 v e false true true
def DF (s : S6) (x1 x2 x3 : Int32) (k : Nat) : Option Int32 := fX6_wrongOrder_9 s (65 - k) x1 x2 x3 (nI k)
def NX (s : S6) (y x2 x3 : Int32) (k : Nat) : Option Int32 := if y = 13 then some (nI k) else DF s y x2 x3 (k + 1)
def en (x1 x2 x3 : Int32) : Int32 := if x3 = 0 then (if 8 ≤ x1 then 11 else if x2 = 0 then 7 else 11) else 12
def WS (s : S6) (w : Nat → Int32) (len : Nat) : Prop := S6_words s = w ∧ S6_count s = nI len ∧ 1 ≤ len ∧ len ≤ 24
theorem n234 (s : S6) {k : Nat} (hk : k < 24) (y x2 x3 : Int32) : fX6_wrongOrder_234 s (fun a b c d => fX6_wrongOrder_9 s (64 - k) a b c d) y x2 x3 (nI k) = NX s y x2 x3 k := by
  unfold fX6_wrongOrder_234 NX DF
  rw [nI_1, show 65 - (k + 1) = 64 - k by omega]
theorem DF_step {s : S6} {w : Nat → Int32} {len : Nat} (hs : WS s w len) {k : Nat} (hk : k < len) (x1 x2 x3 : Int32) : DF s x1 x2 x3 k = fX6_wrongOrder_53 s (fun a b c d => fX6_wrongOrder_9 s (64 - k) a b c d) x1 x2 x3 (nI k) (w k) (en x1 x2 x3) := by
  obtain ⟨rfl, h2, h3, h4⟩ := hs
  unfold DF en
  rw [show 65 - k = (64 - k) + 1 by omega, fX6_wrongOrder_9, h2, if_neg (nI_ge hk (by omega)), ai24 (by omega), cl_nI (by omega)]
  unfold fX6_wrongOrder_46
  by_cases a : x3 = 0
  · rw [if_pos a, if_pos a]
    by_cases b : 8 ≤ x1
    · rw [if_pos b, if_pos b]
    · rw [if_neg b, if_neg b]
      by_cases c : x2 = 0
      · rw [if_pos c, if_pos c]
      · rw [if_neg c, if_neg c]
  · rw [if_neg a, if_neg a]
theorem DF_end {s : S6} {w : Nat → Int32} {len : Nat} (hs : WS s w len) (x1 x2 x3 : Int32) : DF s x1 x2 x3 len = some (if (if w 0 = 2 then x1 = 12 else x1 = 4 ∨ x1 = 6 ∨ x1 = 7 ∨ x1 = 11) then -1 else nI len) := by
  obtain ⟨rfl, h2, h3, h4⟩ := hs
  unfold DF
  rw [show 65 - len = (64 - len) + 1 by omega, fX6_wrongOrder_9, h2, if_pos (nI_le (Nat.le_refl len) (by omega))]
  unfold fX6_wrongOrder_272 fX6_wrongOrder_277 fX6_wrongOrder_319
  have e : ∀ x : Option Int32, ai 24 0 x = x := fun x => ai24 (j := 0) (by decide)
  simp only [e, h2]
  have z : (0 : Int32).toNatClampNeg = 0 := by decide
  rw [z]
  by_cases q : S6_words s 0 = 2
  · simp only [if_pos q]
    by_cases c : x1 = 12
    · subst c; simp
    · simp only [if_neg c]
      by_cases c4 : x1 = 4
      · simp [c4]
      by_cases c6 : x1 = 6
      · simp [c6]
      by_cases c7 : x1 = 7
      · simp [c7]
      by_cases c11 : x1 = 11
      · simp [c11]
      simp [c4, c6, c7, c11]
  · simp only [if_neg q]
    by_cases c4 : x1 = 4
    · simp [c4]
    by_cases c6 : x1 = 6
    · simp [c6]
    by_cases c7 : x1 = 7
    · simp [c7]
    by_cases c11 : x1 = 11
    · simp [c11]
    simp [c4, c6, c7, c11]
theorem DF_1 {s : S6} {w : Nat → Int32} {len : Nat} (hs : WS s w len) {k : Nat} (hk : k < len) (x2 x3 : Int32) : DF s 1 x2 x3 k = NX s (phN true false false true (w k) (en 1 x2 x3)) x2 x3 k := by
  have h4 := hs.2.2.2
  rw [DF_step hs hk]
  show bn1 (fX6_phrase 1 (w k) (en 1 x2 x3)) (fun r => fX6_wrongOrder_234 s (fun a b c d => fX6_wrongOrder_9 s (64 - k) a b c d) r x2 x3 (nI k)) = _
  rw [e_ph1, bn1_s, n234 s (by omega)]
theorem DF_2 {s : S6} {w : Nat → Int32} {len : Nat} (hs : WS s w len) {k : Nat} (hk : k < len) (x2 x3 : Int32) : DF s 2 x2 x3 k = NX s (phN false false false false (w k) (en 2 x2 x3)) x2 x3 k := by
  have h4 := hs.2.2.2
  rw [DF_step hs hk]
  show bn1 (fX6_phrase 2 (w k) (en 2 x2 x3)) (fun r => fX6_wrongOrder_234 s (fun a b c d => fX6_wrongOrder_9 s (64 - k) a b c d) r x2 x3 (nI k)) = _
  rw [e_ph2, bn1_s, n234 s (by omega)]
theorem DF_3 {s : S6} {w : Nat → Int32} {len : Nat} (hs : WS s w len) {k : Nat} (hk : k < len) (x2 x3 : Int32) : DF s 3 x2 x3 k = NX s (phN false true false false (w k) (en 3 x2 x3)) x2 x3 k := by
  have h4 := hs.2.2.2
  rw [DF_step hs hk]
  show bn1 (fX6_phrase 3 (w k) (en 3 x2 x3)) (fun r => fX6_wrongOrder_234 s (fun a b c d => fX6_wrongOrder_9 s (64 - k) a b c d) r x2 x3 (nI k)) = _
  rw [e_ph3, bn1_s, n234 s (by omega)]
theorem DF_8 {s : S6} {w : Nat → Int32} {len : Nat} (hs : WS s w len) {k : Nat} (hk : k < len) (x2 x3 : Int32) : DF s 8 x2 x3 k = NX s (phN true false true false (w k) (en 8 x2 x3)) x2 x3 k := by
  have h4 := hs.2.2.2
  rw [DF_step hs hk]
  show bn1 (fX6_phrase 8 (w k) (en 8 x2 x3)) (fun r => fX6_wrongOrder_234 s (fun a b c d => fX6_wrongOrder_9 s (64 - k) a b c d) r x2 x3 (nI k)) = _
  rw [e_ph8, bn1_s, n234 s (by omega)]
theorem DF_9 {s : S6} {w : Nat → Int32} {len : Nat} (hs : WS s w len) {k : Nat} (hk : k < len) (x2 x3 : Int32) : DF s 9 x2 x3 k = NX s (phN false false true false (w k) (en 9 x2 x3)) x2 x3 k := by
  have h4 := hs.2.2.2
  rw [DF_step hs hk]
  show bn1 (fX6_phrase 9 (w k) (en 9 x2 x3)) (fun r => fX6_wrongOrder_234 s (fun a b c d => fX6_wrongOrder_9 s (64 - k) a b c d) r x2 x3 (nI k)) = _
  rw [e_ph9, bn1_s, n234 s (by omega)]
theorem DF_10 {s : S6} {w : Nat → Int32} {len : Nat} (hs : WS s w len) {k : Nat} (hk : k < len) (x2 x3 : Int32) : DF s 10 x2 x3 k = NX s (phN false true true false (w k) (en 10 x2 x3)) x2 x3 k := by
  have h4 := hs.2.2.2
  rw [DF_step hs hk]
  show bn1 (fX6_phrase 10 (w k) (en 10 x2 x3)) (fun r => fX6_wrongOrder_234 s (fun a b c d => fX6_wrongOrder_9 s (64 - k) a b c d) r x2 x3 (nI k)) = _
  rw [e_ph10, bn1_s, n234 s (by omega)]
theorem DF_7 {s : S6} {w : Nat → Int32} {len : Nat} (hs : WS s w len) {k : Nat} (hk : k < len) (x2 x3 : Int32) : DF s 7 x2 x3 k = if w k = 13 then NX s 1 0 x3 k else if w k = 16 ∧ w 0 = 2 then NX s 8 x2 1 k else NX s 13 x2 x3 k := by
  have h4 := hs.2.2.2
  rw [DF_step hs hk]
  show fX6_wrongOrder_83 s (fun a b c d => fX6_wrongOrder_9 s (64 - k) a b c d) 7 x2 x3 (nI k) (w k) (en 7 x2 x3) 1 = _
  unfold fX6_wrongOrder_83 fX6_wrongOrder_108 fX6_wrongOrder_114 fX6_wrongOrder_144 fX6_wrongOrder_155 fX6_wrongOrder_168 fX6_wrongOrder_178 fX6_wrongOrder_205 fX6_wrongOrder_220 fX6_wrongOrder_233
  have e : ∀ x : Option Int32, ai 24 0 x = x := fun x => ai24 (j := 0) (by decide)
  have z : (0 : Int32).toNatClampNeg = 0 := by decide
  simp only [n234 s (show k < 24 by omega), e_mA, e_mP, bn1_s, e, z, hs.1]
  by_cases c13 : w k = 13
  · simp [c13]
  by_cases c16 : w k = 16
  · by_cases c2 : w 0 = 2
    · simp [c16, c2]
    · simp [c16, c2]
  simp [c13, c16]
theorem DF_11 {s : S6} {w : Nat → Int32} {len : Nat} (hs : WS s w len) {k : Nat} (hk : k < len) (x2 x3 : Int32) : DF s 11 x2 x3 k = if w k = 13 then NX s 1 1 x3 k else if w k = 16 ∧ w 0 = 2 then NX s 8 x2 1 k else NX s 13 x2 x3 k := by
  have h4 := hs.2.2.2
  rw [DF_step hs hk]
  show fX6_wrongOrder_83 s (fun a b c d => fX6_wrongOrder_9 s (64 - k) a b c d) 11 x2 x3 (nI k) (w k) (en 11 x2 x3) 1 = _
  unfold fX6_wrongOrder_83 fX6_wrongOrder_108 fX6_wrongOrder_114 fX6_wrongOrder_144 fX6_wrongOrder_155 fX6_wrongOrder_168 fX6_wrongOrder_178 fX6_wrongOrder_205 fX6_wrongOrder_220 fX6_wrongOrder_233
  have e : ∀ x : Option Int32, ai 24 0 x = x := fun x => ai24 (j := 0) (by decide)
  have z : (0 : Int32).toNatClampNeg = 0 := by decide
  simp only [n234 s (show k < 24 by omega), e_mA, e_mP, bn1_s, e, z, hs.1]
  by_cases c13 : w k = 13
  · simp [c13]
  by_cases c16 : w k = 16
  · by_cases c2 : w 0 = 2
    · simp [c16, c2]
    · simp [c16, c2]
  simp [c13, c16]
theorem DF_6 {s : S6} {w : Nat → Int32} {len : Nat} (hs : WS s w len) {k : Nat} (hk : k < len) (x2 x3 : Int32) : DF s 6 x2 x3 k = if w k = 13 then NX s 1 0 x3 k else if w k = 16 ∧ w 0 = 2 then NX s 8 x2 1 k else if w k = 12 then NX s 8 x2 x3 k else NX s 13 x2 x3 k := by
  have h4 := hs.2.2.2
  rw [DF_step hs hk]
  show fX6_wrongOrder_83 s (fun a b c d => fX6_wrongOrder_9 s (64 - k) a b c d) 6 x2 x3 (nI k) (w k) (en 6 x2 x3) 1 = _
  unfold fX6_wrongOrder_83 fX6_wrongOrder_108 fX6_wrongOrder_114 fX6_wrongOrder_144 fX6_wrongOrder_155 fX6_wrongOrder_168 fX6_wrongOrder_178 fX6_wrongOrder_205 fX6_wrongOrder_220 fX6_wrongOrder_233
  have e : ∀ x : Option Int32, ai 24 0 x = x := fun x => ai24 (j := 0) (by decide)
  have z : (0 : Int32).toNatClampNeg = 0 := by decide
  simp only [n234 s (show k < 24 by omega), e_mA, e_mP, bn1_s, e, z, hs.1]
  by_cases c13 : w k = 13
  · simp [c13]
  by_cases c16 : w k = 16
  · by_cases c2 : w 0 = 2
    · simp [c16, c2]
    · simp [c16, c2]
  by_cases c12 : w k = 12
  · simp [c12]
  simp [c13, c16, c12]
theorem wA16 : wA 16 = false := by decide
theorem wP16 : wP 16 = false := by decide
theorem DF_4 {s : S6} {w : Nat → Int32} {len : Nat} (hs : WS s w len) {k : Nat} (hk : k < len) (x2 x3 : Int32) : DF s 4 x2 x3 k = if w k = 13 then NX s 1 0 x3 k else if w k = 16 ∧ w 0 = 2 then NX s 8 x2 1 k else if w k = 12 then NX s 8 x2 x3 k else if wA (w k) = true then NX s 5 x2 x3 k else if wP (w k) = true then NX s 6 x2 x3 k else NX s 13 x2 x3 k := by
  have h4 := hs.2.2.2
  rw [DF_step hs hk]
  show fX6_wrongOrder_83 s (fun a b c d => fX6_wrongOrder_9 s (64 - k) a b c d) 4 x2 x3 (nI k) (w k) (en 4 x2 x3) 1 = _
  unfold fX6_wrongOrder_83 fX6_wrongOrder_108 fX6_wrongOrder_114 fX6_wrongOrder_144 fX6_wrongOrder_155 fX6_wrongOrder_168 fX6_wrongOrder_178 fX6_wrongOrder_205 fX6_wrongOrder_220 fX6_wrongOrder_233
  have e : ∀ x : Option Int32, ai 24 0 x = x := fun x => ai24 (j := 0) (by decide)
  have z : (0 : Int32).toNatClampNeg = 0 := by decide
  simp only [n234 s (show k < 24 by omega), e_mA, e_mP, bn1_s, e, z, hs.1]
  by_cases c13 : w k = 13
  · simp [c13]
  by_cases c16 : w k = 16
  · by_cases c2 : w 0 = 2
    · simp [c16, c2]
    · simp [c16, c2, wA16, wP16]
  by_cases c12 : w k = 12
  · simp [c12]
  cases hA : wA (w k)
  rotate_left
  · simp [c13, c16, c12]
  cases hP : wP (w k) <;> simp [c13, c16, c12]
theorem DF_5 {s : S6} {w : Nat → Int32} {len : Nat} (hs : WS s w len) {k : Nat} (hk : k < len) (x2 x3 : Int32) : DF s 5 x2 x3 k = if wA (w k) = true then NX s 5 x2 x3 k else if wP (w k) = true then NX s 6 x2 x3 k else NX s 13 x2 x3 k := by
  have h4 := hs.2.2.2
  rw [DF_step hs hk]
  show fX6_wrongOrder_83 s (fun a b c d => fX6_wrongOrder_9 s (64 - k) a b c d) 5 x2 x3 (nI k) (w k) (en 5 x2 x3) 0 = _
  unfold fX6_wrongOrder_83 fX6_wrongOrder_108 fX6_wrongOrder_114 fX6_wrongOrder_144 fX6_wrongOrder_155 fX6_wrongOrder_168 fX6_wrongOrder_178 fX6_wrongOrder_205 fX6_wrongOrder_220 fX6_wrongOrder_233
  have e : ∀ x : Option Int32, ai 24 0 x = x := fun x => ai24 (j := 0) (by decide)
  have z : (0 : Int32).toNatClampNeg = 0 := by decide
  simp only [n234 s (show k < 24 by omega), e_mA, e_mP, bn1_s, e, z, hs.1]
  cases hA : wA (w k)
  rotate_left
  · simp []
  cases hP : wP (w k) <;> simp []
theorem DF_12 {s : S6} {w : Nat → Int32} {len : Nat} (hs : WS s w len) {k : Nat} (hk : k < len) (x2 x3 : Int32) : DF s 12 x2 x3 k = NX s 13 x2 x3 k := by
  have h4 := hs.2.2.2
  rw [DF_step hs hk]
  show fX6_wrongOrder_83 s (fun a b c d => fX6_wrongOrder_9 s (64 - k) a b c d) 12 x2 x3 (nI k) (w k) (en 12 x2 x3) 0 = _
  unfold fX6_wrongOrder_83 fX6_wrongOrder_108 fX6_wrongOrder_114 fX6_wrongOrder_144 fX6_wrongOrder_155 fX6_wrongOrder_168 fX6_wrongOrder_178 fX6_wrongOrder_205 fX6_wrongOrder_220 fX6_wrongOrder_233
  have e : ∀ x : Option Int32, ai 24 0 x = x := fun x => ai24 (j := 0) (by decide)
  have z : (0 : Int32).toNatClampNeg = 0 := by decide
  simp only [n234 s (show k < 24 by omega), e_mA, e_mP, bn1_s, e, z, hs.1]
  simp
