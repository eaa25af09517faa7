/-- a single's words: an article, adjectives; one wants an adjective -/
def SgS (w : Nat → Int32) (k e : Nat) : Prop := ∃ k1, (k1 = k ∨ (k1 = k + 1 ∧ w k = 10)) ∧ k1 ≤ e ∧ (∀ j, k1 ≤ j → j < e → wA (w j) = true) ∧ (w e = 17 → k1 < e)
/-- a single from k on, ended by the word at e -/
def Sg (w : Nat → Int32) (k e : Nat) (a n kd : Int32) : Prop :=
  (w k = 14 ∧ e = k ∧ kd = 14) ∨ (kd = 17 ∧ (k ≤ e ∧ SgS w k e) ∧ (∀ j, k ≤ j → j < e → w j = 10 ∨ wA (w j) = true) ∧ a = nI (AS w k (e - k)) ∧ ((wN (w e) = true ∧ n = w e - 30) ∨ (w e = 17 ∧ n = -1)))
theorem AS_pos {w : Nat → Int32} {k d : Nat} (hd : 0 < d) (h : ∀ j, j < d → wA (w (k + j)) = true) : AS w k d ≠ 0 := by
  obtain ⟨g, rfl⟩ : ∃ g, d = g + 1 := ⟨d - 1, by omega⟩
  intro q
  have q2 : AS w k g ||| (if wA (w (k + g)) = true then 2 ^ (w (k + g) - 20).toNatClampNeg else 0) = 0 := q
  rw [if_pos (h g (by omega))] at q2
  have := Nat.right_le_or (n := AS w k g) (m := 2 ^ (w (k + g) - 20).toNatClampNeg)
  have p : 0 < 2 ^ (w (k + g) - 20).toNatClampNeg := Nat.pow_pos (by decide)
  omega
theorem AS_split (w : Nat → Int32) (k : Nat) (h : wA (w k) = false) : ∀ d, AS w k (d + 1) = AS w (k + 1) d
  | 0 => by
    show 0 ||| (if wA (w (k + 0)) = true then _ else 0) = 0
    rw [if_neg (by rw [Nat.add_zero, h]; decide)]
    rfl
  | d + 1 => by
    have i := AS_split w k h d
    show AS w k (d + 1) ||| (if wA (w (k + (d + 1))) = true then 2 ^ (w (k + (d + 1)) - 20).toNatClampNeg else 0) = AS w (k + 1) d ||| (if wA (w (k + 1 + d)) = true then 2 ^ (w (k + 1 + d) - 20).toNatClampNeg else 0)
    rw [i, show k + (d + 1) = k + 1 + d by omega]
theorem wA_ne {v : Int32} (h : wA v = true) {x : Int32} (hx : wA x = false) : v ≠ x := by
  rintro rfl; rw [h] at hx; exact Bool.noConfusion hx
theorem wN_ne {v : Int32} (h : wN v = true) {x : Int32} (hx : wN x = false) : v ≠ x := by
  rintro rfl; rw [h] at hx; exact Bool.noConfusion hx
theorem wP_ne {v : Int32} (h : wP v = true) {x : Int32} (hx : wP x = false) : v ≠ x := by
  rintro rfl; rw [h] at hx; exact Bool.noConfusion hx
theorem wN_A {v : Int32} (h : wN v = true) : wA v = false := by
  simp only [wN, Bool.and_eq_true, Bool.not_eq_true', decide_eq_false_iff_not] at h
  have : (26 : Int32) ≤ v := Int32.le_trans (by decide : (26 : Int32) ≤ 30) (Int32.not_lt.mp h.1)
  simp [wA, this]
theorem wP_A {v : Int32} (h : wP v = true) : wA v = false := by
  simp only [wP, Bool.and_eq_true, Bool.not_eq_true', decide_eq_false_iff_not] at h
  have : (26 : Int32) ≤ v := Int32.le_trans (by decide : (26 : Int32) ≤ 40) (Int32.not_lt.mp h.1)
  simp [wA, this]
theorem wP_N {v : Int32} (h : wP v = true) : wN v = false := by
  simp only [wP, Bool.and_eq_true, Bool.not_eq_true', decide_eq_false_iff_not] at h
  have : (38 : Int32) ≤ v := Int32.le_trans (by decide : (38 : Int32) ≤ 40) (Int32.not_lt.mp h.1)
  simp [wN, this]
def addP (s2 : S2) (c : Nat) (kd role a n l : Int32) : S2 :=
  (S2_orderVerb s2, nI (c + 1), upd (S2_roles s2) c role, upd (S2_kinds s2) c kd, upd (S2_adjectiveSets s2) c a, upd (S2_nouns s2) c n, upd (S2_lastPlaces s2) c l, upd (S2_answers s2) c 0)
theorem e_add {w : Nat → Int32} {len e c : Nat} {a n : Int32} {s2 : S2} (hc : S2_count s2 = nI c) (h : c < 24) (kd role : Int32) (he : e < 2 ^ 30) : fX2_add s2 (mk3 w len (e + 1) a n) kd role = some (1, addP s2 c kd role a n (nI e)) := by
  unfold fX2_add
  rw [hc, if_neg (ng (by omega)), if_pos (show nI c < 24 by rw [li24]; exact nI_lt h (by decide)), ai24 h, ai24 h, ai24 h, ai24 h, ai24 h, ai24 h, cl_nI (by omega), nI_1]
  have q : S3_place (mk3 w len (e + 1) a n) - 1 = nI e := pk_sub (a := e + 1) (b := 1) (by omega)
  rw [q]
  rfl
theorem en_8 (x2 x3 : Int32) : en 8 x2 x3 = if x3 = 0 then 11 else 12 := by unfold en; split <;> rfl
theorem en_9 (x2 x3 : Int32) : en 9 x2 x3 = if x3 = 0 then 11 else 12 := by unfold en; split <;> rfl
theorem en_10 (x2 x3 : Int32) : en 10 x2 x3 = if x3 = 0 then 11 else 12 := by unfold en; split <;> rfl
theorem NX_ok {s : S6} {y x2 x3 : Int32} {k : Nat} (h : y ≠ 13) : NX s y x2 x3 k = DF s y x2 x3 (k + 1) := if_neg h
theorem NX_no {s : S6} {x2 x3 : Int32} {k : Nat} : NX s 13 x2 x3 k = some (nI k) := if_pos rfl
theorem DF_adj {s : S6} {w : Nat → Int32} {len : Nat} (hs : WS s w len) (x2 x3 : Int32) {k : Nat} : ∀ d, k + d ≤ len → (∀ j, j < d → wA (w (k + j)) = true) → DF s 10 x2 x3 k = DF s 10 x2 x3 (k + d)
  | 0, _, _ => rfl
  | d + 1, h, hj => by
    rw [DF_adj hs x2 x3 d (by omega) (fun j q => hj j (by omega)), DF_10 hs (by omega)]
    have a := hj d (by omega)
    have e : phN false true true false (w (k + d)) (en 10 x2 x3) = 10 := by simp [phN, a]
    rw [e, NX_ok (by decide)]
    rfl
theorem DF_adj8 {s : S6} {w : Nat → Int32} {len : Nat} (hs : WS s w len) (x2 x3 : Int32) {k d : Nat} (h : k + d ≤ len) (hj : ∀ j, j < d → wA (w (k + j)) = true) : DF s 8 x2 x3 k = DF s (if d = 0 then 8 else 10) x2 x3 (k + d) := by
  by_cases z : d = 0
  · subst z; rfl
  · have a := hj 0 (by omega)
    rw [Nat.add_zero] at a
    have e : phN true false true false (w k) (en 8 x2 x3) = 10 := by simp [phN, a, wA_ne a wA10]
    rw [if_neg z, DF_8 hs (by omega), e, NX_ok (by decide), DF_adj hs x2 x3 (d - 1) (by omega) (fun j q => by rw [show k + 1 + j = k + (j + 1) by omega]; exact hj (j + 1) (by omega)), show k + 1 + (d - 1) = k + d by omega]
theorem DF_adj9 {s : S6} {w : Nat → Int32} {len : Nat} (hs : WS s w len) (x2 x3 : Int32) {k d : Nat} (h : k + d ≤ len) (hj : ∀ j, j < d → wA (w (k + j)) = true) : DF s 9 x2 x3 k = DF s (if d = 0 then 9 else 10) x2 x3 (k + d) := by
  by_cases z : d = 0
  · subst z; rfl
  · have a := hj 0 (by omega)
    rw [Nat.add_zero] at a
    have e : phN false false true false (w k) (en 9 x2 x3) = 10 := by simp [phN, a, wA_ne a wA10]
    rw [if_neg z, DF_9 hs (by omega), e, NX_ok (by decide), DF_adj hs x2 x3 (d - 1) (by omega) (fun j q => by rw [show k + 1 + j = k + (j + 1) by omega]; exact hj (j + 1) (by omega)), show k + 1 + (d - 1) = k + d by omega]
/-- what the head of a single answers: at p, behind the adjectives A -/
theorem e_head {w : Nat → Int32} {len p c A : Nat} {s2 : S2} (hl : len ≤ 24) (hp : p ≤ len) (hc : S2_count s2 = nI c) (h : c < 24) (hA : A < 2 ^ 6) (role : Int32) :
    fX2_readHead s2 (mk3 w len p (nI A) (-1)) role = some (
      if p < len ∧ wN (w p) = true then (1, addP s2 c 17 role (nI A) (w p - 30) (nI p), mk3 w len (p + 1) (nI A) (w p - 30))
      else if A ≠ 0 ∧ p < len ∧ w p = 17 then (1, addP s2 c 17 role (nI A) (-1) (nI p), mk3 w len (p + 1) (nI A) (-1))
      else (0, s2, mk3 w len p (nI A) (-1))) := by
  unfold fX2_readHead fX2_readHead_25 fX2_readHead_34
  rw [e_acceptNoun hl hp (by decide)]
  by_cases a : p < len ∧ wN (w p) = true
  · rw [if_pos a, if_pos (show p < len ∧ (!decide (w p < 30) && !decide ((30 : Int32) + 8 ≤ w p)) = true from a), bn2_s, if_neg (by decide), e_add hc h 17 role (by omega), bn2_s, bo1]
  · rw [if_neg a, if_neg (show ¬ (p < len ∧ (!decide (w p < 30) && !decide ((30 : Int32) + 8 ≤ w p)) = true) from a), bn2_s, if_pos rfl]
    show (if nI A = 0 then _ else _) = _
    by_cases z : A = 0
    · rw [if_pos (by rw [z]; rfl), if_neg (fun q => q.1 z)]
    · have q0 : ¬ nI A = 0 := fun q => z (nI_inj (a := A) (b := 0) (by omega) (by decide) q)
      rw [if_neg q0, e_accept hl hp (by decide)]
      by_cases b : p < len ∧ w p = 17
      · rw [if_pos b, if_pos ⟨z, b⟩, bn2_s, if_neg (by decide), e_add hc h 17 role (by omega), bn2_s, bo1]
      · rw [if_neg b, if_neg (fun q => b q.2), bn2_s, if_pos rfl]
theorem en_ne (x3 : Int32) : (if x3 = 0 then (11 : Int32) else 12) ≠ 13 := by split <;> decide
theorem DF_head {s : S6} {w : Nat → Int32} {len : Nat} (hs : WS s w len) (x2 x3 : Int32) {q : Int32} (hq : q = 8 ∨ q = 9) {d p : Nat} (hp : p ≤ len) (h1 : q = 8 → d = 0 → p < len → w p ≠ 10 ∧ w p ≠ 14) (h2 : ¬ (p < len ∧ wA (w p) = true)) :
    DF s (if d = 0 then q else 10) x2 x3 p = if p < len ∧ wN (w p) = true then DF s (if x3 = 0 then 11 else 12) x2 x3 (p + 1) else if d ≠ 0 ∧ p < len ∧ w p = 17 then DF s (if x3 = 0 then 11 else 12) x2 x3 (p + 1) else some (nI p) := by
  by_cases a : p < len
  · have hA : wA (w p) = false := by
      cases z : wA (w p)
      · rfl
      · exact absurd ⟨a, z⟩ h2
    by_cases hN : wN (w p) = true
    · rw [if_pos (show p < len ∧ wN (w p) = true from ⟨a, hN⟩)]
      have n10 := wN_ne hN wN10
      by_cases z : d = 0
      · rw [if_pos z]
        rcases hq with rfl | rfl
        · rw [DF_8 hs a, show phN true false true false (w p) (en 8 x2 x3) = en 8 x2 x3 by simp [phN, hA, hN, n10], en_8, NX_ok (en_ne x3)]
        · rw [DF_9 hs a, show phN false false true false (w p) (en 9 x2 x3) = en 9 x2 x3 by simp [phN, hA, hN], en_9, NX_ok (en_ne x3)]
      · rw [if_neg z, DF_10 hs a, show phN false true true false (w p) (en 10 x2 x3) = en 10 x2 x3 by simp [phN, hA, hN], en_10, NX_ok (en_ne x3)]
    · rw [if_neg (show ¬ (p < len ∧ wN (w p) = true) from fun r => hN r.2)]
      have hN' : wN (w p) = false := by
        cases z : wN (w p)
        · rfl
        · exact absurd z hN
      by_cases z : d = 0
      · rw [if_pos z, if_neg (show ¬ (d ≠ 0 ∧ p < len ∧ w p = 17) from fun r => r.1 z)]
        rcases hq with rfl | rfl
        · obtain ⟨m1, m2⟩ := h1 rfl z a
          rw [DF_8 hs a, show phN true false true false (w p) (en 8 x2 x3) = 13 by simp [phN, hA, hN', m1, m2], NX_no]
        · rw [DF_9 hs a, show phN false false true false (w p) (en 9 x2 x3) = 13 by simp [phN, hA, hN'], NX_no]
      · rw [if_neg z, DF_10 hs a]
        by_cases b : w p = 17
        · rw [if_pos (show d ≠ 0 ∧ p < len ∧ w p = 17 from ⟨z, a, b⟩), show phN false true true false (w p) (en 10 x2 x3) = en 10 x2 x3 by simp [phN, b, wA17, wN17], en_10, NX_ok (en_ne x3)]
        · rw [if_neg (show ¬ (d ≠ 0 ∧ p < len ∧ w p = 17) from fun r => b r.2.2), show phN false true true false (w p) (en 10 x2 x3) = 13 by simp [phN, hA, hN', b], NX_no]
  · rw [if_neg (show ¬ (p < len ∧ wN (w p) = true) from fun r => a r.1), if_neg (show ¬ (d ≠ 0 ∧ p < len ∧ w p = 17) from fun r => a r.2.1)]
    have e : p = len := by omega
    subst e
    rw [DF_end hs]
    have n : ¬ (if w 0 = 2 then (if d = 0 then q else 10) = 12 else (if d = 0 then q else 10) = 4 ∨ (if d = 0 then q else 10) = 6 ∨ (if d = 0 then q else 10) = 7 ∨ (if d = 0 then q else 10) = 11) := by
      rcases hq with rfl | rfl <;> by_cases z : d = 0 <;> by_cases y : w 0 = 2 <;> simp [z, y]
    rw [if_neg n]
/-- the adjectives and the head of a single, from k1 on -/
theorem e_tail {s : S6} {w : Nat → Int32} {len : Nat} (hs : WS s w len) {k1 c : Nat} {adj noun : Int32} {s2 : S2} (hk : k1 ≤ len) (hc : S2_count s2 = nI c) (hck : c < 24) (role : Int32) {q : Int32} (hq : q = 8 ∨ q = 9) (h1 : q = 8 → k1 < len → w k1 ≠ 10 ∧ w k1 ≠ 14) :
    (∃ e d n, (bn1 (fX3_readAdjectives (mk3 w len k1 adj noun)) fun s3_4 => bn3 (fX2_readHead s2 s3_4 role) fun r_5 s2_5 s3_5 => bo r_5 (some (r_5, s2_5, s3_5))) = some (1, addP s2 c 17 role (nI (AS w k1 d)) n (nI e), mk3 w len (e + 1) (nI (AS w k1 d)) n) ∧ e = k1 + d ∧ e < len ∧ (∀ j, j < d → wA (w (k1 + j)) = true) ∧ ((wN (w e) = true ∧ n = w e - 30) ∨ (w e = 17 ∧ n = -1)) ∧ (∀ x2 x3, DF s q x2 x3 k1 = DF s (if x3 = 0 then 11 else 12) x2 x3 (e + 1)) ∧ (w e = 17 → d ≠ 0))
    ∨ (∃ e a n, (bn1 (fX3_readAdjectives (mk3 w len k1 adj noun)) fun s3_4 => bn3 (fX2_readHead s2 s3_4 role) fun r_5 s2_5 s3_5 => bo r_5 (some (r_5, s2_5, s3_5))) = some (0, s2, mk3 w len e a n) ∧ e ≤ len ∧ ∀ x2 x3, DF s q x2 x3 k1 = some (nI e)) := by
  obtain ⟨d, i1, i3, i4, i5⟩ := e_readAdj (w := w) (adj := adj) (noun := noun) hs.2.2.2 hk
  rw [i1, bn1_s, e_head hs.2.2.2 i3 hc hck (AS_lt w k1 d)]
  have hD : ∀ x2 x3, DF s q x2 x3 k1 = (if k1 + d < len ∧ wN (w (k1 + d)) = true then DF s (if x3 = 0 then 11 else 12) x2 x3 (k1 + d + 1) else if d ≠ 0 ∧ k1 + d < len ∧ w (k1 + d) = 17 then DF s (if x3 = 0 then 11 else 12) x2 x3 (k1 + d + 1) else some (nI (k1 + d))) := fun x2 x3 => by
    have u : DF s q x2 x3 k1 = DF s (if d = 0 then q else 10) x2 x3 (k1 + d) := by
      rcases hq with rfl | rfl
      · exact DF_adj8 hs x2 x3 i3 i4
      · exact DF_adj9 hs x2 x3 i3 i4
    rw [DF_head hs x2 x3 hq i3 (fun y1 y2 y3 => by subst y2; exact h1 y1 y3) i5] at u
    exact u
  have hA0 : (AS w k1 d ≠ 0) ↔ (d ≠ 0) := by
    constructor
    · intro y z; subst z; exact y rfl
    · intro y; exact AS_pos (by omega) i4
  by_cases a : k1 + d < len ∧ wN (w (k1 + d)) = true
  · rw [if_pos a, bn3_s, bo1]
    refine Or.inl ⟨k1 + d, d, _, rfl, rfl, a.1, i4, Or.inl ⟨a.2, rfl⟩, fun x2 x3 => ?_, fun q => absurd q (wN_ne a.2 wN17)⟩
    rw [hD x2 x3, if_pos a]
  · rw [if_neg a]
    by_cases b : d ≠ 0 ∧ k1 + d < len ∧ w (k1 + d) = 17
    · rw [if_pos (show AS w k1 d ≠ 0 ∧ k1 + d < len ∧ w (k1 + d) = 17 from ⟨hA0.mpr b.1, b.2⟩), bn3_s, bo1]
      refine Or.inl ⟨k1 + d, d, _, rfl, rfl, b.2.1, i4, Or.inr ⟨b.2.2, rfl⟩, fun x2 x3 => ?_, fun _ => b.1⟩
      rw [hD x2 x3, if_neg a, if_pos b]
    · rw [if_neg (show ¬ (AS w k1 d ≠ 0 ∧ k1 + d < len ∧ w (k1 + d) = 17) from fun y => b ⟨hA0.mp y.1, y.2⟩), bn3_s, bo0]
      refine Or.inr ⟨k1 + d, _, _, rfl, i3, fun x2 x3 => ?_⟩
      rw [hD x2 x3, if_neg a, if_neg b]
theorem e_single {s : S6} {w : Nat → Int32} {len : Nat} (hs : WS s w len) {k c : Nat} {adj noun : Int32} {s2 : S2} (hk : k ≤ len) (hc : S2_count s2 = nI c) (hck : c < 24) (role : Int32) :
    (∃ e a n kd, fX2_readSingle s2 (mk3 w len k adj noun) role = some (1, addP s2 c kd role a n (nI e), mk3 w len (e + 1) a n) ∧ k ≤ e ∧ e < len ∧ Sg w k e a n kd ∧ ∀ x2 x3, DF s 8 x2 x3 k = DF s (if x3 = 0 then 11 else 12) x2 x3 (e + 1))
    ∨ (∃ e a n, fX2_readSingle s2 (mk3 w len k adj noun) role = some (0, s2, mk3 w len e a n) ∧ e ≤ len ∧ ∀ x2 x3, DF s 8 x2 x3 k = some (nI e)) := by
  have hl := hs.2.2.2
  unfold fX2_readSingle
  rw [e_accept hl hk (by decide)]
  by_cases it : k < len ∧ w k = 14
  · rw [if_pos it, bn2_s, if_neg (by decide), e_add hc hck 14 role (by omega), bn2_s, bo1]
    refine Or.inl ⟨k, adj, noun, 14, rfl, Nat.le_refl k, it.1, Or.inl ⟨it.2, rfl, rfl⟩, fun x2 x3 => ?_⟩
    rw [DF_8 hs it.1, show phN true false true false (w k) (en 8 x2 x3) = en 8 x2 x3 by simp [phN, it.2, wA14, wN14], en_8, NX_ok (en_ne x3)]
  · rw [if_neg it, bn2_s, if_pos rfl, e_accept hl hk (by decide)]
    by_cases th : k < len ∧ w k = 10
    · rw [if_pos th, bn2_s]
      have u : ∀ x2 x3, DF s 8 x2 x3 k = DF s 9 x2 x3 (k + 1) := fun x2 x3 => by
        rw [DF_8 hs th.1, show phN true false true false (w k) (en 8 x2 x3) = 9 by simp [phN, th.2], NX_ok (by decide)]
      rcases e_tail hs (k1 := k + 1) (adj := adj) (noun := noun) th.1 hc hck role (q := 9) (Or.inr rfl) (fun y => absurd y (by decide)) with ⟨e, d, n, j1, j2, j3, j4, j5, j6, j7⟩ | ⟨e, a, n, j1, j0, j2⟩
      · refine Or.inl ⟨e, _, n, 17, j1, by omega, j3, Or.inr ⟨rfl, ⟨by omega, k + 1, Or.inr ⟨rfl, th.2⟩, by omega, fun j y1 y2 => by have := j4 (j - (k + 1)) (by omega); rwa [show k + 1 + (j - (k + 1)) = j by omega] at this, fun q => by have := j7 q; omega⟩, fun j y1 y2 => ?_, ?_, j5⟩, fun x2 x3 => by rw [u, j6]⟩
        · by_cases y : j = k
          · exact Or.inl (by rw [y]; exact th.2)
          · exact Or.inr (by have := j4 (j - (k + 1)) (by omega); rwa [show k + 1 + (j - (k + 1)) = j by omega] at this)
        · rw [show e - k = d + 1 by omega, AS_split w k (by rw [th.2]; exact wA10)]
      · exact Or.inr ⟨e, a, n, j1, j0, fun x2 x3 => by rw [u, j2]⟩
    · rw [if_neg th, bn2_s]
      rcases e_tail hs (k1 := k) (adj := adj) (noun := noun) hk hc hck role (q := 8) (Or.inl rfl) (fun _ y => ⟨fun z => th ⟨y, z⟩, fun z => it ⟨y, z⟩⟩) with ⟨e, d, n, j1, j2, j3, j4, j5, j6, j7⟩ | ⟨e, a, n, j1, j0, j2⟩
      · refine Or.inl ⟨e, _, n, 17, j1, by omega, j3, Or.inr ⟨rfl, ⟨by omega, k, Or.inl rfl, by omega, fun j y1 y2 => by have := j4 (j - k) (by omega); rwa [show k + (j - k) = j by omega] at this, fun q => by have := j7 q; omega⟩, fun j y1 y2 => ?_, ?_, j5⟩, j6⟩
        · exact Or.inr (by have := j4 (j - k) (by omega); rwa [show k + (j - k) = j by omega] at this)
        · rw [show e - k = d by omega]
      · exact Or.inr ⟨e, a, n, j1, j0, j2⟩
