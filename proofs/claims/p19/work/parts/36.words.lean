def mk3 (w : Nat → Int32) (len k : Nat) (adj noun : Int32) : S3 := (w, nI len, nI k, adj, noun)
/-- an adjective, a noun, a plural -/
def wA (x : Int32) : Bool := !decide (x < 20) && !decide (26 ≤ x)
def wN (x : Int32) : Bool := !decide (x < 30) && !decide (38 ≤ x)
def wP (x : Int32) : Bool := !decide (x < 40) && !decide (48 ≤ x)
theorem e_isB {x f : Int32} {n : Int32} : fX5_isBetween x f n = some (if !decide (x < f) && !decide (f + n ≤ x) then 1 else 0) := by
  unfold fX5_isBetween fX5_isBetween_16 fX5_isBetween_17
  by_cases a : x < f <;> by_cases b : f + n ≤ x <;> simp [a, b, bo0, bo1]
theorem e_peek {w : Nat → Int32} {len k : Nat} {adj noun : Int32} (hl : len ≤ 24) (hk : k ≤ len) : fX3_peek (mk3 w len k adj noun) = some (if k < len then w k else -1) := by
  unfold fX3_peek fX3_peek_39 fX3_peek_40
  show (if nI k < 0 then some (-1) else if nI len ≤ nI k then some (-1) else if 24 ≤ nI k then some (-1) else ai 24 (nI k) (some (w (nI k).toNatClampNeg))) = _
  rw [if_neg (ng (by omega))]
  by_cases h : k < len
  · rw [if_neg (nI_ge h (by omega)), if_neg (ge24 (by omega)), ai24 (by omega), cl_nI (by omega), if_pos h]
  · rw [if_pos (nI_le (by omega) (by omega)), if_neg h]
theorem e_accept {w : Nat → Int32} {len k : Nat} {adj noun x : Int32} (hl : len ≤ 24) (hk : k ≤ len) (hx : ¬ (-1 : Int32) = x) : fX3_accept (mk3 w len k adj noun) x = some (if k < len ∧ w k = x then (1, mk3 w len (k + 1) adj noun) else (0, mk3 w len k adj noun)) := by
  unfold fX3_accept
  rw [e_peek hl hk, bn1_s]
  by_cases h : k < len
  · rw [if_pos h]
    by_cases e : w k = x
    · rw [if_pos e, if_pos ⟨h, e⟩]
      show some ((1 : Int32), (w, nI len, nI k + 1, adj, noun)) = _
      rw [nI_1]; rfl
    · rw [if_neg e, if_neg (fun q => e q.2)]
  · rw [if_neg h, if_neg hx, if_neg (fun q => h q.1)]
theorem e_acceptNoun {w : Nat → Int32} {len k : Nat} {adj noun f : Int32} (hl : len ≤ 24) (hk : k ≤ len) (hf : (-1 : Int32) < f) : fX3_acceptNoun (mk3 w len k adj noun) f = some (if k < len ∧ (!decide (w k < f) && !decide (f + 8 ≤ w k)) = true then (1, mk3 w len (k + 1) adj (w k - f)) else (0, mk3 w len k adj noun)) := by
  unfold fX3_acceptNoun
  rw [e_peek hl hk, bn1_s, e_isB, bn1_s, bn1_s]
  by_cases h : k < len
  · rw [if_pos h]
    by_cases e : (!decide (w k < f) && !decide (f + 8 ≤ w k)) = true
    · rw [if_pos e, if_neg (by decide), if_pos ⟨h, e⟩]
      show some ((1 : Int32), (w, nI len, nI k + 1, adj, w k - f)) = _
      rw [nI_1]; rfl
    · rw [if_neg e, if_pos rfl, if_neg (fun q => e q.2)]
  · have e : (!decide ((-1 : Int32) < f) && !decide (f + 8 ≤ -1)) = false := by simp [hf]
    rw [if_neg h, e, if_pos (by decide), if_neg (fun q => h q.1)]
/-- the first place from k on that holds no adjective -/
def skA (w : Nat → Int32) (len : Nat) : Nat → Nat → Nat
  | 0, k => k
  | d + 1, k => if k < len ∧ wA (w k) = true then skA w len d (k + 1) else k
/-- the adjectives from k to e, as a set -/
def AS (w : Nat → Int32) (k : Nat) : Nat → Nat
  | 0 => 0
  | d + 1 => AS w k d ||| (if wA (w (k + d)) = true then 2 ^ (w (k + d) - 20).toNatClampNeg else 0)
theorem wA_nI {x : Int32} (h : wA x = true) : ∃ j, j < 6 ∧ x = nI (20 + j) ∧ x - 20 = nI j := by
  simp only [wA, Bool.and_eq_true, Bool.not_eq_true', decide_eq_false_iff_not] at h
  have h0 : ¬ x < 0 := fun q => h.1 (Int32.lt_of_lt_of_le q (by decide))
  obtain ⟨j, hj, rfl⟩ := nI_of h0
  have a : ¬ j < 20 := fun q => h.1 (nI_lt (a := j) (b := 20) q (by decide))
  have b : j < 26 := by
    rcases Nat.lt_or_ge j 26 with q | q
    · exact q
    · exact absurd (nI_le (a := 26) (b := j) q hj) h.2
  refine ⟨j - 20, by omega, by rw [show 20 + (j - 20) = j by omega], ?_⟩
  exact pk_sub (a := j) (b := 20) (by omega)
theorem AS_lt (w : Nat → Int32) (k : Nat) : ∀ d, AS w k d < 2 ^ 6
  | 0 => by show 0 < 2 ^ 6; decide
  | d + 1 => by
    show AS w k d ||| _ < 2 ^ 6
    refine Nat.or_lt_two_pow (AS_lt w k d) ?_
    split
    · next h =>
      obtain ⟨j, hj, -, e⟩ := wA_nI h
      rw [e, cl_nI (by omega)]
      exact Nat.pow_lt_pow_right (by decide) hj
    · decide
theorem e_readAdj_in {w : Nat → Int32} {len : Nat} {noun : Int32} (hl : len ≤ 24) (k0 : Nat) : ∀ (d fu t c : Nat), k0 + c ≤ len → t = c → 24 ≤ c + d → d < fu → (∀ j, j < c → wA (w (k0 + j)) = true) →
    ∃ e, fX3_readAdjectives_12 fu (mk3 w len (k0 + c) (nI (AS w k0 c)) noun) (nI t) = some (mk3 w len (k0 + e) (nI (AS w k0 e)) noun) ∧ c ≤ e ∧ k0 + e ≤ len ∧ (∀ j, j < e → wA (w (k0 + j)) = true) ∧ ¬ (k0 + e < len ∧ wA (w (k0 + e)) = true)
  | 0, fu, t, c, hc, ht, hd, hf, hj => by
    obtain ⟨g, rfl⟩ : ∃ g, fu = g + 1 := ⟨fu - 1, by omega⟩
    subst ht
    refine ⟨t, ?_, Nat.le_refl t, hc, hj, fun q => by omega⟩
    rw [fX3_readAdjectives_12, if_pos (ge24' (by omega) (by omega))]
    rfl
  | d + 1, fu, t, c, hc, ht, hd, hf, hj => by
    obtain ⟨g, rfl⟩ : ∃ g, fu = g + 1 := ⟨fu - 1, by omega⟩
    subst ht
    by_cases h24 : 24 ≤ t
    · refine ⟨t, ?_, Nat.le_refl t, hc, hj, fun q => by omega⟩
      rw [fX3_readAdjectives_12, if_pos (ge24' (by omega) (by omega))]
      rfl
    · by_cases h : k0 + t < len ∧ wA (w (k0 + t)) = true
      · obtain ⟨j, hj6, e1, e2⟩ := wA_nI h.2
        obtain ⟨e, i1, i2, i3, i4, i5⟩ := e_readAdj_in (noun := noun) hl k0 d g (t + 1) (t + 1) (by omega) rfl (by omega) (by omega) (fun x hx => by
          rcases Nat.lt_or_ge x t with q | q
          · exact hj x q
          · rw [show x = t by omega]; exact h.2)
        refine ⟨e, ?_, by omega, i3, i4, i5⟩
        rw [fX3_readAdjectives_12, if_neg (ge24 (by omega)), e_peek hl hc, bn1_s, if_pos h.1, e_isB, bn1_s]
        have hb : (!decide (w (k0 + t) < 20) && !decide ((20 : Int32) + 6 ≤ w (k0 + t))) = true := h.2
        rw [hb, if_pos rfl, if_neg (by decide), bn1_s, ← i1]
        show fX3_readAdjectives_12 g (w, nI len, nI (k0 + t) + 1, nI (AS w k0 t) ||| ((1 : Int32) <<< ((w (k0 + t) - 20) &&& 31)), noun) (nI t + 1) = _
        rw [nI_1, nI_1, e2, nI_shl (by omega), nI_or]
        have ea : AS w k0 (t + 1) = AS w k0 t ||| 2 ^ j := by
          show AS w k0 t ||| (if wA (w (k0 + t)) = true then 2 ^ (w (k0 + t) - 20).toNatClampNeg else 0) = _
          rw [if_pos h.2, e2, cl_nI (by omega)]
        rw [ea]
        rfl
      · refine ⟨t, ?_, Nat.le_refl t, hc, hj, h⟩
        rw [fX3_readAdjectives_12, if_neg (ge24 (by omega)), e_peek hl hc, bn1_s, e_isB, bn1_s]
        have hb : (!decide ((if k0 + t < len then w (k0 + t) else -1) < 20) && !decide ((20 : Int32) + 6 ≤ (if k0 + t < len then w (k0 + t) else -1))) = false := by
          by_cases q : k0 + t < len
          · rw [if_pos q]
            cases z : wA (w (k0 + t))
            · exact z
            · exact absurd ⟨q, z⟩ h
          · rw [if_neg q]; decide
        rw [hb, if_pos (by decide)]
        rfl
theorem e_readAdj {w : Nat → Int32} {len k : Nat} {adj noun : Int32} (hl : len ≤ 24) (hk : k ≤ len) :
    ∃ e, fX3_readAdjectives (mk3 w len k adj noun) = some (mk3 w len (k + e) (nI (AS w k e)) (-1)) ∧ k + e ≤ len ∧ (∀ j, j < e → wA (w (k + j)) = true) ∧ ¬ (k + e < len ∧ wA (w (k + e)) = true) := by
  obtain ⟨e, i1, -, i3, i4, i5⟩ := e_readAdj_in (w := w) (noun := -1) hl k 24 64 0 0 (by omega) rfl (by omega) (by omega) (fun j hj => by omega)
  exact ⟨e, i1, i3, i4, i5⟩
theorem e_atEnd {w : Nat → Int32} {len k : Nat} {adj noun : Int32} (hl : len ≤ 24) (hk : k ≤ len) : fX3_atEnd (mk3 w len k adj noun) = some (if k = len then 1 else 0) := by
  unfold fX3_atEnd fX3_atEnd_16
  show (if nI k = nI len then bo 1 (some 1) else bo 0 (some 0)) = _
  rw [bo0, bo1]
  by_cases h : k = len
  · rw [if_pos h, if_pos (by rw [h])]
  · rw [if_neg h, if_neg (fun q => h (nI_inj (by omega) (by omega) q))]
