theorem e_read {s : S6} {w : Nat → Int32} {len : Nat} (hs : WS s w len) (s2 : S2) (adj noun : Int32) (h0 : ¬ w 0 < 0) :
    (∃ t3 c3 p a n, fX2_read s2 (mk3 w len 0 adj noun) = some (1, t3, mk3 w len p a n) ∧ LyF w len t3 c3 ∧ fX6_wrongOrder s = some (-1))
    ∨ (∃ t3 e a n, fX2_read s2 (mk3 w len 0 adj noun) = some (0, t3, mk3 w len e a n) ∧ e ≤ len ∧ fX6_wrongOrder s = some (nI e)) := by
  have hl := hs.2.2.2
  have h1 := hs.2.2.1
  unfold fX2_read
  have hx : ¬ (-1 : Int32) = w 0 := fun q => h0 (by rw [← q]; decide)
  rw [e_peek hl (Nat.zero_le len), if_pos (show 0 < len by omega), bn1_s, e_accept hl (Nat.zero_le len) hx, if_pos ⟨(by omega : 0 < len), rfl⟩, bn2_s]
  have hW : fX6_wrongOrder s = DF s 1 0 0 1 := rfl
  rw [hW]
  have hL : Ly w len (S2_set_orderVerb (S2_set_count s2 0) (w 0)) 0 := ⟨rfl, fun i hi => absurd hi (by omega), fun i hi => absurd hi (by omega)⟩
  exact e_loop hs 62 64 _ 0 1 0 adj noun (by omega) (by omega) h1 hL rfl (by omega) (Nat.le_refl 0) (fun j hj => absurd hj (by omega)) rfl
/-- the kept order of the law's game -/
def OR (s : S6) (w : Nat → Int32) (len : Nat) : Prop := S6_length s = nI len ∧ len ≤ 24 ∧ ∀ j, j < len → S6_order s j = w j
theorem e_endOf_in {s : S6} {w : Nat → Int32} {len : Nat} (ho : OR s w len) {e : Nat} (he : e < len) (h1 : ¬ w e = 10) (h2 : wA (w e) = false) (x : Int32) : ∀ (d fu k : Nat), k + d = e → d < fu → (∀ j, k ≤ j → j < e → w j = 10 ∨ wA (w j) = true) → fX6_endOf_2 s x fu (nI k) = some (nI e)
  | 0, fu, k, hk, hf, hj => by
    obtain ⟨g, rfl⟩ : ∃ g, fu = g + 1 := ⟨fu - 1, by omega⟩
    obtain ⟨o1, o2, o3⟩ := ho
    have : k = e := by omega
    subst this
    rw [fX6_endOf_2, ai24 (by omega), cl_nI (by omega), o3 k he, if_neg h1, ai24 (by omega), e_mA, bn1_s, h2, if_pos (by decide)]
  | d + 1, fu, k, hk, hf, hj => by
    obtain ⟨g, rfl⟩ : ∃ g, fu = g + 1 := ⟨fu - 1, by omega⟩
    have i := e_endOf_in ho he h1 h2 x d g (k + 1) (by omega) (by omega) (fun j a b => hj j (by omega) b)
    obtain ⟨o1, o2, o3⟩ := ho
    rw [fX6_endOf_2, ai24 (by omega), cl_nI (by omega), o3 k (by omega)]
    unfold fX6_endOf_25
    rw [nI_1]
    simp only [i]
    by_cases z : w k = 10
    · rw [if_pos z]
    · rw [if_neg z, ai24 (by omega), e_mA, bn1_s]
      rcases hj k (Nat.le_refl k) (by omega) with q | q
      · exact absurd q z
      · rw [if_pos q, if_neg (by decide)]
theorem e_endOf {s : S6} {w : Nat → Int32} {len k e : Nat} (ho : OR s w len) (hke : k ≤ e) (he : e < len) (h1 : ¬ w e = 10) (h2 : wA (w e) = false) (h : ∀ j, k ≤ j → j < e → w j = 10 ∨ wA (w j) = true) : fX6_endOf s (nI k) = some (nI e) :=
  e_endOf_in ho he h1 h2 _ (e - k) 64 k (by omega) (by have := ho.2.1; omega) h
theorem e_adjUp_in {s : S6} {w : Nat → Int32} {len : Nat} (ho : OR s w len) {k e : Nat} (he : e < len) (x : Int32) : ∀ (d fu c : Nat), k + c + d = e → d < fu → fX6_adjectivesUpTo_5 s x (nI e) fu (nI (AS w k c)) (nI (k + c)) = some (nI (AS w k (e - k)))
  | 0, fu, c, hk, hf => by
    obtain ⟨g, rfl⟩ : ∃ g, fu = g + 1 := ⟨fu - 1, by omega⟩
    have := ho.2.1
    rw [fX6_adjectivesUpTo_5, if_pos (nI_le (by omega) (by omega)), show e - k = c by omega]
  | d + 1, fu, c, hk, hf => by
    obtain ⟨g, rfl⟩ : ∃ g, fu = g + 1 := ⟨fu - 1, by omega⟩
    have i := e_adjUp_in (k := k) ho he x d g (c + 1) (by omega) (by omega)
    obtain ⟨o1, o2, o3⟩ := ho
    rw [fX6_adjectivesUpTo_5, if_neg (nI_ge (by omega) (by omega)), ai24 (by omega), cl_nI (by omega), o3 (k + c) (by omega), e_mA, bn1_s]
    unfold fX6_adjectivesUpTo_41
    have ea : AS w k (c + 1) = AS w k c ||| (if wA (w (k + c)) = true then 2 ^ (w (k + c) - 20).toNatClampNeg else 0) := rfl
    by_cases z : wA (w (k + c)) = true
    · rw [if_pos z, if_neg (by decide), ai24 (by omega)]
      obtain ⟨j, hj, -, e2⟩ := wA_nI z
      rw [e2, nI_shl (by omega), nI_or, nI_1, ← i, ea, if_pos z, e2, cl_nI (by omega)]
      rfl
    · rw [if_neg z, if_pos rfl]
      rw [if_neg z, Nat.or_zero] at ea
      have o : nI (AS w k c) ||| 0 = nI (AS w k c) := by rw [li0, nI_or, Nat.or_zero]
      rw [o, nI_1, ← i, ea]
      rfl
theorem e_adjUp {s : S6} {w : Nat → Int32} {len k e : Nat} (ho : OR s w len) (hke : k ≤ e) (he : e < len) : fX6_adjectivesUpTo s (nI k) (nI e) = some (nI (AS w k (e - k))) :=
  e_adjUp_in (k := k) ho he _ (e - k) 64 0 (by omega) (by have := ho.2.1; omega)
theorem e_is {s : S6} {w : Nat → Int32} {len k : Nat} (ho : OR s w len) (hat : S6_at s = nI k) (hk : k ≤ len) (x : Int32) : fX6_is s x = some (if k < len ∧ w k = x then 1 else 0) := by
  obtain ⟨o1, o2, o3⟩ := ho
  unfold fX6_is fX6_is_28 fX6_is_29
  rw [o1, hat]
  by_cases h : k < len
  · rw [if_neg (nI_ge h (by omega)), ai24 (by omega), cl_nI (by omega), o3 k h]
    by_cases e : w k = x
    · rw [if_pos e, if_pos ⟨h, e⟩, bo1]
    · rw [if_neg e, if_neg (fun q => e q.2), bo0]
  · rw [if_pos (nI_le (by omega) (by omega)), if_neg (fun q => h q.1), bo0]
