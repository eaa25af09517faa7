def failX (m : S6) (x : Int32) (e q : Nat) : S6 := S6_set_choice (S6_set_failedAt (S6_set_at m x) (nI e)) (nI q)
/-- how both sides fail: the world's place in the words does not matter then -/
def FaP (s2 : S2) (c n : Nat) (s0 : S0) (m : S6) (t0 : S0) (m2 : S6) : Prop :=
  ∃ i x, i < c ∧ ((t0 = notS s0 i ∧ m2 = failX m x (E2 s2 i) 0) ∨ ∃ q, 0 < q ∧ q < 2 ^ n ∧ t0 = askS s0 i q ∧ m2 = failX m x (E2 s2 i) q)
theorem FaR_P {s2 : S2} {c n : Nat} {s0 t0 : S0} {m m2 : S6} (h : FaR s2 c n s0 m t0 m2) : FaP s2 c n s0 m t0 m2 := by
  obtain ⟨i, hi, h⟩ := h
  exact ⟨i, nI (E2 s2 i + 1), hi, h⟩
/-- what a part comes to, on both sides -/
def PtR (s2 : S2) (c n i : Nat) (s0 : S0) (m : S6) (x : Int32 × S0) (y : Int32 × S6) : Prop :=
  (∃ t0 m2, x = (0, t0) ∧ y = (0, m2) ∧ FaP s2 (c + 1) n s0 m t0 m2)
  ∨ (∃ gk j2, 0 < gk ∧ gk < 2 ^ n ∧ x = (nI gk, s0) ∧ y = (nI gk, S6_set_at m (nI (E2 s2 j2 + 1))) ∧ i ≤ j2 ∧ j2 ≤ c ∧ (∀ u, i < u → u ≤ j2 → S2_roles s2 u = 1) ∧ (j2 < c → S2_roles s2 (j2 + 1) ≠ 1))
theorem fp_58 {s0 : S0} {s1 : S1} {s2 : S2} {s4 : S4} {c i : Nat} {a2 : Int32} (hL : S2_count s2 = nI (c + 1)) (hc : c + 1 ≤ 24) (hi : i ≤ c) (hr : S0_result s0 = 0) (h : i < c → S2_roles s2 (i + 1) ≠ 1) : fX0_findPart s0 s1 s2 s4 (nI i) a2 = fX0_findPart_58 s1 s2 s4 (nI i) a2 s0 (nI 0) := by
  unfold fX0_findPart
  rw [nI_1, fX0_findPart_7, hL]
  by_cases z : i = c
  · rw [if_pos (nI_le (by omega) (by omega))]; rfl
  · rw [if_neg (nI_ge (by omega) (by omega)), if_pos hr, e_roleOf hL hc (by omega), bn1_s, if_neg (h (by omega))]; rfl
theorem pt_them {s0 : S0} {s1 : S1} {s2 : S2} {s4 : S4} {m : S6} {w : Nat → Int32} {len n kb ko c i mm : Nat} {a2 : Int32} (K : LK s1 s2 s4 m w len n kb ko c) (hc : c + 1 ≤ 24) (hi : i ≤ c) (hR : S0_reach s0 = nI (Rn s4 n ko)) (hr : S0_result s0 = 0) (hat : S6_at m = nI (ST s2 i)) (h : i < c → S2_roles s2 (i + 1) ≠ 1)
    (hm1 : S1_lastMeant s1 = nI mm) (hm2 : S6_meant m = nI mm) (hK : S2_kinds s2 i = 15) (hE : E2 s2 i = ST s2 i) (hw : w (ST s2 i) = 15) (he : E2 s2 i < len) :
    ∃ x y, fX0_findPart s0 s1 s2 s4 (nI i) a2 = some x ∧ fX6_part m = some y ∧ PtR s2 c n i s0 m x y := by
  obtain ⟨I, J, ho, hLF, hM, hA⟩ := K
  have hn := I.1
  have hl := ho.2.1
  have hL := hLF.1.1
  have hGn : mm &&& Rn s4 n ko < 2 ^ n := Nat.lt_of_le_of_lt Nat.and_le_right (mkS_lt _ n)
  have hG12 := lt12 hn hGn
  have cl : fX0_findPart s0 s1 s2 s4 (nI i) a2 = some (if mm &&& Rn s4 n ko = 0 then (0, notS s0 i) else (nI (mm &&& Rn s4 n ko), s0)) := by
    rw [fp_58 hL hc hi hr h]
    unfold fX0_findPart_58
    rw [if_pos hr, e_hasP hL hc (by omega), bn1_s, if_neg (by decide), ai24 (by omega), cl_nI (by omega), hK, if_neg (by decide), if_pos rfl, hm1, hR, nI_and, e_orN hG12]
    split <;> rw [bn2_s]
  have J2 : MI (S6_set_at m (nI (ST s2 i + 1))) s4 n kb ko := J
  have ml : fX6_part m = some (if mm &&& Rn s4 n ko = 0 then (0, failX m (nI (ST s2 i + 1)) (E2 s2 i) 0) else (nI (mm &&& Rn s4 n ko), S6_set_at m (nI (E2 s2 i + 1)))) := by
    unfold fX6_part fX6_fail fX6_part_45
    rw [e_is ho hat (by omega), if_pos ⟨by omega, hw⟩, bn1_s, if_neg (by decide), hat, nI_1, e_mreachable I J2, bn1_s]
    show (if S6_meant m &&& nI (Rn s4 n ko) = 0 then bn2 (some (-1, S6_set_choice (S6_set_failedAt (S6_set_at m (nI (ST s2 i + 1))) (nI (ST s2 i + 1) - 1)) 0)) (fun _ s6_8 => some (S6_meant m &&& nI (Rn s4 n ko), s6_8)) else some (S6_meant m &&& nI (Rn s4 n ko), S6_set_at m (nI (ST s2 i + 1)))) = _
    rw [hm2, nI_and, show nI (ST s2 i + 1) - 1 = nI (ST s2 i) from pk_sub (a := ST s2 i + 1) (b := 1) (by omega)]
    by_cases z : mm &&& Rn s4 n ko = 0
    · rw [if_pos z, if_pos (show nI (mm &&& Rn s4 n ko) = 0 by rw [z]; rfl), bn2_s, z, hE]; rfl
    · have nz : ¬ nI (mm &&& Rn s4 n ko) = 0 := fun q => z (nI_inj (a := mm &&& Rn s4 n ko) (b := 0) (by omega) (by decide) q)
      rw [if_neg z, if_neg nz, hE]
  refine ⟨_, _, cl, ml, ?_⟩
  by_cases z : mm &&& Rn s4 n ko = 0
  · rw [if_pos z, if_pos z]
    exact Or.inl ⟨_, _, rfl, rfl, i, _, by omega, Or.inl ⟨rfl, rfl⟩⟩
  · rw [if_neg z, if_neg z]
    exact Or.inr ⟨_, i, Nat.pos_of_ne_zero z, hGn, rfl, rfl, Nat.le_refl i, hi, fun u a b => by omega, h⟩
