theorem Sg_first {w : Nat → Int32} {k e : Nat} {a n kd : Int32} (hke : k ≤ e) (hS : Sg w k e a n kd) : ¬ w k = 15 ∧ ¬ w k = 11 := by
  rcases hS with ⟨h, -, -⟩ | ⟨-, -, h, -, hh⟩
  · rw [h]; decide
  · by_cases z : k = e
    · rw [z]
      rcases hh with ⟨a, -⟩ | ⟨a, -⟩
      · exact ⟨wN_ne a wN15, wN_ne a wN11⟩
      · rw [a]; decide
    · rcases h k (Nat.le_refl k) (by omega) with a | a
      · rw [a]; decide
      · exact ⟨wA_ne a wA15, wA_ne a wA11⟩
theorem Sg_last {w : Nat → Int32} {k e : Nat} {a n kd : Int32} (hS : Sg w k e a n kd) : ¬ w e = 11 ∧ wP (w e) = false := by
  rcases (Sg_head hS).2.2 with h | h | h
  · refine ⟨wN_ne h wN11, bF (fun q => ?_)⟩
    rw [wP_N q] at h
    exact Bool.noConfusion h
  · rw [h]; decide
  · rw [h]; decide
theorem Sg_kd {w : Nat → Int32} {k e : Nat} {a n kd : Int32} (hS : Sg w k e a n kd) : ¬ kd = 11 ∧ ¬ kd = 15 := by
  rcases hS with ⟨-, -, h⟩ | ⟨h, -⟩ <;> rw [h] <;> decide
theorem pt_single {s0 : S0} {s1 : S1} {s2 : S2} {s4 : S4} {m : S6} {w : Nat → Int32} {len n kb ko c i : Nat} (K : LK s1 s2 s4 m w len n kb ko c) (hc : c + 1 ≤ 24) (hi : i ≤ c) (hR : S0_reach s0 = nI (Rn s4 n ko)) (hr : S0_result s0 = 0) (hat : S6_at m = nI (ST s2 i)) (h : i < c → S2_roles s2 (i + 1) ≠ 1)
    (hS : Sg w (ST s2 i) (E2 s2 i) (S2_adjectiveSets s2 i) (S2_nouns s2 i) (S2_kinds s2 i)) (hke : ST s2 i ≤ E2 s2 i) (he : E2 s2 i < len) :
    ∃ x y, fX0_findPart s0 s1 s2 s4 (nI i) (nI (Un s4 n kb ko (w 0))) = some x ∧ fX6_part m = some y ∧ PtR s2 c n i s0 m x y := by
  obtain ⟨I, J, ho, hLF, hM, hA⟩ := K
  have hn := I.1
  have hl := ho.2.1
  have hL := hLF.1.1
  obtain ⟨x, y, f1, f2, f3⟩ := e_find1 (s0 := s0) (w 0) I J ho hL hc (show i < c + 1 by omega) hke he hS hat hM (hA i (by omega)) hR
  obtain ⟨k1, k2⟩ := Sg_kd hS
  obtain ⟨q1, q2⟩ := Sg_first hke hS
  obtain ⟨l1, l2⟩ := Sg_last hS
  have cl : fX0_findPart s0 s1 s2 s4 (nI i) (nI (Un s4 n kb ko (w 0))) = some x := by
    rw [fp_58 hL hc hi hr h]
    unfold fX0_findPart_58
    rw [if_pos hr, e_hasP hL hc (by omega), bn1_s, if_neg (by decide), ai24 (by omega), cl_nI (by omega), if_neg k1, if_neg k2, f1]
    rfl
  have h00 : S6_order m 0 = w 0 := ho.2.2 0 (by omega)
  have z0 : (0 : Int32).toNatClampNeg = 0 := by decide
  have q : ∀ y : Option (Int32 × S6), ai 24 0 y = y := fun y => ai24 (j := 0) (by decide)
  have ml : fX6_part m = bn2 (some y) fun r_7 s6_7 => if r_7 = (-1) then some (0, s6_7) else some (((1 : Int32) <<< (r_7 &&& 31)), s6_7) := by
    unfold fX6_part fX6_part_70 fX6_part_136 fX6_part_182
    rw [e_is ho hat (by omega), if_neg (fun z => q1 z.2), bn1_s, if_pos rfl, e_is ho hat (by omega), if_neg (fun z => q2 z.2), bn1_s, if_pos rfl, hat, Sg_end ho hke he hS, bn1_s, bn1_s, if_pos rfl, ai24 (by omega), cl_nI (by omega), ho.2.2 _ he, if_neg l1, ai24 (by omega), e_mP, bn1_s, l2, if_pos (by decide), q, z0, h00, f2]
  rw [cl, ml]
  rcases f3 with ⟨t, ht, rfl, rfl⟩ | ⟨rfl, rfl⟩ | ⟨q, g1, g2, rfl, rfl⟩
  · rw [bn2_s, if_neg (nI_ne1 (by omega)), nI_shl (by omega)]
    exact ⟨_, _, rfl, rfl, Or.inr ⟨2 ^ t, i, Nat.pow_pos (by decide), Nat.pow_lt_pow_right (by decide) ht, rfl, rfl, Nat.le_refl i, hi, fun u a b => by omega, h⟩⟩
  · rw [bn2_s, if_pos rfl]
    exact ⟨_, _, rfl, rfl, Or.inl ⟨_, _, rfl, rfl, i, _, by omega, Or.inl ⟨rfl, rfl⟩⟩⟩
  · rw [bn2_s, if_pos rfl]
    exact ⟨_, _, rfl, rfl, Or.inl ⟨_, _, rfl, rfl, i, _, by omega, Or.inr ⟨q, g1, g2, rfl, rfl⟩⟩⟩
