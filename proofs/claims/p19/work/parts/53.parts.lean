theorem pt_all {s0 : S0} {s1 : S1} {s2 : S2} {s4 : S4} {m : S6} {w : Nat → Int32} {len n kb ko c i : Nat} (K : LK s1 s2 s4 m w len n kb ko c) (hc : c + 1 ≤ 24) (hi : i ≤ c) (hR : S0_reach s0 = nI (Rn s4 n ko)) (hr : S0_result s0 = 0) (hat : S6_at m = nI (ST s2 i)) (hro : S2_roles s2 i = 0)
    (hK : S2_kinds s2 i = 11) (hAl : Al w len (ST s2 i) (E2 s2 i) (S2_adjectiveSets s2 i) (S2_nouns s2 i)) (he : E2 s2 i < len) :
    ∃ x y, fX0_findPart s0 s1 s2 s4 (nI i) (nI (Un s4 n kb ko (w 0))) = some x ∧ fX6_part m = some y ∧ PtR s2 c n i s0 m x y := by
  have K2 := K
  obtain ⟨I, J, ho, hLF, hM, hA⟩ := K
  have hn := I.1
  have hl := ho.2.1
  have hL := hLF.1.1
  have hw := hLF.1.2.1
  have ho2 : OR (S6_set_at m (nI (E2 s2 i + 1))) w len := ho
  have p183 : fX6_part m = bn1 (some (if E2 s2 i + 1 < len ∧ w (E2 s2 i + 1) = 12 then (1 : Int32) else 0)) fun r_1 => fX6_part_200 64 (S6_set_at m (nI (E2 s2 i + 1))) (nI (ST s2 i)) (nI (E2 s2 i)) (nI 0) r_1 := by
    rw [pa_183 ho hat he hAl]
    unfold fX6_part_183
    rw [nI_1, e_is ho2 rfl (by omega)]
    rfl
  -- the end, on both sides
  have fin : ∀ (lm j2 : Nat), i ≤ j2 → j2 ≤ c → (∀ u, i < u → u ≤ j2 → S2_roles s2 u = 1) → (j2 < c → S2_roles s2 (j2 + 1) ≠ 1) → ∀ g, ∃ x y, fX0_findPart_58 s1 s2 s4 (nI i) (nI (Un s4 n kb ko (w 0))) s0 (nI lm) = some x ∧ fX6_part_200 (g + 1) (S6_set_at m (nI (E2 s2 j2 + 1))) (nI (ST s2 i)) (nI (E2 s2 i)) (nI lm) 0 = some y ∧ PtR s2 c n i s0 m x y := fun lm j2 b1 b2 b3 b4 g => by
    obtain ⟨G, g1, g2, g3⟩ := e_all58 (s1 := s1) (lm := lm) I J ho hL hc (show i < c + 1 by omega) hR hr hK he hAl g
    refine ⟨_, _, g2, g3 _, ?_⟩
    by_cases z : G = 0
    · rw [if_pos z, if_pos z]
      exact Or.inl ⟨_, _, rfl, rfl, i, nI (E2 s2 j2 + 1), by omega, Or.inl ⟨rfl, rfl⟩⟩
    · rw [if_neg z, if_neg z]
      exact Or.inr ⟨G, j2, Nat.pos_of_ne_zero z, g1, rfl, rfl, b1, b2, b3, b4⟩
  by_cases b : i < c ∧ S2_roles s2 (i + 1) = 1
  · obtain ⟨sp, -⟩ := (hw (i + 1) (by omega)).2.2.2.2.2 i rfl
    have lt : E2 s2 i + 1 < len := by
      obtain ⟨-, u2, u3, -⟩ := hw (i + 1) (by omega)
      have : ST s2 (i + 1) = E2 s2 i + 2 := rfl
      omega
    have w12 : w (E2 s2 i + 1) = 12 := by
      rcases sp with s | s | s | s
      · exact s.2.1
      · exact absurd s.2.2 (by rw [hro]; decide)
      · exact absurd s.1 (by rw [b.2]; decide)
      · exact absurd s.1 (by rw [b.2]; decide)
    rw [p183, if_pos ⟨lt, w12⟩, bn1_s]
    have cl : fX0_findPart s0 s1 s2 s4 (nI i) (nI (Un s4 n kb ko (w 0))) = fX0_findPart_7 s1 s2 s4 (nI i) (nI (Un s4 n kb ko (w 0))) 64 s0 (nI 0) (nI (i + 1)) := by
      unfold fX0_findPart
      rw [nI_1]; rfl
    rw [cl]
    rcases e_left K2 hc hw hR hr (nI i) (nI (ST s2 i)) (nI (E2 s2 i)) (c - i) 64 64 (i + 1) 0 (by omega) (by omega) (by omega) (by omega) (by omega) b.2 (Nat.pow_pos (by decide)) with ⟨t0, m2, v1, v2, v3⟩ | ⟨lm2, j2, g, v1, v2, v3, v4, v5, v6, v7⟩
    · exact ⟨_, _, v1, v2, Or.inl ⟨t0, m2, rfl, rfl, FaR_P v3⟩⟩
    · obtain ⟨x, y, f1, f2, f3⟩ := fin lm2 j2 (by omega) v4 (fun u a d => v5 u (by omega) d) v6 g
      exact ⟨x, y, v1.trans f1, v2.trans f2, f3⟩
  · have nb : i < c → S2_roles s2 (i + 1) ≠ 1 := fun q r => b ⟨q, r⟩
    have n12 : ¬ (E2 s2 i + 1 < len ∧ w (E2 s2 i + 1) = 12) := fun q => by
      by_cases z : i = c
      · have := hLF.2.1
        rw [← z] at this
        omega
      · obtain ⟨sp, -⟩ := (hw (i + 1) (by omega)).2.2.2.2.2 i rfl
        have r1 := nb (by omega)
        rcases sp with s | s | s | s
        · exact r1 s.1
        · exact r1 s.1
        · exact absurd s.2.1 (by rw [q.2]; decide)
        · exact absurd s.2.1 (by rw [q.2]; decide)
    rw [p183, if_neg n12, bn1_s, fp_58 hL hc hi hr nb]
    exact fin 0 i (Nat.le_refl i) hi (fun u a d => by omega) nb 63
