/-- how the two finds of a single agree: found, nothing, a question -/
def SgR (n i e : Nat) (s0 : S0) (m : S6) (x : Int32 × S0) (y : Int32 × S6) : Prop :=
  (∃ t, t < n ∧ x = (nI (2 ^ t), s0) ∧ y = (nI t, S6_set_at m (nI (e + 1))))
  ∨ (x = (0, notS s0 i) ∧ y = (-1, failS m e 0))
  ∨ (∃ q, 0 < q ∧ q < 2 ^ n ∧ x = (0, askS s0 i q) ∧ y = (-1, failS m e q))
theorem e_find1 {s0 : S0} {s1 : S1} {s2 : S2} {s4 : S4} {m : S6} {w : Nat → Int32} {len n kb ko c i : Nat} (v : Int32) (I : WI s4 n kb ko) (J : MI m s4 n kb ko) (ho : OR m w len) (hL : S2_count s2 = nI c) (hc : c ≤ 24) (hi : i < c) (p2 : ST s2 i ≤ E2 s2 i) (p3 : E2 s2 i < len)
    (hS : Sg w (ST s2 i) (E2 s2 i) (S2_adjectiveSets s2 i) (S2_nouns s2 i) (S2_kinds s2 i)) (hat : S6_at m = nI (ST s2 i)) (hM : ItR s1 m n) (hA : AnR s2 m n i) (hR : S0_reach s0 = nI (Rn s4 n ko)) :
    ∃ x y, fX0_findSingle s0 s1 s2 s4 (nI i) (nI (Un s4 n kb ko v)) = some x ∧ fX6_single m v = some y ∧ SgR n i (E2 s2 i) s0 m x y := by
  have hn := I.1
  have hl := ho.2.1
  have hR12 : Rn s4 n ko < 2 ^ 12 := mkS_lt12 _ hn
  have hE10 : ¬ w (E2 s2 i) = 10 ∧ wA (w (E2 s2 i)) = false := by
    rcases hS with ⟨a, b, -⟩ | ⟨-, -, -, -, ⟨a, -⟩ | ⟨a, -⟩⟩
    · rw [b, a]; decide
    · exact ⟨wN_ne a wN10, wN_A a⟩
    · rw [a]; decide
  have hEn : fX6_endOf m (S6_at m) = some (nI (E2 s2 i)) := by
    rw [hat]
    refine e_endOf ho p2 p3 hE10.1 hE10.2 ?_
    rcases hS with ⟨-, b, -⟩ | ⟨-, -, a, -⟩
    · intro j y1 y2; omega
    · exact a
  have he24 : E2 s2 i < 24 := by omega
  rcases hA with ⟨a1, a2⟩ | ⟨t, ht, a1, a2⟩
  · rcases hS with ⟨w14, b, hK⟩ | ⟨hK, -, -, ha, hh⟩
    · have hW : S6_order m (E2 s2 i) = 14 := by rw [ho.2.2 _ p3, b]; exact w14
      obtain ⟨g1, g2⟩ := ms_I (v := v) I J he24 hEn a2 hW
      rcases hM with ⟨m1, m2⟩ | ⟨t, ht, m1, m2⟩
      · refine ⟨_, _, fs_I hL hc hi a1 hK (al := 0) m1 hR (by decide), g1 m2, Or.inr (Or.inl ⟨?_, rfl⟩)⟩
        rw [Nat.zero_and, if_pos rfl]
      · refine ⟨_, _, fs_I hL hc hi a1 hK (al := 2 ^ t) m1 hR (two_pow_lt12 (by omega)), g2 t ht m2, ?_⟩
        rw [pow_and]
        by_cases z : (Rn s4 n ko).testBit t = true
        · have p : ¬ 2 ^ t = 0 := by
            have : 0 < 2 ^ t := Nat.pow_pos (by decide)
            omega
          rw [if_pos z, if_neg p, if_pos z]
          exact Or.inl ⟨t, ht, rfl, rfl⟩
        · rw [if_neg z, if_pos rfl, if_neg z]
          exact Or.inr (Or.inl ⟨rfl, rfl⟩)
    · have w14 : ¬ w (E2 s2 i) = 14 := by
        rcases hh with ⟨a, -⟩ | ⟨a, -⟩
        · exact wN_ne a wN14
        · rw [a]; decide
      have hnn : (w (E2 s2 i) = 17 ∧ S2_nouns s2 i = -1) ∨ (¬ w (E2 s2 i) = 17 ∧ S2_nouns s2 i = w (E2 s2 i) - 30) := by
        rcases hh with ⟨a, b⟩ | ⟨a, b⟩
        · exact Or.inr ⟨wN_ne a wN17, b⟩
        · exact Or.inl ⟨a, b⟩
      have hFn : Fn s4 n ko (S2_adjectiveSets s2 i) (S2_nouns s2 i) < 2 ^ n := mkS_lt _ n
      have f := fs_O (U := Un s4 n kb ko v) I hL hc hi a1 (s0 := s0) (s1 := s1) (by rw [hK]; decide) hR rfl
      obtain ⟨r, g0, g1, g2⟩ := ms_O (v := v) I J ho hat p2 p3 hEn a2 w14 ha hnn rfl rfl
      generalize hFe : Fn s4 n ko (S2_adjectiveSets s2 i) (S2_nouns s2 i) = F at f g1 g2 hFn
      generalize hGe : F &&& Un s4 n kb ko v = G at f g1 g2
      have hGn : G < 2 ^ n := by rw [← hGe]; exact Nat.lt_of_le_of_lt Nat.and_le_left hFn
      have hF12 := lt12 hn hFn
      have hG12 := lt12 hn hGn
      refine ⟨_, r, f, g0, ?_⟩
      by_cases x : pc 12 F = 1
      · obtain ⟨t, ht, e1, e2⟩ := g1 x
        have nz : ¬ F = 0 := fun q => by
          rw [(pc_zero hF12).mpr q] at x
          exact absurd x (by decide)
        rw [if_neg (show ¬ 1 < pc 12 F by rw [x]; decide), if_neg nz, e1]
        exact Or.inl ⟨t, ht, rfl, e2⟩
      · obtain ⟨h1, h2⟩ := g2 x
        by_cases z : F = 0
        · have pz := (pc_zero hF12).mpr z
          have gz : G = 0 := by rw [← hGe, z, Nat.zero_and]
          have pg := (pc_zero hG12).mpr gz
          rw [if_neg (show ¬ 1 < pc 12 F by rw [pz]; decide), if_pos z]
          have e := h2 (by rw [pg]; decide)
          rw [if_pos gz, z] at e
          exact Or.inr (Or.inl ⟨rfl, e⟩)
        · have pz : pc 12 F ≠ 0 := fun q => z ((pc_zero hF12).mp q)
          rw [if_pos (Nat.lt_of_le_of_ne (Nat.pos_of_ne_zero pz) (Ne.symm x))]
          by_cases y : pc 12 G = 1
          · obtain ⟨t, ht, e1, e2⟩ := h1 y
            rw [if_pos y, e1]
            exact Or.inl ⟨t, ht, rfl, e2⟩
          · rw [if_neg y]
            refine Or.inr (Or.inr ⟨if G = 0 then F else G, ?_, ?_, rfl, h2 y⟩)
            · by_cases gz : G = 0
              · rw [if_pos gz]; exact Nat.pos_of_ne_zero z
              · rw [if_neg gz]; exact Nat.pos_of_ne_zero gz
            · split
              · exact hFn
              · exact hGn
  · refine ⟨_, _, fs_A hL hc hi (by rw [a1]; exact pow_ne (by omega)), ms_A he24 hEn (by rw [a2]; exact nI_ne1 (by omega)), Or.inl ⟨t, ht, by rw [a1], by rw [a2]⟩⟩
