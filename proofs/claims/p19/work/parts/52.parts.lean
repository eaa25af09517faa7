theorem pa_84 {m : S6} {w : Nat → Int32} {len e : Nat} (ho : OR m w len) (he : e < len) (hP : wP (w e) = true) (x1 : Int32) : ∀ (d fu j : Nat), j + d = e → d < fu → (∀ u, j ≤ u → u < e → wA (w u) = true) → fX6_part_84 fu m x1 (nI j) = fX6_part_135 m x1 (nI e)
  | 0, fu, j, hj, hf, h => by
    obtain ⟨g, rfl⟩ : ∃ g, fu = g + 1 := ⟨fu - 1, by omega⟩
    have hl := ho.2.1
    have : j = e := by omega
    subst this
    rw [fX6_part_84, ho.1, if_neg (nI_ge he (by omega)), ai24 (by omega), cl_nI (by omega), ho.2.2 j he, e_mA, bn1_s, wP_A hP, if_pos (by decide)]
    unfold fX6_part_110
    rw [ho.1, if_neg (nI_ge he (by omega)), ai24 (by omega), cl_nI (by omega), ho.2.2 j he, e_mP, bn1_s, if_pos hP, if_neg (by decide)]
  | d + 1, fu, j, hj, hf, h => by
    obtain ⟨g, rfl⟩ : ∃ g, fu = g + 1 := ⟨fu - 1, by omega⟩
    have hl := ho.2.1
    rw [fX6_part_84, ho.1, if_neg (nI_ge (show j < len by omega) (by omega)), ai24 (by omega), cl_nI (by omega), ho.2.2 j (by omega), e_mA, bn1_s, if_pos (h j (Nat.le_refl j) (by omega)), if_neg (by decide), nI_1]
    exact pa_84 ho he hP x1 d g (j + 1) (by omega) (by omega) (fun u a b => h u (by omega) b)
theorem pa_183 {m : S6} {w : Nat → Int32} {len k e : Nat} {a n : Int32} (ho : OR m w len) (hat : S6_at m = nI k) (he : e < len) (hAl : Al w len k e a n) : fX6_part m = fX6_part_183 m (nI k) (nI e) := by
  have hl := ho.2.1
  obtain ⟨-, hke, hh⟩ := hAl
  have pl : wP (w e) = true → fX6_part_136 m (nI k) (nI e) = fX6_part_183 m (nI k) (nI e) := fun hP => by
    unfold fX6_part_136
    rw [ai24 (by omega), cl_nI (by omega), ho.2.2 e he, if_neg (wP_ne hP wP11), ai24 (by omega), e_mP, bn1_s, if_pos hP, if_neg (by decide)]
  rcases hh with ⟨h1, h2, -, h3⟩ | ⟨h1, h2, h3, h4, -⟩ | ⟨h1, h2, -⟩
  · subst h2
    have o136 : fX6_part_136 m (nI e) (nI e) = fX6_part_183 m (nI e) (nI e) := by
      unfold fX6_part_136
      rw [ai24 (by omega), cl_nI (by omega), ho.2.2 e he, if_pos h1]
    unfold fX6_part fX6_part_70
    rw [e_is ho hat (by omega), if_neg (show ¬ (e < len ∧ w e = 15) from fun z => by rw [h1] at z; exact absurd z.2 (by decide)), bn1_s, if_pos rfl, e_is ho hat (by omega), if_pos ⟨he, h1⟩, bn1_s, if_neg (by decide), bn1_s, if_neg (by decide), hat, nI_1, fX6_part_84]
    unfold fX6_part_110 fX6_part_134 fX6_part_135
    rw [ho.1, o136]
    by_cases z : e + 1 < len
    · obtain ⟨y1, y2⟩ := h3 z
      rw [if_neg (nI_ge z (by omega)), ai24 (by omega), cl_nI (by omega), ho.2.2 _ z, e_mA, bn1_s, y1, if_pos (by decide), if_neg (nI_ge z (by omega)), ai24 (by omega), e_mP, bn1_s, y2, if_pos (by decide)]
    · rw [if_pos (nI_le (by omega) (by omega)), if_pos (nI_le (by omega) (by omega))]
  · have hk : k < len := by omega
    unfold fX6_part fX6_part_70
    rw [e_is ho hat (by omega), if_neg (show ¬ (k < len ∧ w k = 15) from fun z => by rw [h1] at z; exact absurd z.2 (by decide)), bn1_s, if_pos rfl, e_is ho hat (by omega), if_pos ⟨hk, h1⟩, bn1_s, if_neg (by decide), bn1_s, if_neg (by decide), hat, nI_1, pa_84 ho he h4 (nI k) (e - (k + 1)) 64 (k + 1) (by omega) (by omega) (fun u a b => h3 u (by omega) b)]
    exact pl h4
  · have hk : k < len := by omega
    have f : ¬ w k = 15 ∧ ¬ w k = 11 := by
      by_cases z : k = e
      · rw [z]; exact ⟨wP_ne h2 wP15, wP_ne h2 wP11⟩
      · rcases h1 k (Nat.le_refl k) (by omega) with a | a
        · rw [a]; decide
        · exact ⟨wA_ne a wA15, wA_ne a wA11⟩
    unfold fX6_part fX6_part_70
    rw [e_is ho hat (by omega), if_neg (fun z => f.1 z.2), bn1_s, if_pos rfl, e_is ho hat (by omega), if_neg (fun z => f.2 z.2), bn1_s, if_pos rfl, hat, e_endOf ho hke he (wP_ne h2 wP10) (wP_A h2) h1, bn1_s, bn1_s, if_pos rfl]
    exact pl h2
