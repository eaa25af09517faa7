theorem Sg_head {w : Nat → Int32} {k e : Nat} {a n kd : Int32} (hS : Sg w k e a n kd) : ¬ w e = 10 ∧ wA (w e) = false ∧ (wN (w e) = true ∨ w e = 17 ∨ w e = 14) := by
  rcases hS with ⟨a, b, -⟩ | ⟨-, -, -, -, ⟨a, -⟩ | ⟨a, -⟩⟩
  · rw [b, a]; decide
  · exact ⟨wN_ne a wN10, wN_A a, Or.inl a⟩
  · rw [a]; decide
theorem Sg_end {m : S6} {w : Nat → Int32} {len k e : Nat} {a n kd : Int32} (ho : OR m w len) (hke : k ≤ e) (he : e < len) (hS : Sg w k e a n kd) : fX6_endOf m (nI k) = some (nI e) := by
  obtain ⟨h1, h2, -⟩ := Sg_head hS
  refine e_endOf ho hke he h1 h2 ?_
  rcases hS with ⟨-, b, -⟩ | ⟨-, -, a, -⟩
  · intro j y1 y2; omega
  · exact a
theorem sgAt_of {m : S6} {w : Nat → Int32} {len k e : Nat} (ho : OR m w len) (he : e < len) (hE : fX6_endOf m (nI k) = some (nI e)) : fX6_isSingleAt m (nI k) = some (if wN (w e) = true ∨ w e = 17 ∨ w e = 14 then 1 else 0) := by
  have hl := ho.2.1
  unfold fX6_isSingleAt fX6_isSingleAt_30 fX6_isSingleAt_35
  rw [hE, bn1_s, ai24 (by omega), cl_nI (by omega), ho.2.2 e he, e_mN, bn1_s, bo0, bo1]
  by_cases a : wN (w e) = true
  · rw [if_pos a, if_neg (by decide), if_pos (Or.inl a)]
  · rw [if_neg a, if_pos rfl]
    by_cases b : w e = 17
    · rw [if_pos b, if_pos (Or.inr (Or.inl b))]
    · rw [if_neg b]
      by_cases c : w e = 14
      · rw [if_pos c, if_pos (Or.inr (Or.inr c))]
      · rw [if_neg c, if_neg (show ¬ (wN (w e) = true ∨ w e = 17 ∨ w e = 14) from fun q => by
          rcases q with q | q | q
          · exact a q
          · exact b q
          · exact c q)]
theorem sgAt_yes {m : S6} {w : Nat → Int32} {len k e : Nat} {a n kd : Int32} (ho : OR m w len) (hke : k ≤ e) (he : e < len) (hS : Sg w k e a n kd) : fX6_isSingleAt m (nI k) = some 1 := by
  rw [sgAt_of ho he (Sg_end ho hke he hS), if_pos (Sg_head hS).2.2]
theorem end_self {m : S6} {w : Nat → Int32} {len k : Nat} (ho : OR m w len) (hk : k < len) (h1 : ¬ w k = 10) (h2 : wA (w k) = false) : fX6_endOf m (nI k) = some (nI k) :=
  e_endOf ho (Nat.le_refl k) hk h1 h2 (fun j a b => by omega)
theorem sgAt_no {m : S6} {w : Nat → Int32} {len k e : Nat} {a n kd role : Int32} (ho : OR m w len) (he : e < len) (hK : (kd = 15 ∧ role = 0 ∧ e = k ∧ w k = 15) ∨ (kd = 11 ∧ role = 0 ∧ Al w len k e a n)) : fX6_isSingleAt m (nI k) = some 0 := by
  rcases hK with ⟨-, -, rfl, h⟩ | ⟨-, -, -, hke, h | h | h⟩
  · rw [sgAt_of ho he (end_self ho he (by rw [h]; decide) (by rw [h]; decide)), h, if_neg (by decide)]
  · obtain ⟨h, rfl, -⟩ := h
    rw [sgAt_of ho he (end_self ho he (by rw [h]; decide) (by rw [h]; decide)), h, if_neg (by decide)]
  · have h := h.1
    rw [sgAt_of ho (show k < len by omega) (end_self ho (by omega) (by rw [h]; decide) (by rw [h]; decide)), h, if_neg (by decide)]
  · obtain ⟨h1, h2, -⟩ := h
    rw [sgAt_of ho he (e_endOf ho hke he (wP_ne h2 wP10) (wP_A h2) h1), if_neg (show ¬ (wN (w e) = true ∨ w e = 17 ∨ w e = 14) from fun q => by
      rcases q with q | q | q
      · rw [wP_N h2] at q; exact Bool.noConfusion q
      · exact wP_ne h2 wP17 q
      · exact wP_ne h2 wP14 q)]
theorem e_roleOf {s2 : S2} {c i : Nat} (hc : S2_count s2 = nI c) (h24 : c ≤ 24) (h : i < c) : fX2_roleOf s2 (nI i) = some (S2_roles s2 i) := by
  unfold fX2_roleOf fX2_roleOf_18
  rw [e_hasP hc h24 h, bn1_s, if_neg (by decide), ai24 (by omega), cl_nI (by omega)]
/-- roles tell kinds: what is left out, and a target, is a single -/
theorem Kd_single {w : Nat → Int32} {len k e : Nat} {kd role a n : Int32} (hK : Kd w len k e kd role a n) (h : ¬ role = 0) : Sg w k e a n kd := by
  rcases hK with g | g | g
  · exact absurd g.2.1 h
  · exact absurd g.2.1 h
  · exact g
