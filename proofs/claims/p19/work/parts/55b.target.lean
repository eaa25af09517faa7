theorem only0 (s0 : S0) : fX0_onlyOf s0 0 = some (-1) := by rfl
theorem fd_target {s1 : S1} {s2 : S2} {s4 : S4} {m : S6} {w : Nat → Int32} {len n kb ko c : Nat} (K : LK s1 s2 s4 m w len n kb ko c) (hc : c + 1 ≤ 24) {s0 : S0} {G : Nat} (hg : S0_group s0 = nI G) (hR : S0_reach s0 = nI (Rn s4 n ko)) (hr : S0_result s0 = 0) (r2 : S2_roles s2 c = 2) (x1 : Int32) (g3 : Nat) :
    (∃ s0' t0 m2, fX0_find_28 s1 s2 s4 (g3 + 2) s0 x1 (nI c) = some (S0_result t0, t0) ∧ (bn2 (fX6_single (S6_set_at m (nI (ST s2 c))) 16) fun r_7 s6_7 => if r_7 = (-1) then bn2 (fX6_failed s6_7) fun r_9 s6_9 => some (r_9, s6_9) else fX6_perform_92 s6_7 (nI G) r_7) = bn2 (fX6_failed m2) (fun r s => some (r, s)) ∧ FaP s2 (c + 1) n s0' m t0 m2)
    ∨ (∃ t0 x tg, fX0_find_28 s1 s2 s4 (g3 + 2) s0 x1 (nI c) = some (0, t0) ∧ S0_group t0 = nI G ∧ S0_target t0 = tg ∧ (bn2 (fX6_single (S6_set_at m (nI (ST s2 c))) 16) fun r_7 s6_7 => if r_7 = (-1) then bn2 (fX6_failed s6_7) fun r_9 s6_9 => some (r_9, s6_9) else fX6_perform_92 s6_7 (nI G) r_7) = fX6_perform_92 (S6_set_at m x) (nI G) tg ∧ ∃ t, t < n ∧ tg = nI t) := by
  have K' := K
  obtain ⟨I, J, ho, hLF, hM, hA⟩ := K'
  have hn := I.1
  have hL := hLF.1.1
  obtain ⟨-, v2, v3, v4, -, -⟩ := hLF.1.2.1 c (by omega)
  have hS : Sg w (ST s2 c) (E2 s2 c) (S2_adjectiveSets s2 c) (S2_nouns s2 c) (S2_kinds s2 c) := Kd_single v4 (by rw [r2]; decide)
  have J2 : MI (S6_set_at m (nI (ST s2 c))) s4 n kb ko := J
  have ho2 : OR (S6_set_at m (nI (ST s2 c))) w len := ho
  have hM2 : ItR s1 (S6_set_at m (nI (ST s2 c))) n := hM
  have hA2 : AnR s2 (S6_set_at m (nI (ST s2 c))) n c := hA c (by omega)
  obtain ⟨x, y, f1, f2, f3⟩ := e_find1 (s0 := s0) 16 I J2 ho2 hL hc (show c < c + 1 by omega) v2 v3 hS rfl hM2 hA2 hR
  have su : fX4_suited s4 16 = some (nI (Un s4 n kb ko 16)) := e_suited I (Or.inr (Or.inr (Or.inr (Or.inr (Or.inr rfl)))))
  have cl2 : fX0_find_28 s1 s2 s4 (g3 + 2) s0 x1 (nI c) = bn1 (fX0_onlyOf x.2 x.1) fun r_8 => fX0_find_28 s1 s2 s4 (g3 + 1) (S0_set_target x.2 r_8) x1 (nI (c + 1)) := by
    rw [fX0_find_28, hL, if_neg (nI_ge (by omega) (by omega)), if_pos hr, e_roleOf hL hc (by omega), bn1_s, r2, if_neg (by decide), if_pos rfl, su, bn1_s, f1]
    unfold fX0_find_104
    rw [nI_1]
    rfl
  have en : ∀ t0 : S0, fX0_find_28 s1 s2 s4 (g3 + 1) t0 x1 (nI (c + 1)) = some (S0_result t0, t0) := fun t0 => by
    rw [fX0_find_28, hL, if_pos (nI_le (by omega) (by omega))]
    rfl
  rw [cl2, f2]
  rcases f3 with ⟨t, ht, rfl, rfl⟩ | ⟨rfl, rfl⟩ | ⟨q, q1, q2, rfl, rfl⟩
  · refine Or.inr ⟨S0_set_target s0 (nI t), nI (E2 s2 c + 1), nI t, ?_, hg, rfl, ?_, t, ht, rfl⟩
    · rw [e_onlyOf _ (by omega), bn1_s, en]
      show some (S0_result s0, _) = _
      rw [hr]
    · rw [bn2_s, if_neg (nI_ne1 (by omega))]
      rfl
  · refine Or.inl ⟨S0_set_target s0 (-1), S0_set_target (notS s0 c) (-1), _, ?_, ?_, c, nI (E2 s2 c + 1), by omega, Or.inl ⟨rfl, rfl⟩⟩
    · rw [only0, bn1_s, en]
    · rw [bn2_s, if_pos rfl]
      rfl
  · refine Or.inl ⟨S0_set_target s0 (-1), S0_set_target (askS s0 c q) (-1), _, ?_, ?_, c, nI (E2 s2 c + 1), by omega, Or.inr ⟨q, q1, q2, rfl, rfl⟩⟩
    · rw [only0, bn1_s, en]
    · rw [bn2_s, if_pos rfl]
      rfl
