/-- the phrases that are left out are passed over -/
theorem fd_skip {s1 : S1} {s2 : S2} {s4 : S4} {c : Nat} (hL : S2_count s2 = nI (c + 1)) (hc : c + 1 ≤ 24) {s0 : S0} (hr : S0_result s0 = 0) (x1 : Int32) : ∀ (d fu j : Nat), d < fu → j + d ≤ c + 1 → (∀ u, j ≤ u → u < j + d → S2_roles s2 u = 1) → fX0_find_28 s1 s2 s4 fu s0 x1 (nI j) = fX0_find_28 s1 s2 s4 (fu - d) s0 x1 (nI (j + d))
  | 0, _, _, _, _, _ => rfl
  | d + 1, fu, j, hf, hj, h => by
    obtain ⟨g, rfl⟩ : ∃ g, fu = g + 1 := ⟨fu - 1, by omega⟩
    have i := fd_skip (s1 := s1) (s4 := s4) hL hc hr x1 d g (j + 1) (by omega) (by omega) (fun u a b => h u (by omega) (by omega))
    rw [fX0_find_28, hL, if_neg (nI_ge (by omega) (by omega)), if_pos hr, e_roleOf hL hc (by omega), bn1_s, h j (Nat.le_refl j) (by omega), if_neg (by decide), if_neg (by decide)]
    unfold fX0_find_104
    rw [nI_1]
    show fX0_find_28 s1 s2 s4 g s0 x1 (nI (j + 1)) = _
    rw [i, show g + 1 - (d + 1) = g - d by omega, show j + 1 + d = j + (d + 1) by omega]
