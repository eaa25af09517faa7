theorem pn_ne {g n : Nat} (hn : n ≤ 12) (h : 0 < g) (h2 : g < 2 ^ n) : ¬ nI g = 0 := fun q => by
  have := lt12 hn h2
  have := nI_inj (a := g) (b := 0) (by omega) (by decide) q
  omega
theorem fd_stop {s1 : S1} {s2 : S2} {s4 : S4} {x1 x2 : Int32} {g : Nat} {t0 : S0} (h : ¬ S0_result t0 = 0) : fX0_find_28 s1 s2 s4 (g + 1) t0 x1 x2 = some (S0_result t0, t0) := by
  rw [fX0_find_28, if_neg h]
  unfold fX0_find_110
  by_cases z : S2_count s2 ≤ x2
  · rw [if_pos z]
  · rw [if_neg z]
theorem e_fd {s1 : S1} {s2 : S2} {s4 : S4} {m : S6} {w : Nat → Int32} {len n kb ko c mm : Nat} (K : LK s1 s2 s4 m w len n kb ko c) (hc : c + 1 ≤ 24) (hm1 : S1_lastMeant s1 = nI mm) (hm2 : S6_meant m = nI mm) :
    ∀ (d fu fm i gm : Nat) (s0 : S0), i + d = c + 1 → 0 < d → d < fu → d < fm → S2_roles s2 i = 0 → gm < 2 ^ n → S0_group s0 = nI gm → S0_reach s0 = nI (Rn s4 n ko) → S0_result s0 = 0 → S0_target s0 = -1 →
    (∃ s0' t0 m2, fX0_find_28 s1 s2 s4 fu s0 (nI (Un s4 n kb ko (w 0))) (nI i) = some (S0_result t0, t0) ∧ fX6_perform_19 fm (S6_set_at m (nI (ST s2 i - 1))) (nI gm) (-1) = bn2 (fX6_failed m2) (fun r s => some (r, s)) ∧ FaP s2 (c + 1) n s0' m t0 m2)
    ∨ (∃ t0 x gk tg, fX0_find_28 s1 s2 s4 fu s0 (nI (Un s4 n kb ko (w 0))) (nI i) = some (0, t0) ∧ S0_group t0 = nI gk ∧ S0_target t0 = tg ∧ fX6_perform_19 fm (S6_set_at m (nI (ST s2 i - 1))) (nI gm) (-1) = fX6_perform_92 (S6_set_at m x) (nI gk) tg ∧ gk < 2 ^ n ∧ (w 0 = 2 → ∃ t, t < n ∧ tg = nI t))
  | 0, _, _, _, _, _, _, h, _, _, _, _, _, _, _, _ => absurd h (by omega)
  | d + 1, fu, fm, i, gm, s0, hi, _, hf, hf2, hro, hgm, hg, hR, hr, htg => by
    obtain ⟨g, rfl⟩ : ∃ g, fu = g + 2 := ⟨fu - 2, by omega⟩
    obtain ⟨g2, rfl⟩ : ∃ g2, fm = g2 + 1 := ⟨fm - 1, by omega⟩
    have K' := K
    obtain ⟨I, J, ho, hLF, hM, hA⟩ := K'
    have hn := I.1
    have hl := ho.2.1
    have hL := hLF.1.1
    have hw := hLF.1.2.1
    have hst : ST s2 i - 1 + 1 = ST s2 i := by
      cases i with
      | zero => rfl
      | succ i => rfl
    have K2 : LK s1 s2 s4 (S6_set_at m (nI (ST s2 i))) w len n kb ko c := K
    obtain ⟨x, y, f1, f2, f3⟩ := e_pt (s0 := s0) (i := i) K2 hc (by omega) hR hr rfl hro hm1 hm2
    have cl : fX0_find_28 s1 s2 s4 (g + 2) s0 (nI (Un s4 n kb ko (w 0))) (nI i) = fX0_find_28 s1 s2 s4 (g + 1) (S0_set_group x.2 (nI gm ||| x.1)) (nI (Un s4 n kb ko (w 0))) (nI (i + 1)) := by
      rw [fX0_find_28, hL, if_neg (nI_ge (by omega) (by omega)), if_pos hr, e_roleOf hL hc (by omega), bn1_s, if_pos hro, f1, hg]
      unfold fX0_find_104
      rw [nI_1]
      rfl
    rw [cl, fX6_perform_19, show S6_set_at (S6_set_at m (nI (ST s2 i - 1))) (S6_at (S6_set_at m (nI (ST s2 i - 1))) + 1) = S6_set_at m (nI (ST s2 i)) by
      show S6_set_at m (nI (ST s2 i - 1) + 1) = _
      rw [nI_1, hst], f2]
    rcases f3 with ⟨t0, m2, rfl, rfl, hF⟩ | ⟨gk, j2, g0, g1, rfl, rfl, b1, b2, b3, b4⟩
    · obtain ⟨u, xx, hu, hF⟩ := hF
      have hF2 : FaP s2 (c + 1) n (S0_set_group s0 (nI gm ||| 0)) m (S0_set_group t0 (nI gm ||| 0)) m2 := by
        refine ⟨u, xx, hu, ?_⟩
        rcases hF with ⟨rfl, rfl⟩ | ⟨q, q1, q2, rfl, rfl⟩
        · exact Or.inl ⟨rfl, rfl⟩
        · exact Or.inr ⟨q, q1, q2, rfl, rfl⟩
      have nz : ¬ S0_result (S0_set_group t0 (nI gm ||| 0)) = 0 := by
        rcases hF with ⟨rfl, -⟩ | ⟨q, -, -, rfl, -⟩
        · exact (by decide : ¬ (5 : Int32) = 0)
        · exact (by decide : ¬ (1 : Int32) = 0)
      refine Or.inl ⟨_, _, m2, fd_stop nz, ?_, hF2⟩
      rw [bn2_s, if_pos rfl]
    · have ho2 : OR (S6_set_at m (nI (E2 s2 j2 + 1))) w len := ho
      obtain ⟨-, u2, u3, -⟩ := hw j2 (by omega)
      have hgo : gm ||| gk < 2 ^ n := Nat.or_lt_two_pow hgm g1
      have sk := fd_skip (s1 := s1) (s4 := s4) hL hc (s0 := S0_set_group s0 (nI (gm ||| gk))) hr (nI (Un s4 n kb ko (w 0))) (j2 - i) (g + 1) (i + 1) (by omega) (by omega) (fun u a b => b3 u (by omega) (by omega))
      rw [show i + 1 + (j2 - i) = j2 + 1 by omega] at sk
      rw [bn2_s, if_neg (pn_ne hn g0 g1), nI_or, show S6_set_at (S6_set_at m (nI (ST s2 i))) (nI (E2 s2 j2 + 1)) = S6_set_at m (nI (E2 s2 j2 + 1)) from rfl, e_is ho2 rfl (by omega), bn1_s]
      rw [show (nI gk, s0).snd = s0 from rfl, sk]
      by_cases last : j2 = c
      · have e1 : E2 s2 j2 + 1 = len := by rw [last]; exact hLF.2.1
        have n1 : ∀ v, ¬ (E2 s2 j2 + 1 < len ∧ w (E2 s2 j2 + 1) = v) := fun v q => by omega
        have cl2 : fX0_find_28 s1 s2 s4 (g + 1 - (j2 - i)) (S0_set_group s0 (nI (gm ||| gk))) (nI (Un s4 n kb ko (w 0))) (nI (j2 + 1)) = some (0, S0_set_group s0 (nI (gm ||| gk))) := by
          obtain ⟨g3, hg3⟩ : ∃ g3, g + 1 - (j2 - i) = g3 + 1 := ⟨g - (j2 - i), by omega⟩
          rw [hg3, fX0_find_28, hL, if_pos (nI_le (by omega) (by omega))]
          unfold fX0_find_110
          show some (S0_result s0, _) = _
          rw [hr]
        refine Or.inr ⟨_, nI (E2 s2 j2 + 1), gm ||| gk, -1, cl2, rfl, htg, ?_, hgo, fun z => ?_⟩
        · rw [if_neg (n1 13), if_pos rfl, e_is ho2 rfl (by omega), bn1_s, if_neg (n1 16), if_pos rfl]
        · have r2 := hLF.2.2.1.mp z
          by_cases y : i = c
          · rw [← y, hro] at r2
            exact absurd r2 (by decide)
          · rw [b3 c (by omega) (by omega)] at r2
            exact absurd r2 (by decide)
      · obtain ⟨v1, v2, v3, v4, -, v6⟩ := hw (j2 + 1) (by omega)
        obtain ⟨sp, -⟩ := v6 j2 rfl
        have r1 := b4 (by omega)
        have lt : E2 s2 j2 + 1 < len := by
          have : ST s2 (j2 + 1) = E2 s2 j2 + 2 := rfl
          omega
        by_cases r0 : S2_roles s2 (j2 + 1) = 0
        · have w13 : w (E2 s2 j2 + 1) = 13 := by
            rcases sp with s | s | s | s
            · exact absurd s.1 r1
            · exact absurd s.1 r1
            · exact s.2.1
            · exact absurd s.1 (by rw [r0]; decide)
          rw [if_pos (show E2 s2 j2 + 1 < len ∧ w (E2 s2 j2 + 1) = 13 from ⟨lt, w13⟩), if_neg (by decide)]
          exact e_fd K hc hm1 hm2 (d - (j2 - i)) (g + 1 - (j2 - i)) g2 (j2 + 1) (gm ||| gk) (S0_set_group s0 (nI (gm ||| gk))) (by omega) (by omega) (by omega) (by omega) r0 hgo rfl hR hr htg
        · have s2r : S2_roles s2 (j2 + 1) = 2 ∧ w (E2 s2 j2 + 1) = 16 := by
            rcases sp with s | s | s | s
            · exact absurd s.1 r1
            · exact absurd s.1 r1
            · exact absurd s.1 r0
            · exact ⟨s.1, s.2.1⟩
          have jc : j2 + 1 = c := by
            rcases Nat.lt_or_ge (j2 + 1) c with z | z
            · exact absurd s2r.1 ((hw (j2 + 2) (by omega)).2.2.2.2.2 (j2 + 1) rfl).2
            · omega
          have n13 : ¬ (E2 s2 j2 + 1 < len ∧ w (E2 s2 j2 + 1) = 13) := fun q => absurd q.2 (by rw [s2r.2]; decide)
          rw [if_neg n13, if_pos rfl, e_is ho2 rfl (by omega), bn1_s, if_pos (show E2 s2 j2 + 1 < len ∧ w (E2 s2 j2 + 1) = 16 from ⟨lt, s2r.2⟩), if_neg (by decide)]
          obtain ⟨g3, hg3⟩ : ∃ g3, g + 1 - (j2 - i) = g3 + 2 := ⟨g - 1 - (j2 - i), by omega⟩
          have hset : S6_set_at (S6_set_at m (nI (E2 s2 j2 + 1))) (S6_at (S6_set_at m (nI (E2 s2 j2 + 1))) + 1) = S6_set_at m (nI (ST s2 c)) := by
            show S6_set_at m (nI (E2 s2 j2 + 1) + 1) = _
            rw [nI_1, ← jc]
            rfl
          rw [hset, hg3, jc]
          rcases fd_target K hc (s0 := S0_set_group s0 (nI (gm ||| gk))) (G := gm ||| gk) rfl hR hr (by rw [← jc]; exact s2r.1) (nI (Un s4 n kb ko (w 0))) g3 with h | ⟨t0, x, tg, h1, h2, h3, h4, t, ht, h5⟩
          · exact Or.inl h
          · exact Or.inr ⟨t0, x, gm ||| gk, tg, h1, h2, h3, h4, hgo, fun _ => ⟨t, ht, h5⟩⟩
  termination_by d => d
