def FaR (s2 : S2) (c n : Nat) (s0 : S0) (m : S6) (t0 : S0) (m2 : S6) : Prop :=
  ∃ i, i < c ∧ ((t0 = notS s0 i ∧ m2 = failS m (E2 s2 i) 0) ∨ ∃ q, 0 < q ∧ q < 2 ^ n ∧ t0 = askS s0 i q ∧ m2 = failS m (E2 s2 i) q)
theorem FaR_res {s2 : S2} {c n : Nat} {s0 t0 : S0} {m m2 : S6} (h : FaR s2 c n s0 m t0 m2) : ¬ S0_result t0 = 0 := by
  obtain ⟨i, -, ⟨rfl, -⟩ | ⟨q, -, -, rfl, -⟩⟩ := h
  · exact (by decide : ¬ (5 : Int32) = 0)
  · exact (by decide : ¬ (1 : Int32) = 0)
theorem fp_stop {s1 : S1} {s2 : S2} {s4 : S4} {a1 a2 x3 x4 : Int32} {g : Nat} {t0 : S0} (h : ¬ S0_result t0 = 0) : fX0_findPart_7 s1 s2 s4 a1 a2 (g + 1) t0 x3 x4 = some (0, t0) := by
  have e : fX0_findPart_58 s1 s2 s4 a1 a2 t0 x3 = some (0, t0) := by
    unfold fX0_findPart_58 fX0_findPart_76
    rw [if_neg h]
  rw [fX0_findPart_7, e, if_neg h]
  by_cases z : S2_count s2 ≤ x4
  · rw [if_pos z]
  · rw [if_neg z]
/-- how a kept order lies over its words; answers aside -/
def LyG (w : Nat → Int32) (len : Nat) (s2 : S2) (c : Nat) : Prop :=
  (S2_count s2 = nI (c + 1) ∧ (∀ i, i < c + 1 → Ph w len s2 i) ∧ True) ∧ E2 s2 c + 1 = len ∧ (w 0 = 2 ↔ S2_roles s2 c = 2) ∧ S2_orderVerb s2 = w 0
/-- what is known while an order is looked at -/
def LK (s1 : S1) (s2 : S2) (s4 : S4) (m : S6) (w : Nat → Int32) (len n kb ko c : Nat) : Prop :=
  WI s4 n kb ko ∧ MI m s4 n kb ko ∧ OR m w len ∧ LyG w len s2 c ∧ ItR s1 m n ∧ (∀ i, i < c + 1 → AnR s2 m n i)
theorem lt_or_pow {lm t n : Nat} (h : lm < 2 ^ n) (ht : t < n) : lm ||| 2 ^ t < 2 ^ n := Nat.or_lt_two_pow h (Nat.pow_lt_pow_right (by decide) ht)
theorem e_left {s1 : S1} {s2 : S2} {s4 : S4} {m : S6} {w : Nat → Int32} {len n kb ko c : Nat} (K : LK s1 s2 s4 m w len n kb ko c) (hc : c + 1 ≤ 24) (hw : ∀ i, i < c + 1 → Ph w len s2 i) {s0 : S0} (hR : S0_reach s0 = nI (Rn s4 n ko)) (hr : S0_result s0 = 0) (a1 x1 x2 : Int32) :
    ∀ (d fu fu2 j lm : Nat), j + d = c + 1 → d < fu → d < fu2 → 0 < d → 0 < j → S2_roles s2 j = 1 → lm < 2 ^ n →
    (∃ t0 m2, fX0_findPart_7 s1 s2 s4 a1 (nI (Un s4 n kb ko (w 0))) fu s0 (nI lm) (nI j) = some (0, t0) ∧ fX6_part_200 fu2 (S6_set_at m (nI (ST s2 j - 1))) x1 x2 (nI lm) 1 = some (0, m2) ∧ FaR s2 (c + 1) n s0 m t0 m2)
    ∨ (∃ lm2 j2 g, fX0_findPart_7 s1 s2 s4 a1 (nI (Un s4 n kb ko (w 0))) fu s0 (nI lm) (nI j) = fX0_findPart_58 s1 s2 s4 a1 (nI (Un s4 n kb ko (w 0))) s0 (nI lm2) ∧ fX6_part_200 fu2 (S6_set_at m (nI (ST s2 j - 1))) x1 x2 (nI lm) 1 = fX6_part_200 (g + 1) (S6_set_at m (nI (E2 s2 j2 + 1))) x1 x2 (nI lm2) 0 ∧ j ≤ j2 ∧ j2 ≤ c ∧ (∀ i, j ≤ i → i ≤ j2 → S2_roles s2 i = 1) ∧ (j2 < c → S2_roles s2 (j2 + 1) ≠ 1) ∧ lm2 < 2 ^ n)
  | 0, _, _, _, _, _, _, _, h, _, _, _ => absurd h (by omega)
  | d + 1, fu, fu2, j, lm, hj, hf, hf2, _, hj0, hro, hlm => by
    obtain ⟨g, rfl⟩ : ∃ g, fu = g + 2 := ⟨fu - 2, by omega⟩
    obtain ⟨g2, rfl⟩ : ∃ g2, fu2 = g2 + 2 := ⟨fu2 - 2, by omega⟩
    obtain ⟨I, J, ho, hLF, hM, hA⟩ := K
    have K2 : LK s1 s2 s4 m w len n kb ko c := ⟨I, J, ho, hLF, hM, hA⟩
    have hL := hLF.1
    have hl := ho.2.1
    have hn := I.1
    obtain ⟨p1, p2, p3, p4, -, p6⟩ := hw j (by omega)
    have hS : Sg w (ST s2 j) (E2 s2 j) (S2_adjectiveSets s2 j) (S2_nouns s2 j) (S2_kinds s2 j) := Kd_single p4 (by rw [hro]; decide)
    have hst : ST s2 j - 1 + 1 = ST s2 j := by
      obtain ⟨i, rfl⟩ : ∃ i, j = i + 1 := ⟨j - 1, by omega⟩
      show E2 s2 i + 2 - 1 + 1 = E2 s2 i + 2
      omega
    have h00 : S6_order m 0 = w 0 := ho.2.2 0 (by omega)
    obtain ⟨x, y, f1, f2, f3⟩ := e_find1 (s0 := s0) (m := S6_set_at m (nI (ST s2 j))) (w 0) I J ho hL.1 hc (show j < c + 1 by omega) p2 p3 hS rfl hM (hA j (by omega)) hR
    have z0 : (0 : Int32).toNatClampNeg = 0 := by decide
    have ml : fX6_part_200 (g2 + 2) (S6_set_at m (nI (ST s2 j - 1))) x1 x2 (nI lm) 1 = bn2 (some y) fun r_7 s6_7 => if r_7 = (-1) then some (0, s6_7) else bn1 (fX6_is s6_7 13) fun r_9 => if r_9 = 0 then fX6_part_200 (g2 + 1) s6_7 x1 x2 (nI lm ||| ((1 : Int32) <<< (r_7 &&& 31))) 0 else bn1 (fX6_isSingleAt s6_7 ((S6_at s6_7) + 1)) fun r_11 => if r_11 = 0 then fX6_part_200 (g2 + 1) s6_7 x1 x2 (nI lm ||| ((1 : Int32) <<< (r_7 &&& 31))) 0 else fX6_part_200 (g2 + 1) s6_7 x1 x2 (nI lm ||| ((1 : Int32) <<< (r_7 &&& 31))) 1 := by
      rw [fX6_part_200, if_neg (by decide), ← f2]
      have q : ai 24 0 = fun y : Option (Int32 × S6) => y := funext fun y => ai24 (j := 0) (by decide)
      rw [q]
      show bn2 (fX6_single (S6_set_at m (nI (ST s2 j - 1) + 1)) (S6_order m (0 : Int32).toNatClampNeg)) _ = _
      rw [z0, h00, nI_1, hst]
      rfl
    have cl : fX0_findPart_7 s1 s2 s4 a1 (nI (Un s4 n kb ko (w 0))) (g + 2) s0 (nI lm) (nI j) = bn2 (some x) fun r_5 s0_5 => fX0_findPart_7 s1 s2 s4 a1 (nI (Un s4 n kb ko (w 0))) (g + 1) s0_5 (nI lm ||| r_5) (nI (j + 1)) := by
      rw [fX0_findPart_7, hL.1, if_neg (nI_ge (by omega) (by omega)), if_pos hr, e_roleOf hL.1 hc (by omega), bn1_s, if_pos hro, f1, nI_1]
    rw [ml, cl]
    rcases f3 with ⟨t, ht, rfl, rfl⟩ | ⟨rfl, rfl⟩ | ⟨q, q1, q2, rfl, rfl⟩
    · rw [bn2_s, bn2_s, if_neg (nI_ne1 (by omega)), nI_shl (by omega), nI_or]
      have hlm2 := lt_or_pow hlm ht
      have hat : S6_at (S6_set_at (S6_set_at m (nI (ST s2 j))) (nI (E2 s2 j + 1))) = nI (E2 s2 j + 1) := rfl
      have hset : S6_set_at (S6_set_at m (nI (ST s2 j))) (nI (E2 s2 j + 1)) = S6_set_at m (nI (E2 s2 j + 1)) := rfl
      have ho2 : OR (S6_set_at m (nI (E2 s2 j + 1))) w len := ho
      rw [hset, e_is ho2 rfl (by omega), bn1_s]
      show _ ∨ _
      have hat2 : S6_at (S6_set_at m (nI (E2 s2 j + 1))) = nI (E2 s2 j + 1) := rfl
      rw [hat2, nI_1]
      by_cases last : j = c
      · have e1 : E2 s2 j + 1 = len := by rw [last]; exact hLF.2.1
        rw [if_neg (show ¬ (E2 s2 j + 1 < len ∧ w (E2 s2 j + 1) = 13) from fun q => by omega), if_pos rfl]
        refine Or.inr ⟨_, j, g2, ?_, rfl, Nat.le_refl j, by omega, fun i a b => by rw [show i = j by omega]; exact hro, fun z => absurd z (by omega), hlm2⟩
        rw [fX0_findPart_7, hL.1, if_pos (nI_le (by omega) (by omega))]
      · obtain ⟨u1, u2, u3, u4, -, u6⟩ := hw (j + 1) (by omega)
        obtain ⟨sp, -⟩ := u6 j rfl
        have lt : E2 s2 j + 1 < len := by
          have : ST s2 (j + 1) = E2 s2 j + 2 := rfl
          omega
        by_cases r1 : S2_roles s2 (j + 1) = 1
        · have w13 : w (E2 s2 j + 1) = 13 := by
            rcases sp with s | s | s | s
            · exact absurd s.2.2.2 (by rw [hro]; decide)
            · exact s.2.1
            · exact s.2.1
            · exact absurd s.1 (by rw [r1]; decide)
          rw [if_pos (show E2 s2 j + 1 < len ∧ w (E2 s2 j + 1) = 13 from ⟨lt, w13⟩), if_neg (by decide)]
          have ys : fX6_isSingleAt (S6_set_at m (nI (E2 s2 j + 1))) (nI (E2 s2 j + 1 + 1)) = some 1 := sgAt_yes ho2 u2 u3 (Kd_single u4 (by rw [r1]; decide))
          rw [ys, bn1_s, if_neg (by decide)]
          rcases e_left K2 hc hw hR hr a1 x1 x2 d (g + 1) (g2 + 1) (j + 1) (lm ||| 2 ^ t) (by omega) (by omega) (by omega) (by omega) (by omega) r1 hlm2 with h | ⟨lm2, j2, g3, v1, v2, v3, v4, v5, v6, v7⟩
          · exact Or.inl h
          · exact Or.inr ⟨lm2, j2, g3, v1, v2, by omega, v4, fun i a b => by
              by_cases z : i = j
              · rw [z]; exact hro
              · exact v5 i (by omega) b, v6, v7⟩
        · have md : (bn1 (some (if E2 s2 j + 1 < len ∧ w (E2 s2 j + 1) = 13 then (1 : Int32) else 0)) fun r_9 => if r_9 = 0 then fX6_part_200 (g2 + 1) (S6_set_at m (nI (E2 s2 j + 1))) x1 x2 (nI (lm ||| 2 ^ t)) 0 else bn1 (fX6_isSingleAt (S6_set_at m (nI (E2 s2 j + 1))) (nI (E2 s2 j + 1 + 1))) fun r_11 => if r_11 = 0 then fX6_part_200 (g2 + 1) (S6_set_at m (nI (E2 s2 j + 1))) x1 x2 (nI (lm ||| 2 ^ t)) 0 else fX6_part_200 (g2 + 1) (S6_set_at m (nI (E2 s2 j + 1))) x1 x2 (nI (lm ||| 2 ^ t)) 1) = fX6_part_200 (g2 + 1) (S6_set_at m (nI (E2 s2 j + 1))) x1 x2 (nI (lm ||| 2 ^ t)) 0 := by
            rw [bn1_s]
            by_cases b : E2 s2 j + 1 < len ∧ w (E2 s2 j + 1) = 13
            · rw [if_pos b, if_neg (by decide)]
              have hk : S2_kinds s2 (j + 1) = 15 ∨ S2_kinds s2 (j + 1) = 11 := by
                rcases sp with s | s | s | s
                · exact absurd s.1 r1
                · exact absurd s.1 r1
                · exact s.2.2 hro
                · exact absurd s.2.1 (by rw [b.2]; decide)
              have ns : fX6_isSingleAt (S6_set_at m (nI (E2 s2 j + 1))) (nI (E2 s2 j + 1 + 1)) = some 0 := by
                refine sgAt_no (e := E2 s2 (j + 1)) ho2 u3 (kd := S2_kinds s2 (j + 1)) (role := S2_roles s2 (j + 1)) (a := S2_adjectiveSets s2 (j + 1)) (n := S2_nouns s2 (j + 1)) ?_
                rcases u4 with s | s | s
                · exact Or.inl s
                · exact Or.inr s
                · have : S2_kinds s2 (j + 1) = 14 ∨ S2_kinds s2 (j + 1) = 17 := by
                    rcases s with ⟨-, -, s⟩ | ⟨s, -⟩
                    · exact Or.inl s
                    · exact Or.inr s
                  rcases hk with z | z <;> rcases this with z2 | z2 <;> rw [z] at z2 <;> exact absurd z2 (by decide)
              rw [ns, bn1_s, if_pos rfl]
            · rw [if_neg b, if_pos rfl]
          refine Or.inr ⟨_, j, g2, ?_, md, Nat.le_refl j, by omega, fun i a b => by rw [show i = j by omega]; exact hro, fun _ => r1, hlm2⟩
          rw [fX0_findPart_7, hL.1, if_neg (nI_ge (by omega) (by omega)), if_pos hr, e_roleOf hL.1 hc (by omega), bn1_s, if_neg r1]
    · rw [bn2_s, bn2_s, if_pos rfl]
      have fa : FaR s2 (c + 1) n s0 m (notS s0 j) (failS (S6_set_at m (nI (ST s2 j))) (E2 s2 j) 0) := ⟨j, by omega, Or.inl ⟨rfl, rfl⟩⟩
      exact Or.inl ⟨_, _, fp_stop (FaR_res fa), rfl, fa⟩
    · rw [bn2_s, bn2_s, if_pos rfl]
      have fa : FaR s2 (c + 1) n s0 m (askS s0 j q) (failS (S6_set_at m (nI (ST s2 j))) (E2 s2 j) q) := ⟨j, by omega, Or.inr ⟨q, q1, q2, rfl, rfl⟩⟩
      exact Or.inl ⟨_, _, fp_stop (FaR_res fa), rfl, fa⟩
