theorem e_fit {s0 : S0} {s2 : S2} {s4 : S4} {n kb ko c i : Nat} (I : WI s4 n kb ko) (hL : S2_count s2 = nI c) (hc : c ≤ 24) (hi : i < c) (hR : S0_reach s0 = nI (Rn s4 n ko)) : fX0_fitting s0 s2 s4 (nI i) = some (nI (Fn s4 n ko (S2_adjectiveSets s2 i) (S2_nouns s2 i))) := by
  have hR12 : Rn s4 n ko < 2 ^ 12 := mkS_lt12 _ I.1
  unfold fX0_fitting
  rw [e_hasP hL hc hi, bn1_s, if_neg (by decide), ai24 (by omega), ai24 (by omega), cl_nI (by omega), hR, e_described I hR12, bn1_s]
  rfl
theorem e_orN {s0 : S0} {i g : Nat} (hg : g < 2 ^ 12) : fX0_orNothing s0 (nI g) (nI i) = some (if g = 0 then (0, notS s0 i) else (nI g, s0)) := by
  unfold fX0_orNothing fX0_orNothing_14
  by_cases z : g = 0
  · rw [if_pos z, if_pos (show nI g = 0 by rw [z]; rfl), z]; rfl
  · have nz : ¬ nI g = 0 := fun q => z (nI_inj (a := g) (b := 0) (by omega) (by decide) q)
    rw [if_neg z, if_neg nz]
/-- the end of all, or a plural, on both sides -/
theorem e_all58 {s0 : S0} {s1 : S1} {s2 : S2} {s4 : S4} {m : S6} {w : Nat → Int32} {len n kb ko c i k e lm : Nat} (I : WI s4 n kb ko) (J : MI m s4 n kb ko) (ho : OR m w len) (hL : S2_count s2 = nI c) (hc : c ≤ 24) (hi : i < c) (hR : S0_reach s0 = nI (Rn s4 n ko)) (hr : S0_result s0 = 0)
    (hK : S2_kinds s2 i = 11) (he : e < len) (hAl : Al w len k e (S2_adjectiveSets s2 i) (S2_nouns s2 i)) (g : Nat) :
    ∃ G, G < 2 ^ n ∧ fX0_findPart_58 s1 s2 s4 (nI i) (nI (Un s4 n kb ko (w 0))) s0 (nI lm) = some (if G = 0 then (0, notS s0 i) else (nI G, s0))
      ∧ ∀ a, fX6_part_200 (g + 1) (S6_set_at m a) (nI k) (nI e) (nI lm) 0 = some (if G = 0 then (0, S6_set_choice (S6_set_failedAt (S6_set_at m a) (nI e)) 0) else (nI G, S6_set_at m a)) := by
  have hn := I.1
  have hl := ho.2.1
  have hke : k ≤ e := hAl.2.1
  have hFn : Fn s4 n ko (S2_adjectiveSets s2 i) (S2_nouns s2 i) < 2 ^ n := mkS_lt _ n
  have hF12 : Fn s4 n ko (S2_adjectiveSets s2 i) (S2_nouns s2 i) < 2 ^ 12 := mkS_lt12 _ hn
  have hR12 : Rn s4 n ko < 2 ^ 12 := mkS_lt12 _ hn
  have hGn : (Fn s4 n ko (S2_adjectiveSets s2 i) (S2_nouns s2 i) &&& Un s4 n kb ko (w 0)) &&& (lm ^^^ 4294967295) < 2 ^ n := Nat.lt_of_le_of_lt Nat.and_le_left (Nat.lt_of_le_of_lt Nat.and_le_left hFn)
  have hG12 := lt12 hn hGn
  refine ⟨_, hGn, ?_, fun a => ?_⟩
  · unfold fX0_findPart_58
    rw [if_pos hr, e_hasP hL hc hi, bn1_s, if_neg (by decide), ai24 (by omega), cl_nI (by omega), if_pos hK, e_fit I hL hc hi hR, bn1_s, nI_and, nI_andn, e_orN hG12]
    split <;> rw [bn2_s]
  · have J2 : MI (S6_set_at m a) s4 n kb ko := J
    have ho2 : OR (S6_set_at m a) w len := ho
    have h00 : S6_order (S6_set_at m a) 0 = w 0 := ho.2.2 0 (by omega)
    have z0 : (0 : Int32).toNatClampNeg = 0 := by decide
    have q : ∀ y : Option (Int32 × S6), ai 24 0 y = y := fun y => ai24 (j := 0) (by decide)
    have hU : mkS (fun t => (Fn s4 n ko (S2_adjectiveSets s2 i) (S2_nouns s2 i)).testBit t && SU (S4_holders s4) kb ko (w 0) t) n = Fn s4 n ko (S2_adjectiveSets s2 i) (S2_nouns s2 i) &&& Un s4 n kb ko (w 0) := by
      refine nat_ext fun i => ?_
      unfold Un
      rw [mkS_bit, Nat.testBit_and, mkS_bit]
      cases (Fn s4 n ko (S2_adjectiveSets s2 _) (S2_nouns s2 _)).testBit i <;> cases (decide (i < n)) <;> simp
    have p299 : fX6_part_299 (S6_set_at m a) (nI k) (nI e) (nI lm) (S2_nouns s2 i) = some (if (Fn s4 n ko (S2_adjectiveSets s2 i) (S2_nouns s2 i) &&& Un s4 n kb ko (w 0)) &&& (lm ^^^ 4294967295) = 0 then (0, S6_set_choice (S6_set_failedAt (S6_set_at m a) (nI e)) 0) else (nI ((Fn s4 n ko (S2_adjectiveSets s2 i) (S2_nouns s2 i) &&& Un s4 n kb ko (w 0)) &&& (lm ^^^ 4294967295)), S6_set_at m a)) := by
      unfold fX6_part_299 fX6_fail fX6_part_345
      rw [q, e_mreachable I J2, bn1_s, e_adjUp ho2 hke he, bn1_s, ← hAl.1, e_having I J2 (k := mkS (rcT (S4_holders s4) ko) n) hR12, bn1_s, z0, h00, show mkS (fun t => (mkS (rcT (S4_holders s4) ko) n).testBit t && DS (S4_nouns s4) (S4_adjectiveSets s4) (S2_adjectiveSets s2 i) (S2_nouns s2 i) t) n = Fn s4 n ko (S2_adjectiveSets s2 i) (S2_nouns s2 i) from rfl, e_msuited I J2 hF12, bn1_s, hU, nI_andn]
      generalize (Fn s4 n ko (S2_adjectiveSets s2 i) (S2_nouns s2 i) &&& Un s4 n kb ko (w 0)) &&& (lm ^^^ 4294967295) = G at hG12
      by_cases z : G = 0
      · rw [if_pos z, if_pos (show nI G = 0 by rw [z]; rfl), bn2_s, z]; rfl
      · have nz : ¬ nI G = 0 := fun q => z (nI_inj (a := G) (b := 0) (by omega) (by decide) q)
        rw [if_neg z, if_neg nz]
    rw [← p299, fX6_part_200, if_pos rfl, ai24 (by omega), cl_nI (by omega), show S6_order (S6_set_at m a) e = w e from ho.2.2 e he, e_mP, bn1_s]
    rcases hAl.2.2 with ⟨h1, h2, h3, -⟩ | ⟨-, -, -, h1, h2⟩ | ⟨-, h1, h2⟩
    · rw [h2, h1, if_neg (show ¬ wP 11 = true by decide), if_pos rfl, h3]
    · rw [if_pos h1, if_neg (by decide), ai24 (by omega), h2]
    · rw [if_pos h1, if_neg (by decide), ai24 (by omega), h2]
