/-- what the law finds things by, beside the class and the game -/
def LE (s1 : S1) (s2 : S2) (s4 : S4) (m : S6) (w v t z f o kk : Nat → Int32) (len n kb ko c mm : Nat) : Prop :=
  LK s1 s2 s4 m w len n kb ko c ∧ c + 1 ≤ 24 ∧ LT t z s4 n kb ko ∧ LA s4 n ∧ z 8 = S6_it m ∧ (z 5 = nI mm ∧ S1_lastMeant s1 = nI mm ∧ mm < 2 ^ n) ∧ (∀ j, j < len → v j = S6_answer m j) ∧ (w 0 = 0 ∨ w 0 = 1 ∨ w 0 = 2 ∨ w 0 = 3 ∨ w 0 = 4) ∧ RwF s2 c f o kk
def LFail (s2 : S2) (c n : Nat) (t z : Nat → Int32) (t0 : S0) (rl : Option (Int32 × (Nat → Int32) × (Nat → Int32))) : Prop :=
  ∃ i, i ≤ c ∧ ((S0_result t0 = 5 ∧ S0_openPhrase t0 = nI i ∧ rl = some (5, t, Z5 z (E2 s2 i))) ∨ (∃ q, 0 < q ∧ q < 2 ^ n ∧ S0_result t0 = 1 ∧ S0_openPhrase t0 = nI i ∧ S0_choice t0 = nI q ∧ rl = some (1, t, Z1 z (E2 s2 i) q)))
theorem LFail_res {s2 : S2} {c n : Nat} {t z : Nat → Int32} {t0 : S0} {rl : Option (Int32 × (Nat → Int32) × (Nat → Int32))} (h : LFail s2 c n t z t0 rl) : ¬ S0_result t0 = 0 := by
  obtain ⟨i, -, ⟨h, -⟩ | ⟨q, -, -, h, -⟩⟩ := h <;> rw [h] <;> decide
/-- a single that fails, on both sides -/
theorem LSR_fail {s2 : S2} {c n i : Nat} {s0 : S0} {x : Int32 × S0} {fd qu : Int32} {w v t z f o kk : Nat → Int32} {k56 : (Nat → Int32) → (Nat → Int32) → (Nat → Int32) → (Nat → Int32) → (Nat → Int32) → Int32 → Int32 → Int32 → Int32 → Int32 → Option (Int32 × (Nat → Int32) × (Nat → Int32))} {x7 x8 x9 x10 x11 : Int32} (hn : n ≤ 12) (hi : i ≤ c) (h : LSR n i s0 x fd qu) :
    (∃ τ, τ < n ∧ x = (nI (2 ^ τ), s0) ∧ fd = nI (2 ^ τ)) ∨ (∃ t0, x = (0, t0) ∧ LFail s2 c n t z t0 (fL_does_334 w v k56 t z f o kk x7 x8 x9 x10 x11 (nI (E2 s2 i)) fd qu)) := by
  rcases h with h | ⟨rfl, rfl, rfl⟩ | ⟨q, q1, q2, rfl, rfl, rfl⟩
  · exact Or.inl h
  · exact Or.inr ⟨_, rfl, i, hi, Or.inl ⟨rfl, rfl, l_334z x11 _⟩⟩
  · exact Or.inr ⟨_, rfl, i, hi, Or.inr ⟨q, q1, q2, rfl, rfl, rfl, l_334q x11 _ (pn_ne hn q1 q2)⟩⟩
theorem if34 (a b : Int32) : (if (3 : Int32) = 4 then a else b) = b := if_neg (by decide)
theorem if04 (a b : Int32) : (if (0 : Int32) = 4 then a else b) = b := if_neg (by decide)
theorem if44 (a b : Int32) : (if (4 : Int32) = 4 then a else b) = a := if_pos rfl
theorem l_left {s0 : S0} {s1 : S1} {s2 : S2} {s4 : S4} {m : S6} {w v t z f o kk : Nat → Int32} {len n kb ko c mm i j : Nat} (E : LE s1 s2 s4 m w v t z f o kk len n kb ko c mm) (hB : Blk s2 c i j) (hR : S0_reach s0 = nI (Rn s4 n ko)) (hr : S0_result s0 = 0) (gm : Nat) (x10 : Int32) :
    ∀ (d fu fl u lm : Nat), u + d = j + 1 → d < fu → d < fl → i < u → lm < 2 ^ n →
      (∃ t0, fX0_findPart_7 s1 s2 s4 (nI i) (nI (Un s4 n kb ko (w 0))) fu s0 (nI lm) (nI u) = some (0, t0) ∧ LFail s2 c n t z t0 (fL_does_56 w v fl t z f o kk (nI (c + 1)) (nI gm) (nI lm) x10 (nI (u - 1))))
      ∨ (∃ lm2, lm2 < 2 ^ n ∧ fX0_findPart_7 s1 s2 s4 (nI i) (nI (Un s4 n kb ko (w 0))) fu s0 (nI lm) (nI u) = fX0_findPart_58 s1 s2 s4 (nI i) (nI (Un s4 n kb ko (w 0))) s0 (nI lm2) ∧ fL_does_56 w v fl t z f o kk (nI (c + 1)) (nI gm) (nI lm) x10 (nI (u - 1)) = fL_does_56 w v (fl - d) t z f o kk (nI (c + 1)) (nI gm) (nI lm2) x10 (nI j))
  | 0, fu, fl, u, lm, hu, hf, hfl, hiu, hlm => by
    obtain ⟨g, rfl⟩ : ∃ g, fu = g + 1 := ⟨fu - 1, by omega⟩
    obtain ⟨K, hc, -⟩ := E
    have hL := K.2.2.2.1.1.1
    obtain ⟨b1, b2, b3, b4, b5⟩ := hB
    have e : u = j + 1 := by omega
    subst e
    refine Or.inr ⟨lm, hlm, ?_, rfl⟩
    by_cases last : j = c
    · rw [fX0_findPart_7, hL, if_pos (nI_le (by omega) (by omega))]
    · rw [fX0_findPart_7, hL, if_neg (nI_ge (by omega) (by omega)), if_pos hr, e_roleOf hL hc (by omega), bn1_s, if_neg (b5 (by omega))]
  | d + 1, fu, fl, u, lm, hu, hf, hfl, hiu, hlm => by
    obtain ⟨g, rfl⟩ : ∃ g, fu = g + 2 := ⟨fu - 2, by omega⟩
    obtain ⟨g2, rfl⟩ : ∃ g2, fl = g2 + 1 := ⟨fl - 1, by omega⟩
    have E2' := E
    obtain ⟨K, hc, hT, hA, hit, -, hv, hvb, hRw⟩ := E2'
    have hn6 := hT.2.1
    have hL := K.2.2.2.1.1.1
    have hw := K.2.2.2.1.1.2.1
    obtain ⟨b1, b2, b3, b4, b5⟩ := hB
    have hB2 : Blk s2 c i j := ⟨b1, b2, b3, b4, b5⟩
    have ru := b4 u hiu (by omega)
    obtain ⟨-, -, -, p4, -, -⟩ := hw u (by omega)
    obtain ⟨r1, r2, r3⟩ := (hRw.1 i j hB2 (by omega)).1 u hiu (by omega)
    have hS := Kd_single p4 (by rw [ru]; decide)
    obtain ⟨x, fd, qu, f1, f2, f3⟩ := l_single (s0 := s0) (q := 3) K hc hT hA hit hv hvb (show u ≤ c by omega) hS hR (show u - 1 < 24 by omega) r1 r2 r3 (Or.inr (Or.inl rfl)) g2 (nI (c + 1)) (nI gm) (nI lm) x10 (nI_ge (show u - 1 < c + 1 by omega) (by omega))
    rw [if34] at f1
    have cl : fX0_findPart_7 s1 s2 s4 (nI i) (nI (Un s4 n kb ko (w 0))) (g + 2) s0 (nI lm) (nI u) = bn2 (some x) fun r_5 s0_5 => fX0_findPart_7 s1 s2 s4 (nI i) (nI (Un s4 n kb ko (w 0))) (g + 1) s0_5 (nI lm ||| r_5) (nI (u + 1)) := by
      rw [fX0_findPart_7, hL, if_neg (nI_ge (by omega) (by omega)), if_pos hr, e_roleOf hL hc (by omega), bn1_s, if_pos ru, f1, nI_1]
    rw [cl, f2]
    rcases LSR_fail (s2 := s2) (c := c) (w := w) (v := v) (t := t) (z := z) (f := f) (o := o) (kk := kk) (k56 := KK w v g2) (x7 := nI (c + 1)) (x8 := nI gm) (x9 := nI lm) (x10 := x10) (x11 := nI (u - 1)) (show n ≤ 12 by omega) (show u ≤ c by omega) f3 with ⟨τ, hτ, rfl, rfl⟩ | ⟨t0, rfl, h⟩
    · rw [bn2_s, nI_or, l_334l (show u - 1 < 24 by omega) _ _ _ (pow_ne (by omega)) r3, show u - 1 + 1 = u by omega, nI_or, show nI gm ||| 0 = nI gm by rw [li0, nI_or, Nat.or_zero]]
      have ih := l_left E hB2 hR hr gm x10 d (g + 1) g2 (u + 1) (lm ||| 2 ^ τ) (by omega) (by omega) (by omega) (by omega) (lt_or_pow hlm hτ)
      rw [show u + 1 - 1 = u by omega] at ih
      rw [show g2 + 1 - (d + 1) = g2 - d by omega]
      exact ih
    · rw [bn2_s]
      exact Or.inl ⟨t0, fp_stop (LFail_res h), h⟩
theorem mk_suF {s4 : S4} {n kb ko : Nat} (v a nn : Int32) : mkS (fun j => (Un s4 n kb ko v).testBit j && DS (S4_nouns s4) (S4_adjectiveSets s4) a nn j) n = Fn s4 n ko a nn &&& Un s4 n kb ko v := by
  refine nat_ext fun i => ?_
  unfold Fn Un Rn
  rw [mkS_bit, Nat.testBit_and, mkS_bit, mkS_bit, mkS_bit]
  unfold SU
  by_cases h : i < n
  · simp only [decide_eq_true h, Bool.true_and]
    cases rcT (S4_holders s4) ko i <;> cases DS (S4_nouns s4) (S4_adjectiveSets s4) a nn i <;> simp
  · simp [h]
/-- a part, from the place of its first row -/
theorem l_pt {s0 : S0} {s1 : S1} {s2 : S2} {s4 : S4} {m : S6} {w v t z f o kk : Nat → Int32} {len n kb ko c mm i j : Nat} (E : LE s1 s2 s4 m w v t z f o kk len n kb ko c mm) (hB : Blk s2 c i j) (hR : S0_reach s0 = nI (Rn s4 n ko)) (hr : S0_result s0 = 0) (gm : Nat) (x10 : Int32) (fl : Nat) (hfl : j - i + 1 < fl) :
    (∃ t0, fX0_findPart s0 s1 s2 s4 (nI i) (nI (Un s4 n kb ko (w 0))) = some (0, t0) ∧ LFail s2 c n t z t0 (fL_does_56 w v fl t z f o kk (nI (c + 1)) (nI gm) (nI 0) x10 (nI i)))
    ∨ (∃ gk, 0 < gk ∧ gk < 2 ^ n ∧ fX0_findPart s0 s1 s2 s4 (nI i) (nI (Un s4 n kb ko (w 0))) = some (nI gk, s0) ∧ fL_does_56 w v fl t z f o kk (nI (c + 1)) (nI gm) (nI 0) x10 (nI i) = fL_does_56 w v (fl - (j - i + 1)) t z f o kk (nI (c + 1)) (nI (gm ||| gk)) (nI 0) x10 (nI (j + 1))) := by
  have E2' := E
  obtain ⟨K, hc, hT, hA, hit, hmm, hv, hvb, hRw⟩ := E2'
  have K' := K
  obtain ⟨I, J, ho, hLF, hM, hAn⟩ := K'
  have hn6 := hT.2.1
  have hl := ho.2.1
  have hL := hLF.1.1
  have hw := hLF.1.2.1
  have hB2 := hB
  obtain ⟨b1, b2, b3, b4, b5⟩ := hB2
  obtain ⟨-, p2, p3, p4, -, -⟩ := hw i (by omega)
  obtain ⟨rf, ro, rk⟩ := (hRw.1 i j hB (by omega)).2
  have hj24 : j < 24 := by omega
  -- all, or a plural, behind what is left out
  have hall : S2_kinds s2 i = 11 → Al w len (ST s2 i) (E2 s2 i) (S2_adjectiveSets s2 i) (S2_nouns s2 i) → ∀ (lm g : Nat), lm < 2 ^ n →
      (∃ t0, fX0_findPart_58 s1 s2 s4 (nI i) (nI (Un s4 n kb ko (w 0))) s0 (nI lm) = some (0, t0) ∧ LFail s2 c n t z t0 (fL_does_56 w v (g + 1) t z f o kk (nI (c + 1)) (nI gm) (nI lm) x10 (nI j)))
      ∨ (∃ gk, 0 < gk ∧ gk < 2 ^ n ∧ fX0_findPart_58 s1 s2 s4 (nI i) (nI (Un s4 n kb ko (w 0))) s0 (nI lm) = some (nI gk, s0) ∧ fL_does_56 w v (g + 1) t z f o kk (nI (c + 1)) (nI gm) (nI lm) x10 (nI j) = fL_does_56 w v g t z f o kk (nI (c + 1)) (nI (gm ||| gk)) (nI 0) x10 (nI (j + 1))) := fun hK hAl lm g hlm => by
    have hFn : Fn s4 n ko (S2_adjectiveSets s2 i) (S2_nouns s2 i) < 2 ^ n := mkS_lt _ n
    have hGn : (Fn s4 n ko (S2_adjectiveSets s2 i) (S2_nouns s2 i) &&& Un s4 n kb ko (w 0)) &&& (lm ^^^ 4294967295) < 2 ^ n := Nat.lt_of_le_of_lt Nat.and_le_left (Nat.lt_of_le_of_lt Nat.and_le_left hFn)
    have hG12 := lt12 (show n ≤ 12 by omega) hGn
    have cl : fX0_findPart_58 s1 s2 s4 (nI i) (nI (Un s4 n kb ko (w 0))) s0 (nI lm) = some (if (Fn s4 n ko (S2_adjectiveSets s2 i) (S2_nouns s2 i) &&& Un s4 n kb ko (w 0)) &&& (lm ^^^ 4294967295) = 0 then (0, notS s0 i) else (nI ((Fn s4 n ko (S2_adjectiveSets s2 i) (S2_nouns s2 i) &&& Un s4 n kb ko (w 0)) &&& (lm ^^^ 4294967295)), s0)) := by
      unfold fX0_findPart_58
      rw [if_pos hr, e_hasP hL hc (by omega), bn1_s, if_neg (by decide), ai24 (by omega), cl_nI (by omega), if_pos hK, e_fit I hL hc (by omega) hR, bn1_s, nI_and, nI_andn, e_orN hG12]
      split <;> rw [bn2_s]
    have hsu : fL_suited t z (w 0) = some (nI (Un s4 n kb ko (w 0))) := l_suited I hT (hv_suit hvb)
    have wa : wA (w (E2 s2 i)) = false := by
      rcases hAl.2.2 with ⟨h1, h2, -⟩ | ⟨-, -, -, h1, -⟩ | ⟨-, h1, -⟩
      · rw [h2, h1]; decide
      · exact wP_A h1
      · exact wP_A h1
    have hno : S2_nouns s2 i = -1 ∨ ¬ S2_nouns s2 i < 0 := by
      rcases hAl.2.2 with ⟨-, -, h1, -⟩ | ⟨-, -, -, h1, h2⟩ | ⟨-, h1, h2⟩
      · exact Or.inl h1
      · obtain ⟨q, hq, e⟩ := wP_nI h1
        rw [h2, e]; exact Or.inr (ng (by omega))
      · obtain ⟨q, hq, e⟩ := wP_nI h1
        rw [h2, e]; exact Or.inr (ng (by omega))
    have fitF : fL_fitting t w (nI (Un s4 n kb ko (w 0))) (nI (ST s2 i)) (nI (E2 s2 i)) (S2_nouns s2 i) = some (nI (Fn s4 n ko (S2_adjectiveSets s2 i) (S2_nouns s2 i) &&& Un s4 n kb ko (w 0))) := by
      rw [l_fitting (w := w) (S := Un s4 n kb ko (w 0)) (f := ST s2 i) (e := E2 s2 i) (d := E2 s2 i + 1 - ST s2 i) hT hA (mkS_lt _ n) (by omega) (by omega) hno, AS_end p2 wa, ← hAl.1, mk_suF]
    have hkj : kk j = 1 := by rw [rk, hK]; rfl
    have lw : fL_does_56 w v (g + 1) t z f o kk (nI (c + 1)) (nI gm) (nI lm) x10 (nI j) = fL_does_334 w v (KK w v g) t z f o kk (nI (c + 1)) (nI gm) 0 x10 (nI j) (nI (E2 s2 i)) (nI ((Fn s4 n ko (S2_adjectiveSets s2 i) (S2_nouns s2 i) &&& Un s4 n kb ko (w 0)) &&& (lm ^^^ 4294967295))) 0 := by
      have h24 : E2 s2 i < 24 := by omega
      rw [fL_does_56, if_neg (nI_ge (show j < c + 1 by omega) (by omega))]
      simp only [ai24 hj24, cl_nI (show j < 2 ^ 31 by omega), ro, rf, hkj, if_neg (show ¬ (1 : Int32) = 2 by decide), if_true, ai24 h24, cl_nI (show E2 s2 i < 2 ^ 31 by omega), ai24_0, cl0, hsu, bn1_s, e_lP]
      unfold fL_does_148
      have fin : bn1 (fL_fitting t w (nI (Un s4 n kb ko (w 0))) (nI (ST s2 i)) (nI (E2 s2 i)) (S2_nouns s2 i)) (fun r_1 => fL_does_334 w v (KK w v g) t z f o kk (nI (c + 1)) (nI gm) 0 x10 (nI j) (nI (E2 s2 i)) (r_1 &&& (nI lm ^^^ (-1))) 0) = fL_does_334 w v (KK w v g) t z f o kk (nI (c + 1)) (nI gm) 0 x10 (nI j) (nI (E2 s2 i)) (nI ((Fn s4 n ko (S2_adjectiveSets s2 i) (S2_nouns s2 i) &&& Un s4 n kb ko (w 0)) &&& (lm ^^^ 4294967295))) 0 := by
        rw [fitF, bn1_s, nI_andn]
      rcases hAl.2.2 with ⟨h1, h2, h3, -⟩ | ⟨-, -, -, h1, h2⟩ | ⟨-, h1, h2⟩
      · rw [h3] at fin ⊢
        have np : ¬ wP (w (E2 s2 i)) = true := by rw [h2, h1]; decide
        rw [if_neg np, if_pos rfl]
        exact fin
      · rw [h2] at fin ⊢
        rw [if_pos h1, if_neg (by decide)]
        exact fin
      · rw [h2] at fin ⊢
        rw [if_pos h1, if_neg (by decide)]
        exact fin
    rw [cl, lw]
    generalize (Fn s4 n ko (S2_adjectiveSets s2 i) (S2_nouns s2 i) &&& Un s4 n kb ko (w 0)) &&& (lm ^^^ 4294967295) = G at hGn
    by_cases G0 : G = 0
    · rw [if_pos G0, G0]
      exact Or.inl ⟨_, rfl, i, by omega, Or.inl ⟨rfl, rfl, l_334z (nI j) _⟩⟩
    · have Gp := Nat.pos_of_ne_zero G0
      rw [if_neg G0, l_334g hj24 _ _ _ (pn_ne (show n ≤ 12 by omega) Gp hGn) (Or.inr (Or.inl hkj)), nI_or]
      exact Or.inr ⟨G, Gp, hGn, rfl, rfl⟩
  have cl7 : fX0_findPart s0 s1 s2 s4 (nI i) (nI (Un s4 n kb ko (w 0))) = fX0_findPart_7 s1 s2 s4 (nI i) (nI (Un s4 n kb ko (w 0))) 64 s0 (nI 0) (nI (i + 1)) := by
    unfold fX0_findPart
    rw [nI_1]; rfl
  by_cases ij : i = j
  · subst ij
    obtain ⟨g, rfl⟩ : ∃ g, fl = g + 1 := ⟨fl - 1, by omega⟩
    have cl : fX0_findPart s0 s1 s2 s4 (nI i) (nI (Un s4 n kb ko (w 0))) = fX0_findPart_58 s1 s2 s4 (nI i) (nI (Un s4 n kb ko (w 0))) s0 (nI 0) := fp_58 hL hc b2 hr b5
    rw [cl, show g + 1 - (i - i + 1) = g by omega]
    rcases p4 with ⟨hK, -, hE, h15⟩ | ⟨hK, -, hAl⟩ | hS
    · obtain ⟨m5, m1, mn⟩ := hmm
      have hGn : mm &&& Rn s4 n ko < 2 ^ n := Nat.lt_of_le_of_lt Nat.and_le_right (mkS_lt _ n)
      have hG12 := lt12 (show n ≤ 12 by omega) hGn
      have hk2 : kk i = 2 := by rw [rk, hK]; rfl
      have c58 : fX0_findPart_58 s1 s2 s4 (nI i) (nI (Un s4 n kb ko (w 0))) s0 (nI 0) = some (if mm &&& Rn s4 n ko = 0 then (0, notS s0 i) else (nI (mm &&& Rn s4 n ko), s0)) := by
        unfold fX0_findPart_58
        rw [if_pos hr, e_hasP hL hc (by omega), bn1_s, if_neg (by decide), ai24 (by omega), cl_nI (by omega), hK, if_neg (by decide), if_pos rfl, m1, hR, nI_and, e_orN hG12]
        split <;> rw [bn2_s]
      have lw : fL_does_56 w v (g + 1) t z f o kk (nI (c + 1)) (nI gm) (nI 0) x10 (nI i) = fL_does_334 w v (KK w v g) t z f o kk (nI (c + 1)) (nI gm) (nI 0) x10 (nI i) (nI (E2 s2 i)) (nI (mm &&& Rn s4 n ko)) 0 := by
        have h24 : E2 s2 i < 24 := by omega
        rw [fL_does_56, if_neg (nI_ge (show i < c + 1 by omega) (by omega))]
        simp only [ai24 hj24, cl_nI (show i < 2 ^ 31 by omega), ro, hk2, if_true, ai24 h24, ai13_5, cl_5, l_reach I hT, bn1_s, m5, nI_and]
        rfl
      rw [c58, lw]
      generalize mm &&& Rn s4 n ko = G at hGn
      by_cases G0 : G = 0
      · rw [if_pos G0, G0]
        exact Or.inl ⟨_, rfl, i, by omega, Or.inl ⟨rfl, rfl, l_334z (nI i) _⟩⟩
      · have Gp := Nat.pos_of_ne_zero G0
        rw [if_neg G0, l_334g hj24 _ _ _ (pn_ne (show n ≤ 12 by omega) Gp hGn) (Or.inr (Or.inr hk2)), nI_or]
        exact Or.inr ⟨G, Gp, hGn, rfl, rfl⟩
    · exact hall hK hAl 0 g (Nat.pow_pos (by decide))
    · obtain ⟨k1, k2⟩ := Sg_kd hS
      have hk0 : kk i = 0 := by rw [rk]; unfold kdL; rw [if_neg k2, if_neg k1]
      obtain ⟨x, fd, qu, f1, f2, f3⟩ := l_single (s0 := s0) (q := 0) K hc hT hA hit hv hvb b2 hS hR hj24 rf ro hk0 (Or.inl rfl) g (nI (c + 1)) (nI gm) (nI 0) x10 (nI_ge (show i < c + 1 by omega) (by omega))
      rw [if04] at f1
      have c58 : fX0_findPart_58 s1 s2 s4 (nI i) (nI (Un s4 n kb ko (w 0))) s0 (nI 0) = some x := by
        unfold fX0_findPart_58
        rw [if_pos hr, e_hasP hL hc (by omega), bn1_s, if_neg (by decide), ai24 (by omega), cl_nI (by omega), if_neg k1, if_neg k2, f1]
        rfl
      rw [c58, f2]
      rcases LSR_fail (s2 := s2) (c := c) (w := w) (v := v) (t := t) (z := z) (f := f) (o := o) (kk := kk) (k56 := KK w v g) (x7 := nI (c + 1)) (x8 := nI gm) (x9 := nI 0) (x10 := x10) (x11 := nI i) (show n ≤ 12 by omega) b2 f3 with ⟨τ, hτ, rfl, rfl⟩ | ⟨t0, rfl, h⟩
      · rw [l_334g hj24 _ _ _ (pow_ne (by omega)) (Or.inl hk0), nI_or]
        exact Or.inr ⟨2 ^ τ, Nat.pow_pos (by decide), Nat.pow_lt_pow_right (by decide) hτ, rfl, rfl⟩
      · exact Or.inl ⟨t0, rfl, h⟩
  · have hK : S2_kinds s2 i = 11 ∧ Al w len (ST s2 i) (E2 s2 i) (S2_adjectiveSets s2 i) (S2_nouns s2 i) := by
      have r1 := b4 (i + 1) (by omega) (by omega)
      obtain ⟨-, -, -, -, -, v6⟩ := hw (i + 1) (by omega)
      obtain ⟨sp, -⟩ := v6 i rfl
      have k11 : S2_kinds s2 i = 11 := by
        rcases sp with s | s | s | s
        · exact s.2.2.1
        · exact absurd s.2.2 (by rw [b3]; decide)
        · exact absurd s.1 (by rw [r1]; decide)
        · exact absurd s.1 (by rw [r1]; decide)
      rcases p4 with ⟨h, -⟩ | ⟨h, -, h2⟩ | h
      · rw [k11] at h; exact absurd h (by decide)
      · exact ⟨h, h2⟩
      · exact absurd k11 (Sg_kd h).1
    rw [cl7]
    rcases l_left E hB hR hr gm x10 (j - i) 64 fl (i + 1) 0 (by omega) (by omega) (by omega) (by omega) (Nat.pow_pos (by decide)) with ⟨t0, e1, e2⟩ | ⟨lm2, e0, e1, e2⟩
    · rw [show i + 1 - 1 = i by omega] at e2
      exact Or.inl ⟨t0, e1, e2⟩
    · rw [show i + 1 - 1 = i by omega] at e2
      obtain ⟨g, hg⟩ : ∃ g, fl - (j - i) = g + 1 := ⟨fl - (j - i) - 1, by omega⟩
      rw [e1, e2, hg, show fl - (j - i + 1) = g by omega]
      exact hall hK.1 hK.2 lm2 g e0
/-- all phrases, from a part on -/
theorem l_fd {s1 : S1} {s2 : S2} {s4 : S4} {m : S6} {w v t z f o kk : Nat → Int32} {len n kb ko c mm : Nat} (E : LE s1 s2 s4 m w v t z f o kk len n kb ko c mm) :
    ∀ (d fu fl i gm : Nat) (s0 : S0), i + d = c + 1 → 0 < d → d < fu → d + 1 < fl → S2_roles s2 i = 0 → gm < 2 ^ n → S0_group s0 = nI gm → S0_reach s0 = nI (Rn s4 n ko) → S0_result s0 = 0 → S0_target s0 = -1 →
      (∃ t0, fX0_find_28 s1 s2 s4 fu s0 (nI (Un s4 n kb ko (w 0))) (nI i) = some (S0_result t0, t0) ∧ LFail s2 c n t z t0 (fL_does_56 w v fl t z f o kk (nI (c + 1)) (nI gm) (nI 0) (-1) (nI i)))
      ∨ (∃ t0 gk tg g, fX0_find_28 s1 s2 s4 fu s0 (nI (Un s4 n kb ko (w 0))) (nI i) = some (0, t0) ∧ S0_group t0 = nI gk ∧ S0_target t0 = tg ∧ gk < 2 ^ n ∧ (w 0 = 2 → ∃ q, q < n ∧ tg = nI q) ∧ fL_does_56 w v fl t z f o kk (nI (c + 1)) (nI gm) (nI 0) (-1) (nI i) = fL_does_56 w v (g + 1) t z f o kk (nI (c + 1)) (nI gk) (nI 0) tg (nI (c + 1)))
  | d, fu, fl, i, gm, s0, hi, hd, hf, hf2, hro, hgm, hg, hR, hr, htg => by
    obtain ⟨g, rfl⟩ : ∃ g, fu = g + 2 := ⟨fu - 2, by omega⟩
    have E2' := E
    obtain ⟨K, hc, hT, hA, hit, hmm, hv, hvb, hRw⟩ := E2'
    have K' := K
    obtain ⟨I, J, ho, hLF, hM, hAn⟩ := K'
    have hn6 := hT.2.1
    have hl := ho.2.1
    have hL := hLF.1.1
    have hw := hLF.1.2.1
    obtain ⟨j, hB⟩ := blk_ex (c := c) hro (c - i) i (by omega) (Nat.le_refl i) (fun u x y => absurd x (by omega))
    have hB2 := hB
    obtain ⟨b1, b2, b3, b4, b5⟩ := hB2
    have cl : ∀ x : Int32 × S0, fX0_findPart s0 s1 s2 s4 (nI i) (nI (Un s4 n kb ko (w 0))) = some x → fX0_find_28 s1 s2 s4 (g + 2) s0 (nI (Un s4 n kb ko (w 0))) (nI i) = fX0_find_28 s1 s2 s4 (g + 1) (S0_set_group x.2 (nI gm ||| x.1)) (nI (Un s4 n kb ko (w 0))) (nI (i + 1)) := fun x hx => by
      rw [fX0_find_28, hL, if_neg (nI_ge (by omega) (by omega)), if_pos hr, e_roleOf hL hc (by omega), bn1_s, if_pos hro, hx, hg]
      unfold fX0_find_104
      rw [nI_1]
      rfl
    rcases l_pt E hB hR hr gm (-1) fl (by omega) with ⟨t0, e1, e2⟩ | ⟨gk, g0, g1, e1, e2⟩
    · rw [cl _ e1]
      have nz : ¬ S0_result (S0_set_group t0 (nI gm ||| 0)) = 0 := LFail_res e2
      refine Or.inl ⟨_, fd_stop nz, ?_⟩
      exact e2
    · have hgo : gm ||| gk < 2 ^ n := Nat.or_lt_two_pow hgm g1
      have sk := fd_skip (s1 := s1) (s4 := s4) hL hc (s0 := S0_set_group s0 (nI (gm ||| gk))) hr (nI (Un s4 n kb ko (w 0))) (j - i) (g + 1) (i + 1) (by omega) (by omega) (fun u a b => b4 u (by omega) (by omega))
      rw [show i + 1 + (j - i) = j + 1 by omega] at sk
      rw [cl _ e1, nI_or, show (nI gk, s0).snd = s0 from rfl, sk, e2]
      obtain ⟨h, hh⟩ : ∃ h, fl - (j - i + 1) = h + 2 := ⟨fl - (j - i + 1) - 2, by omega⟩
      rw [hh]
      by_cases last : j = c
      · have cl2 : fX0_find_28 s1 s2 s4 (g + 1 - (j - i)) (S0_set_group s0 (nI (gm ||| gk))) (nI (Un s4 n kb ko (w 0))) (nI (j + 1)) = some (0, S0_set_group s0 (nI (gm ||| gk))) := by
          obtain ⟨g3, hg3⟩ : ∃ g3, g + 1 - (j - i) = g3 + 1 := ⟨g - (j - i), by omega⟩
          rw [hg3, fX0_find_28, hL, if_pos (nI_le (by omega) (by omega))]
          unfold fX0_find_110
          show some (S0_result s0, _) = _
          rw [hr]
        rw [cl2, last]
        refine Or.inr ⟨_, gm ||| gk, -1, h + 1, rfl, rfl, htg, hgo, fun z => ?_, rfl⟩
        have r2 := hLF.2.2.1.mp z
        by_cases y : i = c
        · rw [← y, hro] at r2; exact absurd r2 (by decide)
        · rw [b4 c (by omega) (by omega)] at r2; exact absurd r2 (by decide)
      · obtain ⟨v1, v2, v3, v4, -, v6⟩ := hw (j + 1) (by omega)
        obtain ⟨sp, -⟩ := v6 j rfl
        have r1 := b5 (by omega)
        by_cases r0 : S2_roles s2 (j + 1) = 0
        · exact l_fd E (d - (j + 1 - i)) (g + 1 - (j - i)) (h + 2) (j + 1) (gm ||| gk) (S0_set_group s0 (nI (gm ||| gk))) (by omega) (by omega) (by omega) (by omega) r0 hgo rfl hR hr htg
        · have s2r : S2_roles s2 (j + 1) = 2 := by
            rcases sp with s | s | s | s
            · exact absurd s.1 r1
            · exact absurd s.1 r1
            · exact absurd s.1 r0
            · exact s.1
          have jc : j + 1 = c := by
            rcases Nat.lt_or_ge (j + 1) c with z | z
            · exact absurd s2r ((hw (j + 2) (by omega)).2.2.2.2.2 (j + 1) rfl).2
            · omega
          have rc : S2_roles s2 c = 2 := by rw [← jc]; exact s2r
          obtain ⟨rf, ro, rk⟩ := hRw.2 rc
          obtain ⟨-, -, -, c4, -, -⟩ := hw c (by omega)
          have hS := Kd_single c4 (by rw [rc]; decide)
          obtain ⟨x, fd, qu, f1, f2, f3⟩ := l_single (s0 := S0_set_group s0 (nI (gm ||| gk))) (q := 4) K hc hT hA hit hv hvb (Nat.le_refl c) hS hR (show c < 24 by omega) rf ro rk (Or.inr (Or.inr rfl)) (h + 1) (nI (c + 1)) (nI (gm ||| gk)) (nI 0) (-1) (nI_ge (show c < c + 1 by omega) (by omega))
          rw [if44] at f1
          obtain ⟨g3, hg3⟩ : ∃ g3, g + 1 - (j - i) = g3 + 2 := ⟨g - 1 - (j - i), by omega⟩
          have su : fX4_suited s4 16 = some (nI (Un s4 n kb ko 16)) := e_suited I (Or.inr (Or.inr (Or.inr (Or.inr (Or.inr rfl)))))
          have cl2 : fX0_find_28 s1 s2 s4 (g3 + 2) (S0_set_group s0 (nI (gm ||| gk))) (nI (Un s4 n kb ko (w 0))) (nI c) = bn1 (fX0_onlyOf x.2 x.1) fun r_8 => fX0_find_28 s1 s2 s4 (g3 + 1) (S0_set_target x.2 r_8) (nI (Un s4 n kb ko (w 0))) (nI (c + 1)) := by
            rw [fX0_find_28, hL, if_neg (nI_ge (by omega) (by omega)), if_pos (show S0_result (S0_set_group s0 (nI (gm ||| gk))) = 0 from hr), e_roleOf hL hc (by omega), bn1_s, rc, if_neg (by decide), if_pos rfl, su, bn1_s, f1]
            unfold fX0_find_104
            rw [nI_1]
            rfl
          have en : ∀ t0 : S0, fX0_find_28 s1 s2 s4 (g3 + 1) t0 (nI (Un s4 n kb ko (w 0))) (nI (c + 1)) = some (S0_result t0, t0) := fun t0 => by
            rw [fX0_find_28, hL, if_pos (nI_le (by omega) (by omega))]
            rfl
          rw [hg3, jc, cl2, f2]
          rcases LSR_fail (s2 := s2) (c := c) (w := w) (v := v) (t := t) (z := z) (f := f) (o := o) (kk := kk) (k56 := KK w v (h + 1)) (x7 := nI (c + 1)) (x8 := nI (gm ||| gk)) (x9 := nI 0) (x10 := -1) (x11 := nI c) (show n ≤ 12 by omega) (Nat.le_refl c) f3 with ⟨τ, hτ, rfl, rfl⟩ | ⟨t0, rfl, hh2⟩
          · rw [e_onlyOf _ (by omega), bn1_s, en, l_334t (show c < 24 by omega) _ _ (by omega) rk, show nI (gm ||| gk) ||| 0 = nI (gm ||| gk) by rw [li0, nI_or, Nat.or_zero]]
            refine Or.inr ⟨S0_set_target (S0_set_group s0 (nI (gm ||| gk))) (nI τ), gm ||| gk, nI τ, h, ?_, rfl, rfl, hgo, fun _ => ⟨τ, hτ, rfl⟩, rfl⟩
            show some (S0_result s0, _) = _
            rw [hr]
          · rw [only0, bn1_s, en]
            refine Or.inl ⟨_, rfl, ?_⟩
            exact hh2
  termination_by d => d
