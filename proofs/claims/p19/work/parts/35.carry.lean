theorem e_carry (s0 : S0) (s1 : S1) (s2 : S2) (s5 : S5) {n kb gk : Nat} {v g : Int32} (hgk : gk < 2 ^ 12) (hgn : ∀ t, n ≤ t → gk.testBit t = false) (h0g : S0_group s0 = nI gk) (h0t : S0_target s0 = g) (h2v : S2_orderVerb s2 = v)
    (hv : v = 0 ∨ v = 1 ∨ v = 2 ∨ v = 3 ∨ v = 4) (hg : v = 2 → ∃ j, j < n ∧ g = nI j) :
    ∀ (d t fu fm dk ko : Nat) (s : S4) (m : S6), t + d = n → 13 < t + fu → d < fm → dk < 2 ^ 12 → WI s n kb ko → MI m s n kb ko → S6_verb m = v → S6_into m = g → S6_done m = nI dk →
      ∃ (s' : S4) (m' : S6) (ko' dk' : Nat), fX5_carryOut_4 s0 s2 s5 fu s1 s (nI dk) (nI t) = bn1 (fX1_keep s1 v (nI gk) (nI dk') g) (fun s1_2 => some (s1_2, s')) ∧ fX6_perform_142 fm m (nI gk) (nI t) = some (0, m') ∧
        dk' < 2 ^ 12 ∧ WI s' n kb ko' ∧ MI m' s' n kb ko' ∧ rest6 m' = rest6 m ∧ S6_done m' = nI dk'
  | 0, t, fu, fm, dk, ko, s, m, ht, hfu, hfm, hdk, I, J, hmv, hmi, hmd => by
    have hn12 := I.1
    have htn : t = n := by omega
    subst htn
    have key : ∀ (e u fu : Nat), u + e = 12 → 13 < u + fu → t ≤ u → fX5_carryOut_4 s0 s2 s5 fu s1 s (nI dk) (nI u) = bn1 (fX1_keep s1 v (nI gk) (nI dk) g) (fun s1_2 => some (s1_2, s)) := by
      intro e
      induction e with
      | zero =>
        intro u fu hu hf htu
        obtain ⟨w, rfl⟩ : ∃ w, fu = w + 1 := ⟨fu - 1, by omega⟩
        rw [fX5_carryOut_4, if_pos (ge12' (by omega) (by omega)), h2v, h0g, h0t]
      | succ e ih =>
        intro u fu hu hf htu
        obtain ⟨w, rfl⟩ : ∃ w, fu = w + 1 := ⟨fu - 1, by omega⟩
        rw [fX5_carryOut_4, if_neg (ge12 (by omega)), h0g, e_contains (Nat.lt_trans hgk (by decide)) (by omega), bn1_s, hgn u htu, if_pos (by decide)]
        unfold fX5_carryOut_55
        rw [nI_1]
        exact ih (u + 1) w (by omega) (by omega) (by omega)
    obtain ⟨w, rfl⟩ : ∃ w, fm = w + 1 := ⟨fm - 1, by omega⟩
    refine ⟨s, m, ko, dk, key (12 - t) t fu (by omega) hfu (Nat.le_refl t), ?_, hdk, I, J, rfl, hmd⟩
    rw [fX6_perform_142, J.1, if_pos (nI_le (Nat.le_refl t) (by omega))]
  | d + 1, t, fu, fm, dk, ko, s, m, ht, hfu, hfm, hdk, I, J, hmv, hmi, hmd => by
    have hn12 := I.1
    obtain ⟨w, rfl⟩ : ∃ w, fu = w + 1 := ⟨fu - 1, by omega⟩
    obtain ⟨x, rfl⟩ : ∃ x, fm = x + 1 := ⟨fm - 1, by omega⟩
    by_cases q : gk.testBit t = true
    · obtain ⟨r, s', m', ko', e1, hr, I', J', hr6, hd6, hcase⟩ := e_do I J (show t < n by omega) hv hmv hmi hg
      have c6 := congrArg (fun q => q.2.2.2.2.1) hr6
      have c7 := congrArg (fun q => q.2.2.2.2.2.2.1) hr6
      have hmv' : S6_verb m' = v := c6.trans hmv
      have hmi' : S6_into m' = g := c7.trans hmi
      have hC0 : r = 0 → fX5_carryOut_4 s0 s2 s5 (w + 1) s1 s (nI dk) (nI t) = fX5_carryOut_4 s0 s2 s5 w s1 s' (nI dk) (nI (t + 1)) := by
        intro hr0
        rw [fX5_carryOut_4, if_neg (ge12 (by omega)), h0g, e_contains (Nat.lt_trans hgk (by decide)) (by omega), bn1_s, q, if_neg (by decide), h2v, h0t, e1, bn2_s, if_pos hr0]
        unfold fX5_carryOut_55
        rw [nI_1]
      have hC1 : r = 1 → fX5_carryOut_4 s0 s2 s5 (w + 1) s1 s (nI dk) (nI t) = fX5_carryOut_4 s0 s2 s5 w s1 s' (nI (dk ||| 2 ^ t)) (nI (t + 1)) := by
        intro hr1
        rw [fX5_carryOut_4, if_neg (ge12 (by omega)), h0g, e_contains (Nat.lt_trans hgk (by decide)) (by omega), bn1_s, q, if_neg (by decide), h2v, h0t, e1, bn2_s, if_neg (by rw [hr1]; decide)]
        unfold fX5_carryOut_55
        rw [nI_1, nI_shl (by omega), nI_or]
      rcases hcase with ⟨hsu, hact⟩ | ⟨hsu, hr0, hmm⟩
      · have hM : fX6_perform_142 (x + 1) m (nI gk) (nI t) = fX6_perform_142 x (S6_set_done m' (S6_done m' ||| (if r = 0 then 0 else nI (2 ^ t)))) (nI gk) (nI (t + 1)) := by
          rw [fX6_perform_142, J.1, if_neg (nI_ge (by omega) (by omega)), nI_bit (by omega) (by omega), q, if_pos (by decide), hmv, e_msuits I J (by omega), bn1_s, hsu, if_neg (by decide), hact, bn2_s, hd6]
          unfold fX6_perform_191 fX6_perform_195
          rw [nI_1, nI_shl (by omega)]
          by_cases hr0 : r = 0
          · rw [if_pos hr0, if_pos hr0]
          · rw [if_neg hr0, if_neg hr0]
        rcases hr with hr0 | hr1
        · rw [hC0 hr0, hM, if_pos hr0, hd6, hmd, show (0 : Int32) = nI 0 from rfl, nI_or, Nat.or_zero]
          obtain ⟨sa, ma, koa, dka, f1, f2, f3, f4, f5, f6, f7⟩ := e_carry s0 s1 s2 s5 hgk hgn h0g h0t h2v hv hg d (t + 1) w x dk ko' s' (S6_set_done m' (nI dk)) (by omega) (by omega) (by omega) hdk I' J' hmv' hmi' rfl
          exact ⟨sa, ma, koa, dka, f1, f2, f3, f4, f5, f6.trans hr6, f7⟩
        · have hlt : dk ||| 2 ^ t < 2 ^ 12 := Nat.or_lt_two_pow hdk (two_pow_lt12 (by omega))
          rw [hC1 hr1, hM, if_neg (by rw [hr1]; decide), hd6, hmd, nI_or]
          obtain ⟨sa, ma, koa, dka, f1, f2, f3, f4, f5, f6, f7⟩ := e_carry s0 s1 s2 s5 hgk hgn h0g h0t h2v hv hg d (t + 1) w x (dk ||| 2 ^ t) ko' s' (S6_set_done m' (nI (dk ||| 2 ^ t))) (by omega) (by omega) (by omega) hlt I' J' hmv' hmi' rfl
          exact ⟨sa, ma, koa, dka, f1, f2, f3, f4, f5, f6.trans hr6, f7⟩
      · have hM : fX6_perform_142 (x + 1) m (nI gk) (nI t) = fX6_perform_142 x m (nI gk) (nI (t + 1)) := by
          rw [fX6_perform_142, J.1, if_neg (nI_ge (by omega) (by omega)), nI_bit (by omega) (by omega), q, if_pos (by decide), hmv, e_msuits I J (by omega), bn1_s, hsu, if_pos (by decide)]
          unfold fX6_perform_195
          rw [nI_1]
        rw [hC0 hr0, hM]
        rw [hmm] at J'
        exact e_carry s0 s1 s2 s5 hgk hgn h0g h0t h2v hv hg d (t + 1) w x dk ko' s' m (by omega) (by omega) (by omega) hdk I' J' hmv hmi hmd
    · have qf : gk.testBit t = false := by simpa using q
      have hC : fX5_carryOut_4 s0 s2 s5 (w + 1) s1 s (nI dk) (nI t) = fX5_carryOut_4 s0 s2 s5 w s1 s (nI dk) (nI (t + 1)) := by
        rw [fX5_carryOut_4, if_neg (ge12 (by omega)), h0g, e_contains (Nat.lt_trans hgk (by decide)) (by omega), bn1_s, qf, if_pos (by decide)]
        unfold fX5_carryOut_55
        rw [nI_1]
      have hM : fX6_perform_142 (x + 1) m (nI gk) (nI t) = fX6_perform_142 x m (nI gk) (nI (t + 1)) := by
        rw [fX6_perform_142, J.1, if_neg (nI_ge (by omega) (by omega)), nI_bit (by omega) (by omega), qf, if_neg (by decide)]
        unfold fX6_perform_195
        rw [nI_1]
      rw [hC, hM]
      exact e_carry s0 s1 s2 s5 hgk hgn h0g h0t h2v hv hg d (t + 1) w x dk ko s m (by omega) (by omega) (by omega) hdk I J hmv hmi hmd
