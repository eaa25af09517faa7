/-- what of the reference's cells isn't the world, nor what was done -/
def rest6 (m : S6) := (S6_count m, S6_words m, S6_outcome m, S6_wrongAt m, S6_verb m, S6_meant m, S6_into m, S6_it m, S6_questions m, S6_length m, S6_order m, S6_answer m, S6_asked m, S6_askedAt m, S6_at m, S6_failedAt m, S6_choice m, S6_thrown m)
theorem e_has {s : S4} {n kb ko t : Nat} (I : WI s n kb ko) (ht : t < n) : fX4_has s (nI t) = some 1 := by
  have hn12 := I.1
  have hc := I.2.1
  unfold fX4_has fX4_has_23
  rw [if_neg (ng (by omega)), hc, if_neg (nI_ge ht (by omega)), if_neg (ge12 (by omega)), bo1]
theorem two_pow_lt12 {t : Nat} (h : t < 12) : 2 ^ t < 2 ^ 12 := Nat.pow_lt_pow_right (by decide) h
theorem WI.opn {s : S4} {n kb ko t : Nat} (I : WI s n kb ko) (ht : t < n) : WI (S4_set_openBoxes s (nI (ko ||| 2 ^ t))) n kb (ko ||| 2 ^ t) := by
  have hn12 := I.1
  refine ⟨I.1, I.2.1, I.2.2.1, rfl, I.2.2.2.2.1, Nat.or_lt_two_pow I.2.2.2.2.2.1 (two_pow_lt12 (by omega)), fun u hu => ⟨(I.2.2.2.2.2.2.1 u hu).1, ?_⟩, I.2.2.2.2.2.2.2⟩
  rw [Nat.testBit_or, (I.2.2.2.2.2.2.1 u hu).2, Nat.testBit_two_pow]
  simp
  omega
theorem WI.sht {s : S4} {n kb ko : Nat} (t : Nat) (I : WI s n kb ko) : WI (S4_set_openBoxes s (nI (ko &&& (2 ^ t ^^^ 4294967295)))) n kb (ko &&& (2 ^ t ^^^ 4294967295)) := by
  refine ⟨I.1, I.2.1, I.2.2.1, rfl, I.2.2.2.2.1, Nat.lt_of_le_of_lt Nat.and_le_left I.2.2.2.2.2.1, fun u hu => ⟨(I.2.2.2.2.2.2.1 u hu).1, ?_⟩, I.2.2.2.2.2.2.2⟩
  rw [Nat.testBit_and, (I.2.2.2.2.2.2.1 u hu).2, Bool.false_and]
theorem nar1 : vp_nar .boolean 1 = 1 := by decide
theorem nar0 : vp_nar .boolean 0 = 0 := by decide
theorem e_do {s : S4} {m : S6} {n kb ko t : Nat} {v g : Int32} (I : WI s n kb ko) (J : MI m s n kb ko) (ht : t < n) (hv : v = 0 ∨ v = 1 ∨ v = 2 ∨ v = 3 ∨ v = 4) (hmv : S6_verb m = v) (hmg : S6_into m = g) (hg : v = 2 → ∃ j, j < n ∧ g = nI j) :
    ∃ (r : Int32) (s' : S4) (m' : S6) (ko' : Nat), fX4_perform s v (nI t) g = some (r, s') ∧ (r = 0 ∨ r = 1) ∧ WI s' n kb ko' ∧ MI m' s' n kb ko' ∧ rest6 m' = rest6 m ∧ S6_done m' = S6_done m ∧
      ((SU (S4_holders s) kb ko v t = true ∧ fX6_acts m (nI t) = some (r, m')) ∨ (SU (S4_holders s) kb ko v t = false ∧ r = 0 ∧ m' = m)) := by
  have hn12 := I.1
  have hko := I.2.2.2.1
  have hv6 : v = 0 ∨ v = 1 ∨ v = 2 ∨ v = 3 ∨ v = 4 ∨ v = 16 := by rcases hv with h | h | h | h | h <;> simp [h]
  unfold fX4_perform fX4_perform_20 fX4_perform_98
  rw [e_has I ht, bn1_s, if_neg (by decide), e_suited I hv6, bn1_s, e_contains (Nat.lt_trans (mkS_lt12 _ hn12) (by decide)) (by omega), bn1_s, mkS_bit]
  by_cases q : SU (S4_holders s) kb ko v t = true
  · have hbit : (decide (t < n) && SU (S4_holders s) kb ko v t) = true := by simp [ht, q]
    rw [hbit, if_pos rfl, if_neg (by decide)]
    unfold fX6_acts fX6_acts_41 fX6_acts_111 fX6_acts_112
    rw [hmv, hmg]
    rcases hv with rfl | rfl | rfl | rfl | rfl
    · rw [if_pos rfl, ai12 (by omega), cl_nI (by omega)]
      refine ⟨1, _, S6_set_place m (upd (S6_place m) t (-3)), ko, rfl, Or.inr rfl, I.neg t (by decide), ⟨J.1, J.2.1, J.2.2.1, ?_, J.2.2.2.2.1, J.2.2.2.2.2⟩, rfl, rfl, Or.inl ⟨q, ?_⟩⟩
      · show upd (S6_place m) t (-3) = upd (S4_holders s) t (-3)
        rw [J.2.2.2.1]
      · rw [if_neg (by decide), if_pos rfl, ai12 (by omega)]
    · rw [if_neg (by decide), if_pos rfl, ai12 (by omega), cl_nI (by omega)]
      refine ⟨1, _, S6_set_place m (upd (S6_place m) t (-2)), ko, rfl, Or.inr rfl, I.neg t (by decide), ⟨J.1, J.2.1, J.2.2.1, ?_, J.2.2.2.2.1, J.2.2.2.2.2⟩, rfl, rfl, Or.inl ⟨q, ?_⟩⟩
      · show upd (S6_place m) t (-2) = upd (S4_holders s) t (-2)
        rw [J.2.2.2.1]
      · rw [if_neg (by decide), if_neg (by decide), if_pos rfl, ai12 (by omega)]
    · obtain ⟨j, hj, rfl⟩ := hg rfl
      rw [if_neg (by decide), if_neg (by decide), if_pos rfl, e_suited I (by simp), bn1_s, e_contains (Nat.lt_trans (mkS_lt12 _ hn12) (by decide)) (by omega), bn1_s, mkS_bit]
      rw [if_pos rfl, e_msuits I J hj, bn1_s]
      by_cases u : SU (S4_holders s) kb ko 16 j = true
      · have hb2 : (decide (j < n) && SU (S4_holders s) kb ko 16 j) = true := by simp [hj, u]
        rw [hb2, if_pos rfl, if_neg (by decide), if_pos u, if_neg (by decide), e_isWithin I hj ht, bn1_s]
        by_cases e : j = t
        · subst e
          rw [wi_pos (by omega), if_pos rfl, if_pos rfl, if_neg (by decide)]
          exact ⟨0, s, m, ko, rfl, Or.inl rfl, I, J, rfl, rfl, Or.inl ⟨q, by rw [if_pos rfl]⟩⟩
        · rw [if_neg (fun h => e (nI_inj (by omega) (by omega) h)), e_misInside I J hj ht e, bn1_s]
          by_cases w : wi (S4_holders s) t 13 (nI j) = true
          · rw [if_pos w, if_neg (by decide)]
            exact ⟨0, s, m, ko, rfl, Or.inl rfl, I, J, rfl, rfl, Or.inl ⟨q, by rw [if_neg (by decide)]⟩⟩
          · have wf : wi (S4_holders s) t 13 (nI j) = false := by simpa using w
            rw [wf, if_pos (by decide), ai12 (by omega), cl_nI (by omega)]
            refine ⟨1, _, S6_set_place m (upd (S6_place m) t (nI j)), ko, rfl, Or.inr rfl, I.put ht hj wf, ⟨J.1, J.2.1, J.2.2.1, ?_, J.2.2.2.2.1, J.2.2.2.2.2⟩, rfl, rfl, Or.inl ⟨q, ?_⟩⟩
            · show upd (S6_place m) t (nI j) = upd (S4_holders s) t (nI j)
              rw [J.2.2.2.1]
            · rw [if_pos (by decide), ai12 (by omega)]
      · have uf : SU (S4_holders s) kb ko 16 j = false := by simpa using u
        rw [uf, Bool.and_false, if_pos (by decide), if_pos (by decide)]
        exact ⟨0, s, m, ko, rfl, Or.inl rfl, I, J, rfl, rfl, Or.inl ⟨q, rfl⟩⟩
    · rw [if_neg (by decide), if_neg (by decide), if_neg (by decide), if_pos rfl, hko, nI_shl (by omega), nI_or]
      refine ⟨1, _, S6_set_open m (upd (S6_open m) t 1), ko ||| 2 ^ t, rfl, Or.inr rfl, I.opn ht, ⟨J.1, J.2.1, J.2.2.1, J.2.2.2.1, J.2.2.2.2.1, fun u hu => ?_⟩, rfl, rfl, Or.inl ⟨q, ?_⟩⟩
      · show upd (S6_open m) t 1 u = _
        by_cases e : u = t
        · subst e
          rw [up_same, Nat.testBit_or, Nat.testBit_two_pow_self, Bool.or_true, if_pos rfl]
        · have e2 : (2 ^ t).testBit u = false := by rw [Nat.testBit_two_pow]; simp; omega
          rw [up_ne _ _ e, Nat.testBit_or, e2, Bool.or_false, J.2.2.2.2.2 u hu]
      · rw [if_neg (by decide), if_neg (by decide), if_neg (by decide), if_pos rfl, ai12 (by omega), cl_nI (by omega), nar1]
    · rw [if_neg (by decide), if_neg (by decide), if_neg (by decide), if_neg (by decide), if_pos rfl, hko, nI_shl (by omega), nI_andn]
      refine ⟨1, _, S6_set_open m (upd (S6_open m) t 0), _, rfl, Or.inr rfl, I.sht t, ⟨J.1, J.2.1, J.2.2.1, J.2.2.2.1, J.2.2.2.2.1, fun u hu => ?_⟩, rfl, rfl, Or.inl ⟨q, ?_⟩⟩
      · show upd (S6_open m) t 0 u = _
        by_cases e : u = t
        · subst e
          rw [up_same, Nat.testBit_and, Nat.testBit_xor, Nat.testBit_two_pow_self, ones_bit]
          have : u < 32 := by omega
          simp [this]
        · have e2 : (2 ^ t).testBit u = false := by rw [Nat.testBit_two_pow]; simp; omega
          have : u < 32 := by omega
          rw [up_ne _ _ e, Nat.testBit_and, Nat.testBit_xor, e2, ones_bit, J.2.2.2.2.2 u hu]
          simp [this]
      · rw [if_neg (by decide), if_neg (by decide), if_neg (by decide), if_neg (by decide), ai12 (by omega), cl_nI (by omega), nar0]
  · have qf : SU (S4_holders s) kb ko v t = false := by simpa using q
    rw [qf, Bool.and_false, if_pos (by decide)]
    exact ⟨0, s, m, ko, rfl, Or.inl rfl, I, J, rfl, rfl, Or.inr ⟨rfl, rfl, rfl⟩⟩
def pcP (k : Nat) : Bool := (decide (pc 12 k = 0 ↔ k = 0)) && ((!decide (pc 12 k = 1)) || (List.range 12).any (fun t => decide (k = 2 ^ t)))
theorem pc_all2 : ∀ a, a < 64 → ∀ b, b < 64 → pcP (64 * a + b) = true := by decide +kernel
theorem bc_all2 : ∀ a, a < 64 → ∀ b, b < 64 → fJ6_bitCount (nI (64 * a + b)) = some (nI (pc 12 (64 * a + b))) := by decide +kernel
theorem split64 {P : Nat → Prop} (h : ∀ a, a < 64 → ∀ b, b < 64 → P (64 * a + b)) {k : Nat} (hk : k < 4096) : P k := by
  have e : 64 * (k / 64) + k % 64 = k := Nat.div_add_mod k 64
  have := h (k / 64) (by omega) (k % 64) (by omega)
  rwa [e] at this
theorem pc_zero {k : Nat} (hk : k < 4096) : pc 12 k = 0 ↔ k = 0 := by
  have h : pcP k = true := split64 (P := fun k => pcP k = true) pc_all2 hk
  simp only [pcP, Bool.and_eq_true, decide_eq_true_eq] at h
  exact h.1
theorem pc_one {k : Nat} (hk : k < 4096) (h1 : pc 12 k = 1) : ∃ t, t < 12 ∧ k = 2 ^ t := by
  have h : pcP k = true := split64 (P := fun k => pcP k = true) pc_all2 hk
  simp only [pcP, Bool.and_eq_true, Bool.or_eq_true, List.any_eq_true, decide_eq_true_eq] at h
  rcases h.2 with h2 | ⟨t, ht, e⟩
  · simp [h1] at h2
  · exact ⟨t, List.mem_range.mp ht, e⟩
theorem e_bitCount {k : Nat} (hk : k < 4096) : fJ6_bitCount (nI k) = some (nI (pc 12 k)) := split64 (P := fun k => fJ6_bitCount (nI k) = some (nI (pc 12 k))) bc_all2 hk
theorem e_mbits {k : Nat} (hk : k < 4096) : fX6_bits (nI k) = some (nI (pc 12 k)) := by
  unfold fX6_bits
  have h := e_bits_in (nI k) 12 64 0 k hk (by decide) (by decide)
  rw [Nat.zero_add] at h
  exact h
theorem pc_pow : ∀ t, t < 12 → pc 12 (2 ^ t) = 1 := by decide +kernel
theorem e_lowest : ∀ t, t < 12 → fX6_lowest (nI (2 ^ t)) = some (nI t) := by decide +kernel
theorem e_onlyOf_in (s0 : S0) {k : Nat} (hk : k < 2 ^ 12) (t : Nat) (ht : t < 12) (hb : k.testBit t = true) (hlo : ∀ j, j < t → k.testBit j = false) :
    ∀ (d fu j : Nat), j + d = t → d < fu → fX0_onlyOf_2 s0 (nI k) fu (nI j) = some (nI t)
  | 0, fu, j, h, hf => by
    obtain ⟨g, rfl⟩ : ∃ g, fu = g + 1 := ⟨fu - 1, by omega⟩
    have : j = t := by omega
    subst this
    rw [fX0_onlyOf_2, if_neg (ge12 ht), e_contains (Nat.lt_trans hk (by decide)) ht, bn1_s, hb, if_pos rfl, if_neg (by decide)]
  | d + 1, fu, j, h, hf => by
    obtain ⟨g, rfl⟩ : ∃ g, fu = g + 1 := ⟨fu - 1, by omega⟩
    rw [fX0_onlyOf_2, if_neg (ge12 (by omega)), e_contains (Nat.lt_trans hk (by decide)) (by omega), bn1_s, hlo j (by omega), if_pos (by decide), nI_1]
    exact e_onlyOf_in s0 hk t ht hb hlo d g (j + 1) (by omega) (by omega)
theorem e_onlyOf (s0 : S0) {t : Nat} (ht : t < 12) : fX0_onlyOf s0 (nI (2 ^ t)) = some (nI t) := by
  unfold fX0_onlyOf
  rw [show (0 : Int32) = nI 0 from rfl]
  refine e_onlyOf_in s0 (two_pow_lt12 ht) t ht (Nat.testBit_two_pow_self) (fun j hj => ?_) t 64 0 (by omega) (by omega)
  rw [Nat.testBit_two_pow]
  simp
  omega
