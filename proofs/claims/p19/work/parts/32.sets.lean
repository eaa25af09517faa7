theorem nI_xor (a b : Nat) : nI a ^^^ nI b = nI (a ^^^ b) := by
  apply Int32.toBitVec_inj.mp
  show (BitVec.ofNat 32 a) ^^^ (BitVec.ofNat 32 b) = BitVec.ofNat 32 (a ^^^ b)
  rw [← BitVec.ofNat_xor]
theorem nI_andn (a b : Nat) : nI a &&& (nI b ^^^ (-1)) = nI (a &&& (b ^^^ 4294967295)) := by
  rw [show (-1 : Int32) = nI 4294967295 from by decide, nI_xor, nI_and]
theorem ones_bit (i : Nat) : (4294967295 : Nat).testBit i = decide (i < 32) := by
  rw [show (4294967295 : Nat) = 2 ^ 32 - 1 from rfl, Nat.testBit_two_pow_sub_one]
theorem adj_eq (a b : Int32) : (a &&& (b ^^^ (-1))) = 0 ↔ (b &&& a) = a := by
  rw [← Int32.toBitVec_inj, ← Int32.toBitVec_inj]
  show (a.toBitVec &&& (b.toBitVec ^^^ BitVec.allOnes 32)) = 0#32 ↔ (b.toBitVec &&& a.toBitVec) = a.toBitVec
  generalize a.toBitVec = A
  generalize b.toBitVec = B
  constructor
  · intro h
    apply BitVec.eq_of_getLsbD_eq
    intro i hi
    have e := congrArg (fun x => BitVec.getLsbD x i) h
    simp only [BitVec.getLsbD_and, BitVec.getLsbD_xor, BitVec.getLsbD_allOnes, BitVec.getLsbD_zero, hi, decide_true] at e ⊢
    revert e
    cases A.getLsbD i <;> cases B.getLsbD i <;> decide
  · intro h
    apply BitVec.eq_of_getLsbD_eq
    intro i hi
    have e := congrArg (fun x => BitVec.getLsbD x i) h
    simp only [BitVec.getLsbD_and, BitVec.getLsbD_xor, BitVec.getLsbD_allOnes, BitVec.getLsbD_zero, hi, decide_true] at e ⊢
    revert e
    cases A.getLsbD i <;> cases B.getLsbD i <;> decide
/-- whether a verb, or IN, suits a thing -/
def SU (hd : Nat → Int32) (kb ko : Nat) (w : Int32) (t : Nat) : Bool :=
  rcT hd ko t && (if w = 0 then !decide (hd t = -3) else if w = 1 then decide (hd t = -3) else if w = 2 then decide (hd t = -3) else if w = 3 then kb.testBit t && !ko.testBit t else ko.testBit t)
theorem e_held {s : S4} {n kb ko : Nat} (I : WI s n kb ko) : fX4_held s = some (nI (mkS (fun t => decide (S4_holders s t = -3)) n)) := by
  have hn12 := I.1
  have hc := I.2.1
  have key := mk_loop (fun f x y => fX4_held_4 s f x y) (fun t => decide (S4_holders s t = -3)) n hn12 (fun x => some x) ?_ ?_ n 0 64 (by omega) (by omega)
  · exact key
  · intro fu x
    show fX4_held_4 s (fu + 1) x (nI n) = some x
    rw [fX4_held_4, hc, if_pos (nI_le (Nat.le_refl n) (by omega))]
    rfl
  · intro fu k t ht hk
    show fX4_held_4 s (fu + 1) (nI k) (nI t) = _
    rw [fX4_held_4, hc, if_neg (nI_ge ht (by omega)), if_neg (ge12 (by omega)), ai12 (by omega), cl_nI (by omega)]
    unfold fX4_held_35
    by_cases q : S4_holders s t = -3
    · rw [if_pos q, nI_shl (by omega), nI_or, nI_1]
      simp [q]
    · rw [if_neg q, nI_1]
      simp [q]
theorem mkS_andn (p q : Nat → Bool) {n : Nat} (h : n ≤ 12) : mkS p n &&& (mkS q n ^^^ 4294967295) = mkS (fun t => p t && !q t) n := by
  apply nat_ext
  intro i
  rw [Nat.testBit_and, Nat.testBit_xor, ones_bit, mkS_bit, mkS_bit, mkS_bit]
  by_cases hi : i < n
  · have : i < 32 := by omega
    simp [hi, this]
  · simp [hi]
theorem mkS_and (p : Nat → Bool) (k : Nat) (n : Nat) : mkS p n &&& k = mkS (fun t => p t && k.testBit t) n := by
  apply nat_ext
  intro i
  rw [Nat.testBit_and, mkS_bit, mkS_bit, Bool.and_assoc]
theorem mkS_andk (p : Nat → Bool) (k : Nat) {n : Nat} (h : n ≤ 12) : mkS p n &&& (k ^^^ 4294967295) = mkS (fun t => p t && !k.testBit t) n := by
  apply nat_ext
  intro i
  rw [Nat.testBit_and, Nat.testBit_xor, ones_bit, mkS_bit, mkS_bit]
  by_cases hi : i < n
  · have : i < 32 := by omega
    simp [hi, this]
  · simp [hi]
theorem e_suited {s : S4} {n kb ko : Nat} (I : WI s n kb ko) {w : Int32} (hw : w = 0 ∨ w = 1 ∨ w = 2 ∨ w = 3 ∨ w = 4 ∨ w = 16) : fX4_suited s w = some (nI (mkS (SU (S4_holders s) kb ko w) n)) := by
  have hn12 := I.1
  have hb := I.2.2.1
  have ho := I.2.2.2.1
  unfold fX4_suited
  rw [e_reachable I, bn1_s, e_held I]
  simp only [bn1_s, hb, ho]
  rcases hw with rfl | rfl | rfl | rfl | rfl | rfl
  · rw [if_pos rfl, nI_andn, mkS_andn _ _ hn12]
    rfl
  · rw [if_neg (by decide), if_pos rfl, nI_and, mkS_and]
    refine congrArg (fun z => some (nI z)) (mkS_cong n fun t ht => ?_)
    simp [SU, mkS_bit, ht]
  · rw [if_neg (by decide), if_neg (by decide), if_pos rfl, nI_and, mkS_and]
    refine congrArg (fun z => some (nI z)) (mkS_cong n fun t ht => ?_)
    simp [SU, mkS_bit, ht]
  · rw [if_neg (by decide), if_neg (by decide), if_neg (by decide), if_pos rfl, nI_and, nI_andn, mkS_and, mkS_andk _ _ hn12]
    refine congrArg (fun z => some (nI z)) (mkS_cong n fun t ht => ?_)
    simp [SU, Bool.and_assoc]
  · rw [if_neg (by decide), if_neg (by decide), if_neg (by decide), if_neg (by decide), if_pos rfl, nI_and, mkS_and]
    refine congrArg (fun z => some (nI z)) (mkS_cong n fun t ht => ?_)
    simp [SU]
  · rw [if_neg (by decide), if_neg (by decide), if_neg (by decide), if_neg (by decide), if_neg (by decide), if_pos rfl, nI_and, mkS_and]
    refine congrArg (fun z => some (nI z)) (mkS_cong n fun t ht => ?_)
    simp [SU]
theorem e_msuits {m : S6} {s : S4} {n kb ko t : Nat} (I : WI s n kb ko) (J : MI m s n kb ko) (ht : t < n) (w : Int32) : fX6_suits m w (nI t) = some (if SU (S4_holders s) kb ko w t then 1 else 0) := by
  have hn12 := I.1
  have hbx := J.2.2.2.2.1 t (by omega)
  have hop := J.2.2.2.2.2 t (by omega)
  unfold fX6_suits
  rw [e_mreaches I J ht, bn1_s]
  by_cases q : rcT (S4_holders s) ko t = true
  · rw [if_pos q, if_neg (by decide), ai12 (by omega), cl_nI (by omega), J.2.2.2.1]
    unfold fX6_suits_26 fX6_suits_53 fX6_suits_84 fX6_suits_94
    simp only [ai12 (show t < 12 by omega), cl_nI (show t < 2 ^ 31 by omega), hbx, hop, bo0, bo1]
    by_cases a : S4_holders s t = -3 <;> by_cases b : kb.testBit t = true <;> by_cases c : ko.testBit t = true <;> simp [SU, q, a, b, c, bo0, bo1] <;> (repeat' split) <;> simp_all [bo0, bo1]
  · rw [if_neg q, if_pos rfl]
    simp [SU, q]
theorem e_msuited {m : S6} {s : S4} {n kb ko k : Nat} (I : WI s n kb ko) (J : MI m s n kb ko) (hk : k < 2 ^ 12) (w : Int32) : fX6_suited m w (nI k) = some (nI (mkS (fun t => k.testBit t && SU (S4_holders s) kb ko w t) n)) := by
  have hn12 := I.1
  have key := mk_loop (fun f x y => fX6_suited_5 m w (nI k) f x y) (fun t => k.testBit t && SU (S4_holders s) kb ko w t) n hn12 (fun x => some x) ?_ ?_ n 0 64 (by omega) (by omega)
  · exact key
  · intro fu x
    show fX6_suited_5 m w (nI k) (fu + 1) x (nI n) = some x
    rw [fX6_suited_5, J.1, if_pos (nI_le (Nat.le_refl n) (by omega))]
  · intro fu j t ht hj
    show fX6_suited_5 m w (nI k) (fu + 1) (nI j) (nI t) = _
    rw [fX6_suited_5, J.1, if_neg (nI_ge ht (by omega)), nI_bit (by omega) (by omega), e_msuits I J ht, bn1_s]
    unfold fX6_suited_42 fX6_suited_43
    by_cases a : k.testBit t = true
    · by_cases b : SU (S4_holders s) kb ko w t = true
      · rw [if_pos a, if_pos rfl, if_pos b, if_neg (by decide), nI_shl (by omega), nI_or, nI_1]
        simp [a, b]
      · rw [if_pos a, if_pos rfl, if_neg b, if_pos rfl, show (0 : Int32) = nI 0 from rfl, nI_or, nI_1]
        simp [a, b]
    · rw [if_neg a, if_neg (by decide), show (0 : Int32) = nI 0 from rfl, nI_or, nI_1]
      simp [a]
/-- whether a thing has adjectives, and a noun, if it isn't NONE -/
def DS (nn aa : Nat → Int32) (adj noun : Int32) (t : Nat) : Bool := (decide (noun = -1) || decide (nn t = noun)) && decide ((aa t &&& adj) = adj)
theorem e_described {s : S4} {n kb ko k : Nat} (I : WI s n kb ko) (hk : k < 2 ^ 12) (adj noun : Int32) : fX4_described s (nI k) adj noun = some (nI (mkS (fun t => k.testBit t && DS (S4_nouns s) (S4_adjectiveSets s) adj noun t) n)) := by
  have hn12 := I.1
  have hc := I.2.1
  have key := mk_loop (fun f x y => fX4_described_6 s (nI k) adj noun f x y) (fun t => k.testBit t && DS (S4_nouns s) (S4_adjectiveSets s) adj noun t) n hn12 (fun x => some x) ?_ ?_ n 0 64 (by omega) (by omega)
  · exact key
  · intro fu x
    show fX4_described_6 s (nI k) adj noun (fu + 1) x (nI n) = some x
    rw [fX4_described_6, hc, if_pos (nI_le (Nat.le_refl n) (by omega))]
    rfl
  · intro fu j t ht hj
    show fX4_described_6 s (nI k) adj noun (fu + 1) (nI j) (nI t) = _
    rw [fX4_described_6, hc, if_neg (nI_ge ht (by omega)), if_neg (ge12 (by omega)), ai12 (by omega), cl_nI (by omega)]
    unfold fX4_described_38 fX4_described_43 fX4_described_82
    rw [nI_bit (by omega) (by omega), ai12 (by omega), cl_nI (by omega), nI_shl (by omega), nI_or, nI_1]
    have he := adj_eq adj (S4_adjectiveSets s t)
    simp only [he]
    by_cases a : k.testBit t = true <;> by_cases b : noun = -1 <;> by_cases c : S4_nouns s t = noun <;> by_cases d : (S4_adjectiveSets s t &&& adj) = adj <;>
      simp [DS, a, b, c, d]
theorem e_having {m : S6} {s : S4} {n kb ko k : Nat} (I : WI s n kb ko) (J : MI m s n kb ko) (hk : k < 2 ^ 12) (adj noun : Int32) : fX6_having m (nI k) adj noun = some (nI (mkS (fun t => k.testBit t && DS (S4_nouns s) (S4_adjectiveSets s) adj noun t) n)) := by
  have hn12 := I.1
  have key := mk_loop (fun f x y => fX6_having_6 m (nI k) adj noun f x y) (fun t => k.testBit t && DS (S4_nouns s) (S4_adjectiveSets s) adj noun t) n hn12 (fun x => some x) ?_ ?_ n 0 64 (by omega) (by omega)
  · exact key
  · intro fu x
    show fX6_having_6 m (nI k) adj noun (fu + 1) x (nI n) = some x
    rw [fX6_having_6, J.1, if_pos (nI_le (Nat.le_refl n) (by omega))]
  · intro fu j t ht hj
    show fX6_having_6 m (nI k) adj noun (fu + 1) (nI j) (nI t) = _
    rw [fX6_having_6, J.1, if_neg (nI_ge ht (by omega)), ai12 (by omega), cl_nI (by omega), ai12 (by omega), J.2.1, J.2.2.1]
    unfold fX6_having_44 fX6_having_48 fX6_having_49 fX6_having_75 fX6_having_76
    rw [nI_bit (by omega) (by omega), show (0 : Int32) = nI 0 from rfl, nI_shl (by omega), nI_or, nI_or, nI_1]
    by_cases a : k.testBit t = true <;> by_cases b : noun = -1 <;> by_cases c : S4_nouns s t = noun <;> by_cases d : (S4_adjectiveSets s t &&& adj) = adj <;>
      simp [DS, a, b, c, d, ← li0]
def pc : Nat → Nat → Nat
  | 0, _ => 0
  | f + 1, k => k % 2 + pc f (k / 2)
theorem pc_le : ∀ f k, pc f k ≤ f
  | 0, _ => Nat.le_refl 0
  | f + 1, k => by
    have := pc_le f (k / 2)
    have h2 : k % 2 < 2 := Nat.mod_lt _ (by decide)
    show k % 2 + pc f (k / 2) ≤ f + 1
    omega
theorem e_bits_in (a0 : Int32) : ∀ (f fu c k : Nat), k < 2 ^ f → f ≤ 12 → f < fu → fX6_bits_4 a0 fu (nI c) (nI k) = some (nI (c + pc f k))
  | 0, fu, c, k, hk, hf, h => by
    obtain ⟨g, rfl⟩ : ∃ g, fu = g + 1 := ⟨fu - 1, by omega⟩
    have : k = 0 := by simpa using hk
    subst this
    rw [fX6_bits_4, if_pos (by decide)]
    rfl
  | f + 1, fu, c, k, hk, hf, h => by
    obtain ⟨g, rfl⟩ : ∃ g, fu = g + 1 := ⟨fu - 1, by omega⟩
    have hb : 2 ^ (f + 1) ≤ 2 ^ 12 := Nat.pow_le_pow_right (by decide) hf
    have hk2 : k < 2 ^ 31 := by omega
    rw [fX6_bits_4]
    by_cases z : k = 0
    · subst z
      rw [if_pos (by decide)]
      have e : ∀ f, pc f 0 = 0 := by
        intro f
        induction f with
        | zero => rfl
        | succ f ih => show 0 % 2 + pc f (0 / 2) = 0; rw [Nat.zero_div, ih]
      rw [e]; rfl
    · rw [if_neg (nI_nle (by omega) hk2), pk_shrN hk2 _ 1 (by decide), li1, nI_and, nI_add, Nat.and_one_is_mod]
      have hk3 : k / 2 ^ 1 < 2 ^ f := by
        rw [Nat.pow_one]
        have : 2 ^ (f + 1) = 2 * 2 ^ f := by rw [Nat.pow_succ, Nat.mul_comm]
        omega
      rw [e_bits_in a0 f g (c + k % 2) (k / 2 ^ 1) hk3 (by omega) (by omega), Nat.pow_one]
      show some (nI (c + k % 2 + pc f (k / 2))) = some (nI (c + (k % 2 + pc f (k / 2))))
      rw [Nat.add_assoc]
