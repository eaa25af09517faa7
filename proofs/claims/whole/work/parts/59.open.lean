def z0 : S0 := (0, 0, 0, (-1), (-1), 0)
def z1 : S1 := ((-1), 0, 0, (-1), 0)
def z2 : S2 := ((-1), 0, (fun _ => 0), (fun _ => 0), (fun _ => 0), (fun _ => 0), (fun _ => 0), (fun _ => 0))
def z3 : S3 := ((fun _ => 0), 0, 0, 0, (-1))
def z4 : S4 := ((fun _ => 0), (fun _ => 0), (fun _ => 0), 0, 0, 0)
def z5 : S5 := ((-1), (-1), 0, (-1), 0)
def z6 : S6 := (0, (fun _ => 0), (fun _ => 0), (fun _ => 0), (fun _ => 0), (fun _ => 0), 0, (fun _ => 0), (-1), (-1), (-1), 0, 0, (-1), (-1), 0, 0, (fun _ => 0), (fun _ => 0), 0, (-1), 0, 0, 0, 0)
def zO : SO := (fun _ => 0)
theorem SR_start : SR z1 z2 z3 z4 z5 z6 := by
  refine ⟨0, 0, 0, 0, fun _ => 0, 0, -1, ⟨by omega, rfl, rfl, rfl, by decide, by decide, fun t _ => ⟨Nat.zero_testBit t, Nat.zero_testBit t⟩, [], rfl, fun t => ?_, trivial⟩, ⟨rfl, rfl, rfl, rfl, fun t _ => ?_, fun t _ => ?_⟩, ⟨rfl, ⟨0, by decide, rfl, rfl⟩, rfl, rfl, Or.inl ⟨rfl, rfl⟩⟩, ⟨rfl, by omega, rfl, rfl⟩, ⟨rfl, rfl, rfl⟩, Or.inl ⟨rfl, rfl, rfl⟩⟩
  · constructor
    · intro q; cases q
    · intro q; omega
  · rw [Nat.zero_testBit, if_neg (by decide)]
    rfl
  · rw [Nat.zero_testBit, if_neg (by decide)]
    rfl
theorem lgc (x : Int64) : lg_cmp x x = 0 := (lg_cmp_eq x x).mpr rfl
theorem ail {β : Type} {L j : Nat} {x : Option β} (h : j < L) (hL : L ≤ 2048) : ai L (nI j) x = x := ai_s h (by omega)
theorem nI_p (a b : Nat) : nI a + nI b = nI (a + b) := nI_add a b
theorem thr (m : S6) : fX6_thrown m = some (S6_thrown m) := rfl
theorem law_stop {L j : Nat} (hL : L ≤ 2048) (hj : j ≤ 512) : (Int32.ofNat L - 4 < nI (4 * j)) ↔ ¬ 4 * j + 4 ≤ L := by
  have e : ∀ x, Int32.ofNat x = nI x := fun x => rfl
  by_cases q : 4 ≤ L
  · rw [e, show nI L - 4 = nI (L - 4) from pk_sub (a := L) (b := 4) q, nI_ltI (by omega) (by omega)]
    omega
  · have c : L = 0 ∨ L = 1 ∨ L = 2 ∨ L = 3 := by omega
    have n : Int32.ofNat L - 4 < 0 := by
      rcases c with rfl | rfl | rfl | rfl <;> decide
    constructor
    · intro _; omega
    · intro _; exact Int32.lt_of_lt_of_le n (nI_pos' (by omega))
/-- the law's loop -/
theorem e_law (L : Nat) (xs : Nat → Int32) (hL : L ≤ 2048) : ∀ (fu j : Nat) (s0 : S0) (s1 : S1) (s2 : S2) (s3 : S3) (s4 : S4) (s5 : S5) (m : S6) (sO : SO), 513 ≤ j + fu → j ≤ 512 → SR s1 s2 s3 s4 s5 m → fL_law_23 L xs fu s0 s1 s2 s3 s4 s5 m sO (nI (4 * j)) = some 1
  | 0, j, s0, s1, s2, s3, s4, s5, m, sO, hf, hj, h => absurd hf (by omega)
  | fu + 1, j, s0, s1, s2, s3, s4, s5, m, sO, hf, hj, h => by
    rw [fL_law_23]
    by_cases st : 4 * j + 4 ≤ L
    · have hk : ∀ (s0 : S0) (s1 : S1) (s2 : S2) (s3 : S3) (s4 : S4) (s5 : S5) (m : S6) (sO : SO), SR s1 s2 s3 s4 s5 m → fL_law_574 L xs (fun s0 s1 s2 s3 s4 s5 s6 sO x4 => fL_law_23 L xs fu s0 s1 s2 s3 s4 s5 s6 sO x4) s0 s1 s2 s3 s4 s5 m sO (nI (4 * j)) = some 1 := fun s0 s1 s2 s3 s4 s5 m sO h => by
        have e : nI (4 * j) + 4 = nI (4 * (j + 1)) := nI_add (4 * j) 4
        unfold fL_law_574
        rw [e]
        exact e_law L xs hL fu (j + 1) s0 s1 s2 s3 s4 s5 m sO (by omega) (by omega) h
      have a0 : ∀ x : Option Int32, ai L (nI (4 * j)) x = x := fun x => ai_s (by omega) (by omega)
      have a1 : ∀ x : Option Int32, ai L (nI (4 * j) + 1) x = x := fun x => by
        rw [show nI (4 * j) + 1 = nI (4 * j + 1) from nI_add (4 * j) 1]
        exact ai_s (by omega) (by omega)
      have a2 : ∀ x : Option Int32, ai L (nI (4 * j) + 2) x = x := fun x => by
        rw [show nI (4 * j) + 2 = nI (4 * j + 2) from nI_add (4 * j) 2]
        exact ai_s (by omega) (by omega)
      have a3 : ∀ x : Option Int32, ai L (nI (4 * j) + 3) x = x := fun x => by
        rw [show nI (4 * j) + 3 = nI (4 * j + 3) from nI_add (4 * j) 3]
        exact ai_s (by omega) (by omega)
      rw [if_neg (fun q => (law_stop hL hj).mp q st), a0]
      obtain ⟨op, hop⟩ : ∃ op, op = xs (nI (4 * j)).toNatClampNeg &&& 15 := ⟨_, rfl⟩
      rw [← hop]
      clear hop
      by_cases c0 : op = 0
      · rw [if_pos c0, a1, a2, a3]
        by_cases w : xs (nI (4 * j) + 3).toNatClampNeg = 0
        · rw [if_pos w]
          obtain ⟨k, r, t4, m', e1, e2, e3, e4⟩ := op_thing h (xs (nI (4 * j) + 1).toNatClampNeg) (xs (nI (4 * j) + 2).toNatClampNeg) 0 (Or.inl rfl)
          unfold fL_law_143
          rw [e1, bn3_s, a1, a2, a3, if_pos w]
          unfold fL_law_176
          rw [e2, bn2_s, thr, e3, bn1_s, if_pos rfl]
          by_cases z : k = 0
          · simp only [if_pos z] at e4 ⊢
            rw [cl0, pk_uLs, lgc, if_pos rfl]
            unfold fL_law_209
            exact hk _ _ _ _ _ _ _ _ e4
          · simp only [if_neg z] at e4 ⊢
            unfold fL_law_209
            exact hk _ _ _ _ _ _ _ _ e4
        · rw [if_neg w]
          obtain ⟨k, r, t4, m', e1, e2, e3, e4⟩ := op_thing h (xs (nI (4 * j) + 1).toNatClampNeg) (xs (nI (4 * j) + 2).toNatClampNeg) 1 (Or.inr rfl)
          unfold fL_law_143
          rw [e1, bn3_s, a1, a2, a3, if_neg w]
          unfold fL_law_176
          rw [e2, bn2_s, thr, e3, bn1_s, if_pos rfl]
          by_cases z : k = 0
          · simp only [if_pos z] at e4 ⊢
            rw [cl0, pk_uLs, lgc, if_pos rfl]
            unfold fL_law_209
            exact hk _ _ _ _ _ _ _ _ e4
          · simp only [if_neg z] at e4 ⊢
            unfold fL_law_209
            exact hk _ _ _ _ _ _ _ _ e4
      rw [if_neg c0]
      by_cases c1 : op = 1
      · rw [if_pos c1]
        obtain ⟨k, r, e1, e2, e3⟩ := op_placeOf h (xs (nI (4 * j) + 1).toNatClampNeg)
        rw [a1, e1, bn2_s, a1, e2, bn2_s, thr, g_thrown_thrown, bn1_s, if_pos rfl]
        by_cases z : k = 0
        · simp only [if_pos z]
          rw [cl0, pk_uLs, lgc, if_pos rfl]
          unfold fL_law_265
          exact hk _ _ _ _ _ _ _ _ (SR_thr h k)
        · simp only [if_neg z]
          unfold fL_law_265
          exact hk _ _ _ _ _ _ _ _ (SR_thr h k)
      rw [if_neg c1]
      by_cases c2 : op = 2
      · rw [if_pos c2]
        obtain ⟨k, r, e1, e2, e3, e4⟩ := op_isOpen h (xs (nI (4 * j) + 1).toNatClampNeg)
        rw [a1, e1, bn2_s, a1, e2, bn2_s, thr, g_thrown_thrown, bn1_s, if_pos rfl]
        by_cases z : k = 0
        · simp only [if_pos z]
          by_cases y : r = 0
          · simp only [if_pos y]
            rw [cl0, pk_uLs, lgc, if_pos rfl]
            unfold fL_law_328
            exact hk _ _ _ _ _ _ _ _ (SR_thr h k)
          · simp only [if_neg y]
            rw [cl0, pk_uLs, lgc, if_pos rfl]
            unfold fL_law_328
            exact hk _ _ _ _ _ _ _ _ (SR_thr h k)
        · simp only [if_neg z]
          unfold fL_law_328
          exact hk _ _ _ _ _ _ _ _ (SR_thr h k)
      rw [if_neg c2]
      by_cases c3 : op = 3
      · rw [if_pos c3]
        obtain ⟨r, e1, e2⟩ := op_inReach h
        rw [e1, bn1_s, e2, bn2_s, if_pos rfl]
        exact hk _ _ _ _ _ _ _ _ (SR_thr h 0)
      rw [if_neg c3]
      by_cases c4 : op = 4
      · rw [if_pos c4]
        obtain ⟨k, r, t3, m', e1, e2, e3, e4⟩ := op_word h (xs (nI (4 * j) + 1).toNatClampNeg)
        rw [a1, e1, bn3_s, a1, e2, bn2_s, thr, e3, bn1_s, if_pos rfl]
        by_cases z : k = 0
        · simp only [if_pos z] at e4 ⊢
          rw [cl0, pk_uLs, lgc, if_pos rfl]
          unfold fL_law_397
          exact hk _ _ _ _ _ _ _ _ e4
        · simp only [if_neg z] at e4 ⊢
          unfold fL_law_397
          exact hk _ _ _ _ _ _ _ _ e4
      rw [if_neg c4]
      by_cases c5 : op = 5
      · rw [if_pos c5]
        obtain ⟨k, r, t3, m', e1, e2, e3, e4⟩ := op_back h
        rw [e1, bn3_s, e2, bn2_s, thr, e3, bn1_s, if_pos rfl]
        by_cases z : k = 0
        · simp only [if_pos z] at e4 ⊢
          rw [cl0, pk_uLs, lgc, if_pos rfl]
          unfold fL_law_441
          exact hk _ _ _ _ _ _ _ _ e4
        · simp only [if_neg z] at e4 ⊢
          unfold fL_law_441
          exact hk _ _ _ _ _ _ _ _ e4
      rw [if_neg c5]
      by_cases c6 : op = 6
      · rw [if_pos c6]
        obtain ⟨r, t0, t1, t2, t3, t4, t5, m2, e1, e2, e3⟩ := e_say (s0 := s0) h
        rw [e1, bn7_s, e2, bn2_s, if_pos rfl]
        exact hk _ _ _ _ _ _ _ _ e3
      rw [if_neg c6]
      by_cases c7 : op = 7
      · rw [if_pos c7]
        obtain ⟨r, e1, e2⟩ := op_outcome h
        rw [e1, bn1_s, e2, bn2_s, if_pos rfl]
        exact hk _ _ _ _ _ _ _ _ (SR_thr h 0)
      rw [if_neg c7]
      by_cases c8 : op = 8
      · rw [if_pos c8]
        obtain ⟨r, e1, e2⟩ := op_wrongAt h
        rw [e1, bn1_s, e2, bn2_s, if_pos rfl]
        exact hk _ _ _ _ _ _ _ _ (SR_thr h 0)
      rw [if_neg c8]
      by_cases c9 : op = 9
      · rw [if_pos c9]
        obtain ⟨r, e1, e2⟩ := op_verb h
        rw [e1, bn1_s, e2, bn2_s, if_pos rfl]
        exact hk _ _ _ _ _ _ _ _ (SR_thr h 0)
      rw [if_neg c9]
      by_cases c10 : op = 10
      · rw [if_pos c10]
        obtain ⟨r, e1, e2⟩ := op_meant h
        rw [e1, bn1_s, e2, bn2_s, if_pos rfl]
        exact hk _ _ _ _ _ _ _ _ (SR_thr h 0)
      rw [if_neg c10]
      by_cases c11 : op = 11
      · rw [if_pos c11]
        obtain ⟨r, e1, e2⟩ := op_done h
        rw [e1, bn1_s, e2, bn2_s, if_pos rfl]
        exact hk _ _ _ _ _ _ _ _ (SR_thr h 0)
      rw [if_neg c11]
      by_cases c12 : op = 12
      · rw [if_pos c12]
        obtain ⟨r, e1, e2⟩ := op_into h
        rw [e1, bn1_s, e2, bn2_s, if_pos rfl]
        exact hk _ _ _ _ _ _ _ _ (SR_thr h 0)
      rw [if_neg c12]
      by_cases c13 : op = 13
      · rw [if_pos c13]
        obtain ⟨r, e1, e2⟩ := op_asked h
        rw [e1, bn1_s, e2, bn2_s, if_pos rfl]
        exact hk _ _ _ _ _ _ _ _ (SR_thr h 0)
      rw [if_neg c13]
      by_cases c14 : op = 14
      · rw [if_pos c14]
        obtain ⟨r, e1, e2⟩ := op_askedAt h
        rw [e1, bn1_s, e2, bn2_s, if_pos rfl]
        exact hk _ _ _ _ _ _ _ _ (SR_thr h 0)
      rw [if_neg c14]
      by_cases c15 : op = 15
      · rw [if_pos c15]
        obtain ⟨r, e1, e2⟩ := op_questions h
        rw [e1, bn1_s, e2, bn2_s, if_pos rfl]
        exact hk _ _ _ _ _ _ _ _ (SR_thr h 0)
      rw [if_neg c15]
      exact hk _ _ _ _ _ _ _ _ h
    · rw [if_pos ((law_stop hL hj).mpr st)]
theorem pure_law_open (L : Nat) (xs : Nat → Int32) (hL : L ≤ 2048) : fL_law_23 L xs 513 z0 z1 z2 z3 z4 z5 z6 zO 0 = some 1 :=
  e_law L xs hL 513 0 z0 z1 z2 z3 z4 z5 z6 zO (by omega) (by omega) SR_start
