theorem wN_nI {x : Int32} (h : wN x = true) : ∃ j, j < 8 ∧ x - 30 = nI j := by
  simp only [wN, Bool.and_eq_true, Bool.not_eq_true', decide_eq_false_iff_not] at h
  have h0 : ¬ x < 0 := fun q => h.1 (Int32.lt_of_lt_of_le q (by decide))
  obtain ⟨j, hj, rfl⟩ := nI_of h0
  have a : ¬ j < 30 := fun q => h.1 (nI_lt (a := j) (b := 30) q (by decide))
  have b : j < 38 := by
    rcases Nat.lt_or_ge j 38 with q | q
    · exact q
    · exact absurd (nI_le (a := 38) (b := j) q hj) h.2
  exact ⟨j - 30, by omega, pk_sub (a := j) (b := 30) (by omega)⟩
theorem wP_nI {x : Int32} (h : wP x = true) : ∃ j, j < 8 ∧ x - 40 = nI j := by
  simp only [wP, Bool.and_eq_true, Bool.not_eq_true', decide_eq_false_iff_not] at h
  have h0 : ¬ x < 0 := fun q => h.1 (Int32.lt_of_lt_of_le q (by decide))
  obtain ⟨j, hj, rfl⟩ := nI_of h0
  have a : ¬ j < 40 := fun q => h.1 (nI_lt (a := j) (b := 40) q (by decide))
  have b : j < 48 := by
    rcases Nat.lt_or_ge j 48 with q | q
    · exact q
    · exact absurd (nI_le (a := 48) (b := j) q hj) h.2
  exact ⟨j - 40, by omega, pk_sub (a := j) (b := 40) (by omega)⟩
/-- the rows of numbers behind words that fail, or lead to a question -/
def Z5 (z : Nat → Int32) (e : Nat) : Nat → Int32 := upd (upd (upd z 3 (nI e)) 9 0) 10 (-1)
def Z1 (z : Nat → Int32) (e q : Nat) : Nat → Int32 := upd (upd (upd z 3 (-1)) 9 (nI q)) 10 (nI e)
abbrev KK (w v : Nat → Int32) (g : Nat) : (Nat → Int32) → (Nat → Int32) → (Nat → Int32) → (Nat → Int32) → (Nat → Int32) → Int32 → Int32 → Int32 → Int32 → Int32 → Option (Int32 × (Nat → Int32) × (Nat → Int32)) := fun syt syz syf syo syk x7 x8 x9 x10 x11 => fL_does_56 w v g syt syz syf syo syk x7 x8 x9 x10 x11
section L334
variable {w v t z f o kk : Nat → Int32} {k56 : (Nat → Int32) → (Nat → Int32) → (Nat → Int32) → (Nat → Int32) → (Nat → Int32) → Int32 → Int32 → Int32 → Int32 → Int32 → Option (Int32 × (Nat → Int32) × (Nat → Int32))} {x7 x8 x9 x10 : Int32}
theorem l_334z (x11 : Int32) (e : Nat) : fL_does_334 w v k56 t z f o kk x7 x8 x9 x10 x11 (nI e) 0 0 = some (5, t, Z5 z e) := by
  unfold fL_does_334 fL_does_352 fL_does_373 fL_does_384
  simp only [if_true]
  rw [ai13_3, ai13_9, ai13_10, cl_3, cl_9, cl_10]
  rfl
theorem l_334q (x11 : Int32) (e : Nat) {q : Nat} (hq : ¬ nI q = 0) : fL_does_334 w v k56 t z f o kk x7 x8 x9 x10 x11 (nI e) 0 (nI q) = some (1, t, Z1 z e q) := by
  unfold fL_does_334 fL_does_352 fL_does_373 fL_does_384
  rw [if_pos rfl, if_neg hq, if_neg hq, if_neg hq, ai13_3, ai13_9, ai13_10, cl_3, cl_9, cl_10]
  rfl
theorem l_334g {p : Nat} (hp : p < 24) (e fd qu : Int32) (hfd : ¬ fd = 0) (hk : kk p = 0 ∨ kk p = 1 ∨ kk p = 2) : fL_does_334 w v k56 t z f o kk x7 x8 x9 x10 (nI p) e fd qu = k56 t z f o kk x7 (x8 ||| fd) (x9 ||| 0) x10 (nI (p + 1)) := by
  have h3 : ¬ (3 : Int32) ≤ kk p := by rcases hk with h | h | h <;> rw [h] <;> decide
  have h4 : ¬ kk p = 3 := by rcases hk with h | h | h <;> rw [h] <;> decide
  have h5 : ¬ kk p = 4 := by rcases hk with h | h | h <;> rw [h] <;> decide
  unfold fL_does_334 fL_does_402 fL_does_422 fL_does_444
  rw [if_neg hfd]
  simp only [ai24 hp]
  rw [cl_nI (by omega), if_neg h3, if_neg h4, if_neg h5, nI_1]
theorem l_334l {p : Nat} (hp : p < 24) (e fd qu : Int32) (hfd : ¬ fd = 0) (hk : kk p = 3) : fL_does_334 w v k56 t z f o kk x7 x8 x9 x10 (nI p) e fd qu = k56 t z f o kk x7 (x8 ||| 0) (x9 ||| fd) x10 (nI (p + 1)) := by
  unfold fL_does_334 fL_does_402 fL_does_422 fL_does_444
  rw [if_neg hfd]
  simp only [ai24 hp]
  rw [cl_nI (by omega), hk, if_pos (by decide), if_pos rfl, if_neg (by decide), nI_1]
theorem l_334t {p τ : Nat} (hp : p < 24) (e qu : Int32) (hτ : τ < 6) (hk : kk p = 4) : fL_does_334 w v k56 t z f o kk x7 x8 x9 x10 (nI p) e (nI (2 ^ τ)) qu = k56 t z f o kk x7 (x8 ||| 0) (x9 ||| 0) (nI τ) (nI (p + 1)) := by
  unfold fL_does_334 fL_does_402 fL_does_422 fL_does_444
  rw [if_neg (pow_ne (by omega))]
  simp only [ai24 hp]
  rw [cl_nI (by omega), hk, if_pos (by decide), if_neg (by decide), if_pos rfl, l_only τ hτ, bn1_s, nI_1]
end L334
/-- how the law and the class find a single -/
def LSR (n i : Nat) (s0 : S0) (x : Int32 × S0) (fd qu : Int32) : Prop :=
  (∃ τ, τ < n ∧ x = (nI (2 ^ τ), s0) ∧ fd = nI (2 ^ τ))
  ∨ (x = (0, notS s0 i) ∧ fd = 0 ∧ qu = 0)
  ∨ (∃ q, 0 < q ∧ q < 2 ^ n ∧ x = (0, askS s0 i q) ∧ fd = 0 ∧ qu = nI q)
theorem lt64 {q n : Nat} (hn : n ≤ 6) (h : q < 2 ^ n) : q < 64 := Nat.lt_of_lt_of_le h (show 2 ^ n ≤ 2 ^ 6 from Nat.pow_le_pow_right (by decide) hn)
theorem AS_end {w : Nat → Int32} {k e : Nat} (hke : k ≤ e) (h : wA (w e) = false) : AS w k (e + 1 - k) = AS w k (e - k) := by
  have q : AS w k (e - k + 1) = AS w k (e - k) ||| (if wA (w (k + (e - k))) = true then 2 ^ (w (k + (e - k)) - 20).toNatClampNeg else 0) := rfl
  rw [show e + 1 - k = e - k + 1 by omega, q, show k + (e - k) = e by omega, h, if_neg (by decide), Nat.or_zero]
theorem nI_le0 {q : Nat} (h : q < 2 ^ 31) : nI q ≤ 0 ↔ q = 0 := by
  constructor
  · intro x
    rcases Nat.eq_zero_or_pos q with y | y
    · exact y
    · exact absurd x (nI_nle y h)
  · intro x; rw [x]; decide
theorem hv_suit {x : Int32} (h : x = 0 ∨ x = 1 ∨ x = 2 ∨ x = 3 ∨ x = 4) : x = 0 ∨ x = 1 ∨ x = 2 ∨ x = 3 ∨ x = 4 ∨ x = 16 := by
  rcases h with h | h | h | h | h
  · exact Or.inl h
  · exact Or.inr (Or.inl h)
  · exact Or.inr (Or.inr (Or.inl h))
  · exact Or.inr (Or.inr (Or.inr (Or.inl h)))
  · exact Or.inr (Or.inr (Or.inr (Or.inr (Or.inl h))))
theorem l_single {s0 : S0} {s1 : S1} {s2 : S2} {s4 : S4} {m : S6} {w v t z f o kk : Nat → Int32} {len n kb ko c i p : Nat} {q : Int32} (K : LK s1 s2 s4 m w len n kb ko c) (hc : c + 1 ≤ 24) (hT : LT t z s4 n kb ko) (hA : LA s4 n) (hit : z 8 = S6_it m) (hv : ∀ j, j < len → v j = S6_answer m j) (hvb : w 0 = 0 ∨ w 0 = 1 ∨ w 0 = 2 ∨ w 0 = 3 ∨ w 0 = 4)
    (hi : i ≤ c) (hS : Sg w (ST s2 i) (E2 s2 i) (S2_adjectiveSets s2 i) (S2_nouns s2 i) (S2_kinds s2 i)) (hR : S0_reach s0 = nI (Rn s4 n ko)) (hp : p < 24) (hf : f p = nI (ST s2 i)) (ho : o p = nI (E2 s2 i)) (hk : kk p = q) (hq : q = 0 ∨ q = 3 ∨ q = 4) (g : Nat) (x7 x8 x9 x10 : Int32) (h7 : ¬ x7 ≤ nI p) :
    ∃ x fd qu, fX0_findSingle s0 s1 s2 s4 (nI i) (nI (Un s4 n kb ko (if q = 4 then 16 else w 0))) = some x ∧ fL_does_56 w v (g + 1) t z f o kk x7 x8 x9 x10 (nI p) = fL_does_334 w v (KK w v g) t z f o kk x7 x8 x9 x10 (nI p) (nI (E2 s2 i)) fd qu ∧ LSR n i s0 x fd qu := by
  have hn6 := hT.2.1
  obtain ⟨I, J, hO, hLF, hM, hAn⟩ := K
  have hl := hO.2.1
  have hL := hLF.1.1
  obtain ⟨-, p2, p3, -, -, -⟩ := hLF.1.2.1 i (by omega)
  have q2 : ¬ q = 2 := by rcases hq with h | h | h <;> rw [h] <;> decide
  have q1 : ¬ q = 1 := by rcases hq with h | h | h <;> rw [h] <;> decide
  have hve := hv (E2 s2 i) p3
  have base : fL_does_56 w v (g + 1) t z f o kk x7 x8 x9 x10 (nI p) = if S6_answer m (E2 s2 i) < 0 then (if w (E2 s2 i) = 14 then (if 0 ≤ z 8 then bn1 (fL_reach t z) fun r_28 => fL_does_212 w v (KK w v g) t z f o kk x7 x8 x9 x10 (nI p) (nI (E2 s2 i)) 0 (((1 : Int32) <<< (z 8 &&& 31)) &&& r_28) else fL_does_212 w v (KK w v g) t z f o kk x7 x8 x9 x10 (nI p) (nI (E2 s2 i)) 0 0) else bn1 (fL_reach t z) fun r_21 => bn1 (fL_isNoun (w (E2 s2 i))) fun r_23 => if r_23 = 0 then fL_does_248 w v (KK w v g) t z f o kk x7 x8 x9 x10 (nI p) (nI (E2 s2 i)) r_21 (nI (ST s2 i)) (nI (E2 s2 i)) (-1) else fL_does_248 w v (KK w v g) t z f o kk x7 x8 x9 x10 (nI p) (nI (E2 s2 i)) r_21 (nI (ST s2 i)) (nI (E2 s2 i)) (w (E2 s2 i) - 30)) else fL_does_334 w v (KK w v g) t z f o kk x7 x8 x9 x10 (nI p) (nI (E2 s2 i)) ((1 : Int32) <<< (S6_answer m (E2 s2 i) &&& 31)) 0 := by
    have h24 : E2 s2 i < 24 := by omega
    rw [fL_does_56, if_neg h7]
    simp only [ai24 hp, cl_nI (show p < 2 ^ 31 by omega), ho, hf, hk, if_neg q2, if_neg q1, ai24 h24, cl_nI (show E2 s2 i < 2 ^ 31 by omega), hve, ai13_8, cl_8]
  rw [base]
  rcases hAn i (by omega) with ⟨a1, a2⟩ | ⟨τ, hτ, a1, a2⟩
  · rw [a2, if_pos (show (-1 : Int32) < 0 by decide)]
    rcases hS with ⟨w14, b, hK⟩ | ⟨hK, -, -, ha, hh⟩
    · rw [b, if_pos w14, hit, l_reach I hT, bn1_s]
      rcases hM with ⟨m1, m2⟩ | ⟨τ, hτ, m1, m2⟩
      · refine ⟨_, 0, 0, fs_I hL hc (by omega) a1 hK (al := 0) m1 hR (by decide), ?_, Or.inr (Or.inl ⟨?_, rfl, rfl⟩)⟩
        · rw [m2, if_neg (show ¬ (0 : Int32) ≤ -1 by decide)]; rfl
        · rw [Nat.zero_and, if_pos rfl]
      · rw [m2, if_pos (nI_pos' (by omega)), nI_shl (by omega), nI_and, pow_and]
        refine ⟨_, nI (if (mkS (rcT (S4_holders s4) ko) n).testBit τ = true then 2 ^ τ else 0), 0, fs_I hL hc (by omega) a1 hK (al := 2 ^ τ) m1 hR (two_pow_lt12 (by omega)), rfl, ?_⟩
        rw [pow_and]
        show LSR n i s0 _ (nI (if (Rn s4 n ko).testBit τ = true then 2 ^ τ else 0)) 0
        by_cases y : (Rn s4 n ko).testBit τ = true
        · have p0 : ¬ 2 ^ τ = 0 := by
            have : 0 < 2 ^ τ := Nat.pow_pos (by decide)
            omega
          rw [if_pos y, if_neg p0]
          exact Or.inl ⟨τ, hτ, rfl, rfl⟩
        · rw [if_neg y, if_pos rfl]
          exact Or.inr (Or.inl ⟨rfl, rfl, rfl⟩)
    · have w14 : ¬ w (E2 s2 i) = 14 := by
        rcases hh with ⟨a, -⟩ | ⟨a, -⟩
        · exact wN_ne a wN14
        · rw [a]; decide
      have wa : wA (w (E2 s2 i)) = false := by
        rcases hh with ⟨a, -⟩ | ⟨a, -⟩
        · exact wN_A a
        · rw [a]; decide
      have hno : S2_nouns s2 i = -1 ∨ ¬ S2_nouns s2 i < 0 := by
        rcases hh with ⟨a, b⟩ | ⟨-, b⟩
        · obtain ⟨j, hj, e⟩ := wN_nI a
          rw [b, e]; exact Or.inr (ng (by omega))
        · exact Or.inl b
      have b2 : (if (if wN (w (E2 s2 i)) = true then (1 : Int32) else 0) = 0 then fL_does_248 w v (KK w v g) t z f o kk x7 x8 x9 x10 (nI p) (nI (E2 s2 i)) (nI (mkS (rcT (S4_holders s4) ko) n)) (nI (ST s2 i)) (nI (E2 s2 i)) (-1) else fL_does_248 w v (KK w v g) t z f o kk x7 x8 x9 x10 (nI p) (nI (E2 s2 i)) (nI (mkS (rcT (S4_holders s4) ko) n)) (nI (ST s2 i)) (nI (E2 s2 i)) (w (E2 s2 i) - 30)) = fL_does_248 w v (KK w v g) t z f o kk x7 x8 x9 x10 (nI p) (nI (E2 s2 i)) (nI (mkS (rcT (S4_holders s4) ko) n)) (nI (ST s2 i)) (nI (E2 s2 i)) (S2_nouns s2 i) := by
        rcases hh with ⟨a, b⟩ | ⟨a, b⟩
        · rw [a, if_pos rfl, if_neg (by decide), b]
        · rw [a, if_neg (show ¬ wN 17 = true by decide), if_pos rfl, b]
      have hFn : Fn s4 n ko (S2_adjectiveSets s2 i) (S2_nouns s2 i) < 2 ^ n := mkS_lt _ n
      have fitF : fL_fitting t w (nI (mkS (rcT (S4_holders s4) ko) n)) (nI (ST s2 i)) (nI (E2 s2 i)) (S2_nouns s2 i) = some (nI (Fn s4 n ko (S2_adjectiveSets s2 i) (S2_nouns s2 i))) := by
        rw [l_fitting (w := w) (d := E2 s2 i + 1 - ST s2 i) hT hA (mkS_lt _ n) (by omega) (by omega) hno, AS_end p2 wa, ← ha]
        rfl
      have hsu : fL_suited t z (if q = 4 then 16 else w 0) = some (nI (Un s4 n kb ko (if q = 4 then 16 else w 0))) := by
        refine l_suited I hT ?_
        by_cases y : q = 4
        · rw [if_pos y]; exact Or.inr (Or.inr (Or.inr (Or.inr (Or.inr rfl))))
        · rw [if_neg y]; exact hv_suit hvb
      have f0 := fs_O (U := Un s4 n kb ko (if q = 4 then 16 else w 0)) I hL hc (show i < c + 1 by omega) a1 (s0 := s0) (s1 := s1) (by rw [hK]; decide) hR rfl
      have y248 : fL_does_248 w v (KK w v g) t z f o kk x7 x8 x9 x10 (nI p) (nI (E2 s2 i)) (nI (mkS (rcT (S4_holders s4) ko) n)) (nI (ST s2 i)) (nI (E2 s2 i)) (S2_nouns s2 i) = fL_does_274 w v (KK w v g) t z f o kk x7 x8 x9 x10 (nI p) (nI (E2 s2 i)) (nI (Fn s4 n ko (S2_adjectiveSets s2 i) (S2_nouns s2 i))) (nI (Fn s4 n ko (S2_adjectiveSets s2 i) (S2_nouns s2 i))) (if q = 4 then 16 else w 0) := by
        unfold fL_does_248
        rw [fitF, bn1_s, ai24 hp, cl_nI (by omega), hk, ai24_0, cl0]
        by_cases y : q = 4
        · rw [if_pos y, if_pos y]
        · rw [if_neg y, if_neg y]
      rw [if_neg w14, l_reach I hT, bn1_s, e_lN, bn1_s, b2, y248]
      generalize hFe : Fn s4 n ko (S2_adjectiveSets s2 i) (S2_nouns s2 i) = F at f0 hFn
      generalize hUe : Un s4 n kb ko (if q = 4 then 16 else w 0) = U at f0 hsu
      have hGn : F &&& U < 2 ^ n := Nat.lt_of_le_of_lt Nat.and_le_left hFn
      have F64 := lt64 hn6 hFn
      have G64 := lt64 hn6 hGn
      have hp1 := pc_le 12 F
      have hp2 := pc_le 12 (F &&& U)
      have y274 : fL_does_274 w v (KK w v g) t z f o kk x7 x8 x9 x10 (nI p) (nI (E2 s2 i)) (nI F) (nI F) (if q = 4 then 16 else w 0) = if pc 12 F = 1 then fL_does_309 w v (KK w v g) t z f o kk x7 x8 x9 x10 (nI p) (nI (E2 s2 i)) (nI F) (nI (F &&& U)) (nI F) else if pc 12 (F &&& U) = 1 then fL_does_309 w v (KK w v g) t z f o kk x7 x8 x9 x10 (nI p) (nI (E2 s2 i)) (nI F) (nI (F &&& U)) (nI (F &&& U)) else fL_does_309 w v (KK w v g) t z f o kk x7 x8 x9 x10 (nI p) (nI (E2 s2 i)) (nI F) (nI (F &&& U)) 0 := by
        unfold fL_does_274
        rw [hsu, bn1_s, l_bits F F64, bn1_s, nI_and, l_bits _ G64, bn1_s]
        by_cases a : pc 12 F = 1
        · rw [if_pos a, if_pos ((li_1 (by omega)).mpr a)]
        · rw [if_neg a, if_neg (fun y => a ((li_1 (by omega)).mp y))]
          by_cases b : pc 12 (F &&& U) = 1
          · rw [if_pos b, if_pos ((li_1 (by omega)).mpr b)]
          · rw [if_neg b, if_neg (fun y => b ((li_1 (by omega)).mp y))]
      have y309 : ∀ r : Nat, r < 64 → fL_does_309 w v (KK w v g) t z f o kk x7 x8 x9 x10 (nI p) (nI (E2 s2 i)) (nI F) (nI (F &&& U)) (nI r) = fL_does_334 w v (KK w v g) t z f o kk x7 x8 x9 x10 (nI p) (nI (E2 s2 i)) (nI r) (if r = 0 then (if F &&& U = 0 then nI F else nI (F &&& U)) else 0) := fun r hr => by
        unfold fL_does_309 fL_does_332
        by_cases a : r = 0
        · rw [if_pos a, if_pos ((nI_le0 (by omega)).mpr a)]
          by_cases b : F &&& U = 0
          · rw [if_pos b, if_pos ((nI_le0 (by omega)).mpr b)]
          · rw [if_neg b, if_neg (fun y => b ((nI_le0 (by omega)).mp y))]
        · rw [if_neg a, if_neg (fun y => a ((nI_le0 (by omega)).mp y))]
      rw [y274]
      refine ⟨_, nI (if pc 12 F = 1 then F else if pc 12 (F &&& U) = 1 then F &&& U else 0), (if (if pc 12 F = 1 then F else if pc 12 (F &&& U) = 1 then F &&& U else 0) = 0 then (if F &&& U = 0 then nI F else nI (F &&& U)) else 0), f0, ?_, ?_⟩
      · by_cases a : pc 12 F = 1
        · simp only [if_pos a]
          exact y309 F F64
        · simp only [if_neg a]
          by_cases b : pc 12 (F &&& U) = 1
          · simp only [if_pos b]
            exact y309 _ G64
          · simp only [if_neg b]
            exact y309 0 (by omega)
      · have F12 : F < 4096 := by omega
        have G12 : F &&& U < 4096 := by omega
        by_cases a : pc 12 F = 1
        · obtain ⟨τ, hτ, e⟩ := pc_one F12 a
          have F0 : ¬ F = 0 := fun y => by rw [y] at a; exact absurd a (by decide)
          rw [if_neg (show ¬ 1 < pc 12 F by omega), if_neg F0, if_pos a]
          exact Or.inl ⟨τ, bit_lt hFn (by rw [e, Nat.testBit_two_pow_self]), by rw [e], by rw [e]⟩
        · rw [if_neg a]
          by_cases b : pc 12 (F &&& U) = 1
          · obtain ⟨τ, hτ, e⟩ := pc_one G12 b
            have big : 1 < pc 12 F := by
              rcases Nat.eq_zero_or_pos (pc 12 F) with y | y
              · have := (pc_zero F12).mp y
                rw [this, Nat.zero_and] at b; exact absurd b (by decide)
              · omega
            rw [if_pos big, if_pos b, if_pos b]
            exact Or.inl ⟨τ, bit_lt hGn (by rw [e, Nat.testBit_two_pow_self]), by rw [e], by rw [e]⟩
          · simp only [if_neg b, if_true]
            by_cases z0 : F = 0
            · have p0 : pc 12 F = 0 := (pc_zero F12).mpr z0
              rw [if_neg (show ¬ 1 < pc 12 F by omega), if_pos z0, z0, Nat.zero_and, if_pos rfl]
              exact Or.inr (Or.inl ⟨rfl, rfl, rfl⟩)
            · have big : 1 < pc 12 F := by
                rcases Nat.eq_zero_or_pos (pc 12 F) with y | y
                · exact absurd ((pc_zero F12).mp y) z0
                · omega
              rw [if_pos big]
              by_cases y : F &&& U = 0
              · rw [if_pos y, if_pos y]
                exact Or.inr (Or.inr ⟨F, Nat.pos_of_ne_zero z0, hFn, rfl, rfl, rfl⟩)
              · rw [if_neg y, if_neg y]
                exact Or.inr (Or.inr ⟨F &&& U, Nat.pos_of_ne_zero y, hGn, rfl, rfl, rfl⟩)
  · have nz : ¬ S2_answers s2 i = 0 := by rw [a1]; exact pow_ne (by omega)
    rw [a2, if_neg (ng (by omega)), nI_shl (by omega)]
    exact ⟨_, _, _, fs_A hL hc (by omega) nz, rfl, Or.inl ⟨τ, hτ, by rw [a1], rfl⟩⟩
