theorem l_bits : ∀ k, k < 64 → fL_bits (nI k) = some (nI (pc 12 k)) := by decide +kernel
theorem l_only : ∀ t, t < 6 → fL_only (nI (2 ^ t)) = some (nI t) := by decide +kernel
/-- whether a thing has all adjectives among d words from i on -/
def fQ (w : Nat → Int32) (v : Int32) : Nat → Nat → Bool
  | _, 0 => true
  | i, d + 1 => (!wA (w i) || decide (((v >>> ((w i - 20) &&& 31)) &&& 1) = 1)) && fQ w v (i + 1) d
theorem fQ_s (w : Nat → Int32) (v : Int32) (i d : Nat) : fQ w v i (d + 1) = ((!wA (w i) || decide (((v >>> ((w i - 20) &&& 31)) &&& 1) = 1)) && fQ w v (i + 1) d) := rfl
theorem nI_lt_iff {a b : Nat} (ha : a < 2 ^ 31) (hb : b < 2 ^ 31) : nI a < nI b ↔ a < b := by
  constructor
  · intro h
    rcases Nat.lt_or_ge a b with q | q
    · exact q
    · exact absurd h (nI_nlt q ha)
  · intro h; exact nI_lt h hb
theorem nI_le_iff {a b : Nat} (ha : a < 2 ^ 31) (hb : b < 2 ^ 31) : nI a ≤ nI b ↔ a ≤ b := by
  constructor
  · intro h
    rcases Nat.lt_or_ge b a with q | q
    · exact absurd h (nI_ge q ha)
    · exact q
  · intro h; exact nI_le h hb
theorem l_fit37 {t w : Nat → Int32} {a1 a3 a5 : Int32} {e k : Nat} (he : e < 24) (hk : k < 6) (k6 : Int32 → Int32 → Option Int32) (x6 : Int32) : ∀ (d fu i : Nat) (b : Bool), i + d = e + 1 → d < fu →
    fL_fitting_37 t w a1 a3 (nI e) a5 k6 fu x6 (nI k) (bi b) (nI i) = k6 (x6 &&& (if (b && fQ w (t (6 + k)) i d) = true then -1 else (((1 : Int32) <<< (nI k &&& 31)) ^^^ (-1)))) (nI k + 1)
  | 0, fu, i, b, hi, hf => by
    obtain ⟨g, rfl⟩ : ∃ g, fu = g + 1 := ⟨fu - 1, by omega⟩
    rw [fL_fitting_37, if_pos (nI_lt (show e < i by omega) (by omega))]
    unfold fL_fitting_110 fQ
    cases b
    · rw [if_pos (show bi false = 0 by decide), if_neg (by decide)]
    · rw [if_neg (show ¬ bi true = 0 by decide), if_pos (by decide)]
  | d + 1, fu, i, b, hi, hf => by
    obtain ⟨g, rfl⟩ : ∃ g, fu = g + 1 := ⟨fu - 1, by omega⟩
    have ih := l_fit37 (t := t) (w := w) (a1 := a1) (a3 := a3) (a5 := a5) he hk k6 x6 d g (i + 1)
    have z : ∀ c : Bool, fL_fitting_37 t w a1 a3 (nI e) a5 k6 g x6 (nI k) (bi c) (nI i + 1) = k6 (x6 &&& (if (c && fQ w (t (6 + k)) (i + 1) d) = true then -1 else (((1 : Int32) <<< (nI k &&& 31)) ^^^ (-1)))) (nI k + 1) := fun c => by
      rw [nI_1]; exact ih c (by omega) (by omega)
    rw [fL_fitting_37, if_neg (show ¬ nI e < nI i from nI_nlt (by omega) (by omega))]
    unfold fL_fitting_84 fL_fitting_80 fL_fitting_85
    have z0 := z false
    have z1 := z true
    rw [show bi false = 0 from rfl] at z0
    rw [show bi true = 1 from rfl] at z1
    dsimp only
    rw [z0, z1]
    cases b
    · rw [if_pos (show bi false = 0 by decide)]
      rw [Bool.false_and, Bool.false_and]
    · rw [if_neg (show ¬ bi true = 0 by decide), ai24 (by omega), cl_nI (by omega), e_lA, bn1_s]
      rw [fQ_s, Bool.true_and, Bool.true_and, Bool.false_and]
      by_cases a : wA (w i) = true
      · rw [if_pos a, if_neg (by decide), p_6, ai30 (by omega), ai24 (by omega), cl_nI (by omega), a]
        by_cases c : (t (6 + k) >>> (w i - 20 &&& 31)) &&& 1 = 1
        · rw [if_pos c, decide_eq_true c]
          simp
        · rw [if_neg c, decide_eq_false c]
          simp
      · rw [if_neg a, if_pos rfl, bF a]
        simp
def gQ (t w : Nat → Int32) (a5 : Int32) (f d : Nat) (k : Nat) : Bool := (decide (a5 < 0) || decide (t k = a5)) && fQ w (t (6 + k)) f d
theorem l_fit6 {t w : Nat → Int32} {a1 a5 : Int32} {S f e dd : Nat} (he : e < 24) (hd : f + dd = e + 1) : ∀ (d fu k X : Nat), k + d = 6 → d < fu → X < 2 ^ 12 → (∀ j, X.testBit j = (S.testBit j && (decide (k ≤ j) || gQ t w a5 f dd j))) →
    ∃ Y, fL_fitting_6 t w a1 (nI f) (nI e) a5 fu (nI X) (nI k) = some (nI Y) ∧ ∀ j, Y.testBit j = (S.testBit j && (decide (6 ≤ j) || gQ t w a5 f dd j))
  | 0, fu, k, X, hk, hf, hX, h => by
    obtain ⟨g, rfl⟩ : ∃ g, fu = g + 1 := ⟨fu - 1, by omega⟩
    have e : k = 6 := by omega
    subst e
    exact ⟨X, by rw [fL_fitting_6, if_pos (show (6 : Int32) ≤ nI 6 by decide)], h⟩
  | d + 1, fu, k, X, hk, hf, hX, h => by
    obtain ⟨g, rfl⟩ : ∃ g, fu = g + 1 := ⟨fu - 1, by omega⟩
    have c32 := l_fit37 (t := t) (w := w) (a1 := a1) (a3 := nI f) (a5 := a5) he (show k < 6 by omega) (fun x6 x7 => fL_fitting_6 t w a1 (nI f) (nI e) a5 g x6 x7) (nI X) dd 64 f
    have step : fL_fitting_6 t w a1 (nI f) (nI e) a5 (g + 1) (nI X) (nI k) = fL_fitting_6 t w a1 (nI f) (nI e) a5 g (nI X &&& (if gQ t w a5 f dd k = true then -1 else (((1 : Int32) <<< (nI k &&& 31)) ^^^ (-1)))) (nI (k + 1)) := by
      rw [fL_fitting_6, if_neg (show ¬ (6 : Int32) ≤ nI k from nI_ge (b := 6) (by omega) (by decide))]
      unfold fL_fitting_27 fL_fitting_32 gQ
      by_cases a : a5 < 0
      · rw [if_pos a, decide_eq_true a, Bool.true_or, show (1 : Int32) = bi true from rfl, c32 true hd (by omega), nI_1]; rfl
      · rw [if_neg a, decide_eq_false a, Bool.false_or, ai30 (by omega), cl_nI (by omega)]
        by_cases b : t k = a5
        · rw [if_pos b, decide_eq_true b, show fL_fitting_37 t w a1 (nI f) (nI e) a5 (fun x6 x7 => fL_fitting_6 t w a1 (nI f) (nI e) a5 g x6 x7) 64 (nI X) (nI k) 1 (nI f) = _ from c32 true hd (by omega), nI_1]
        · rw [if_neg b, decide_eq_false b, show fL_fitting_37 t w a1 (nI f) (nI e) a5 (fun x6 x7 => fL_fitting_6 t w a1 (nI f) (nI e) a5 g x6 x7) 64 (nI X) (nI k) 0 (nI f) = _ from c32 false hd (by omega), nI_1]
    rw [step]
    by_cases q : gQ t w a5 f dd k = true
    · rw [if_pos q]
      have e1 : nI X &&& (-1) = nI X := by
        rw [show (-1 : Int32) = nI 4294967295 from by decide, nI_and]
        congr 1
        refine nat_ext fun i => ?_
        rw [Nat.testBit_and, ones_bit]
        by_cases c : i < 32
        · simp [c]
        · have : X < 2 ^ i := Nat.lt_of_lt_of_le hX (Nat.pow_le_pow_right (by decide) (by omega))
          rw [Nat.testBit_lt_two_pow this]; simp
      rw [e1]
      refine l_fit6 he hd d g (k + 1) X (by omega) (by omega) hX (fun j => ?_)
      rw [h j]
      by_cases c : j = k
      · subst c; simp [q]
      · have : decide (k ≤ j) = decide (k + 1 ≤ j) := by
          by_cases x : k ≤ j
          · rw [decide_eq_true x, decide_eq_true (show k + 1 ≤ j by omega)]
          · rw [decide_eq_false x, decide_eq_false (show ¬ k + 1 ≤ j by omega)]
        rw [this]
    · rw [if_neg q, nI_shl (by omega), nI_andn]
      refine l_fit6 he hd d g (k + 1) _ (by omega) (by omega) (Nat.lt_of_le_of_lt Nat.and_le_left hX) (fun j => ?_)
      rw [Nat.testBit_and, Nat.testBit_xor, Nat.testBit_two_pow, ones_bit, h j]
      by_cases c : j = k
      · subst c
        rw [bF q, decide_eq_true (show j = j from rfl), decide_eq_true (show j < 32 by omega), decide_eq_false (show ¬ j + 1 ≤ j by omega)]
        simp
      · have e2 : decide (k = j) = false := decide_eq_false (fun z => c z.symm)
        have : decide (k ≤ j) = decide (k + 1 ≤ j) := by
          by_cases x : k ≤ j
          · rw [decide_eq_true x, decide_eq_true (show k + 1 ≤ j by omega)]
          · rw [decide_eq_false x, decide_eq_false (show ¬ k + 1 ≤ j by omega)]
        rw [e2, this]
        by_cases x : j < 32
        · simp [x]
        · have y : X.testBit j = false := Nat.testBit_lt_two_pow (Nat.lt_of_lt_of_le hX (Nat.pow_le_pow_right (by decide) (by omega)))
          rw [h j, this] at y
          rw [y]; simp
theorem sub_or {a A B : Nat} : (a &&& (A ||| B) = A ||| B) ↔ (a &&& A = A ∧ a &&& B = B) := by
  constructor
  · intro h
    constructor <;>
    · refine nat_ext fun i => ?_
      have e := congrArg (fun x => x.testBit i) h
      simp only [Nat.testBit_and, Nat.testBit_or] at e ⊢
      revert e
      cases a.testBit i <;> cases A.testBit i <;> cases B.testBit i <;> simp
  · rintro ⟨h1, h2⟩
    refine nat_ext fun i => ?_
    have e1 := congrArg (fun x => x.testBit i) h1
    have e2 := congrArg (fun x => x.testBit i) h2
    simp only [Nat.testBit_and, Nat.testBit_or] at e1 e2 ⊢
    revert e1 e2
    cases a.testBit i <;> cases A.testBit i <;> cases B.testBit i <;> simp
theorem sub_pow {a j : Nat} : (a &&& 2 ^ j = 2 ^ j) ↔ a.testBit j = true := by
  rw [Nat.and_comm, pow_and]
  by_cases q : a.testBit j = true
  · simp [q]
  · rw [if_neg q]
    have : 0 < 2 ^ j := Nat.pow_pos (by decide)
    constructor
    · intro h; omega
    · intro h; exact absurd h q
theorem AS_sub {w : Nat → Int32} {a k : Nat} : ∀ d, (a &&& AS w k d = AS w k d) ↔ ∀ i, i < d → wA (w (k + i)) = true → a.testBit (w (k + i) - 20).toNatClampNeg = true
  | 0 => by
    constructor
    · intro _ i hi; omega
    · intro _; exact Nat.and_zero a
  | d + 1 => by
    have ih := AS_sub (w := w) (a := a) (k := k) d
    have e : AS w k (d + 1) = AS w k d ||| (if wA (w (k + d)) = true then 2 ^ (w (k + d) - 20).toNatClampNeg else 0) := rfl
    rw [e, sub_or, ih]
    constructor
    · rintro ⟨h1, h2⟩ i hi q
      by_cases c : i = d
      · subst c
        rw [if_pos q] at h2
        exact sub_pow.mp h2
      · exact h1 i (by omega) q
    · intro h
      refine ⟨fun i hi q => h i (by omega) q, ?_⟩
      by_cases q : wA (w (k + d)) = true
      · rw [if_pos q]; exact sub_pow.mpr (h d (by omega) q)
      · rw [if_neg q]; exact Nat.and_zero a
theorem fQ_iff {w : Nat → Int32} {a : Nat} (ha : a < 64) : ∀ d k, fQ w (nI a) k d = true ↔ ∀ i, i < d → wA (w (k + i)) = true → a.testBit (w (k + i) - 20).toNatClampNeg = true
  | 0, k => by
    constructor
    · intro _ i hi; omega
    · intro _; rfl
  | d + 1, k => by
    have ih := fQ_iff (w := w) ha d (k + 1)
    have one : (!wA (w k) || decide (((nI a >>> ((w k - 20) &&& 31)) &&& 1) = 1)) = true ↔ (wA (w k) = true → a.testBit (w k - 20).toNatClampNeg = true) := by
      by_cases q : wA (w k) = true
      · obtain ⟨j, hj, -, e2⟩ := wA_nI q
        rw [e2, nI_bit (by omega) (by omega), cl_nI (by omega), q]
        cases a.testBit j <;> simp
      · rw [bF q]; simp
    rw [fQ_s, Bool.and_eq_true, one, ih]
    constructor
    · rintro ⟨h1, h2⟩ i hi q
      cases i with
      | zero => exact h1 q
      | succ i =>
        have := h2 i (by omega)
        rw [show k + 1 + i = k + (i + 1) by omega] at this
        exact this q
    · intro h
      refine ⟨fun q => h 0 (by omega) q, fun i hi q => ?_⟩
      have := h (i + 1) (by omega)
      rw [show k + (i + 1) = k + 1 + i by omega] at this
      exact this q
/-- adjectives of things are sets of six -/
def LA (s : S4) (n : Nat) : Prop := ∀ k, k < n → ∃ a, a < 64 ∧ S4_adjectiveSets s k = nI a
theorem AS_lt64 (w : Nat → Int32) (k d : Nat) : AS w k d < 64 := AS_lt w k d
theorem l_fitting {t z w : Nat → Int32} {s : S4} {n kb ko S f e d : Nat} {noun : Int32} (h : LT t z s n kb ko) (hA : LA s n) (hS : S < 2 ^ n) (he : e < 24) (hd : f + d = e + 1) (hno : noun = -1 ∨ ¬ noun < 0) :
    fL_fitting t w (nI S) (nI f) (nI e) noun = some (nI (mkS (fun j => S.testBit j && DS (S4_nouns s) (S4_adjectiveSets s) (nI (AS w f d)) noun j) n)) := by
  have hn6 := h.2.1
  have hS12 : S < 2 ^ 12 := Nat.lt_of_lt_of_le hS (Nat.pow_le_pow_right (by decide) (by omega))
  obtain ⟨Y, y1, y2⟩ := l_fit6 (t := t) (w := w) (a1 := nI S) (a5 := noun) (S := S) he hd 6 64 0 S (by omega) (by omega) hS12 (fun j => by simp)
  unfold fL_fitting
  rw [show fL_fitting_6 t w (nI S) (nI f) (nI e) noun 64 (nI S) 0 = _ from y1]
  congr 2
  refine nat_ext fun j => ?_
  rw [y2, mkS_bit]
  by_cases c : j < n
  · obtain ⟨r1, r2, -⟩ := h.2.2 j c
    obtain ⟨a, a1, a2⟩ := hA j c
    have hx : AS w f d < 64 := AS_lt64 w f d
    have q : gQ t w noun f d j = DS (S4_nouns s) (S4_adjectiveSets s) (nI (AS w f d)) noun j := by
      unfold gQ DS
      rw [r1, r2, a2]
      have e1 : decide (noun < 0) = decide (noun = -1) := by
        rcases hno with x | x
        · rw [x]; decide
        · rw [decide_eq_false x, decide_eq_false (fun q => x (by rw [q]; decide))]
      have e2 : fQ w (nI a) f d = decide (nI a &&& nI (AS w f d) = nI (AS w f d)) := by
        rw [nI_and]
        have i1 := fQ_iff (w := w) a1 d f
        have i2 := AS_sub (w := w) (a := a) (k := f) d
        have le : a &&& AS w f d < 64 := Nat.lt_of_le_of_lt Nat.and_le_left a1
        by_cases z : a &&& AS w f d = AS w f d
        · rw [i1.mpr (i2.mp z), z]; simp
        · have : ¬ fQ w (nI a) f d = true := fun q => z (i2.mpr (i1.mp q))
          rw [bF this, decide_eq_false (fun q => z (nI_inj (by omega) (by omega) q))]
      rw [e1, e2]
    have : decide (6 ≤ j) = false := decide_eq_false (by omega)
    rw [q, this, decide_eq_true c]; simp
  · have : S.testBit j = false := Nat.testBit_lt_two_pow (Nat.lt_of_lt_of_le hS (Nat.pow_le_pow_right (by decide) (by omega)))
    rw [this]; simp
