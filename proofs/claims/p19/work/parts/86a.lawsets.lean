theorem ai13_0 {β : Type} {x : Option β} : ai 13 0 x = x := ai_s (j := 0) (by decide) (by decide)
theorem ai13_1 {β : Type} {x : Option β} : ai 13 1 x = x := ai_s (j := 1) (by decide) (by decide)
theorem ai13_2 {β : Type} {x : Option β} : ai 13 2 x = x := ai_s (j := 2) (by decide) (by decide)
theorem ai13_3 {β : Type} {x : Option β} : ai 13 3 x = x := ai_s (j := 3) (by decide) (by decide)
theorem ai13_4 {β : Type} {x : Option β} : ai 13 4 x = x := ai_s (j := 4) (by decide) (by decide)
theorem ai13_5 {β : Type} {x : Option β} : ai 13 5 x = x := ai_s (j := 5) (by decide) (by decide)
theorem ai13_6 {β : Type} {x : Option β} : ai 13 6 x = x := ai_s (j := 6) (by decide) (by decide)
theorem ai13_7 {β : Type} {x : Option β} : ai 13 7 x = x := ai_s (j := 7) (by decide) (by decide)
theorem ai13_8 {β : Type} {x : Option β} : ai 13 8 x = x := ai_s (j := 8) (by decide) (by decide)
theorem ai13_9 {β : Type} {x : Option β} : ai 13 9 x = x := ai_s (j := 9) (by decide) (by decide)
theorem ai13_10 {β : Type} {x : Option β} : ai 13 10 x = x := ai_s (j := 10) (by decide) (by decide)
theorem ai13_11 {β : Type} {x : Option β} : ai 13 11 x = x := ai_s (j := 11) (by decide) (by decide)
theorem ai13_12 {β : Type} {x : Option β} : ai 13 12 x = x := ai_s (j := 12) (by decide) (by decide)
theorem cl_1 : (1 : Int32).toNatClampNeg = 1 := by decide
theorem cl_2 : (2 : Int32).toNatClampNeg = 2 := by decide
theorem cl_3 : (3 : Int32).toNatClampNeg = 3 := by decide
theorem cl_4 : (4 : Int32).toNatClampNeg = 4 := by decide
theorem cl_5 : (5 : Int32).toNatClampNeg = 5 := by decide
theorem cl_6 : (6 : Int32).toNatClampNeg = 6 := by decide
theorem cl_7 : (7 : Int32).toNatClampNeg = 7 := by decide
theorem cl_8 : (8 : Int32).toNatClampNeg = 8 := by decide
theorem cl_9 : (9 : Int32).toNatClampNeg = 9 := by decide
theorem cl_10 : (10 : Int32).toNatClampNeg = 10 := by decide
theorem cl_11 : (11 : Int32).toNatClampNeg = 11 := by decide
theorem cl_12 : (12 : Int32).toNatClampNeg = 12 := by decide
theorem ai30 {β : Type} {j : Nat} {x : Option β} (hj : j < 30) : ai 30 (nI j) x = x := ai_s hj (by decide)
theorem p_24 (k : Nat) : (24 : Int32) + nI k = nI (24 + k) := nI_add 24 k
theorem p_18 (k : Nat) : (18 : Int32) + nI k = nI (18 + k) := nI_add 18 k
theorem p_12 (k : Nat) : (12 : Int32) + nI k = nI (12 + k) := nI_add 12 k
theorem p_6 (k : Nat) : (6 : Int32) + nI k = nI (6 + k) := nI_add 6 k
/-- the law's rows of things beside the class's world -/
def LT (t z : Nat → Int32) (s : S4) (n kb ko : Nat) : Prop :=
  z 0 = nI n ∧ n ≤ 6 ∧ ∀ k, k < n → t k = S4_nouns s k ∧ t (6 + k) = S4_adjectiveSets s k ∧ t (12 + k) = (if kb.testBit k then 1 else 0) ∧ t (18 + k) = (if ko.testBit k then 1 else 0) ∧ t (24 + k) = S4_holders s k
theorem e_lA {v : Int32} : fL_isAdjective v = some (if wA v = true then 1 else 0) := by
  unfold fL_isAdjective fL_isAdjective_16 fL_isAdjective_17
  have h : (v ≤ 19) ↔ v < 20 := by
    rw [Int32.le_iff_toInt_le, Int32.lt_iff_toInt_lt, show (19 : Int32).toInt = 19 from rfl, show (20 : Int32).toInt = 20 from rfl]
    omega
  by_cases a : v < 20 <;> by_cases b : 26 ≤ v <;> simp [wA, a, b, bo0, bo1, h]
theorem e_lN {v : Int32} : fL_isNoun v = some (if wN v = true then 1 else 0) := by
  unfold fL_isNoun fL_isNoun_16 fL_isNoun_17
  have h : (v ≤ 29) ↔ v < 30 := by
    rw [Int32.le_iff_toInt_le, Int32.lt_iff_toInt_lt, show (29 : Int32).toInt = 29 from rfl, show (30 : Int32).toInt = 30 from rfl]
    omega
  by_cases a : v < 30 <;> by_cases b : 38 ≤ v <;> simp [wN, a, b, bo0, bo1, h]
theorem e_lP {v : Int32} : fL_isPlural v = some (if wP v = true then 1 else 0) := by
  unfold fL_isPlural fL_isPlural_16 fL_isPlural_17
  have h : (v ≤ 39) ↔ v < 40 := by
    rw [Int32.le_iff_toInt_le, Int32.lt_iff_toInt_lt, show (39 : Int32).toInt = 39 from rfl, show (40 : Int32).toInt = 40 from rfl]
    omega
  by_cases a : v < 40 <;> by_cases b : 48 ≤ v <;> simp [wP, a, b, bo0, bo1, h]
theorem hd_cases {s : S4} {n kb ko t : Nat} (I : WI s n kb ko) (ht : t < n) : S4_holders s t < 0 ∨ ∃ p, p < n ∧ S4_holders s t = nI p := by
  obtain ⟨L, -, -, g3, g4⟩ := I.chain ht
  rcases g3 with h | ⟨p, hp, h⟩
  · exact Or.inl h
  · exact Or.inr ⟨p, g4 p hp, h⟩
theorem rcT_pos {s : S4} {n kb ko t p : Nat} (I : WI s n kb ko) (ht : t < n) (hp : p < n) (h : S4_holders s t = nI p) : rcT (S4_holders s) ko t = (ko.testBit p && rcT (S4_holders s) ko p) := by
  have hn := I.1
  obtain ⟨L, g1, g2, g3, g4⟩ := I.chain hp
  unfold rcT
  rw [h, rc_pos (by omega)]
  by_cases q : ko.testBit p = true
  · rw [if_pos q, q, rcT_of (f := 12) g1 g3 (fun j hj => by have := g4 j hj; omega) (by omega) (by omega)]; rfl
  · rw [if_neg q, bF q]; rfl
theorem rc_T {s : S4} {n kb ko t : Nat} (I : WI s n kb ko) (hn6 : n ≤ 6) (ht : t < n) : rc (S4_holders s) ko 7 (S4_holders s t) = rcT (S4_holders s) ko t := by
  obtain ⟨L, g1, g2, g3, g4⟩ := I.chain ht
  exact rcT_of (f := 7) g1 g3 (fun j hj => by have := g4 j hj; omega) (by omega) (by omega)
theorem or_bit {S k : Nat} (j : Nat) : (S ||| 2 ^ k).testBit j = (S.testBit j || decide (k = j)) := by rw [Nat.testBit_or, Nat.testBit_two_pow]
theorem l_reach13 {t z : Nat → Int32} {s : S4} {n kb ko : Nat} (I : WI s n kb ko) (h : LT t z s n kb ko) (k4 : Int32 → Int32 → Option Int32) (x3 : Int32) (a : Nat) :
    ∀ (d fu k S : Nat), k + d = n → d < fu → S < 2 ^ 12 → (∀ j, S.testBit j = true → j < n ∧ rcT (S4_holders s) ko j = true) → (∀ j, j < n → rc (S4_holders s) ko a (S4_holders s j) = true → S.testBit j = true) → (∀ j, j < k → rc (S4_holders s) ko (a + 1) (S4_holders s j) = true → S.testBit j = true) →
    ∃ S', S' < 2 ^ 12 ∧ fL_reach_13 t z k4 fu (nI S) x3 (nI k) = k4 (nI S') (x3 + 1) ∧ (∀ j, S'.testBit j = true → j < n ∧ rcT (S4_holders s) ko j = true) ∧ (∀ j, j < n → rc (S4_holders s) ko (a + 1) (S4_holders s j) = true → S'.testBit j = true)
  | 0, fu, k, S, hk, hf, hS, h1, h2, h3 => by
    obtain ⟨g, rfl⟩ : ∃ g, fu = g + 1 := ⟨fu - 1, by omega⟩
    have e : k = n := by omega
    subst e
    refine ⟨S, hS, ?_, h1, h3⟩
    rw [fL_reach_13, ai13_0, cl0, h.1, if_pos (nI_le (Nat.le_refl k) (by have := h.2.1; omega))]
  | d + 1, fu, k, S, hk, hf, hS, h1, h2, h3 => by
    obtain ⟨g, rfl⟩ : ∃ g, fu = g + 1 := ⟨fu - 1, by omega⟩
    have hn6 := h.2.1
    have hkn : k < n := by omega
    obtain ⟨-, -, -, -, r5⟩ := h.2.2 k hkn
    have st : fL_reach_13 t z k4 (g + 1) (nI S) x3 (nI k) = if S4_holders s k < 0 then fL_reach_13 t z k4 g (nI (S ||| 2 ^ k)) x3 (nI (k + 1)) else ai 30 (18 + S4_holders s k) (if t (18 + S4_holders s k).toNatClampNeg = 1 then (if ((nI S >>> (S4_holders s k &&& 31)) &&& 1) = 1 then fL_reach_13 t z k4 g (nI (S ||| 2 ^ k)) x3 (nI (k + 1)) else fL_reach_13 t z k4 g (nI S) x3 (nI (k + 1))) else fL_reach_13 t z k4 g (nI S) x3 (nI (k + 1))) := by
      rw [fL_reach_13, ai13_0, cl0, h.1, if_neg (nI_ge hkn (by omega)), p_24, ai30 (by omega), cl_nI (by omega), r5]
      unfold fL_reach_57 fL_reach_64 fL_reach_65
      rw [nI_shl (by omega), nI_or, nI_1, li0, nI_or, Nat.or_zero]
    have yes : rcT (S4_holders s) ko k = true → fL_reach_13 t z k4 (g + 1) (nI S) x3 (nI k) = fL_reach_13 t z k4 g (nI (S ||| 2 ^ k)) x3 (nI (k + 1)) →
        ∃ S', S' < 2 ^ 12 ∧ fL_reach_13 t z k4 (g + 1) (nI S) x3 (nI k) = k4 (nI S') (x3 + 1) ∧ (∀ j, S'.testBit j = true → j < n ∧ rcT (S4_holders s) ko j = true) ∧ (∀ j, j < n → rc (S4_holders s) ko (a + 1) (S4_holders s j) = true → S'.testBit j = true) := fun n2 e => by
      rw [e]
      refine l_reach13 I h k4 x3 a d g (k + 1) _ (by omega) (by omega) (Nat.or_lt_two_pow hS (two_pow_lt12 (by omega))) (fun j q => ?_) (fun j hj q => ?_) (fun j hj q => ?_)
      · rw [or_bit] at q
        by_cases z : k = j
        · rw [← z]; exact ⟨hkn, n2⟩
        · simp [z] at q; exact h1 j q
      · rw [or_bit, h2 j hj q]; rfl
      · rw [or_bit]
        by_cases z : k = j
        · simp [z]
        · rw [h3 j (by omega) q]; rfl
    have nope : ¬ rc (S4_holders s) ko (a + 1) (S4_holders s k) = true → fL_reach_13 t z k4 (g + 1) (nI S) x3 (nI k) = fL_reach_13 t z k4 g (nI S) x3 (nI (k + 1)) →
        ∃ S', S' < 2 ^ 12 ∧ fL_reach_13 t z k4 (g + 1) (nI S) x3 (nI k) = k4 (nI S') (x3 + 1) ∧ (∀ j, S'.testBit j = true → j < n ∧ rcT (S4_holders s) ko j = true) ∧ (∀ j, j < n → rc (S4_holders s) ko (a + 1) (S4_holders s j) = true → S'.testBit j = true) := fun n1 e => by
      rw [e]
      refine l_reach13 I h k4 x3 a d g (k + 1) S (by omega) (by omega) hS h1 h2 (fun j hj q => ?_)
      by_cases z : j = k
      · rw [z] at q; exact absurd q n1
      · exact h3 j (by omega) q
    rcases hd_cases I hkn with q | ⟨p, hp, q⟩
    · exact yes (by unfold rcT; exact rc_neg q) (by rw [st, if_pos q])
    · have r4 := (h.2.2 p hp).2.2.2.1
      have pos := rcT_pos I hkn hp q
      have rcp : rc (S4_holders s) ko (a + 1) (S4_holders s k) = if ko.testBit p = true then rc (S4_holders s) ko a (S4_holders s p) else false := by rw [q, rc_pos (by omega)]
      rw [q, if_neg (ng (show p < 2 ^ 31 by omega)), p_18, ai30 (by omega), cl_nI (by omega), r4, nI_bit (by omega) (by omega)] at st
      by_cases b : ko.testBit p = true
      · rw [if_pos b] at rcp
        rw [b, Bool.true_and] at pos
        rw [if_pos b, if_pos rfl] at st
        by_cases c : S.testBit p = true
        · rw [if_pos c, if_pos rfl] at st
          exact yes (pos.trans (h1 p c).2) st
        · rw [if_neg c, if_neg (by decide)] at st
          exact nope (fun w => c (h2 p hp (rcp ▸ w))) st
      · rw [if_neg b] at rcp
        rw [if_neg b, if_neg (by decide)] at st
        exact nope (by rw [rcp]; decide) st
theorem l_reach4 {t z : Nat → Int32} {s : S4} {n kb ko : Nat} (I : WI s n kb ko) (h : LT t z s n kb ko) :
    ∀ (d fu a S : Nat), a + d = 7 → d < fu → S < 2 ^ 12 → (∀ j, S.testBit j = true → j < n ∧ rcT (S4_holders s) ko j = true) → (∀ j, j < n → rc (S4_holders s) ko a (S4_holders s j) = true → S.testBit j = true) →
    fL_reach_4 t z fu (nI S) (nI a) = some (nI (mkS (rcT (S4_holders s) ko) n))
  | 0, fu, a, S, ha, hf, hS, h1, h2 => by
    obtain ⟨g, rfl⟩ : ∃ g, fu = g + 1 := ⟨fu - 1, by omega⟩
    have e : a = 7 := by omega
    subst e
    rw [fL_reach_4, if_pos (show (7 : Int32) ≤ nI 7 by decide)]
    congr 2
    refine nat_ext fun i => ?_
    rw [mkS_bit]
    by_cases c : S.testBit i = true
    · obtain ⟨x, y⟩ := h1 i c
      rw [c, y]; simp [x]
    · rw [bF c]
      by_cases x : i < n
      · by_cases y : rcT (S4_holders s) ko i = true
        · exact absurd (h2 i x (by rw [rc_T I h.2.1 x]; exact y)) c
        · rw [bF y]; simp
      · simp [x]
  | d + 1, fu, a, S, ha, hf, hS, h1, h2 => by
    obtain ⟨g, rfl⟩ : ∃ g, fu = g + 1 := ⟨fu - 1, by omega⟩
    have hn6 := h.2.1
    obtain ⟨S', s1, s2, s3, s4⟩ := l_reach13 I h (fun x2 x3 => fL_reach_4 t z g x2 x3) (nI a) a n 64 0 S (by omega) (by omega) hS h1 h2 (fun j hj => absurd hj (by omega))
    rw [fL_reach_4, if_neg (show ¬ (7 : Int32) ≤ nI a from nI_ge (b := 7) (by omega) (by decide))]
    show fL_reach_13 t z (fun x2 x3 => fL_reach_4 t z g x2 x3) 64 (nI S) (nI a) (nI 0) = _
    rw [s2, nI_1]
    exact l_reach4 I h d g (a + 1) S' (by omega) (by omega) s1 s3 s4
theorem l_reach {t z : Nat → Int32} {s : S4} {n kb ko : Nat} (I : WI s n kb ko) (h : LT t z s n kb ko) : fL_reach t z = some (nI (mkS (rcT (S4_holders s) ko) n)) :=
  l_reach4 I h 7 64 0 0 (by omega) (by omega) (by decide) (fun j q => by rw [Nat.zero_testBit] at q; exact Bool.noConfusion q) (fun j hj q => by
    have e : rc (S4_holders s) ko 0 (S4_holders s j) = false := rfl
    rw [e] at q; exact Bool.noConfusion q)
theorem l_held {t z : Nat → Int32} {s : S4} {n kb ko : Nat} (I : WI s n kb ko) (h : LT t z s n kb ko) : fL_held t z = some (nI (mkS (fun t => decide (S4_holders s t = -3)) n)) := by
  have hn6 := h.2.1
  have key := mk_loop (fun f x y => fL_held_4 t z f x y) (fun t => decide (S4_holders s t = -3)) n (by omega) (fun x => some x) ?_ ?_ n 0 64 (by omega) (by omega)
  · exact key
  · intro fu x
    show fL_held_4 t z (fu + 1) x (nI n) = some x
    rw [fL_held_4, ai13_0, cl0, h.1, if_pos (nI_le (Nat.le_refl n) (by omega))]
  · intro fu k j hj hk
    obtain ⟨-, -, -, -, r5⟩ := h.2.2 j hj
    show fL_held_4 t z (fu + 1) (nI k) (nI j) = _
    rw [fL_held_4, ai13_0, cl0, h.1, if_neg (nI_ge hj (by omega)), p_24, ai30 (by omega), cl_nI (by omega), r5]
    unfold fL_held_30
    by_cases q : S4_holders s j = -3
    · rw [if_pos q, nI_shl (by omega), nI_or, nI_1]
      simp [q]
    · rw [if_neg q, nI_1, li0, nI_or]
      simp [q]
theorem shl01 (b : Bool) {j : Nat} (hj : j < 31) : (if b = true then (1 : Int32) else 0) <<< (nI j &&& 31) = nI (if b = true then 2 ^ j else 0) := by
  cases b
  · rw [if_neg (by decide), if_neg (by decide), li0]
    have := pk_shlN (n := 0) (nI j &&& 31) j (sh_l j (by omega)) (by rw [Nat.zero_mul]; decide)
    rw [Nat.zero_mul] at this
    exact this
  · rw [if_pos rfl, if_pos rfl]
    exact nI_shl hj
/-- the two rows of bits that suited gathers -/
theorem l_suited8 {t z : Nat → Int32} {s : S4} {n kb ko : Nat} (h : LT t z s n kb ko) (a2 : Int32) : ∀ (d fu j : Nat), j + d = n → d < fu → ∃ g, fL_suited_8 t z a2 fu (nI (mkS (fun i => ko.testBit i) j)) (nI (mkS (fun i => kb.testBit i) j)) (nI j) = fL_suited_8 t z a2 (g + 1) (nI (mkS (fun i => ko.testBit i) n)) (nI (mkS (fun i => kb.testBit i) n)) (nI n)
  | 0, fu, j, hj, hf => by
    obtain ⟨g, rfl⟩ : ∃ g, fu = g + 1 := ⟨fu - 1, by omega⟩
    have e : j = n := by omega
    subst e
    exact ⟨g, rfl⟩
  | d + 1, fu, j, hj, hf => by
    obtain ⟨g, rfl⟩ : ∃ g, fu = g + 1 := ⟨fu - 1, by omega⟩
    have hn6 := h.2.1
    obtain ⟨-, -, r3, r4, -⟩ := h.2.2 j (by omega)
    obtain ⟨g2, e⟩ := l_suited8 h a2 d g (j + 1) (by omega) (by omega)
    refine ⟨g2, ?_⟩
    rw [fL_suited_8, ai13_0, cl0, h.1, if_neg (nI_ge (show j < n by omega) (by omega)), p_18, ai30 (by omega), p_12, ai30 (by omega), cl_nI (by omega), cl_nI (by omega), r3, r4, shl01 _ (by omega), shl01 _ (by omega), nI_or, nI_or, nI_1]
    exact e
theorem mk_id {k n : Nat} (h : ∀ t, n ≤ t → k.testBit t = false) : mkS (fun i => k.testBit i) n = k := by
  refine nat_ext fun i => ?_
  rw [mkS_bit]
  by_cases q : i < n
  · simp [q]
  · rw [h i (by omega)]; simp
theorem l_suited {t z : Nat → Int32} {s : S4} {n kb ko : Nat} (I : WI s n kb ko) (h : LT t z s n kb ko) {w : Int32} (hw : w = 0 ∨ w = 1 ∨ w = 2 ∨ w = 3 ∨ w = 4 ∨ w = 16) : fL_suited t z w = some (nI (mkS (SU (S4_holders s) kb ko w) n)) := by
  have hn6 := h.2.1
  obtain ⟨g, e⟩ := l_suited8 h w n 64 0 (by omega) (by omega)
  have hkb : mkS (fun i => kb.testBit i) n = kb := mk_id (fun t ht => (I.2.2.2.2.2.2.1 t ht).1)
  have hko : mkS (fun i => ko.testBit i) n = ko := mk_id (fun t ht => (I.2.2.2.2.2.2.1 t ht).2)
  have hr := l_reach I h
  have b93 : ∀ x : Nat, fL_suited_93 t z w (nI x) = some (nI (mkS (rcT (S4_holders s) ko) n &&& x)) := fun x => by
    unfold fL_suited_93
    rw [hr, bn1_s, nI_and]
  have b93n : ∀ x y : Nat, fL_suited_93 t z w (nI x &&& (nI y ^^^ (-1))) = some (nI (mkS (rcT (S4_holders s) ko) n &&& (x &&& (y ^^^ 4294967295)))) := fun x y => by rw [nI_andn, b93]
  have b93x : ∀ y : Nat, fL_suited_93 t z w (nI y ^^^ (-1)) = some (nI (mkS (rcT (S4_holders s) ko) n &&& (y ^^^ 4294967295))) := fun y => by rw [show (-1 : Int32) = nI 4294967295 from by decide, nI_xor, b93]
  unfold fL_suited
  show fL_suited_8 t z w 64 (nI 0) (nI 0) (nI 0) = _
  have z0 : ∀ p : Nat → Bool, nI 0 = nI (mkS p 0) := fun p => rfl
  rw [show fL_suited_8 t z w 64 (nI 0) (nI 0) (nI 0) = _ from e, fL_suited_8, ai13_0, cl0, h.1, if_pos (nI_le (Nat.le_refl n) (by omega)), l_held I h, bn1_s, hkb, hko]
  have m := mkS_and (rcT (S4_holders s) ko)
  have mn := mkS_andn (rcT (S4_holders s) ko) (fun t => decide (S4_holders s t = -3)) (n := n) (by omega)
  have mk := mkS_andk (fun t => rcT (S4_holders s) ko t && kb.testBit t) ko (n := n) (by omega)
  have fin : ∀ (x : Nat) (q : Nat → Bool), x = mkS q n → (∀ t, t < n → q t = SU (S4_holders s) kb ko w t) → some (nI x) = some (nI (mkS (SU (S4_holders s) kb ko w) n)) := fun x q h1 h2 => by rw [h1, mkS_cong n h2]
  rcases hw with rfl | rfl | rfl | rfl | rfl | rfl
  · rw [if_pos rfl, b93x]
    exact fin _ _ mn (fun t ht => by simp [SU])
  · rw [if_neg (by decide), if_neg (by decide), b93]
    refine fin _ _ (m _ n) (fun t ht => ?_)
    rw [mkS_bit]; simp [SU, ht]
  · rw [if_neg (by decide), if_neg (by decide), b93]
    refine fin _ _ (m _ n) (fun t ht => ?_)
    rw [mkS_bit]; simp [SU, ht]
  · rw [if_neg (by decide), if_pos (by decide), if_pos rfl, b93n, ← Nat.and_assoc, m]
    exact fin _ _ mk (fun t ht => by simp [SU, Bool.and_assoc])
  · rw [if_neg (by decide), if_pos (by decide), if_neg (by decide), b93]
    exact fin _ _ (m _ n) (fun t ht => by simp [SU])
  · rw [if_neg (by decide), if_pos (by decide), if_neg (by decide), b93]
    exact fin _ _ (m _ n) (fun t ht => by simp [SU])
