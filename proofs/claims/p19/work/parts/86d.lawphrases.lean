theorem l_Sg {w : Nat → Int32} {len k e : Nat} {a n kd : Int32} (hl : len ≤ 24) (hke : k ≤ e) (he : e < len) (h : Sg w k e a n kd) : fL_described w (nI len) (nI k) 0 = some (nI (e + 1)) := by
  rcases h with ⟨h14, rfl, -⟩ | ⟨-, ⟨-, k1, g1, g2, g3, g4⟩, -, -, hh⟩
  · rcases l_desc (w := w) (k := e) hl (by omega) 0 with ⟨-, -, z⟩ | ⟨z, -⟩
    · exact z
    · exact absurd ⟨he, h14⟩ z
  · have eA : wA (w e) = false ∧ w e ≠ 10 ∧ w e ≠ 14 ∧ (wN (w e) = true ∨ w e = 17) := by
      rcases hh with ⟨x, -⟩ | ⟨x, -⟩
      · exact ⟨wN_A x, wN_ne x wN10, wN_ne x wN14, Or.inl x⟩
      · rw [x]; exact ⟨by decide, by decide, by decide, Or.inr rfl⟩
    have first : ∀ v : Int32, wA v = false → w e ≠ v → v ≠ 10 → ¬ w k = v := fun v v1 v2 v3 q => by
      rcases g1 with z | ⟨-, z⟩
      · subst z
        by_cases y : k1 = e
        · rw [y] at q; exact v2 q
        · have := g3 k1 (Nat.le_refl k1) (by omega)
          rw [q, v1] at this; exact Bool.noConfusion this
      · rw [q] at z; exact v3 z
    rcases l_desc (w := w) (k := k) hl (by omega) 0 with ⟨-, z, -⟩ | ⟨-, k1', d, hH, z⟩
    · exact absurd z (first 14 wA14 eA.2.2.1 (by decide))
    · obtain ⟨h0, h1, h2, h3⟩ := hH
      have ek : k1' = k1 := by
        rcases h0 with ⟨x, y⟩ | ⟨x, y, y2⟩
        · rcases g1 with u | ⟨u, v⟩
          · omega
          · exact absurd ⟨by omega, v⟩ y
        · rcases g1 with u | ⟨u, v⟩
          · exfalso
            subst u
            by_cases q : k1 = e
            · rw [q] at y2; exact eA.2.1 y2
            · have := g3 k1 (Nat.le_refl k1) (by omega)
              rw [y2, wA10] at this; exact Bool.noConfusion this
          · omega
      subst ek
      have ed : k1' + d = e := by
        rcases Nat.lt_trichotomy (k1' + d) e with x | x | x
        · exact absurd ⟨by omega, g3 (k1' + d) (by omega) x⟩ h3
        · exact x
        · have := h2 (e - k1') (by omega)
          rw [show k1' + (e - k1') = e by omega, eA.1] at this
          exact Bool.noConfusion this
      rw [z, ed, if_pos]
      refine ⟨he, ?_⟩
      rcases hh with ⟨x, -⟩ | ⟨x, -⟩
      · exact Or.inl x
      · exact Or.inr (Or.inl ⟨x, by have := g4 x; omega⟩)
theorem l_noSg {w : Nat → Int32} {len k e : Nat} {kd role a n : Int32} (hl : len ≤ 24) (hke : k ≤ e) (he : e < len) (hK : (kd = 15 ∧ role = 0 ∧ e = k ∧ w k = 15) ∨ (kd = 11 ∧ role = 0 ∧ Al w len k e a n)) : ∃ p, p ≤ 24 ∧ fL_described w (nI len) (nI k) 0 = some ((-1) - nI p) := by
  have key : ∀ k1 d, Hd w len k k1 d → ¬ (wN (w (k1 + d)) = true ∨ (w (k1 + d) = 17 ∧ d ≠ 0)) → (¬ w k = 14) → ∃ p, p ≤ 24 ∧ fL_described w (nI len) (nI k) 0 = some ((-1) - nI p) := fun k1 d hH hn h14 => by
    rcases l_desc (w := w) (k := k) hl (by omega) 0 with ⟨-, z, -⟩ | ⟨-, k1', d', hH', z⟩
    · exact absurd z h14
    · obtain ⟨h0, h1, h2, h3⟩ := hH
      obtain ⟨h0', h1', h2', h3'⟩ := hH'
      have ek : k1' = k1 := by
        rcases h0 with ⟨x, y⟩ | ⟨x, y, y2⟩ <;> rcases h0' with ⟨x', y'⟩ | ⟨x', y', y2'⟩
        · omega
        · exact absurd ⟨y', y2'⟩ y
        · exact absurd ⟨y, y2⟩ y'
        · omega
      subst ek
      have ed : d' = d := by
        rcases Nat.lt_trichotomy d' d with x | x | x
        · exact absurd ⟨by omega, h2 d' x⟩ h3'
        · exact x
        · exact absurd ⟨by omega, h2' d x⟩ h3
      subst ed
      rw [if_neg (fun q => hn (by
        rcases q.2 with y | y | y
        · exact Or.inl y
        · exact Or.inr y
        · exact absurd y.1 (by decide)))] at z
      exact ⟨k1' + d', by omega, z⟩
  rcases hK with ⟨-, -, rfl, h15⟩ | ⟨-, -, -, -, h | h | h⟩
  · exact key e 0 ⟨Or.inl ⟨rfl, fun q => by rw [h15] at q; exact absurd q.2 (by decide)⟩, by omega, fun j q => absurd q (by omega), fun q => by rw [Nat.add_zero, h15] at q; exact absurd q.2 (by decide)⟩ (by rw [Nat.add_zero, h15]; decide) (by rw [h15]; decide)
  · obtain ⟨h, rfl, -⟩ := h
    exact key e 0 ⟨Or.inl ⟨rfl, fun q => by rw [h] at q; exact absurd q.2 (by decide)⟩, by omega, fun j q => absurd q (by omega), fun q => by rw [Nat.add_zero, h] at q; exact absurd q.2 (by decide)⟩ (by rw [Nat.add_zero, h]; decide) (by rw [h]; decide)
  · have h := h.1
    exact key k 0 ⟨Or.inl ⟨rfl, fun q => by rw [h] at q; exact absurd q.2 (by decide)⟩, by omega, fun j q => absurd q (by omega), fun q => by rw [Nat.add_zero, h] at q; exact absurd q.2 (by decide)⟩ (by rw [Nat.add_zero, h]; decide) (by rw [h]; decide)
  · obtain ⟨h1, h2, -⟩ := h
    have h14 : ¬ w k = 14 := fun q => by
      by_cases z : k = e
      · rw [z] at q; exact wP_ne h2 wP14 q
      · rcases h1 k (Nat.le_refl k) (by omega) with y | y
        · rw [q] at y; exact absurd y (by decide)
        · exact wA_ne y wA14 q
    rcases l_desc (w := w) (k := k) hl (by omega) 0 with ⟨-, z, -⟩ | ⟨-, k1, d, hH, z⟩
    · exact absurd z h14
    · have hH2 := hH
      obtain ⟨h0, g1, g2, g3⟩ := hH
      refine key k1 d hH2 (fun q => ?_) h14
      have lk : k ≤ k1 := by rcases h0 with ⟨x, -⟩ | ⟨x, -⟩ <;> omega
      have le : k1 + d ≤ e := by
        rcases Nat.lt_or_ge e (k1 + d) with x | x
        · by_cases y : k1 ≤ e
          · have := g2 (e - k1) (by omega)
            rw [show k1 + (e - k1) = e by omega, wP_A h2] at this
            exact Bool.noConfusion this
          · rcases h0 with ⟨u, -⟩ | ⟨u, -, v⟩
            · omega
            · have : k = e := by omega
              rw [this] at v; exact absurd v (wP_ne h2 wP10)
        · exact x
      by_cases y : k1 + d = e
      · rw [y] at q
        rcases q with q | q
        · rw [wP_N h2] at q; exact Bool.noConfusion q
        · exact wP_ne h2 wP17 q.1
      · rcases h1 (k1 + d) (by omega) (by omega) with u | u
        · rw [u] at q
          rcases q with q | q
          · exact absurd q (by decide)
          · exact absurd q.1 (by decide)
        · exact g3 ⟨by omega, u⟩
def kdL (kd : Int32) : Int32 := if kd = 15 then 2 else if kd = 11 then 1 else 0
/-- a part and what it leaves out: phrases i to j -/
def Blk (s2 : S2) (c i j : Nat) : Prop := i ≤ j ∧ j ≤ c ∧ S2_roles s2 i = 0 ∧ (∀ u, i < u → u ≤ j → S2_roles s2 u = 1) ∧ (j < c → S2_roles s2 (j + 1) ≠ 1)
def RwL (s2 : S2) (f o k : Nat → Int32) (u : Nat) : Prop := f (u - 1) = nI (ST s2 u) ∧ o (u - 1) = nI (E2 s2 u) ∧ k (u - 1) = 3
def RwP (s2 : S2) (f o k : Nat → Int32) (i j : Nat) : Prop := f j = nI (ST s2 i) ∧ o j = nI (E2 s2 i) ∧ k j = kdL (S2_kinds s2 i)
def RwB (s2 : S2) (c b : Nat) (f o k : Nat → Int32) : Prop := ∀ i j, Blk s2 c i j → j < b → (∀ u, i < u → u ≤ j → RwL s2 f o k u) ∧ RwP s2 f o k i j
def RwF (s2 : S2) (c : Nat) (f o k : Nat → Int32) : Prop := RwB s2 c (c + 1) f o k ∧ (S2_roles s2 c = 2 → f c = nI (ST s2 c) ∧ o c = nI (E2 s2 c) ∧ k c = 4)
theorem l_p13 {w : Nat → Int32} {len e : Nat} (hl : len ≤ 24) (he : e < len) (k6 : (Nat → Int32) → (Nat → Int32) → (Nat → Int32) → Int32 → Int32 → Option (Int32 × (Nat → Int32) × (Nat → Int32) × (Nat → Int32))) (f o kk : Nat → Int32) (x5 x7 : Int32)
    (stop : ¬ w e = 10 ∧ wA (w e) = false ∧ (w e = 11 → e + 1 < len → wA (w (e + 1)) = false ∧ wP (w (e + 1)) = false)) :
    ∀ (d fu j : Nat), j + d = e → d < fu → (∀ v, j ≤ v → v < e → w v = 10 ∨ wA (w v) = true ∨ (w v = 11 ∧ (wA (w (v + 1)) = true ∨ wP (w (v + 1)) = true))) → fL_phrases_13 w (nI len) k6 fu f o kk x5 (nI j) x7 = fL_phrases_88 w (nI len) k6 f o kk x5 (nI e) x7
  | 0, fu, j, hj, hf, h => by
    obtain ⟨g, rfl⟩ : ∃ g, fu = g + 1 := ⟨fu - 1, by omega⟩
    have : j = e := by omega
    subst this
    obtain ⟨s1, s2, s3⟩ := stop
    rw [fL_phrases_13, nI_1]
    by_cases a : j + 1 < len
    · rw [if_neg (nI_ge a (by omega)), ai24 (by omega), cl_nI (by omega), if_neg s1, ai24 (by omega), ai24 (by omega), e_lA, bn1_s, s2, if_neg (show ¬ (false = true) by decide), if_pos rfl]
      by_cases b : w j = 11
      · obtain ⟨t1, t2⟩ := s3 b a
        rw [if_pos b]
        unfold fL_phrases_49
        rw [ai24 (by omega), cl_nI (by omega), if_pos b, nI_1, ai24 (by omega), cl_nI (by omega), e_lA, bn1_s, t1, if_neg (show ¬ (false = true) by decide), if_pos rfl, ai24 (by omega), e_lP, bn1_s, t2, if_neg (show ¬ (false = true) by decide), if_pos rfl]
      · rw [if_neg b]
    · rw [if_pos (nI_le (by omega) (by omega))]
  | d + 1, fu, j, hj, hf, h => by
    obtain ⟨g, rfl⟩ : ∃ g, fu = g + 1 := ⟨fu - 1, by omega⟩
    have ih := l_p13 hl he k6 f o kk x5 x7 stop d g (j + 1) (by omega) (by omega) (fun v a b => h v (by omega) b)
    have y82 : fL_phrases_82 w (nI len) k6 (fun syf syo syk x5 x6 x7 => fL_phrases_13 w (nI len) k6 g syf syo syk x5 x6 x7) f o kk x5 (nI j) x7 = fL_phrases_88 w (nI len) k6 f o kk x5 (nI e) x7 := by
      unfold fL_phrases_82
      rw [nI_1]; exact ih
    have y49 : fL_phrases_49 w (nI len) k6 (fun syf syo syk x5 x6 x7 => fL_phrases_13 w (nI len) k6 g syf syo syk x5 x6 x7) f o kk x5 (nI j) x7 = fL_phrases_88 w (nI len) k6 f o kk x5 (nI e) x7 := by
      unfold fL_phrases_49
      rw [y82, ai24 (by omega), cl_nI (by omega)]
      by_cases b : w j = 11
      · rw [if_pos b, nI_1, ai24 (by omega), cl_nI (by omega), e_lA, bn1_s, ai24 (by omega), e_lP, bn1_s]
        rcases h j (Nat.le_refl j) (by omega) with q | q | ⟨-, q | q⟩
        · rw [b] at q; exact absurd q (by decide)
        · rw [b, wA11] at q; exact Bool.noConfusion q
        · rw [q, if_pos rfl, if_neg (by decide)]
        · by_cases z : wA (w (j + 1)) = true
          · rw [if_pos z, if_neg (by decide)]
          · rw [if_neg z, if_pos rfl, q, if_pos rfl, if_neg (by decide)]
      · rw [if_neg b]
    rw [fL_phrases_13, nI_1, if_neg (nI_ge (show j + 1 < len by omega) (by omega)), ai24 (by omega), cl_nI (by omega), ai24 (by omega), ai24 (by omega), e_lA, bn1_s, y49]
    rcases h j (Nat.le_refl j) (by omega) with q | q | ⟨q, -⟩
    · rw [if_pos q]
    · by_cases z : w j = 10
      · rw [if_pos z]
      · rw [if_neg z]
        by_cases y : w j = 11
        · rw [if_pos y]
        · rw [if_neg y, q, if_pos rfl, if_neg (by decide)]
    · by_cases z : w j = 10
      · rw [if_pos z]
      · rw [if_neg z, if_pos q]
/-- a part's own row -/
theorem l_p220 {w : Nat → Int32} {len k e b x : Nat} {kd role a n : Int32} (hl : len ≤ 24) (hke : k ≤ e) (he : e < len) (hb : b < 24) (hx : x ≤ len) (hK : Kd w len k e kd role a n) (k6 : (Nat → Int32) → (Nat → Int32) → (Nat → Int32) → Int32 → Int32 → Option (Int32 × (Nat → Int32) × (Nat → Int32) × (Nat → Int32))) (f o kk : Nat → Int32) :
    fL_phrases_220 w (nI len) k6 f o kk (nI b) (nI x) (nI k) (nI e) = if x < len ∧ w x = 13 then k6 (upd f b (nI k)) (upd o b (nI e)) (upd kk b (kdL kd)) (nI (b + 1)) (nI x) else fL_phrases_292 w (nI len) (upd f b (nI k)) (upd o b (nI e)) (upd kk b (kdL kd)) (nI (b + 1)) (nI x) := by
  have y273 : ∀ v : Int32, fL_phrases_273 w (nI len) k6 (upd f b (nI k)) (upd o b (nI e)) kk (nI b) (nI x) (nI b) v = if x < len ∧ w x = 13 then k6 (upd f b (nI k)) (upd o b (nI e)) (upd kk b v) (nI (b + 1)) (nI x) else fL_phrases_292 w (nI len) (upd f b (nI k)) (upd o b (nI e)) (upd kk b v) (nI (b + 1)) (nI x) := fun v => by
    unfold fL_phrases_273
    rw [ai24 hb, cl_nI (by omega), nI_1]
    by_cases y : x < len
    · rw [if_neg (nI_ge y (by omega)), ai24 (by omega), cl_nI (by omega)]
      by_cases z : w x = 13
      · rw [if_pos z, if_pos ⟨y, z⟩]
      · rw [if_neg z, if_neg (fun q => z q.2)]
    · rw [if_pos (nI_le (by omega) (by omega)), if_neg (fun q => y q.1)]
  unfold fL_phrases_220 fL_phrases_268
  rw [ai24 hb, ai24 hb, ai24 (show e < 24 by omega), ai24 (show e < 24 by omega), ai24 (show e < 24 by omega), cl_nI (show b < 2 ^ 31 by omega), cl_nI (show e < 2 ^ 31 by omega), e_lP, bn1_s, y273, y273, y273]
  rcases hK with ⟨rfl, -, rfl, h15⟩ | ⟨rfl, -, hAl⟩ | hS
  · rw [if_pos h15]; rfl
  · have h : ¬ w e = 15 ∧ (w e = 11 ∨ wP (w e) = true) := by
      rcases hAl.2.2 with ⟨h1, h2, -⟩ | ⟨-, -, -, h1, -⟩ | ⟨-, h1, -⟩
      · rw [h2, h1]; exact ⟨by decide, Or.inl rfl⟩
      · exact ⟨wP_ne h1 wP15, Or.inr h1⟩
      · exact ⟨wP_ne h1 wP15, Or.inr h1⟩
    rw [if_neg h.1]
    by_cases z : w e = 11
    · rw [if_pos z]; rfl
    · rw [if_neg z]
      rcases h.2 with q | q
      · exact absurd q z
      · rw [if_pos q, if_neg (by decide)]; rfl
  · obtain ⟨l1, l2⟩ := Sg_last hS
    obtain ⟨k1, k2⟩ := Sg_kd hS
    have h15 : ¬ w e = 15 := fun q => by
      rcases (Sg_head hS).2.2 with z | z | z
      · exact wN_ne z wN15 q
      · rw [q] at z; exact absurd z (by decide)
      · rw [q] at z; exact absurd z (by decide)
    have hk : kdL kd = 0 := by unfold kdL; rw [if_neg k2, if_neg k1]
    rw [if_neg h15, if_neg l1, l2, if_neg (show ¬ (false = true) by decide), if_pos rfl, hk]
/-- what a part leaves out, from phrase u on -/
theorem l_p136 {w : Nat → Int32} {len c i j : Nat} {s2 : S2} (hl : len ≤ 24) (hc : c + 1 ≤ 24) (hw : ∀ v, v < c + 1 → Ph w len s2 v) (hB : Blk s2 c i j) (hlast : E2 s2 c + 1 = len) (k6 : (Nat → Int32) → (Nat → Int32) → (Nat → Int32) → Int32 → Int32 → Option (Int32 × (Nat → Int32) × (Nat → Int32) × (Nat → Int32))) (x7 x8 : Int32) :
    ∀ (d fu u : Nat) (f o kk : Nat → Int32), u + d = j → d + 1 < fu → i < u →
      ∃ f' o' k', fL_phrases_136 w (nI len) k6 fu f o kk (nI (u - 1)) (nI (E2 s2 (u - 1) + 1)) x7 x8 1 = fL_phrases_220 w (nI len) k6 f' o' k' (nI j) (nI (E2 s2 j + 1)) x7 x8 ∧ (∀ v, u ≤ v → v ≤ j → RwL s2 f' o' k' v) ∧ (∀ v, v < u - 1 → f' v = f v ∧ o' v = o v ∧ k' v = kk v)
  | d, fu, u, f, o, kk, hj, hf, hu => by
    obtain ⟨g, rfl⟩ : ∃ g, fu = g + 2 := ⟨fu - 2, by omega⟩
    obtain ⟨b1, b2, b3, b4, b5⟩ := hB
    have hB2 : Blk s2 c i j := ⟨b1, b2, b3, b4, b5⟩
    have ru := b4 u hu (by omega)
    obtain ⟨p1, p2, p3, p4, -, -⟩ := hw u (by omega)
    have hst : E2 s2 (u - 1) + 1 + 1 = ST s2 u := by
      obtain ⟨v, rfl⟩ : ∃ v, u = v + 1 := ⟨u - 1, by omega⟩
      rfl
    have hS : Sg w (ST s2 u) (E2 s2 u) (S2_adjectiveSets s2 u) (S2_nouns s2 u) (S2_kinds s2 u) := Kd_single p4 (by rw [ru]; decide)
    have hd := l_Sg hl p2 p3 hS
    have lay : ∀ v, v = u → RwL s2 (upd f (u - 1) (nI (ST s2 u))) (upd o (u - 1) (nI (E2 s2 u))) (upd kk (u - 1) 3) v := fun v e => by
      subst e
      exact ⟨up_same _ _ _, up_same _ _ _, up_same _ _ _⟩
    have away : ∀ v, v < u - 1 → upd f (u - 1) (nI (ST s2 u)) v = f v ∧ upd o (u - 1) (nI (E2 s2 u)) v = o v ∧ upd kk (u - 1) 3 v = kk v := fun v q => ⟨up_ne _ _ (by omega), up_ne _ _ (by omega), up_ne _ _ (by omega)⟩
    have y214 : fL_phrases_214 w (nI len) k6 (fun syf syo syk x5 x6 x7 x8 x9 => fL_phrases_136 w (nI len) k6 (g + 1) syf syo syk x5 x6 x7 x8 x9) (upd f (u - 1) (nI (ST s2 u))) (upd o (u - 1) (nI (E2 s2 u))) (upd kk (u - 1) 3) (nI u) (nI (E2 s2 u + 1)) x7 x8 = fL_phrases_220 w (nI len) k6 (upd f (u - 1) (nI (ST s2 u))) (upd o (u - 1) (nI (E2 s2 u))) (upd kk (u - 1) 3) (nI u) (nI (E2 s2 u + 1)) x7 x8 := by
      unfold fL_phrases_214 fL_phrases_215
      show fL_phrases_136 w (nI len) k6 (g + 1) _ _ _ _ _ _ _ 0 = _
      rw [fL_phrases_136, if_pos rfl]
    have eu : nI (u - 1) + 1 = nI u := by rw [nI_1, show u - 1 + 1 = u by omega]
    rw [fL_phrases_136, if_neg (by decide), nI_1, hst, hd, bn1_s, ai24 (show u - 1 < 24 by omega), ai24 (show u - 1 < 24 by omega), ai24 (show u - 1 < 24 by omega), cl_nI (show u - 1 < 2 ^ 31 by omega), nI_pred, eu, y214]
    by_cases last : u = c
    · have jc : j = u := by omega
      have e1 : E2 s2 u + 1 = len := by rw [last]; exact hlast
      rw [if_pos (nI_le (show len ≤ E2 s2 u + 1 by omega) (by omega)), jc]
      exact ⟨_, _, _, rfl, fun v x y => lay v (by omega), away⟩
    · obtain ⟨q1, q2, q3, q4, -, q6⟩ := hw (u + 1) (by omega)
      obtain ⟨sp, -⟩ := q6 u rfl
      have e2 : ST s2 (u + 1) = E2 s2 u + 2 := rfl
      rw [if_neg (nI_ge (show E2 s2 u + 1 < len by omega) (by omega)), ai24 (by omega), cl_nI (by omega), nI_1, show E2 s2 u + 1 + 1 = ST s2 (u + 1) from rfl]
      by_cases uj : u = j
      · subst uj
        have r1 := b5 (by omega)
        have fin : ∀ r : Option (Int32 × (Nat → Int32) × (Nat → Int32) × (Nat → Int32)), r = fL_phrases_220 w (nI len) k6 (upd f (u - 1) (nI (ST s2 u))) (upd o (u - 1) (nI (E2 s2 u))) (upd kk (u - 1) 3) (nI u) (nI (E2 s2 u + 1)) x7 x8 → ∃ f' o' k', r = fL_phrases_220 w (nI len) k6 f' o' k' (nI u) (nI (E2 s2 u + 1)) x7 x8 ∧ (∀ v, u ≤ v → v ≤ u → RwL s2 f' o' k' v) ∧ (∀ v, v < u - 1 → f' v = f v ∧ o' v = o v ∧ k' v = kk v) := fun r e => ⟨_, _, _, e, fun v x y => lay v (by omega), away⟩
        by_cases w13 : w (E2 s2 u + 1) = 13
        · have hk : S2_kinds s2 (u + 1) = 15 ∨ S2_kinds s2 (u + 1) = 11 := by
            rcases sp with s | s | s | s
            · exact absurd s.1 r1
            · exact absurd s.1 r1
            · exact s.2.2 ru
            · exact absurd s.2.1 (by rw [w13]; decide)
          obtain ⟨p, hp, ep⟩ := l_noSg hl q2 q3 (kd := S2_kinds s2 (u + 1)) (role := S2_roles s2 (u + 1)) (a := S2_adjectiveSets s2 (u + 1)) (n := S2_nouns s2 (u + 1)) (by
            rcases q4 with s | s | s
            · exact Or.inl s
            · exact Or.inr s
            · obtain ⟨z1, z2⟩ := Sg_kd s
              rcases hk with z | z
              · exact absurd z z2
              · exact absurd z z1)
          rw [if_pos w13, ep, bn1_s, if_pos (nP_le p hp)]
          exact fin _ rfl
        · rw [if_neg w13]
          exact fin _ rfl
      · have r1 := b4 (u + 1) (by omega) (by omega)
        have w13 : w (E2 s2 u + 1) = 13 := by
          rcases sp with s | s | s | s
          · exact absurd s.2.2.2 (by rw [ru]; decide)
          · exact s.2.1
          · exact s.2.1
          · exact absurd s.1 (by rw [r1]; decide)
        have hd2 := l_Sg hl q2 q3 (Kd_single q4 (by rw [r1]; decide))
        rw [if_pos w13, hd2, bn1_s, if_neg (nI_nle (by omega) (by omega))]
        unfold fL_phrases_215
        obtain ⟨d', rfl⟩ : ∃ d', d = d' + 1 := ⟨d - 1, by omega⟩
        obtain ⟨f', o', k', i1, i2, i3⟩ := l_p136 hl hc hw hB2 hlast k6 x7 x8 d' (g + 1) (u + 1) (upd f (u - 1) (nI (ST s2 u))) (upd o (u - 1) (nI (E2 s2 u))) (upd kk (u - 1) 3) (by omega) (by omega) (by omega)
        rw [show u + 1 - 1 = u by omega] at i1 i3
        refine ⟨f', o', k', i1, fun v x y => ?_, fun v q => ?_⟩
        · by_cases z : v = u
          · obtain ⟨z1, z2, z3⟩ := i3 (u - 1) (by omega)
            obtain ⟨y1, y2, y3⟩ := lay u rfl
            subst z
            exact ⟨z1.trans y1, z2.trans y2, z3.trans y3⟩
          · exact i2 v (by omega) y
        · obtain ⟨z1, z2, z3⟩ := i3 v (by omega)
          obtain ⟨y1, y2, y3⟩ := away v q
          exact ⟨z1.trans y1, z2.trans y2, z3.trans y3⟩
  termination_by d => d
theorem blk_ex {s2 : S2} {c i : Nat} (hr : S2_roles s2 i = 0) : ∀ d j, j + d = c → i ≤ j → (∀ u, i < u → u ≤ j → S2_roles s2 u = 1) → ∃ j', Blk s2 c i j'
  | 0, j, h1, h2, h3 => ⟨j, h2, by omega, hr, h3, fun q => absurd q (by omega)⟩
  | d + 1, j, h1, h2, h3 => by
    by_cases a : S2_roles s2 (j + 1) = 1
    · exact blk_ex hr d (j + 1) (by omega) (by omega) (fun u x y => by
        by_cases z : u = j + 1
        · rw [z]; exact a
        · exact h3 u x (by omega))
    · exact ⟨j, h2, by omega, hr, h3, fun _ => a⟩
theorem blk_un {s2 : S2} {c i j i' j' : Nat} (h : Blk s2 c i j) (h' : Blk s2 c i' j') (a : i ≤ j') (b : j' ≤ j) : i' = i ∧ j' = j := by
  obtain ⟨b1, b2, b3, b4, b5⟩ := h
  obtain ⟨c1, c2, c3, c4, c5⟩ := h'
  have e : i' = i := by
    rcases Nat.lt_trichotomy i' i with x | x | x
    · have := c4 i x a
      rw [b3] at this; exact absurd this (by decide)
    · exact x
    · have := b4 i' x (by omega)
      rw [c3] at this; exact absurd this (by decide)
  refine ⟨e, ?_⟩
  rcases Nat.lt_or_ge j' j with x | x
  · exact absurd (b4 (j' + 1) (by omega) (by omega)) (c5 (by omega))
  · omega
theorem RwB_next {s2 : S2} {c i j : Nat} {f o k f' o' k' : Nat → Int32} (hB : Blk s2 c i j) (h : RwB s2 c i f o k) (h1 : ∀ v, v < i → f' v = f v ∧ o' v = o v ∧ k' v = k v) (h2 : ∀ u, i < u → u ≤ j → RwL s2 f' o' k' u) (h3 : RwP s2 f' o' k' i j) : RwB s2 c (j + 1) f' o' k' := by
  intro i2 j2 hB2 hj
  rcases Nat.lt_or_ge j2 i with x | x
  · obtain ⟨g1, g2, g3, g4⟩ := h i2 j2 hB2 x
    refine ⟨fun u y z => ?_, ?_⟩
    · obtain ⟨e1, e2, e3⟩ := h1 (u - 1) (by omega)
      obtain ⟨r1, r2, r3⟩ := g1 u y z
      exact ⟨e1.trans r1, e2.trans r2, e3.trans r3⟩
    · obtain ⟨e1, e2, e3⟩ := h1 j2 x
      exact ⟨e1.trans g2, e2.trans g3, e3.trans g4⟩
  · obtain ⟨rfl, rfl⟩ := blk_un hB hB2 x (by omega)
    exact ⟨h2, h3⟩
theorem l_ph6 {w : Nat → Int32} {len c : Nat} {s2 : S2} (hl : len ≤ 24) (hc : c + 1 ≤ 24) (hw : ∀ v, v < c + 1 → Ph w len s2 v) (hlast : E2 s2 c + 1 = len) :
    ∀ (d fu i : Nat) (f o kk : Nat → Int32), i + d = c → d < fu → S2_roles s2 i = 0 → RwB s2 c i f o kk →
      ∃ f' o' k', fL_phrases_6 w (nI len) fu f o kk (nI i) (nI (ST s2 i - 1)) = some (nI (c + 1), f', o', k') ∧ RwF s2 c f' o' k'
  | d, fu, i, f, o, kk, hi, hf, hr, hR => by
    obtain ⟨g, rfl⟩ : ∃ g, fu = g + 1 := ⟨fu - 1, by omega⟩
    obtain ⟨j, hB⟩ := blk_ex (c := c) hr d i hi (Nat.le_refl i) (fun u x y => absurd x (by omega))
    have hB2 := hB
    obtain ⟨b1, b2, b3, b4, b5⟩ := hB2
    obtain ⟨p1, p2, p3, p4, -, -⟩ := hw i (by omega)
    obtain ⟨q1, q2, q3, q4, -, -⟩ := hw j (by omega)
    have hst : ST s2 i - 1 + 1 = ST s2 i := by
      cases i with
      | zero => rfl
      | succ i => rfl
    have hS0 : 0 < ST s2 i := by
      cases i with
      | zero => show 0 < 1; decide
      | succ i => show 0 < E2 s2 i + 2; omega
    -- behind the part and what it leaves out
    have tail : ∀ (f1 o1 k1 : Nat → Int32), (∀ v, v < i → f1 v = f v ∧ o1 v = o v ∧ k1 v = kk v) → (∀ u, i < u → u ≤ j → RwL s2 f1 o1 k1 u) →
        ∃ f' o' k', fL_phrases_220 w (nI len) (fun syf syo syk x5 x6 => fL_phrases_6 w (nI len) g syf syo syk x5 x6) f1 o1 k1 (nI j) (nI (E2 s2 j + 1)) (nI (ST s2 i)) (nI (E2 s2 i)) = some (nI (c + 1), f', o', k') ∧ RwF s2 c f' o' k' := fun f1 o1 k1 h1 h2 => by
      have R2 : RwB s2 c (j + 1) (upd f1 j (nI (ST s2 i))) (upd o1 j (nI (E2 s2 i))) (upd k1 j (kdL (S2_kinds s2 i))) := by
        refine RwB_next hB hR (fun v q => ?_) (fun u x y => ?_) ⟨up_same _ _ _, up_same _ _ _, up_same _ _ _⟩
        · rw [up_ne _ _ (show v ≠ j by omega), up_ne _ _ (show v ≠ j by omega), up_ne _ _ (show v ≠ j by omega)]
          exact h1 v q
        · obtain ⟨r1, r2, r3⟩ := h2 u x y
          unfold RwL
          rw [up_ne _ _ (show u - 1 ≠ j by omega), up_ne _ _ (show u - 1 ≠ j by omega), up_ne _ _ (show u - 1 ≠ j by omega)]
          exact ⟨r1, r2, r3⟩
      rw [l_p220 hl p2 p3 (show j < 24 by omega) (show E2 s2 j + 1 ≤ len by omega) p4]
      by_cases last : j = c
      · have e1 : E2 s2 j + 1 = len := by rw [last]; exact hlast
        rw [if_neg (fun q => by omega)]
        unfold fL_phrases_292 fL_phrases_322
        rw [if_pos (nI_le (by omega) (by omega)), last]
        refine ⟨_, _, _, rfl, ?_, fun z => ?_⟩
        · rw [last] at R2; exact R2
        · exfalso
          by_cases y : i = c
          · rw [← y, hr] at z; exact absurd z (by decide)
          · rw [b4 c (by omega) (by omega)] at z; exact absurd z (by decide)
      · obtain ⟨v1, v2, v3, v4, -, v6⟩ := hw (j + 1) (by omega)
        obtain ⟨sp, -⟩ := v6 j rfl
        have e2 : ST s2 (j + 1) = E2 s2 j + 2 := rfl
        have r1 := b5 (by omega)
        have lt : E2 s2 j + 1 < len := by omega
        by_cases r0 : S2_roles s2 (j + 1) = 0
        · have w13 : w (E2 s2 j + 1) = 13 := by
            rcases sp with s | s | s | s
            · exact absurd s.1 r1
            · exact absurd s.1 r1
            · exact s.2.1
            · exact absurd s.1 (by rw [r0]; decide)
          rw [if_pos ⟨lt, w13⟩]
          exact l_ph6 hl hc hw hlast (d - (j + 1 - i)) g (j + 1) _ _ _ (by omega) (by omega) r0 R2
        · have s2r : S2_roles s2 (j + 1) = 2 ∧ w (E2 s2 j + 1) = 16 := by
            rcases sp with s | s | s | s
            · exact absurd s.1 r1
            · exact absurd s.1 r1
            · exact absurd s.1 r0
            · exact ⟨s.1, s.2.1⟩
          have jc : j + 1 = c := by
            rcases Nat.lt_or_ge (j + 1) c with z | z
            · exact absurd s2r.1 ((hw (j + 2) (by omega)).2.2.2.2.2 (j + 1) rfl).2
            · omega
          rw [if_neg (fun q => absurd q.2 (by rw [s2r.2]; decide))]
          unfold fL_phrases_292 fL_phrases_322
          rw [if_neg (nI_ge lt (by omega)), ai24 (show j + 1 < 24 by omega), ai24 (show j + 1 < 24 by omega), ai24 (show j + 1 < 24 by omega), cl_nI (show j + 1 < 2 ^ 31 by omega), nI_1, nI_1, show E2 s2 j + 1 + 1 = ST s2 (j + 1) from rfl, show nI len - 1 = nI (E2 s2 c) by rw [← hlast, nI_pred], jc]
          refine ⟨_, _, _, rfl, fun i2 j2 hB2 hj => ?_, fun _ => ⟨up_same _ _ _, up_same _ _ _, up_same _ _ _⟩⟩
          have nj : j2 ≠ c := fun q => by
            obtain ⟨c1, c2, c3, c4, c5⟩ := hB2
            rw [jc] at s2r
            by_cases y : i2 = c
            · rw [y, s2r.1] at c3; exact absurd c3 (by decide)
            · have := c4 c (by omega) (by omega)
              rw [s2r.1] at this; exact absurd this (by decide)
          obtain ⟨g1, g2, g3, g4⟩ := R2 i2 j2 hB2 (by omega)
          refine ⟨fun u x y => ?_, ?_⟩
          · obtain ⟨r1, r2, r3⟩ := g1 u x y
            unfold RwL
            rw [up_ne _ _ (show u - 1 ≠ c by omega), up_ne _ _ (show u - 1 ≠ c by omega), up_ne _ _ (show u - 1 ≠ c by omega)]
            exact ⟨r1, r2, r3⟩
          · unfold RwP
            rw [up_ne _ _ nj, up_ne _ _ nj, up_ne _ _ nj]
            exact ⟨g2, g3, g4⟩
    have plain : j = i → ∃ f' o' k', fL_phrases_220 w (nI len) (fun syf syo syk x5 x6 => fL_phrases_6 w (nI len) g syf syo syk x5 x6) f o kk (nI i) (nI (E2 s2 i + 1)) (nI (ST s2 i)) (nI (E2 s2 i)) = some (nI (c + 1), f', o', k') ∧ RwF s2 c f' o' k' := fun e => by
      have t := tail f o kk (fun v _ => ⟨rfl, rfl, rfl⟩) (fun u x y => absurd x (by omega))
      rw [e] at t
      exact t
    rw [fL_phrases_6, nI_1, hst]
    have stop : (¬ w (E2 s2 i) = 10 ∧ wA (w (E2 s2 i)) = false ∧ (w (E2 s2 i) = 11 → E2 s2 i + 1 < len → wA (w (E2 s2 i + 1)) = false ∧ wP (w (E2 s2 i + 1)) = false)) ∧ (∀ v, ST s2 i ≤ v → v < E2 s2 i → w v = 10 ∨ wA (w v) = true ∨ (w v = 11 ∧ (wA (w (v + 1)) = true ∨ wP (w (v + 1)) = true))) := by
      rcases p4 with ⟨-, -, e, h15⟩ | ⟨-, -, hAl⟩ | hS
      · rw [e, h15]
        exact ⟨⟨by decide, by decide, fun q => absurd q (by decide)⟩, fun v x y => absurd x (by omega)⟩
      · rcases hAl.2.2 with ⟨h1, h2, -, h3⟩ | ⟨h1, h2, h3, h4, -⟩ | ⟨h1, h2, -⟩
        · rw [h2, h1]
          exact ⟨⟨by decide, by decide, fun _ q => h3 q⟩, fun v x y => absurd x (by omega)⟩
        · refine ⟨⟨wP_ne h4 wP10, wP_A h4, fun q => absurd q (wP_ne h4 wP11)⟩, fun v x y => ?_⟩
          by_cases z : v = ST s2 i
          · rw [z]
            refine Or.inr (Or.inr ⟨h1, ?_⟩)
            by_cases z2 : ST s2 i + 1 = E2 s2 i
            · rw [z2]; exact Or.inr h4
            · exact Or.inl (h3 _ (by omega) (by omega))
          · exact Or.inr (Or.inl (h3 v (by omega) y))
        · exact ⟨⟨wP_ne h2 wP10, wP_A h2, fun q => absurd q (wP_ne h2 wP11)⟩, fun v x y => by
            rcases h1 v x y with z | z
            · exact Or.inl z
            · exact Or.inr (Or.inl z)⟩
      · obtain ⟨z1, z2, -⟩ := Sg_head hS
        refine ⟨⟨z1, z2, fun q => absurd q (Sg_last hS).1⟩, fun v x y => ?_⟩
        rcases hS with ⟨-, e, -⟩ | ⟨-, -, h, -⟩
        · omega
        · rcases h v x y with z | z
          · exact Or.inl z
          · exact Or.inr (Or.inl z)
    rw [l_p13 hl p3 _ f o kk _ _ stop.1 (E2 s2 i - ST s2 i) 64 (ST s2 i) (by omega) (by omega) stop.2]
    unfold fL_phrases_88
    rw [ai24 (by omega), cl_nI (by omega), nI_1, ai24 (by omega), e_lP, bn1_s]
    have hAll : S2_kinds s2 i = 11 → ∃ f' o' k', fL_phrases_114 w (nI len) (fun syf syo syk x5 x6 => fL_phrases_6 w (nI len) g syf syo syk x5 x6) f o kk (nI i) (nI (E2 s2 i + 1)) (nI (ST s2 i)) (nI (E2 s2 i)) = some (nI (c + 1), f', o', k') ∧ RwF s2 c f' o' k' := fun hk => by
      have y133 : fL_phrases_133 w (nI len) (fun syf syo syk x5 x6 => fL_phrases_6 w (nI len) g syf syo syk x5 x6) f o kk (nI i) (nI (E2 s2 i + 1)) (nI (ST s2 i)) (nI (E2 s2 i)) = fL_phrases_220 w (nI len) (fun syf syo syk x5 x6 => fL_phrases_6 w (nI len) g syf syo syk x5 x6) f o kk (nI i) (nI (E2 s2 i + 1)) (nI (ST s2 i)) (nI (E2 s2 i)) := by
        unfold fL_phrases_133 fL_phrases_134
        rw [fL_phrases_136, if_pos rfl]
      unfold fL_phrases_114
      rw [y133]
      by_cases ic : i = c
      · have e1 : E2 s2 i + 1 = len := by rw [ic]; exact hlast
        rw [if_pos (nI_le (by omega) (by omega))]
        exact plain (by omega)
      · obtain ⟨v1, v2, v3, v4, -, v6⟩ := hw (i + 1) (by omega)
        obtain ⟨sp, -⟩ := v6 i rfl
        have e2 : ST s2 (i + 1) = E2 s2 i + 2 := rfl
        rw [if_neg (nI_ge (show E2 s2 i + 1 < len by omega) (by omega)), ai24 (by omega), cl_nI (by omega)]
        by_cases r1 : S2_roles s2 (i + 1) = 1
        · have w12 : w (E2 s2 i + 1) = 12 := by
            rcases sp with s | s | s | s
            · exact s.2.1
            · exact absurd s.2.2 (by rw [hr]; decide)
            · exact absurd s.1 (by rw [r1]; decide)
            · exact absurd s.1 (by rw [r1]; decide)
          have ij : i < j := by
            rcases Nat.lt_or_ge i j with x | x
            · exact x
            · have : j = i := by omega
              exact absurd r1 (by rw [← this]; exact b5 (by omega))
          rw [if_pos w12]
          unfold fL_phrases_134
          obtain ⟨f', o', k', i1, i2, i3⟩ := l_p136 hl hc hw hB hlast (fun syf syo syk x5 x6 => fL_phrases_6 w (nI len) g syf syo syk x5 x6) (nI (ST s2 i)) (nI (E2 s2 i)) (j - (i + 1)) 64 (i + 1) f o kk (by omega) (by omega) (by omega)
          rw [show i + 1 - 1 = i by omega] at i1 i3
          rw [i1]
          exact tail f' o' k' i3 (fun u x y => i2 u (by omega) y)
        · have n12 : ¬ w (E2 s2 i + 1) = 12 := fun q => by
            rcases sp with s | s | s | s
            · exact r1 s.1
            · exact r1 s.1
            · exact absurd s.2.1 (by rw [q]; decide)
            · exact absurd s.2.1 (by rw [q]; decide)
          rw [if_neg n12]
          refine plain ?_
          rcases Nat.lt_or_ge i j with x | x
          · exact absurd (b4 (i + 1) (by omega) (by omega)) r1
          · omega
    have hOne : ¬ S2_kinds s2 i = 11 → j = i := fun hk => by
      rcases Nat.lt_or_ge i j with x | x
      · have r1 := b4 (i + 1) (by omega) (by omega)
        obtain ⟨-, -, -, -, -, v6⟩ := hw (i + 1) (by omega)
        obtain ⟨sp, -⟩ := v6 i rfl
        rcases sp with s | s | s | s
        · exact absurd s.2.2.1 hk
        · exact absurd s.2.2 (by rw [hr]; decide)
        · exact absurd s.1 (by rw [r1]; decide)
        · exact absurd s.1 (by rw [r1]; decide)
      · omega
    rcases p4 with ⟨hk, -, e, h15⟩ | ⟨hk, -, hAl⟩ | hS
    · have h11 : ¬ w (E2 s2 i) = 11 := by rw [e, h15]; decide
      have hP : wP (w (E2 s2 i)) = false := by rw [e, h15]; decide
      rw [if_neg h11, hP, if_neg (show ¬ (false = true) by decide), if_pos rfl]
      exact plain (hOne (by rw [hk]; decide))
    · have h : w (E2 s2 i) = 11 ∨ wP (w (E2 s2 i)) = true := by
        rcases hAl.2.2 with ⟨h1, h2, -⟩ | ⟨-, -, -, h1, -⟩ | ⟨-, h1, -⟩
        · rw [h2]; exact Or.inl h1
        · exact Or.inr h1
        · exact Or.inr h1
      by_cases z : w (E2 s2 i) = 11
      · rw [if_pos z]
        exact hAll hk
      · rw [if_neg z]
        rcases h with q | q
        · exact absurd q z
        · rw [if_pos q, if_neg (by decide)]
          exact hAll hk
    · obtain ⟨l1, l2⟩ := Sg_last hS
      rw [if_neg l1, l2, if_neg (show ¬ (false = true) by decide), if_pos rfl]
      exact plain (hOne (Sg_kd hS).1)
  termination_by d => d
theorem l_phrases {w : Nat → Int32} {len c : Nat} {s2 : S2} (hl : len ≤ 24) (hc : c + 1 ≤ 24) (hL : LyG w len s2 c) (f o kk : Nat → Int32) : ∃ f' o' k', fL_phrases w f o kk (nI len) = some (nI (c + 1), f', o', k') ∧ RwF s2 c f' o' k' := by
  have hw := hL.1.2.1
  unfold fL_phrases
  exact l_ph6 hl hc hw hL.2.1 c 64 0 f o kk (by omega) (by omega) ((hw 0 (by omega)).2.2.2.2.1 rfl) (fun i j _ q => absurd q (by omega))
