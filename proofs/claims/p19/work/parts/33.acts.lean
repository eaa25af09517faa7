/-- whether a thing is the box b, or inside it -/
def wi (hd : Nat → Int32) (b : Nat) : Nat → Int32 → Bool
  | 0, _ => false
  | f + 1, h => if h < 0 then false else if h = nI b then true else wi hd b f (hd h.toNatClampNeg)
theorem wi_neg {hd : Nat → Int32} {b f : Nat} {h : Int32} (hh : h < 0) : wi hd b (f + 1) h = false := if_pos hh
theorem wi_pos {hd : Nat → Int32} {b f k : Nat} (hk : k < 2 ^ 31) : wi hd b (f + 1) (nI k) = if nI k = nI b then true else wi hd b f (hd k) := by
  show (if nI k < 0 then false else if nI k = nI b then true else wi hd b f (hd (nI k).toNatClampNeg)) = _
  rw [if_neg (ng hk), cl_nI hk]
theorem wi_stable {hd : Nat → Int32} {b : Nat} : ∀ (f f' : Nat) (L : List Nat) (h : Int32), okL hd L → inC h L → (∀ j, j ∈ L → j < 2 ^ 31) → L.length < f → L.length < f' → wi hd b f h = wi hd b f' h
  | 0, _, _, _, _, _, _, h, _ => by omega
  | _ + 1, 0, _, _, _, _, _, _, h => by omega
  | f + 1, f' + 1, L, h, hL, hin, hb, h1, h2 => by
    rcases hin with hn | ⟨k, hk, rfl⟩
    · rw [wi_neg hn, wi_neg hn]
    · rw [wi_pos (hb k hk), wi_pos (hb k hk)]
      obtain ⟨L', g1, g2, g3, g4⟩ := okL_suf L hL hk
      rw [wi_stable f f' L' (hd k) g1 g3 (fun j hj => hb j (g4 j hj)) (by omega) (by omega)]
theorem e_isWithin_in {s : S4} {n kb ko b : Nat} (I : WI s n kb ko) (hbn : b < n) (a1 : Int32) :
    ∀ (fu j : Nat) (L : List Nat) (h : Int32), okL (S4_holders s) L → (∀ t, t ∈ L → t < n) → inC h L → L.length + j ≤ 12 → 12 < j + fu →
      fX4_isWithin_5 s a1 (nI b) fu h (nI j) = some (if wi (S4_holders s) b 13 h then 1 else 0)
  | 0, j, L, h, hL, hb, hin, h1, h2 => by omega
  | fu + 1, j, L, h, hL, hb, hin, h1, h2 => by
    have hn12 := I.1
    have hneg : ∀ {x : Int32}, x < 0 → ¬ x = nI b := fun hx e => by rw [e] at hx; exact ng (by omega) hx
    rw [fX4_isWithin_5]
    unfold fX4_isWithin_33 fX4_isWithin_43
    by_cases hj : 12 ≤ j
    · have hl0 : L = [] := List.length_eq_zero_iff.mp (by omega)
      subst hl0
      rcases hin with hn | ⟨k, hk, -⟩
      · rw [if_pos (ge12' hj (by omega)), wi_neg hn, if_neg (hneg hn), bo0]
        rfl
      · cases hk
    · rw [if_neg (ge12 (by omega))]
      rcases hin with hn | ⟨k, hk, rfl⟩
      · rw [if_pos hn, if_neg (hneg hn), bo0, wi_neg hn]
        rfl
      · have hkn := hb k hk
        rw [if_neg (ng (by omega)), wi_pos (by omega)]
        by_cases q : nI k = nI b
        · rw [if_pos q, if_pos q, bo1, if_pos q]
          rfl
        · obtain ⟨L', g1, g2, g3, g4⟩ := okL_suf L hL hk
          rw [if_neg q, if_neg q, e_holderOf I hkn, bn1_s, nI_1]
          rw [e_isWithin_in I hbn a1 fu (j + 1) L' _ g1 (fun t ht => hb t (g4 t ht)) g3 (by omega) (by omega)]
          rw [wi_stable 12 13 L' _ g1 g3 (fun t ht => by have := hb t (g4 t ht); omega) (by omega) (by omega)]
theorem WI.chain0 {s : S4} {n kb ko t : Nat} (I : WI s n kb ko) (ht : t < n) : ∃ L, okL (S4_holders s) L ∧ L.length = n ∧ inC (nI t) L ∧ (∀ j, j ∈ L ↔ j < n) := by
  obtain ⟨-, -, -, -, -, -, -, L, h1, h2, h3⟩ := I
  exact ⟨L, h3, h1, Or.inr ⟨t, (h2 t).mpr ht, rfl⟩, h2⟩
theorem e_isWithin {s : S4} {n kb ko a b : Nat} (I : WI s n kb ko) (ha : a < n) (hb : b < n) : fX4_isWithin s (nI a) (nI b) = some (if wi (S4_holders s) b 13 (nI a) then 1 else 0) := by
  have hn12 := I.1
  obtain ⟨L, g1, g2, g3, g4⟩ := I.chain0 ha
  unfold fX4_isWithin
  rw [show (0 : Int32) = nI 0 from rfl, e_isWithin_in I hb _ 64 0 L _ g1 (fun t ht => (g4 t).mp ht) g3 (by omega) (by omega)]
  rfl
theorem e_misInside_in {m : S6} {s : S4} {n kb ko b : Nat} (I : WI s n kb ko) (J : MI m s n kb ko) (hbn : b < n) (a1 : Int32) :
    ∀ (fu : Nat) (L : List Nat) (h : Int32), okL (S4_holders s) L → (∀ t, t ∈ L → t < n) → inC h L → L.length < fu → L.length < 13 →
      fX6_isInside_7 m a1 (nI b) fu h = some (if wi (S4_holders s) b 13 h then 1 else 0)
  | 0, L, h, hL, hb, hin, h1, h2 => by omega
  | fu + 1, L, h, hL, hb, hin, h1, h2 => by
    have hn12 := I.1
    have hneg : ∀ {x : Int32}, x < 0 → ¬ x = nI b := fun hx e => by rw [e] at hx; exact ng (by omega) hx
    rw [fX6_isInside_7]
    unfold fX6_isInside_26 fX6_isInside_36
    rcases hin with hn | ⟨k, hk, rfl⟩
    · rw [if_pos hn, if_neg (hneg hn), bo0, wi_neg hn]
      rfl
    · have hkn := hb k hk
      rw [if_neg (ng (by omega)), wi_pos (by omega)]
      by_cases q : nI k = nI b
      · rw [if_pos q, if_pos q, bo1, if_pos q]
        rfl
      · obtain ⟨L', g1, g2, g3, g4⟩ := okL_suf L hL hk
        rw [if_neg q, if_neg q, ai12 (by omega), cl_nI (by omega), J.2.2.2.1]
        rw [e_misInside_in I J hbn a1 fu L' _ g1 (fun t ht => hb t (g4 t ht)) g3 (by omega) (by omega)]
        rw [wi_stable 12 13 L' _ g1 g3 (fun t ht => by have := hb t (g4 t ht); omega) (by omega) (by omega)]
theorem e_misInside {m : S6} {s : S4} {n kb ko a b : Nat} (I : WI s n kb ko) (J : MI m s n kb ko) (ha : a < n) (hb : b < n) (hab : a ≠ b) : fX6_isInside m (nI a) (nI b) = some (if wi (S4_holders s) b 13 (nI a) then 1 else 0) := by
  have hn12 := I.1
  obtain ⟨L, g1, g2, g3, g4⟩ := I.chain ha
  unfold fX6_isInside
  rw [ai12 (by omega), cl_nI (by omega), J.2.2.2.1, e_misInside_in I J hb _ 64 L _ g1 g4 g3 (by omega) (by omega)]
  rw [wi_pos (by omega), if_neg (fun e => hab (nI_inj (by omega) (by omega) e))]
  rw [wi_stable 12 13 L _ g1 g3 (fun t ht => by have := g4 t ht; omega) (by omega) (by omega)]
theorem okL_neg {hd : Nat → Int32} {v : Int32} (hv : v < 0) (t : Nat) : ∀ {L : List Nat}, okL hd L → okL (upd hd t v) L
  | [], _ => trivial
  | x :: L, h => by
    refine ⟨?_, okL_neg hv t h.2⟩
    by_cases e : x = t
    · subst e
      rw [up_same]
      exact Or.inl hv
    · rw [up_ne hd v e]
      exact h.1
theorem okL_out {hd : Nat → Int32} {v : Int32} (t : Nat) : ∀ {L : List Nat}, t ∉ L → okL hd L → okL (upd hd t v) L
  | [], _, _ => trivial
  | x :: L, ht, h => by
    refine ⟨?_, okL_out t (fun q => ht (List.mem_cons_of_mem _ q)) h.2⟩
    rw [up_ne hd v (fun e => ht (by rw [e]; exact List.mem_cons_self))]
    exact h.1
/-- a thing goes into a box that isn't inside it: the chains still end -/
theorem okL_put {hd : Nat → Int32} {t g : Nat} (p : Nat → Bool) (hpt : p t = true) (hpg : p g = false) (hg31 : g < 2 ^ 31) :
    ∀ (L : List Nat), okL hd L → (∀ x, x ∈ L → x ≠ t → (p x = true ↔ ∃ k, k ∈ L ∧ hd x = nI k ∧ p k = true)) → (∀ x, x ∈ L → x < 2 ^ 31) →
      okL (upd hd t (nI g)) (L.filter (fun x => !p x)) ∧ ∀ Q, okL (upd hd t (nI g)) Q → g ∈ Q → okL (upd hd t (nI g)) (L.filter p ++ Q)
  | [], _, _, _ => ⟨trivial, fun Q h _ => h⟩
  | x :: L, hL, hp, hb => by
    have hx1 : x < 2 ^ 31 := hb x List.mem_cons_self
    have hlater : ∀ y, y ∈ L → y ≠ t → (p y = true ↔ ∃ k, k ∈ L ∧ hd y = nI k ∧ p k = true) := by
      intro y hy hyt
      obtain ⟨L', -, -, g3, g4⟩ := okL_suf L hL.2 hy
      rw [hp y (List.mem_cons_of_mem _ hy) hyt]
      constructor
      · rintro ⟨k, hk, e, hpk⟩
        rcases g3 with hn | ⟨k', hk', e'⟩
        · rw [e] at hn
          exact absurd hn (ng (hb k hk))
        · have : k = k' := nI_inj (hb k hk) (hb k' (List.mem_cons_of_mem _ (g4 k' hk'))) (e.symm.trans e')
          exact ⟨k, by rw [this]; exact g4 k' hk', e, hpk⟩
      · rintro ⟨k, hk, e, hpk⟩
        exact ⟨k, List.mem_cons_of_mem _ hk, e, hpk⟩
    obtain ⟨i1, i2⟩ := okL_put p hpt hpg hg31 L hL.2 hlater (fun y hy => hb y (List.mem_cons_of_mem _ hy))
    by_cases px : p x = true
    · refine ⟨?_, fun Q hQ hgQ => ?_⟩
      · rw [List.filter_cons_of_neg (by simp [px])]
        exact i1
      · rw [List.filter_cons_of_pos px]
        refine ⟨?_, i2 Q hQ hgQ⟩
        by_cases e : x = t
        · subst e
          rw [up_same]
          exact Or.inr ⟨g, List.mem_append_right _ hgQ, rfl⟩
        · rw [up_ne hd _ e]
          obtain ⟨k, hk, e2, hpk⟩ := (hp x List.mem_cons_self e).mp px
          rcases hL.1 with hn | ⟨k', hk', e'⟩
          · rw [e2] at hn
            exact absurd hn (ng (hb k hk))
          · have : k = k' := nI_inj (hb k hk) (hb k' (List.mem_cons_of_mem _ hk')) (e2.symm.trans e')
            exact Or.inr ⟨k, List.mem_append_left _ (List.mem_filter.mpr ⟨by rw [this]; exact hk', hpk⟩), e2⟩
    · have pxf : p x = false := by simpa using px
      refine ⟨?_, fun Q hQ hgQ => ?_⟩
      · rw [List.filter_cons_of_pos (by simp [pxf])]
        refine ⟨?_, i1⟩
        have e : x ≠ t := fun e => by rw [e] at pxf; rw [pxf] at hpt; cases hpt
        rw [up_ne hd _ e]
        rcases hL.1 with hn | ⟨k, hk, e2⟩
        · exact Or.inl hn
        · refine Or.inr ⟨k, List.mem_filter.mpr ⟨hk, ?_⟩, e2⟩
          cases hpk : p k
          · rfl
          · exact absurd ((hp x List.mem_cons_self e).mpr ⟨k, List.mem_cons_of_mem _ hk, e2, hpk⟩) px
      · rw [List.filter_cons_of_neg px]
        exact i2 Q hQ hgQ
theorem filter_len (p : Nat → Bool) : ∀ L : List Nat, (L.filter p ++ L.filter (fun x => !p x)).length = L.length
  | [] => rfl
  | x :: L => by
    have h := filter_len p L
    rw [List.length_append] at h ⊢
    cases hx : p x
    · rw [List.filter_cons_of_neg (by simp [hx]), List.filter_cons_of_pos (by simp [hx])]
      simp only [List.length_cons]
      omega
    · rw [List.filter_cons_of_pos hx, List.filter_cons_of_neg (by simp [hx])]
      simp only [List.length_cons]
      omega
theorem WI.put {s : S4} {n kb ko t g : Nat} (I : WI s n kb ko) (ht : t < n) (hg : g < n) (hw : wi (S4_holders s) t 13 (nI g) = false) : WI (S4_set_holders s (upd (S4_holders s) t (nI g))) n kb ko := by
  have hn12 := I.1
  obtain ⟨L, h1, h2, h3⟩ := I.2.2.2.2.2.2.2
  refine ⟨I.1, I.2.1, I.2.2.1, I.2.2.2.1, I.2.2.2.2.1, I.2.2.2.2.2.1, I.2.2.2.2.2.2.1, ?_⟩
  have hb : ∀ x, x ∈ L → x < 2 ^ 31 := fun x hx => by have := (h2 x).mp hx; omega
  have hpt : wi (S4_holders s) t 13 (nI t) = true := by rw [wi_pos (by omega), if_pos rfl]
  have hp : ∀ x, x ∈ L → x ≠ t → (wi (S4_holders s) t 13 (nI x) = true ↔ ∃ k, k ∈ L ∧ S4_holders s x = nI k ∧ wi (S4_holders s) t 13 (nI k) = true) := by
    intro x hx hxt
    have hxn := (h2 x).mp hx
    obtain ⟨L', g1, g2, g3, g4⟩ := okL_suf L h3 hx
    rw [wi_pos (by omega), if_neg (fun e => hxt (nI_inj (by omega) (by omega) e))]
    rw [wi_stable 12 13 L' _ g1 g3 (fun j hj => hb j (g4 j hj)) (by omega) (by omega)]
    constructor
    · intro h
      rcases g3 with hn | ⟨k, hk, e⟩
      · rw [wi_neg hn] at h; cases h
      · exact ⟨k, g4 k hk, e, by rw [← e]; exact h⟩
    · rintro ⟨k, hk, e, h⟩
      rw [e]; exact h
  obtain ⟨i1, i2⟩ := okL_put (hd := S4_holders s) (fun x => wi (S4_holders s) t 13 (nI x)) hpt hw (by omega) L h3 hp hb
  refine ⟨_, (filter_len _ L).trans h1, fun x => ?_, i2 _ i1 (List.mem_filter.mpr ⟨(h2 g).mpr hg, by simp [hw]⟩)⟩
  rw [List.mem_append, List.mem_filter, List.mem_filter, ← h2 x]
  cases wi (S4_holders s) t 13 (nI x) <;> simp
theorem WI.neg {s : S4} {n kb ko : Nat} (I : WI s n kb ko) (t : Nat) {v : Int32} (hv : v < 0) : WI (S4_set_holders s (upd (S4_holders s) t v)) n kb ko := by
  obtain ⟨L, h1, h2, h3⟩ := I.2.2.2.2.2.2.2
  exact ⟨I.1, I.2.1, I.2.2.1, I.2.2.2.1, I.2.2.2.2.1, I.2.2.2.2.2.1, I.2.2.2.2.2.2.1, L, h1, h2, okL_neg hv t h3⟩
