/-- a cell of the law's row of things that no order writes, with n things there -/
def NT (n j : Nat) : Prop := j < 18 ∨ (18 + n ≤ j ∧ j < 24)
theorem LT_upd {t z z' : Nat → Int32} {s s' : S4} {n kb ko ko' k : Nat} {x y : Int32} (h : LT t z s n kb ko) (hk : k < n) (h1 : S4_nouns s' = S4_nouns s) (h2 : S4_adjectiveSets s' = S4_adjectiveSets s) (hx : ∀ j, j < n → S4_holders s' j = if j = k then x else S4_holders s j) (hy : ∀ j, j < n → (if ko'.testBit j = true then (1 : Int32) else 0) = if j = k then y else if ko.testBit j = true then 1 else 0) (hz : z' 0 = z 0) :
    LT (upd (upd t (24 + k) x) (18 + k) y) z' s' n kb ko' := by
  obtain ⟨z0, hn6, hr⟩ := h
  refine ⟨hz.trans z0, hn6, fun j hj => ?_⟩
  obtain ⟨r1, r2, r3, r4, r5⟩ := hr j hj
  have e : ∀ q : Nat, q ≠ 24 + k → q ≠ 18 + k → upd (upd t (24 + k) x) (18 + k) y q = t q := fun q a b => by rw [up_ne _ _ b, up_ne _ _ a]
  rw [e j (by omega) (by omega), e (6 + j) (by omega) (by omega), e (12 + j) (by omega) (by omega), h1, h2, hx j hj, hy j hj]
  refine ⟨r1, r2, r3, ?_, ?_⟩
  · by_cases q : j = k
    · subst q; rw [up_same, if_pos rfl]
    · rw [if_neg q, e _ (by omega) (by omega)]; exact r4
  · by_cases q : j = k
    · subst q; rw [up_ne _ _ (by omega), up_same, if_pos rfl]
    · rw [if_neg q, e _ (by omega) (by omega)]; exact r5
section LD
variable {w v f o kk : Nat → Int32} {k502 : (Nat → Int32) → (Nat → Int32) → (Nat → Int32) → (Nat → Int32) → (Nat → Int32) → Int32 → Int32 → Int32 → Option (Int32 × (Nat → Int32) × (Nat → Int32))} {x8 x10 : Int32}
/-- whether a box is in a thing, by the law's own way -/
theorem l_560 {t z : Nat → Int32} {s : S4} {n kb ko k : Nat} (h : LT t z s n kb ko) (hk : k < n) : ∀ (fu : Nat) (L : List Nat) (hh : Int32), okL (S4_holders s) L → inC hh L → (∀ j, j ∈ L → j < n) → L.length < fu → L.length < 13 →
    ∃ h', fL_does_560 w v k502 fu t z f o kk x8 x10 (nI k) hh = fL_does_584 w v k502 t z f o kk x8 x10 (nI k) h' ∧ ((wi (S4_holders s) k 13 hh = true ∧ h' = nI k) ∨ (wi (S4_holders s) k 13 hh = false ∧ ¬ h' = nI k))
  | 0, L, hh, hL, hin, hb, h1, h2 => by omega
  | fu + 1, L, hh, hL, hin, hb, h1, h2 => by
    have hn6 := h.2.1
    rw [fL_does_560]
    rcases hin with hn | ⟨j, hj, rfl⟩
    · rw [if_pos hn]
      exact ⟨hh, rfl, Or.inr ⟨wi_neg hn, fun q => by rw [q] at hn; exact ng (show k < 2 ^ 31 by omega) hn⟩⟩
    · have hjn := hb j hj
      rw [if_neg (ng (by omega))]
      by_cases e : j = k
      · subst e
        rw [if_pos rfl]
        exact ⟨nI j, rfl, Or.inl ⟨by rw [wi_pos (by omega), if_pos rfl], rfl⟩⟩
      · have ne : ¬ nI j = nI k := fun q => e (nI_inj (by omega) (by omega) q)
        obtain ⟨-, -, -, -, r5⟩ := h.2.2 j hjn
        obtain ⟨L', g1, g2, g3, g4⟩ := okL_suf L hL hj
        rw [if_neg ne, p_24, ai30 (by omega), cl_nI (by omega), r5]
        obtain ⟨h', i1, i2⟩ := l_560 h hk fu L' (S4_holders s j) g1 g3 (fun q hq => hb q (g4 q hq)) (by omega) (by omega)
        refine ⟨h', i1, ?_⟩
        rw [wi_pos (by omega), if_neg ne, wi_stable 12 13 L' _ g1 g3 (fun q hq => by have := hb q (g4 q hq); omega) (by omega) (by omega)]
        exact i2
theorem l_715 {t z : Nat → Int32} (k : Nat) : fL_does_614 w v k502 t z f o kk x8 x10 (nI k) 0 = k502 t z f o kk x8 x10 (nI (k + 1)) := by
  unfold fL_does_614 fL_does_715
  rw [if_pos rfl, nI_1]
/-- a thing is done with -/
theorem l_614 {t z : Nat → Int32} {k : Nat} (hk : k < 6) : fL_does_614 w v k502 t z f o kk x8 x10 (nI k) 1 = k502 (upd (upd t (24 + k) (if w 0 = 0 then -3 else if w 0 = 1 then -2 else if w 0 = 2 then x10 else t (24 + k))) (18 + k) (if w 0 = 3 then 1 else if w 0 = 4 then 0 else t (18 + k))) (upd z 6 (z 6 ||| nI (2 ^ k))) f o kk x8 x10 (nI (k + 1)) := by
  have y : ∀ x : Int32, fL_does_678 w v k502 t (upd z 6 (z 6 ||| nI (2 ^ k))) f o kk x8 x10 (nI k) (nI (24 + k)) x = k502 (upd (upd t (24 + k) x) (18 + k) (if w 0 = 3 then 1 else if w 0 = 4 then 0 else t (18 + k))) (upd z 6 (z 6 ||| nI (2 ^ k))) f o kk x8 x10 (nI (k + 1)) := fun x => by
    unfold fL_does_678 fL_does_714 fL_does_715
    rw [ai30 (by omega), ai24_0, ai24_0, cl0, p_18, ai30 (by omega), ai30 (by omega), ai30 (by omega), ai30 (by omega), cl_nI (show 24 + k < 2 ^ 31 by omega), cl_nI (show 18 + k < 2 ^ 31 by omega), nI_1, up_ne _ _ (show 18 + k ≠ 24 + k by omega)]
    by_cases a : w 0 = 3
    · rw [if_pos a, if_pos a]
    · rw [if_neg a, if_neg a]
      by_cases b : w 0 = 4
      · rw [if_pos b, if_pos b]
      · rw [if_neg b, if_neg b]
  unfold fL_does_614
  rw [if_neg (by decide), ai13_6, ai13_6, ai24_0, ai24_0, ai24_0, cl_6, cl0, nI_shl (by omega), p_24, ai30 (by omega), cl_nI (by omega), y, y, y, y]
  by_cases a : w 0 = 0
  · rw [if_pos a, if_pos a]
  · rw [if_neg a, if_neg a]
    by_cases b : w 0 = 1
    · rw [if_pos b, if_pos b]
    · rw [if_neg b, if_neg b]
      by_cases d : w 0 = 2
      · rw [if_pos d, if_pos d]
      · rw [if_neg d, if_neg d]
/-- the order is done with one thing, or not, on both sides -/
theorem l_do {t z : Nat → Int32} {s : S4} {n kb ko k : Nat} {g : Int32} (I : WI s n kb ko) (h : LT t z s n kb ko) (hk : k < n) (hv : w 0 = 0 ∨ w 0 = 1 ∨ w 0 = 2 ∨ w 0 = 3 ∨ w 0 = 4) (hg : w 0 = 2 → ∃ j, j < n ∧ g = nI j) (hx10 : x10 = g) (hsu : SU (S4_holders s) kb ko (w 0) k = true) :
    ∃ (r : Int32) (s' : S4) (ko' : Nat) (t' z' : Nat → Int32), fX4_perform s (w 0) (nI k) g = some (r, s') ∧ (r = 0 ∨ r = 1) ∧ WI s' n kb ko' ∧ LT t' z' s' n kb ko' ∧ fL_does_542 w v k502 t z f o kk x8 x10 (nI k) 1 = k502 t' z' f o kk x8 x10 (nI (k + 1)) ∧ z' = (if r = 0 then z else upd z 6 (z 6 ||| nI (2 ^ k))) ∧ (∀ j, NT n j → t' j = t j) := by
  have hn12 := I.1
  have hn6 := h.2.1
  have hko := I.2.2.2.1
  have hv6 := hv_suit hv
  have key : fX4_perform s (w 0) (nI k) g = (if w 0 = 0 then ai 12 (nI k) (some (1, (S4_set_holders s (upd (S4_holders s) (nI k).toNatClampNeg (-3))))) else if w 0 = 1 then ai 12 (nI k) (some (1, (S4_set_holders s (upd (S4_holders s) (nI k).toNatClampNeg (-2))))) else if w 0 = 2 then (bn1 (fX4_suited s 16) fun r_11 => bn1 (fX5_contains r_11 g) fun r_12 => if r_12 = 0 then some (0, s) else bn1 (fX4_isWithin s g (nI k)) fun r_14 => if r_14 = 0 then ai 12 (nI k) (some (1, (S4_set_holders s (upd (S4_holders s) (nI k).toNatClampNeg g)))) else some (0, s)) else if w 0 = 3 then some (1, (S4_set_openBoxes s ((S4_openBoxes s) ||| ((1 : Int32) <<< (nI k &&& 31))))) else if w 0 = 4 then some (1, (S4_set_openBoxes s ((S4_openBoxes s) &&& (((1 : Int32) <<< (nI k &&& 31)) ^^^ (-1))))) else some (0, s)) := by
    have hbit : (decide (k < n) && SU (S4_holders s) kb ko (w 0) k) = true := by simp [hk, hsu]
    unfold fX4_perform fX4_perform_20 fX4_perform_98
    rw [e_has I hk, bn1_s, if_neg (by decide), e_suited I hv6, bn1_s, e_contains (Nat.lt_trans (mkS_lt12 _ hn12) (by decide)) (by omega), bn1_s, mkS_bit, hbit, if_pos rfl, if_neg (by decide)]
  have d542 : ¬ w 0 = 2 → fL_does_542 w v k502 t z f o kk x8 x10 (nI k) 1 = fL_does_614 w v k502 t z f o kk x8 x10 (nI k) 1 := fun q => by
    unfold fL_does_542
    rw [if_neg (by decide), ai24_0, cl0, if_neg q]
  have l18 : ∀ x y : Int32, ∀ j, NT n j → upd (upd t (24 + k) x) (18 + k) y j = t j := fun x y j q => by
    unfold NT at q
    rw [up_ne _ _ (by omega), up_ne _ _ (by omega)]
  have bits : ∀ j, j < n → (if ko.testBit j = true then (1 : Int32) else 0) = if j = k then t (18 + k) else if ko.testBit j = true then 1 else 0 := fun j hj => by
    by_cases q : j = k
    · subst q; rw [if_pos rfl]; exact ((h.2.2 j hj).2.2.2.1).symm
    · rw [if_neg q]
  have hold : ∀ x : Int32, ∀ j, j < n → upd (S4_holders s) k x j = if j = k then x else S4_holders s j := fun x j hj => by
    by_cases q : j = k
    · subst q; rw [up_same, if_pos rfl]
    · rw [up_ne _ _ q, if_neg q]
  have hold2 : ∀ j, j < n → S4_holders s j = if j = k then t (24 + k) else S4_holders s j := fun j hj => by
    by_cases q : j = k
    · subst q; rw [if_pos rfl]; exact ((h.2.2 j hj).2.2.2.2).symm
    · rw [if_neg q]
  have hz6 : upd z 6 (z 6 ||| nI (2 ^ k)) 0 = z 0 := up_ne _ _ (by decide)
  rcases hv with e | e | e | e | e
  · have l := l_614 (w := w) (v := v) (f := f) (o := o) (kk := kk) (k502 := k502) (x8 := x8) (x10 := x10) (t := t) (z := z) (show k < 6 by omega)
    rw [if_pos e, if_neg (show ¬ w 0 = 3 by rw [e]; decide), if_neg (show ¬ w 0 = 4 by rw [e]; decide)] at l
    rw [key, if_pos e, ai12 (by omega), cl_nI (by omega), d542 (by rw [e]; decide), l]
    exact ⟨1, _, ko, _, _, rfl, Or.inr rfl, I.neg k (by decide), LT_upd h hk rfl rfl (hold (-3)) bits hz6, rfl, by rw [if_neg (by decide)], l18 _ _⟩
  · have l := l_614 (w := w) (v := v) (f := f) (o := o) (kk := kk) (k502 := k502) (x8 := x8) (x10 := x10) (t := t) (z := z) (show k < 6 by omega)
    rw [if_neg (show ¬ w 0 = 0 by rw [e]; decide), if_pos e, if_neg (show ¬ w 0 = 3 by rw [e]; decide), if_neg (show ¬ w 0 = 4 by rw [e]; decide)] at l
    rw [key, if_neg (show ¬ w 0 = 0 by rw [e]; decide), if_pos e, ai12 (by omega), cl_nI (by omega), d542 (by rw [e]; decide), l]
    exact ⟨1, _, ko, _, _, rfl, Or.inr rfl, I.neg k (by decide), LT_upd h hk rfl rfl (hold (-2)) bits hz6, rfl, by rw [if_neg (by decide)], l18 _ _⟩
  · obtain ⟨j, hj, rfl⟩ := hg e
    subst hx10
    have l := l_614 (w := w) (v := v) (f := f) (o := o) (kk := kk) (k502 := k502) (x8 := x8) (x10 := nI j) (t := t) (z := z) (show k < 6 by omega)
    rw [if_neg (show ¬ w 0 = 0 by rw [e]; decide), if_neg (show ¬ w 0 = 1 by rw [e]; decide), if_pos e, if_neg (show ¬ w 0 = 3 by rw [e]; decide), if_neg (show ¬ w 0 = 4 by rw [e]; decide)] at l
    obtain ⟨L, c1, c2, c3, c4⟩ := I.chain0 hj
    obtain ⟨h', i1, i2⟩ := l_560 (w := w) (v := v) (f := f) (o := o) (kk := kk) (k502 := k502) (x8 := x8) (x10 := nI j) (z := z) h hk 64 L (nI j) c1 c3 (fun q hq => (c4 q).mp hq) (by omega) (by omega)
    have lw : fL_does_542 w v k502 t z f o kk x8 (nI j) (nI k) 1 = if wi (S4_holders s) k 13 (nI j) = true then k502 t z f o kk x8 (nI j) (nI (k + 1)) else if SU (S4_holders s) kb ko 16 j = true then fL_does_614 w v k502 t z f o kk x8 (nI j) (nI k) 1 else k502 t z f o kk x8 (nI j) (nI (k + 1)) := by
      unfold fL_does_542
      rw [if_neg (by decide), ai24_0, cl0, if_pos e, i1]
      unfold fL_does_584 fL_does_611 fL_does_612
      rw [l_715, l_suited I h (by simp), bn1_s, nI_bit (Nat.lt_trans (mkS_lt12 _ hn12) (by decide)) (by omega), mkS_bit]
      rcases i2 with ⟨q1, q2⟩ | ⟨q1, q2⟩
      · rw [if_pos q2, if_pos q1]
      · rw [if_neg q2, q1, if_neg (show ¬ (false = true) by decide)]
        by_cases u : SU (S4_holders s) kb ko 16 j = true
        · rw [u]; simp [hj]
        · rw [bF u]; simp
    rw [key, if_neg (show ¬ w 0 = 0 by rw [e]; decide), if_neg (show ¬ w 0 = 1 by rw [e]; decide), if_pos e, e_suited I (by simp), bn1_s, e_contains (Nat.lt_trans (mkS_lt12 _ hn12) (by decide)) (by omega), bn1_s, mkS_bit, e_isWithin I hj hk, bn1_s, lw]
    by_cases u : SU (S4_holders s) kb ko 16 j = true
    · have hb2 : (decide (j < n) && SU (S4_holders s) kb ko 16 j) = true := by simp [hj, u]
      rw [hb2, if_pos rfl, if_neg (by decide), if_pos u]
      by_cases q : wi (S4_holders s) k 13 (nI j) = true
      · rw [if_pos q, if_neg (by decide), if_pos q]
        exact ⟨0, s, ko, t, z, rfl, Or.inl rfl, I, h, rfl, by rw [if_pos rfl], fun _ _ => rfl⟩
      · rw [if_neg q, if_pos rfl, ai12 (by omega), cl_nI (by omega), if_neg q, l]
        exact ⟨1, _, ko, _, _, rfl, Or.inr rfl, I.put hk hj (bF q), LT_upd h hk rfl rfl (hold (nI j)) bits hz6, rfl, by rw [if_neg (by decide)], l18 _ _⟩
    · rw [bF u, Bool.and_false, if_pos (show (if (false = true) then (1 : Int32) else 0) = 0 by decide), if_neg (show ¬ (false = true) by decide)]
      have same : (if wi (S4_holders s) k 13 (nI j) = true then k502 t z f o kk x8 (nI j) (nI (k + 1)) else k502 t z f o kk x8 (nI j) (nI (k + 1))) = k502 t z f o kk x8 (nI j) (nI (k + 1)) := by split <;> rfl
      rw [same]
      exact ⟨0, s, ko, t, z, rfl, Or.inl rfl, I, h, rfl, by rw [if_pos rfl], fun _ _ => rfl⟩
  · have l := l_614 (w := w) (v := v) (f := f) (o := o) (kk := kk) (k502 := k502) (x8 := x8) (x10 := x10) (t := t) (z := z) (show k < 6 by omega)
    rw [if_neg (show ¬ w 0 = 0 by rw [e]; decide), if_neg (show ¬ w 0 = 1 by rw [e]; decide), if_neg (show ¬ w 0 = 2 by rw [e]; decide), if_pos e] at l
    rw [key, if_neg (show ¬ w 0 = 0 by rw [e]; decide), if_neg (show ¬ w 0 = 1 by rw [e]; decide), if_neg (show ¬ w 0 = 2 by rw [e]; decide), if_pos e, hko, nI_shl (by omega), nI_or, d542 (by rw [e]; decide), l]
    refine ⟨1, _, ko ||| 2 ^ k, _, _, rfl, Or.inr rfl, I.opn hk, LT_upd h hk rfl rfl hold2 (fun j hj => ?_) hz6, rfl, by rw [if_neg (by decide)], l18 _ _⟩
    rw [or_bit]
    by_cases q : j = k
    · subst q; rw [if_pos rfl]; simp
    · rw [if_neg q, decide_eq_false (fun z => q z.symm), Bool.or_false]
  · have l := l_614 (w := w) (v := v) (f := f) (o := o) (kk := kk) (k502 := k502) (x8 := x8) (x10 := x10) (t := t) (z := z) (show k < 6 by omega)
    rw [if_neg (show ¬ w 0 = 0 by rw [e]; decide), if_neg (show ¬ w 0 = 1 by rw [e]; decide), if_neg (show ¬ w 0 = 2 by rw [e]; decide), if_neg (show ¬ w 0 = 3 by rw [e]; decide), if_pos e] at l
    rw [key, if_neg (show ¬ w 0 = 0 by rw [e]; decide), if_neg (show ¬ w 0 = 1 by rw [e]; decide), if_neg (show ¬ w 0 = 2 by rw [e]; decide), if_neg (show ¬ w 0 = 3 by rw [e]; decide), if_pos e, hko, nI_shl (by omega), nI_andn, d542 (by rw [e]; decide), l]
    refine ⟨1, _, _, _, _, rfl, Or.inr rfl, I.sht k, LT_upd h hk rfl rfl hold2 (fun j hj => ?_) hz6, rfl, by rw [if_neg (by decide)], l18 _ _⟩
    rw [Nat.testBit_and, Nat.testBit_xor, Nat.testBit_two_pow, ones_bit, decide_eq_true (show j < 32 by omega)]
    by_cases q : j = k
    · subst q; rw [if_pos rfl]; simp
    · rw [if_neg q, decide_eq_false (fun z => q z.symm)]; simp
end LD
theorem l_502 {w v f o kk : Nat → Int32} (s0 : S0) (s1 : S1) (s2 : S2) (s5 : S5) {n kb gk : Nat} {g : Int32} (hgk : gk < 2 ^ n) (h0g : S0_group s0 = nI gk) (h0t : S0_target s0 = g) (h2v : S2_orderVerb s2 = w 0)
    (hv : w 0 = 0 ∨ w 0 = 1 ∨ w 0 = 2 ∨ w 0 = 3 ∨ w 0 = 4) (hg : w 0 = 2 → ∃ j, j < n ∧ g = nI j) :
    ∀ (d k fu fl dk ko : Nat) (s : S4) (t z : Nat → Int32), k + d = 6 → 13 < k + fu → d < fl → WI s n kb ko → LT t z s n kb ko → z 6 = nI dk →
      ∃ (s' : S4) (ko' dk' : Nat) (t' z' : Nat → Int32), fX5_carryOut_4 s0 s2 s5 fu s1 s (nI dk) (nI k) = bn1 (fX1_keep s1 (w 0) (nI gk) (nI dk') g) (fun s1_2 => some (s1_2, s')) ∧ fL_does_502 w v fl t z f o kk (nI gk) g (nI k) = some (0, t', z') ∧ WI s' n kb ko' ∧ LT t' z' s' n kb ko' ∧ z' 6 = nI dk' ∧ (∀ j, j ≠ 6 → z' j = z j) ∧ (∀ j, NT n j → t' j = t j)
  | 0, k, fu, fl, dk, ko, s, t, z, hk, hfu, hfl, I, h, hz => by
    have hn6 := h.2.1
    have e6 : k = 6 := by omega
    subst e6
    have hgn : ∀ u, 6 ≤ u → gk.testBit u = false := fun u hu => Nat.testBit_lt_two_pow (Nat.lt_of_lt_of_le hgk (Nat.pow_le_pow_right (by decide) (by omega)))
    have hg12 := lt12 (show n ≤ 12 by omega) hgk
    have key : ∀ (e u fu : Nat), u + e = 12 → 13 < u + fu → 6 ≤ u → fX5_carryOut_4 s0 s2 s5 fu s1 s (nI dk) (nI u) = bn1 (fX1_keep s1 (w 0) (nI gk) (nI dk) g) (fun s1_2 => some (s1_2, s)) := by
      intro e
      induction e with
      | zero =>
        intro u fu hu hf htu
        obtain ⟨x, rfl⟩ : ∃ x, fu = x + 1 := ⟨fu - 1, by omega⟩
        rw [fX5_carryOut_4, if_pos (ge12' (by omega) (by omega)), h2v, h0g, h0t]
      | succ e ih =>
        intro u fu hu hf htu
        obtain ⟨x, rfl⟩ : ∃ x, fu = x + 1 := ⟨fu - 1, by omega⟩
        rw [fX5_carryOut_4, if_neg (ge12 (by omega)), h0g, e_contains (by omega) (by omega), bn1_s, hgn u htu, if_neg (show ¬ (false = true) by decide), if_pos rfl]
        unfold fX5_carryOut_55
        rw [nI_1]
        exact ih (u + 1) x (by omega) (by omega) (by omega)
    obtain ⟨x, rfl⟩ : ∃ x, fl = x + 1 := ⟨fl - 1, by omega⟩
    refine ⟨s, ko, dk, t, z, key 6 6 fu (by omega) hfu (Nat.le_refl 6), ?_, I, h, hz, fun _ _ => rfl, fun _ _ => rfl⟩
    rw [fL_does_502, if_pos (show (6 : Int32) ≤ nI 6 by decide)]
  | d + 1, k, fu, fl, dk, ko, s, t, z, hk, hfu, hfl, I, h, hz => by
    have hn6 := h.2.1
    have hg12 := lt12 (show n ≤ 12 by omega) hgk
    obtain ⟨x, rfl⟩ : ∃ x, fu = x + 1 := ⟨fu - 1, by omega⟩
    obtain ⟨y, rfl⟩ : ∃ y, fl = y + 1 := ⟨fl - 1, by omega⟩
    have n6 : ¬ (6 : Int32) ≤ nI k := nI_ge (b := 6) (by omega) (by decide)
    have c55 : ∀ (s' : S4) (x1 : Int32), fX5_carryOut_55 s0 s2 s5 (fun s1 s4 x1 x2 => fX5_carryOut_4 s0 s2 s5 x s1 s4 x1 x2) s1 s' x1 (nI k) = fX5_carryOut_4 s0 s2 s5 x s1 s' x1 (nI (k + 1)) := fun s' x1 => by
      unfold fX5_carryOut_55
      rw [nI_1]
    have l541 : fL_does_541 w v (fun syt syz syf syo syk x8 x10 x11 => fL_does_502 w v y syt syz syf syo syk x8 x10 x11) t z f o kk (nI gk) g (nI k) = fL_does_502 w v y t z f o kk (nI gk) g (nI (k + 1)) := by
      unfold fL_does_541 fL_does_542
      rw [if_pos rfl, l_715]
    by_cases q : gk.testBit k = true
    · have hkn : k < n := bit_lt hgk q
      have hsu := l_suited I h (hv_suit hv)
      have lw : fL_does_502 w v (y + 1) t z f o kk (nI gk) g (nI k) = if SU (S4_holders s) kb ko (w 0) k = true then fL_does_542 w v (fun syt syz syf syo syk x8 x10 x11 => fL_does_502 w v y syt syz syf syo syk x8 x10 x11) t z f o kk (nI gk) g (nI k) 1 else fL_does_502 w v y t z f o kk (nI gk) g (nI (k + 1)) := by
        rw [fL_does_502, if_neg n6, nI_bit (by omega) (by omega), q, if_pos rfl, if_pos rfl, ai24_0, cl0, hsu, bn1_s, nI_bit (Nat.lt_trans (mkS_lt12 _ I.1) (by decide)) (by omega), mkS_bit, l541]
        by_cases u : SU (S4_holders s) kb ko (w 0) k = true
        · rw [u]; simp [hkn]
        · rw [bF u]; simp
      have cl : fX5_carryOut_4 s0 s2 s5 (x + 1) s1 s (nI dk) (nI k) = bn2 (fX4_perform s (w 0) (nI k) g) fun r_5 s4_5 => if r_5 = 0 then fX5_carryOut_4 s0 s2 s5 x s1 s4_5 (nI dk) (nI (k + 1)) else fX5_carryOut_4 s0 s2 s5 x s1 s4_5 (nI dk ||| ((1 : Int32) <<< (nI k &&& 31))) (nI (k + 1)) := by
        rw [fX5_carryOut_4, if_neg (ge12 (by omega)), h0g, e_contains (by omega) (by omega), bn1_s, q, if_pos rfl, if_neg (by decide), h2v, h0t]
        simp only [c55]
      rw [lw, cl]
      by_cases u : SU (S4_holders s) kb ko (w 0) k = true
      · obtain ⟨r, s', ko', t', z', e1, hr, I', h', e2, e3, e4⟩ := l_do (v := v) (f := f) (o := o) (kk := kk) (k502 := fun syt syz syf syo syk x8 x10 x11 => fL_does_502 w v y syt syz syf syo syk x8 x10 x11) (x8 := nI gk) (x10 := g) (z := z) I h hkn hv hg rfl u
        rw [if_pos u, e1, bn2_s, e2]
        rcases hr with rfl | rfl
        · rw [if_pos rfl] at e3
          subst e3
          rw [if_pos rfl]
          obtain ⟨sa, koa, dka, ta, za, f1, f2, f3, f4, f5, f6, f7⟩ := l_502 s0 s1 s2 s5 hgk h0g h0t h2v hv hg d (k + 1) x y dk ko' s' t' z' (by omega) (by omega) (by omega) I' h' hz
          exact ⟨sa, koa, dka, ta, za, f1, f2, f3, f4, f5, f6, fun j hj => (f7 j hj).trans (e4 j hj)⟩
        · rw [if_neg (by decide)] at e3
          rw [if_neg (by decide), nI_shl (by omega), nI_or]
          have hz' : z' 6 = nI (dk ||| 2 ^ k) := by rw [e3, up_same, hz, nI_or]
          obtain ⟨sa, koa, dka, ta, za, f1, f2, f3, f4, f5, f6, f7⟩ := l_502 s0 s1 s2 s5 hgk h0g h0t h2v hv hg d (k + 1) x y (dk ||| 2 ^ k) ko' s' t' z' (by omega) (by omega) (by omega) I' h' hz'
          exact ⟨sa, koa, dka, ta, za, f1, f2, f3, f4, f5, fun j hj => (f6 j hj).trans (by rw [e3, up_ne _ _ hj]), fun j hj => (f7 j hj).trans (e4 j hj)⟩
      · have hp : fX4_perform s (w 0) (nI k) g = some (0, s) := by
          unfold fX4_perform fX4_perform_20
          rw [e_has I hkn, bn1_s, if_neg (by decide), e_suited I (hv_suit hv), bn1_s, e_contains (Nat.lt_trans (mkS_lt12 _ I.1) (by decide)) (by omega), bn1_s, mkS_bit, bF u, Bool.and_false, if_neg (show ¬ (false = true) by decide), if_pos rfl]
        rw [if_neg u, hp, bn2_s, if_pos rfl]
        exact l_502 s0 s1 s2 s5 hgk h0g h0t h2v hv hg d (k + 1) x y dk ko s t z (by omega) (by omega) (by omega) I h hz
    · have lw : fL_does_502 w v (y + 1) t z f o kk (nI gk) g (nI k) = fL_does_502 w v y t z f o kk (nI gk) g (nI (k + 1)) := by
        rw [fL_does_502, if_neg n6, nI_bit (by omega) (by omega), if_neg q, if_neg (show ¬ (0 : Int32) = 1 by decide), l541]
      have cl : fX5_carryOut_4 s0 s2 s5 (x + 1) s1 s (nI dk) (nI k) = fX5_carryOut_4 s0 s2 s5 x s1 s (nI dk) (nI (k + 1)) := by
        rw [fX5_carryOut_4, if_neg (ge12 (by omega)), h0g, e_contains (by omega) (by omega), bn1_s, if_neg q, if_pos rfl, c55]
      rw [lw, cl]
      exact l_502 s0 s1 s2 s5 hgk h0g h0t h2v hv hg d (k + 1) x y dk ko s t z (by omega) (by omega) (by omega) I h hz
