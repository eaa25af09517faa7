/-- behind all or a plural: what but leaves out -/
theorem e_all {s : S6} {w : Nat → Int32} {len : Nat} (hs : WS s w len) {k e c : Nat} {a n : Int32} {s2 : S2} (hke : k ≤ e) (he : e < len) (hc : S2_count s2 = nI c) (hck : c + 1 ≤ k) (hAl : Al w len k e a n) {y : Int32} (hy : y = 4 ∨ y = 6)
    (h4 : y = 4 → e + 1 < len → wA (w (e + 1)) = false ∧ wP (w (e + 1)) = false) (hD : DF s 1 (lr s2 c) 0 k = DF s y (lr s2 c) 0 (e + 1)) :
    Pres s w len s2 c k (fX2_readPart_111 s2 (mk3 w len (e + 1) a n)) := by
  have hl := hs.2.2.2
  unfold fX2_readPart_111 fX2_readPart_144 fX2_readPart_140 fX2_readPart_145
  rw [e_add hc (by omega) 11 0 (by omega), bn2_s, if_neg (by decide), e_accept hl (show e + 1 ≤ len by omega) (by decide)]
  by_cases b : e + 1 < len ∧ w (e + 1) = 12
  · rw [if_pos b, bn2_s, if_neg (by decide)]
    have hD2 : DF s y (lr s2 c) 0 (e + 1) = DF s 8 (lr s2 c) 0 (e + 2) := by
      rcases hy with rfl | rfl
      · rw [DF_4 hs b.1, b.2]; rfl
      · rw [DF_6 hs b.1, b.2]; rfl
    rcases e_single hs (k := e + 1 + 1) (adj := a) (noun := n) (s2 := addP s2 c 11 0 a n (nI e)) (c := c + 1) b.1 rfl (by omega) 1 with ⟨e', a', n', kd', j1, j2, j3, j4, j5⟩ | ⟨e', a', n', j1, j0, j2⟩
    · rw [j1, bn3_s, if_neg (by decide), bo1]
      refine Or.inl ⟨_, e' + 1, a', n', 11, rfl, ?_, by omega, by omega, Or.inr (Or.inr (Or.inr rfl)), fun z => ?_, fun z => absurd z (by decide), Or.inr ⟨a, n, e, kd', a', n', e', rfl, hAl, b.2, j2, j4, rfl, rfl⟩⟩
      · rw [hD, hD2]; exact j5 _ 0
      · rcases z with z | z <;> exact absurd z (by decide)
    · rw [j1, bn3_s, if_pos rfl, bo0]
      refine Or.inr ⟨_, e', a', n', rfl, j0, ?_⟩
      rw [hD, hD2]; exact j2 _ 0
  · rw [if_neg b, bn2_s, if_pos rfl, bo1]
    refine Or.inl ⟨_, e + 1, a, n, y, rfl, hD, by omega, by omega, ?_, fun _ => b, h4, Or.inl ⟨11, 0, a, n, e, rfl, rfl, hke, ?_, Or.inr (Or.inl ⟨rfl, rfl, hAl⟩)⟩⟩
    · rcases hy with rfl | rfl
      · exact Or.inl rfl
      · exact Or.inr (Or.inl rfl)
    · rcases hy with rfl | rfl <;> exact ⟨fun z => absurd z (by decide), fun z => absurd z (by decide)⟩
/-- a part without all, behind the article -/
theorem e_plain {s : S6} {w : Nat → Int32} {len : Nat} (hs : WS s w len) {k k1 c : Nat} {adj noun : Int32} {s2 : S2} (hk1 : k ≤ k1) (hk : k1 ≤ len) (hc : S2_count s2 = nI c) (hck : c + 1 ≤ k) {q : Int32} (hq : q = 1 ∨ q = 2) (h1 : q = 1 → k1 < len → w k1 ≠ 10 ∧ w k1 ≠ 14 ∧ w k1 ≠ 11 ∧ w k1 ≠ 15)
    (hD : DF s 1 (lr s2 c) 0 k = DF s q (lr s2 c) 0 k1) (hq1 : q = 1 → k1 = k) (hq2 : q = 2 → k1 = k + 1 ∧ w k = 10) : Pres s w len s2 c k (fX2_readPart_55 s2 (mk3 w len k1 adj noun) 0) := by
  have hl := hs.2.2.2
  obtain ⟨d, i1, i3, i4, i5⟩ := e_readAdj (w := w) (adj := adj) (noun := noun) hl hk
  unfold fX2_readPart_55 fX2_readPart_74 fX2_readPart_75 fX2_readPart_109 fX2_readPart_110
  rw [i1, bn1_s, if_pos rfl, e_acceptNoun hl i3 (by decide)]
  have hD2 : DF s q (lr s2 c) 0 k1 = DF s (if d = 0 then q else 3) (lr s2 c) 0 (k1 + d) := by
    rcases hq with rfl | rfl
    · exact DF_adj1 hs _ 0 i3 i4
    · exact DF_adj2 hs _ 0 i3 i4
  obtain ⟨g1, g2⟩ := DF_ghead hs (lr s2 c) hq (d := d) i3 (fun y1 y2 y3 => by subst y2; exact h1 y1 y3) i5
  have hW : ∀ j, k ≤ j → j < k1 + d → w j = 10 ∨ wA (w j) = true := fun j y1 y2 => by
    by_cases z : k1 ≤ j
    · exact Or.inr (by have := i4 (j - k1) (by omega); rwa [show k1 + (j - k1) = j by omega] at this)
    · rcases hq with r | r
      · have := hq1 r; omega
      · have := hq2 r
        exact Or.inl (by rw [show j = k by omega]; exact this.2)
  have hSS : (w (k1 + d) = 17 → d ≠ 0) → k ≤ k1 + d ∧ SgS w k (k1 + d) := fun h17 => ⟨by omega, k1, by
    rcases hq with r | r
    · exact Or.inl (hq1 r)
    · exact Or.inr (hq2 r), by omega, fun j y1 y2 => by have := i4 (j - k1) (by omega); rwa [show k1 + (j - k1) = j by omega] at this, fun q => by have := h17 q; omega⟩
  have hAS : AS w k1 d = AS w k (k1 + d - k) := by
    rcases hq with r | r
    · have := hq1 r
      rw [this, show k + d - k = d by omega]
    · have := hq2 r
      rw [this.1, show k + 1 + d - k = d + 1 by omega, AS_split w k (by rw [this.2]; exact wA10)]
  by_cases a : k1 + d < len ∧ wP (w (k1 + d)) = true
  · rw [if_pos (show k1 + d < len ∧ (!decide (w (k1 + d) < 40) && !decide ((40 : Int32) + 8 ≤ w (k1 + d))) = true from a), bn2_s, if_neg (by decide)]
    exact e_all hs (by omega) a.1 hc hck ⟨by rw [hAS], by omega, Or.inr (Or.inr ⟨hW, a.2, rfl⟩)⟩ (Or.inr rfl) (fun z => absurd z (by decide)) (by rw [hD, hD2, g1 a])
  · rw [if_neg (show ¬ (k1 + d < len ∧ (!decide (w (k1 + d) < 40) && !decide ((40 : Int32) + 8 ≤ w (k1 + d))) = true) from a), bn2_s, if_pos rfl, if_pos rfl, if_pos rfl, e_next hc (by omega), bn1_s, e_head hl i3 hc (by omega) (AS_lt w k1 d)]
    have hA0 : (AS w k1 d ≠ 0) ↔ (d ≠ 0) := by
      constructor
      · intro y z; subst z; exact y rfl
      · intro y; exact AS_pos (by omega) i4
    have g := g2 a
    have fin : ∀ x : Int32, ((if lr s2 c = 0 then (7 : Int32) else 11) = 11 ↔ lr s2 c = 1) := fun _ => by
      rcases lr_01 s2 c with r | r <;> rw [r] <;> decide
    have fin2 : (if lr s2 c = 0 then (7 : Int32) else 11) = 4 ∨ (if lr s2 c = 0 then (7 : Int32) else 11) = 6 ∨ (if lr s2 c = 0 then (7 : Int32) else 11) = 7 ∨ (if lr s2 c = 0 then (7 : Int32) else 11) = 11 := by
      rcases lr_01 s2 c with r | r <;> rw [r] <;> decide
    have fin3 : ¬ ((if lr s2 c = 0 then (7 : Int32) else 11) = 4 ∨ (if lr s2 c = 0 then (7 : Int32) else 11) = 6) := by
      rcases lr_01 s2 c with r | r <;> rw [r] <;> decide
    by_cases b : k1 + d < len ∧ wN (w (k1 + d)) = true
    · rw [if_pos b, bn3_s, if_neg (by decide), bo1]
      rw [if_pos b] at g
      refine Or.inl ⟨_, k1 + d + 1, _, _, _, rfl, by rw [hD, hD2, g], by omega, by omega, fin2, fun z => absurd z fin3, fun z => absurd (Or.inl z) fin3, Or.inl ⟨17, lr s2 c, _, _, k1 + d, rfl, rfl, by omega, fin 0, Or.inr (Or.inr ⟨rfl, Or.inr ⟨rfl, hSS (fun q => absurd q (wN_ne b.2 wN17)), hW, by rw [hAS], Or.inl ⟨b.2, rfl⟩⟩⟩)⟩⟩
    · rw [if_neg b]
      rw [if_neg b] at g
      by_cases b2 : d ≠ 0 ∧ k1 + d < len ∧ w (k1 + d) = 17
      · rw [if_pos (show AS w k1 d ≠ 0 ∧ k1 + d < len ∧ w (k1 + d) = 17 from ⟨hA0.mpr b2.1, b2.2⟩), bn3_s, if_neg (by decide), bo1]
        rw [if_pos b2] at g
        refine Or.inl ⟨_, k1 + d + 1, _, _, _, rfl, by rw [hD, hD2, g], by omega, by omega, fin2, fun z => absurd z fin3, fun z => absurd (Or.inl z) fin3, Or.inl ⟨17, lr s2 c, _, _, k1 + d, rfl, rfl, by omega, fin 0, Or.inr (Or.inr ⟨rfl, Or.inr ⟨rfl, hSS (fun _ => b2.1), hW, by rw [hAS], Or.inr ⟨b2.2.2, rfl⟩⟩⟩)⟩⟩
      · rw [if_neg (show ¬ (AS w k1 d ≠ 0 ∧ k1 + d < len ∧ w (k1 + d) = 17) from fun z => b2 ⟨hA0.mp z.1, z.2⟩), bn3_s, if_pos rfl, bo0]
        rw [if_neg b2] at g
        exact Or.inr ⟨_, k1 + d, _, _, rfl, i3, by rw [hD, hD2, g]⟩
