theorem e_part {s : S6} {w : Nat → Int32} {len : Nat} (hs : WS s w len) {k c : Nat} {adj noun : Int32} {s2 : S2} (hk : k ≤ len) (hc : S2_count s2 = nI c) (hck : c + 1 ≤ k) : Pres s w len s2 c k (fX2_readPart s2 (mk3 w len k adj noun)) := by
  have hl := hs.2.2.2
  have fin : ((if lr s2 c = 0 then (7 : Int32) else 11) = 11 ↔ lr s2 c = 1) := by
    rcases lr_01 s2 c with r | r <;> rw [r] <;> decide
  have fin2 : (if lr s2 c = 0 then (7 : Int32) else 11) = 4 ∨ (if lr s2 c = 0 then (7 : Int32) else 11) = 6 ∨ (if lr s2 c = 0 then (7 : Int32) else 11) = 7 ∨ (if lr s2 c = 0 then (7 : Int32) else 11) = 11 := by
    rcases lr_01 s2 c with r | r <;> rw [r] <;> decide
  have fin3 : ¬ ((if lr s2 c = 0 then (7 : Int32) else 11) = 4 ∨ (if lr s2 c = 0 then (7 : Int32) else 11) = 6) := by
    rcases lr_01 s2 c with r | r <;> rw [r] <;> decide
  unfold fX2_readPart
  rw [e_accept hl hk (by decide)]
  by_cases th : k < len ∧ w k = 15
  · rw [if_pos th, bn2_s, if_neg (by decide), e_add hc (by omega) 15 0 (by omega), bn2_s, bo1]
    refine Or.inl ⟨_, k + 1, _, _, 7, rfl, ?_, by omega, by omega, by decide, fun z => absurd z (by decide), fun z => absurd z (by decide), Or.inl ⟨15, 0, _, _, k, rfl, rfl, Nat.le_refl k, by decide, Or.inl ⟨rfl, rfl, rfl, th.2⟩⟩⟩
    rw [DF_1 hs th.1, show phN true false false true (w k) (en 1 (lr s2 c) 0) = 7 by rw [th.2]; simp [phN, wA15, wN15, wP15], NX_ok (by decide)]
  · rw [if_neg th, bn2_s, if_pos rfl, e_peek hl hk, bn1_s]
    by_cases it : k < len ∧ w k = 14
    · rw [if_pos it.1, if_pos it.2, e_next hc (by omega), bn1_s]
      have r : fX2_readSingle s2 (mk3 w len k adj noun) (lr s2 c) = some (1, addP s2 c 14 (lr s2 c) adj noun (nI k), mk3 w len (k + 1) adj noun) := by
        unfold fX2_readSingle
        rw [e_accept hl hk (by decide), if_pos it, bn2_s, if_neg (by decide), e_add hc (by omega) 14 _ (by omega), bn2_s, bo1]
      rw [r, bn3_s, bo1]
      refine Or.inl ⟨_, k + 1, _, _, _, rfl, ?_, by omega, by omega, fin2, fun z => absurd z fin3, fun z => absurd (Or.inl z) fin3, Or.inl ⟨14, lr s2 c, _, _, k, rfl, rfl, Nat.le_refl k, fin, Or.inr (Or.inr ⟨rfl, Or.inl ⟨it.2, rfl, rfl⟩⟩)⟩⟩
      rw [DF_1 hs it.1, show phN true false false true (w k) (en 1 (lr s2 c) 0) = en 1 (lr s2 c) 0 by rw [it.2]; simp [phN, wA14, wN14], en_1, NX_ok (eg_ne _)]
    · have n14 : ¬ (if k < len then w k else -1) = 14 := by
        by_cases z : k < len
        · rw [if_pos z]; exact fun q => it ⟨z, q⟩
        · rw [if_neg z]; decide
      rw [if_neg n14, e_accept hl hk (by decide)]
      by_cases al : k < len ∧ w k = 11
      · rw [if_pos al, bn2_s, if_neg (by decide)]
        obtain ⟨d, i1, i3, i4, i5⟩ := e_readAdj (w := w) (adj := adj) (noun := noun) hl (show k + 1 ≤ len from al.1)
        have hD : DF s 1 (lr s2 c) 0 k = DF s (if d = 0 then 4 else 5) (lr s2 c) 0 (k + 1 + d) := by
          rw [DF_1 hs al.1, show phN true false false true (w k) (en 1 (lr s2 c) 0) = 4 by rw [al.2]; simp [phN, wA11, wN11, wP11], NX_ok (by decide), DF_adj4 hs _ 0 i3 i4]
        have hAS : AS w (k + 1) d = AS w k (k + 1 + d - k) := by
          rw [show k + 1 + d - k = d + 1 by omega, AS_split w k (by rw [al.2]; exact wA11)]
        have hp : ∀ t0 : Int32, (t0 = 1 ∧ d = 0) ∨ (t0 = 0 ∧ d ≠ 0) → Pres s w len s2 c k (fX2_readPart_75 s2 (mk3 w len (k + 1 + d) (nI (AS w (k + 1) d)) (-1)) 1 t0) := fun t0 ht => by
          unfold fX2_readPart_75 fX2_readPart_109 fX2_readPart_110
          rw [e_acceptNoun hl i3 (by decide)]
          by_cases a : k + 1 + d < len ∧ wP (w (k + 1 + d)) = true
          · rw [if_pos (show k + 1 + d < len ∧ (!decide (w (k + 1 + d) < 40) && !decide ((40 : Int32) + 8 ≤ w (k + 1 + d))) = true from a), bn2_s, if_neg (by decide)]
            refine e_all hs (by omega) a.1 hc hck ⟨by rw [hAS], by omega, Or.inr (Or.inl ⟨al.2, by omega, fun j y1 y2 => ?_, a.2, rfl⟩)⟩ (Or.inr rfl) (fun z => absurd z (by decide)) ?_
            · have := i4 (j - (k + 1)) (by omega)
              rwa [show k + 1 + (j - (k + 1)) = j by omega] at this
            · rw [hD]
              by_cases z : d = 0
              · rw [if_pos z, DF_4 hs a.1, if_neg (wP_ne a.2 wP13), if_neg (show ¬ (w (k + 1 + d) = 16 ∧ w 0 = 2) from fun q => wP_ne a.2 wP16 q.1), if_neg (wP_ne a.2 wP12), if_neg (show ¬ wA (w (k + 1 + d)) = true by rw [wP_A a.2]; decide), if_pos a.2, NX_ok (by decide)]
              · rw [if_neg z, DF_5 hs a.1, if_neg (show ¬ wA (w (k + 1 + d)) = true by rw [wP_A a.2]; decide), if_pos a.2, NX_ok (by decide)]
          · rw [if_neg (show ¬ (k + 1 + d < len ∧ (!decide (w (k + 1 + d) < 40) && !decide ((40 : Int32) + 8 ≤ w (k + 1 + d))) = true) from a), bn2_s, if_pos rfl]
            rcases ht with ⟨rfl, rfl⟩ | ⟨rfl, hd⟩
            · rw [if_neg (by decide)]
              have cnd : k + 1 < len → wA (w (k + 1)) = false ∧ wP (w (k + 1)) = false := fun q => ⟨bF (fun r => i5 ⟨q, r⟩), bF (fun r => a ⟨q, r⟩)⟩
              exact e_all hs (Nat.le_refl k) al.1 hc hck ⟨by rw [Nat.sub_self]; rfl, Nat.le_refl k, Or.inl ⟨al.2, rfl, rfl, cnd⟩⟩ (Or.inl rfl) (fun _ => cnd) hD
            · rw [if_pos rfl, if_neg (by decide), bo0]
              refine Or.inr ⟨_, k + 1 + d, _, _, rfl, i3, ?_⟩
              rw [hD, if_neg hd]
              by_cases q : k + 1 + d < len
              · rw [DF_5 hs q, if_neg (show ¬ wA (w (k + 1 + d)) = true from fun r => i5 ⟨q, r⟩), if_neg (show ¬ wP (w (k + 1 + d)) = true from fun r => a ⟨q, r⟩), NX_no]
              · have e : k + 1 + d = len := by omega
                rw [e, DF_end hs]
                have n : ¬ (if w 0 = 2 then (5 : Int32) = 12 else (5 : Int32) = 4 ∨ (5 : Int32) = 6 ∨ (5 : Int32) = 7 ∨ (5 : Int32) = 11) := by
                  by_cases y : w 0 = 2 <;> simp [y]
                rw [if_neg n]
        unfold fX2_readPart_55 fX2_readPart_74
        rw [i1, bn1_s, if_neg (by decide)]
        show Pres s w len s2 c k (if nI (AS w (k + 1) d) = 0 then _ else _)
        by_cases z : d = 0
        · rw [if_pos (show nI (AS w (k + 1) d) = 0 by rw [z]; rfl)]
          exact hp 1 (Or.inl ⟨rfl, z⟩)
        · have nz : ¬ nI (AS w (k + 1) d) = 0 := fun q => AS_pos (by omega) i4 (nI_inj (a := AS w (k + 1) d) (b := 0) (Nat.lt_of_lt_of_le (AS_lt w (k + 1) d) (by decide)) (by decide) q)
          rw [if_neg nz]
          exact hp 0 (Or.inr ⟨rfl, z⟩)
      · rw [if_neg al, bn2_s, if_pos rfl, e_accept hl hk (by decide)]
        by_cases ar : k < len ∧ w k = 10
        · rw [if_pos ar, bn2_s]
          refine e_plain hs (Nat.le_succ k) ar.1 hc hck (q := 2) (Or.inr rfl) (fun y => absurd y (by decide)) ?_ (fun y => absurd y (by decide)) (fun _ => ⟨rfl, ar.2⟩)
          rw [DF_1 hs ar.1, show phN true false false true (w k) (en 1 (lr s2 c) 0) = 2 by rw [ar.2]; simp [phN], NX_ok (by decide)]
        · rw [if_neg ar, bn2_s]
          exact e_plain hs (Nat.le_refl k) hk hc hck (q := 1) (Or.inl rfl) (fun _ y => ⟨fun z => ar ⟨y, z⟩, fun z => it ⟨y, z⟩, fun z => al ⟨y, z⟩, fun z => th ⟨y, z⟩⟩) rfl (fun _ => rfl) (fun y => absurd y (by decide))
