/-- the optional THE ahead of an answer -/
theorem e_the {s : S6} {w : Nat → Int32} {len : Nat} (hs : WS s w len) (adj noun : Int32) :
    ∃ r k0, k0 ≤ len ∧ fX3_accept (mk3 w len 0 adj noun) 10 = some (r, mk3 w len k0 adj noun) ∧ AW s 0 0 0 = AW s 0 0 k0 ∧ (∀ t : S6, WS t w len → UA t 0 (-1) 0 = UA t 0 (-1) k0) ∧ ¬ (k0 = 0 ∧ w 0 = 10) := by
  have hl := hs.2.2.2
  have h1 := hs.2.2.1
  by_cases h : w 0 = 10
  · refine ⟨1, 1, h1, ?_, ?_, fun t ht => ?_, fun q => absurd q.1 (by decide)⟩
    · rw [e_accept hl (Nat.zero_le len) (by decide), if_pos ⟨by omega, h⟩]
    · rw [AW_go hs (show 0 < len by omega), if_pos (Or.inl ⟨rfl, h⟩), if_pos ⟨rfl, h⟩, h, if_neg (by decide)]
    · rw [UA_go ht (show 0 < len by omega), h, if_neg (by decide), if_neg (by decide)]
      rfl
  · refine ⟨0, 0, by omega, ?_, rfl, fun _ _ => rfl, fun q => h q.2⟩
    rw [e_accept hl (Nat.zero_le len) (by decide), if_neg (fun q => h q.2)]
theorem e_ra34 {w : Nat → Int32} {len k : Nat} (hl : len ≤ 24) (hk : k ≤ len) (a nn t0 : Int32) : fX3_readAnswer_34 (mk3 w len k a nn) t0 = some (if k = len ∧ (t0 = 0 → a ≠ 0) then 1 else 0, mk3 w len k a nn) := by
  unfold fX3_readAnswer_34 fX3_readAnswer_57 fX3_readAnswer_53 fX3_readAnswer_58
  rw [e_atEnd hl hk, bn1_s, bo0, bo1]
  show (if (if k = len then (1 : Int32) else 0) = 0 then some (0, mk3 w len k a nn) else if t0 = 0 then if a = 0 then some (0, mk3 w len k a nn) else some (1, mk3 w len k a nn) else some (1, mk3 w len k a nn)) = _
  by_cases z : k = len
  · rw [if_pos z, if_neg (by decide)]
    by_cases t : t0 = 0
    · rw [if_pos t]
      by_cases x : a = 0
      · rw [if_pos x, if_neg (show ¬ (k = len ∧ (t0 = 0 → a ≠ 0)) from fun q => q.2 t x)]
      · rw [if_neg x, if_pos (show (k = len ∧ (t0 = 0 → a ≠ 0)) from ⟨z, fun _ => x⟩)]
    · rw [if_neg t, if_pos (show (k = len ∧ (t0 = 0 → a ≠ 0)) from ⟨z, fun q => absurd q t⟩)]
  · rw [if_neg z, if_pos rfl, if_neg (show ¬ (k = len ∧ (t0 = 0 → a ≠ 0)) from fun q => z q.1)]
theorem e_readAns {s : S6} {w : Nat → Int32} {len : Nat} (hs : WS s w len) (adj noun : Int32) :
    (∃ a nn, fX3_readAnswer (mk3 w len 0 adj noun) = some (1, mk3 w len len a nn) ∧ fX6_wrongAnswer s = some (-1) ∧ ∀ t : S6, WS t w len → fX6_understand_130 64 t 0 (-1) 0 = UF t a nn)
    ∨ (∃ p a nn, fX3_readAnswer (mk3 w len 0 adj noun) = some (0, mk3 w len p a nn) ∧ p ≤ len ∧ fX6_wrongAnswer s = some (nI p)) := by
  have hl := hs.2.2.2
  obtain ⟨r, k0, a1, a2, a3, a4, a5⟩ := e_the hs adj noun
  obtain ⟨e, b1, b2, b3, b4⟩ := e_readAdj (w := w) (adj := adj) (noun := noun) hl a1
  have hW : fX6_wrongAnswer s = AW s (if e = 0 then 0 else 1) 0 (k0 + e) := by
    show AW s 0 0 0 = _
    rw [a3, AW_run hs e k0 0 b2 b3]
  have hU : ∀ t : S6, WS t w len → fX6_understand_130 64 t 0 (-1) 0 = UA t (nI (AS w k0 e)) (-1) (k0 + e) := fun t ht => by
    show UA t 0 (-1) 0 = _
    rw [a4 t ht]
    exact UA_run ht b2 b3 (-1) e 0 (by omega)
  have hz := AS_ne b3
  have hlt := AS_lt w k0 e
  have h10 : ¬ (k0 + e = 0 ∧ w (k0 + e) = 10) := fun q => by
    have k00 : k0 = 0 := by omega
    rw [q.1] at q
    exact a5 ⟨k00, q.2⟩
  unfold fX3_readAnswer fX3_readAnswer_29
  rw [a2, bn2_s, b1, bn1_s, e_acceptNoun hl b2 (by decide)]
  generalize hk : k0 + e = k at *
  by_cases c : k < len ∧ wN (w k) = true
  · have ct : k < len ∧ (!decide (w k < 30) && !decide ((30 : Int32) + 8 ≤ w k)) = true := c
    have go : AW s (if e = 0 then 0 else 1) 0 k = AW s 1 1 (k + 1) := by
      rw [AW_go hs c.1, if_pos (Or.inr (Or.inr (Or.inl c.2))), if_pos (show wN (w k) = true ∨ w k = 17 from Or.inl c.2), if_neg (show ¬ ((if e = 0 then (0 : Int32) else 1) = 0 ∧ w k = 10) from fun q => wN_ne c.2 wN10 q.2)]
    rw [if_pos ct, bn2_s, if_neg (by decide), e_ra34 hl (show k + 1 ≤ len from c.1)]
    by_cases z : k + 1 = len
    · rw [if_pos (show k + 1 = len ∧ ((1 : Int32) = 0 → nI (AS w k0 e) ≠ 0) from ⟨z, fun q => absurd q (by decide)⟩), z]
      refine Or.inl ⟨_, _, rfl, ?_, fun t ht => ?_⟩
      · rw [hW, go, z, AW_end hs, if_neg (by decide)]
      · rw [hU t ht, UA_go ht c.1, if_neg (show ¬ wA (w k) = true from fun q => wA_N q c.2), if_pos c.2, or0, z, UA_end ht]
    · rw [if_neg (show ¬ (k + 1 = len ∧ ((1 : Int32) = 0 → nI (AS w k0 e) ≠ 0)) from fun q => z q.1)]
      refine Or.inr ⟨k + 1, _, _, rfl, by omega, ?_⟩
      rw [hW, go, AW_1 hs (by omega)]
  · have cf : ¬ (k < len ∧ (!decide (w k < 30) && !decide ((30 : Int32) + 8 ≤ w k)) = true) := c
    rw [if_neg cf, bn2_s, if_pos rfl, e_accept hl b2 (by decide)]
    by_cases d : k < len ∧ w k = 17
    · have go : AW s (if e = 0 then 0 else 1) 0 k = AW s 1 1 (k + 1) := by
        rw [AW_go hs d.1, if_pos (Or.inr (Or.inr (Or.inr d.2))), if_pos (show wN (w k) = true ∨ w k = 17 from Or.inr d.2), if_neg (show ¬ ((if e = 0 then (0 : Int32) else 1) = 0 ∧ w k = 10) from fun q => absurd (d.2.symm.trans q.2) (by decide))]
      rw [if_pos d, bn2_s, if_neg (by decide), e_ra34 hl (show k + 1 ≤ len from d.1)]
      by_cases z : k + 1 = len
      · rw [if_pos (show k + 1 = len ∧ ((1 : Int32) = 0 → nI (AS w k0 e) ≠ 0) from ⟨z, fun q => absurd q (by decide)⟩), z]
        refine Or.inl ⟨_, _, rfl, ?_, fun t ht => ?_⟩
        · rw [hW, go, z, AW_end hs, if_neg (by decide)]
        · rw [hU t ht, UA_go ht d.1, if_neg (show ¬ wA (w k) = true by rw [d.2]; decide), if_neg (show ¬ wN (w k) = true by rw [d.2]; decide), or0, z, UA_end ht]
      · rw [if_neg (show ¬ (k + 1 = len ∧ ((1 : Int32) = 0 → nI (AS w k0 e) ≠ 0)) from fun q => z q.1)]
        refine Or.inr ⟨k + 1, _, _, rfl, by omega, ?_⟩
        rw [hW, go, AW_1 hs (by omega)]
    · rw [if_neg d, bn2_s, if_pos rfl, e_ra34 hl b2]
      by_cases z : k = len
      · by_cases x : e = 0
        · have x2 : nI (AS w k0 e) = 0 := by rw [hz.mpr x]; rfl
          rw [if_neg (show ¬ (k = len ∧ ((0 : Int32) = 0 → nI (AS w k0 e) ≠ 0)) from fun q => q.2 rfl x2)]
          refine Or.inr ⟨k, _, _, rfl, b2, ?_⟩
          rw [hW, z, AW_end hs, if_pos x, if_pos rfl]
        · have x2 : nI (AS w k0 e) ≠ 0 := fun q => x (hz.mp (nI_inj (a := AS w k0 e) (b := 0) (by omega) (by decide) q))
          rw [if_pos (show k = len ∧ ((0 : Int32) = 0 → nI (AS w k0 e) ≠ 0) from ⟨z, fun _ => x2⟩), z]
          refine Or.inl ⟨_, _, rfl, ?_, fun t ht => ?_⟩
          · rw [hW, z, AW_end hs, if_neg x, if_neg (by decide)]
          · rw [hU t ht, z, UA_end ht]
      · have kl : k < len := by omega
        rw [if_neg (show ¬ (k = len ∧ ((0 : Int32) = 0 → nI (AS w k0 e) ≠ 0)) from fun q => z q.1)]
        refine Or.inr ⟨k, _, _, rfl, b2, ?_⟩
        rw [hW, AW_go hs kl, if_neg (show ¬ ((k = 0 ∧ w k = 10) ∨ wA (w k) = true ∨ wN (w k) = true ∨ w k = 17) from fun q => q.elim h10 (fun q => q.elim (fun q => b4 ⟨kl, q⟩) (fun q => q.elim (fun q => c ⟨kl, q⟩) (fun q => d ⟨kl, q⟩))))]
