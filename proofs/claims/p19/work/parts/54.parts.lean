/-- a part on both sides -/
theorem e_pt {s0 : S0} {s1 : S1} {s2 : S2} {s4 : S4} {m : S6} {w : Nat → Int32} {len n kb ko c i mm : Nat} (K : LK s1 s2 s4 m w len n kb ko c) (hc : c + 1 ≤ 24) (hi : i ≤ c) (hR : S0_reach s0 = nI (Rn s4 n ko)) (hr : S0_result s0 = 0) (hat : S6_at m = nI (ST s2 i)) (hro : S2_roles s2 i = 0)
    (hm1 : S1_lastMeant s1 = nI mm) (hm2 : S6_meant m = nI mm) :
    ∃ x y, fX0_findPart s0 s1 s2 s4 (nI i) (nI (Un s4 n kb ko (w 0))) = some x ∧ fX6_part m = some y ∧ PtR s2 c n i s0 m x y := by
  have hw := K.2.2.2.1.1.2.1
  obtain ⟨-, p2, p3, p4, -, -⟩ := hw i (by omega)
  have nb : ¬ S2_kinds s2 i = 11 → i < c → S2_roles s2 (i + 1) ≠ 1 := fun z q r => by
    obtain ⟨sp, -⟩ := (hw (i + 1) (by omega)).2.2.2.2.2 i rfl
    rcases sp with s | s | s | s
    · exact z s.2.2.1
    · exact absurd s.2.2 (by rw [hro]; decide)
    · exact absurd s.1 (by rw [r]; decide)
    · exact absurd s.1 (by rw [r]; decide)
  rcases p4 with ⟨g1, -, g3, g4⟩ | ⟨g1, -, g3⟩ | g
  · exact pt_them K hc hi hR hr hat (nb (by rw [g1]; decide)) hm1 hm2 g1 g3 g4 p3
  · exact pt_all K hc hi hR hr hat hro g1 g3 p3
  · exact pt_single K hc hi hR hr hat (nb (Sg_kd g).1) g p2 p3
