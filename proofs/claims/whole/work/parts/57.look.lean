def MemR (s1 : S1) (m : S6) (n : Nat) : Prop :=
  S1_lastVerb s1 = S6_verb m ∧ (∃ mm, mm < 2 ^ n ∧ S1_lastMeant s1 = nI mm ∧ S6_meant m = nI mm) ∧ S1_lastDone s1 = S6_done m ∧ S1_lastTarget s1 = S6_into m ∧ ItR s1 m n
/-- what an order that is looked at leaves as it is -/
def keep6 (m : S6) := (S6_count m, S6_words m, S6_outcome m, S6_questions m, S6_length m, S6_order m, S6_answer m, S6_thrown m)
/-- what looking at an order comes to, on both sides -/
def LkR (s2 : S2) (c n kb : Nat) (s5 t5 : S5) (m m2 : S6) (r : Int32) (t1 : S1) (t4 : S4) : Prop :=
  keep6 m2 = keep6 m ∧ MemR t1 m2 n ∧ (∃ ko2, WI t4 n kb ko2 ∧ MI m2 t4 n kb ko2) ∧
  ((r = 5 ∧ S6_asked m2 = 0 ∧ S6_askedAt m2 = -1 ∧ ∃ i, i ≤ c ∧ t5 = S5_set_wrongPlace s5 (nI (E2 s2 i)) ∧ S6_wrongAt m2 = nI (E2 s2 i))
  ∨ (r = 1 ∧ S6_wrongAt m2 = S6_wrongAt m ∧ ∃ i q, i ≤ c ∧ 0 < q ∧ q < 2 ^ n ∧ t5 = S5_set_askedPhrase (S5_set_askedThings s5 (nI q)) (nI i) ∧ S6_asked m2 = nI q ∧ S6_askedAt m2 = nI (E2 s2 i))
  ∨ (r = 0 ∧ S6_wrongAt m2 = S6_wrongAt m ∧ S6_asked m2 = 0 ∧ S6_askedAt m2 = -1 ∧ t5 = s5))
theorem e_look {s0 : S0} {s1 : S1} {s2 : S2} {s4 : S4} {s5 : S5} {m : S6} {w : Nat → Int32} {len n kb ko c : Nat} (K : LK s1 s2 s4 m w len n kb ko c) (hc : c + 1 ≤ 24) (hM : MemR s1 m n) (hv : w 0 = 0 ∨ w 0 = 1 ∨ w 0 = 2 ∨ w 0 = 3 ∨ w 0 = 4) :
    ∃ r t0 t1 t4 t5 m2, fX5_lookAtOrder s0 s1 s2 s4 s5 = some (r, t0, t1, t4, t5) ∧ fX6_perform m = some (r, m2) ∧ LkR s2 c n kb s5 t5 m m2 r t1 t4 := by
  obtain ⟨b1, ⟨mm, b2, b3, b4⟩, b5, b6, b7⟩ := hM
  have K' := K
  obtain ⟨I, J, ho, hLF, hM, hA⟩ := K'
  have hn := I.1
  have hl := ho.2.1
  have hL := hLF.1.1
  have hw := hLF.1.2.1
  have hov := hLF.2.2.2
  have h0 := (hw 0 (by omega)).2.2.2.2.1 rfl
  have hlen : 0 < len := by
    have := (hw 0 (by omega)).2.2.1
    omega
  have K0 : LK s1 s2 s4 (S6_set_askedAt (S6_set_asked m 0) (-1)) w len n kb ko c := K
  have fd := e_fd K0 hc b3 b4 (c + 1) 64 64 0 0 (S0_set_choice (S0_set_openPhrase (S0_set_target (S0_set_group (S0_set_result (S0_set_reach s0 (nI (Rn s4 n ko))) 0) 0) (-1)) (-1)) 0) (by omega) (by omega) (by omega) (by omega) h0 (Nat.pow_pos (by decide)) rfl rfl rfl rfl
  have hsu : fX4_suited s4 (S2_orderVerb s2) = some (nI (Un s4 n kb ko (w 0))) := by
    rw [hov]
    refine e_suited I ?_
    rcases hv with h | h | h | h | h
    · exact Or.inl h
    · exact Or.inr (Or.inl h)
    · exact Or.inr (Or.inr (Or.inl h))
    · exact Or.inr (Or.inr (Or.inr (Or.inl h)))
    · exact Or.inr (Or.inr (Or.inr (Or.inr (Or.inl h))))
  have hfind : fX0_find s0 s1 s2 s4 = fX0_find_28 s1 s2 s4 64 (S0_set_choice (S0_set_openPhrase (S0_set_target (S0_set_group (S0_set_result (S0_set_reach s0 (nI (Rn s4 n ko))) 0) 0) (-1)) (-1)) 0) (nI (Un s4 n kb ko (w 0))) (nI 0) := by
    unfold fX0_find fX0_start
    rw [e_reachable I, bn1_s, bn1_s, hsu, bn1_s]
    rfl
  have hperf : fX6_perform m = fX6_perform_19 64 (S6_set_at (S6_set_askedAt (S6_set_asked m 0) (-1)) (nI (ST s2 0 - 1))) (nI 0) (-1) := rfl
  unfold fX5_lookAtOrder fX5_lookAtOrder_68
  rw [hfind, hperf]
  rcases fd with ⟨s0', t0, m2, f1, f2, f3⟩ | ⟨t0, x, gk, tg, f1, f2, f3, f4, f5, f6⟩
  · rw [f1, f2, bn2_s]
    obtain ⟨i, x, hi, ⟨rfl, rfl⟩ | ⟨q, q1, q2, rfl, rfl⟩⟩ := f3
    · have lp : fX2_lastPlaceOf s2 (S0_openPhrase (notS s0' i)) = some (nI (E2 s2 i)) := by
        show fX2_lastPlaceOf s2 (nI i) = _
        unfold fX2_lastPlaceOf fX2_lastPlaceOf_18
        rw [e_hasP hL hc hi, bn1_s, if_neg (by decide), ai24 (by omega), cl_nI (by omega), (hw i hi).1]
      rw [if_pos (show S0_result (notS s0' i) = 5 from rfl), lp, bn1_s]
      refine ⟨_, _, _, _, _, _, rfl, rfl, rfl, ⟨b1, ⟨mm, b2, b3, b4⟩, b5, b6, b7⟩, ⟨ko, I, J⟩, Or.inl ⟨rfl, rfl, rfl, i, by omega, rfl, rfl⟩⟩
    · rw [if_neg (show ¬ S0_result (askS s0' i q) = 5 by show ¬ (1 : Int32) = 5; decide), if_pos (show S0_result (askS s0' i q) = 1 from rfl)]
      have nz := pn_ne hn q1 q2
      have ff : fX6_failed (failX (S6_set_askedAt (S6_set_asked m 0) (-1)) x (E2 s2 i) q) = some (1, S6_set_askedAt (S6_set_asked (failX (S6_set_askedAt (S6_set_asked m 0) (-1)) x (E2 s2 i) q) (nI q)) (nI (E2 s2 i))) := by
        unfold fX6_failed
        rw [if_neg (show ¬ S6_choice (failX (S6_set_askedAt (S6_set_asked m 0) (-1)) x (E2 s2 i) q) = 0 from nz)]
        rfl
      rw [ff, bn2_s]
      refine ⟨_, _, _, _, _, _, rfl, rfl, rfl, ⟨b1, ⟨mm, b2, b3, b4⟩, b5, b6, b7⟩, ⟨ko, I, J⟩, Or.inr (Or.inl ⟨rfl, rfl, i, q, by omega, q1, q2, rfl, rfl, rfl⟩)⟩
  · rw [f1, f4, bn2_s, if_neg (by decide), if_neg (by decide)]
    sorry
