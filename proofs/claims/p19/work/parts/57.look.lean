theorem OR_of {a b : S6} {w : Nat → Int32} {len : Nat} (h1 : S6_length a = S6_length b) (h2 : S6_order a = S6_order b) (h : OR b w len) : OR a w len := by
  unfold OR
  rw [h1, h2]
  exact h
theorem AnR_of {s2 : S2} {a b : S6} {n i : Nat} (h : S6_answer a = S6_answer b) (q : AnR s2 b n i) : AnR s2 a n i := by
  unfold AnR
  rw [h]
  exact q
theorem ItR_of {s1 : S1} {a b : S6} {n : Nat} (h : S6_it a = S6_it b) (q : ItR s1 b n) : ItR s1 a n := by
  unfold ItR
  rw [h]
  exact q
theorem MemR_of {s1 : S1} {a b : S6} {n : Nat} (h1 : S6_verb a = S6_verb b) (h2 : S6_meant a = S6_meant b) (h3 : S6_done a = S6_done b) (h4 : S6_into a = S6_into b) (h5 : S6_it a = S6_it b) (q : MemR s1 b n) : MemR s1 a n := by
  obtain ⟨q1, ⟨mm, q2, q3, q4⟩, q5, q6, q7⟩ := q
  exact ⟨q1.trans h1.symm, ⟨mm, q2, q3, h2.trans q4⟩, q5.trans h3.symm, q6.trans h4.symm, ItR_of h5 q7⟩
def LkR (s2 : S2) (c n kb : Nat) (s5 t5 : S5) (m m2 : S6) (r : Int32) (t1 : S1) (t4 : S4) : Prop :=
  keep6 m2 = keep6 m ∧ MemR t1 m2 n ∧ (∃ ko2, WI t4 n kb ko2 ∧ MI m2 t4 n kb ko2) ∧
  ((r = 5 ∧ S6_asked m2 = 0 ∧ S6_askedAt m2 = -1 ∧ ∃ i, i ≤ c ∧ t5 = S5_set_wrongPlace s5 (nI (E2 s2 i)) ∧ S6_wrongAt m2 = nI (E2 s2 i))
  ∨ (r = 1 ∧ S6_wrongAt m2 = S6_wrongAt m ∧ ∃ i q, i ≤ c ∧ 0 < q ∧ q < 2 ^ n ∧ t5 = S5_set_askedPhrase (S5_set_askedThings s5 (nI q)) (nI i) ∧ S6_asked m2 = nI q ∧ S6_askedAt m2 = nI (E2 s2 i))
  ∨ (r = 0 ∧ S6_wrongAt m2 = S6_wrongAt m ∧ S6_asked m2 = 0 ∧ S6_askedAt m2 = -1 ∧ t5 = s5))
/-- F holds what m holds, but for what looking at an order needs -/
def SA (m F : S6) : Prop := keep6 F = keep6 m ∧ S6_verb F = S6_verb m ∧ S6_meant F = S6_meant m ∧ S6_done F = S6_done m ∧ S6_into F = S6_into m ∧ S6_it F = S6_it m ∧ S6_wrongAt F = S6_wrongAt m ∧ (∀ s n kb ko, MI m s n kb ko → MI F s n kb ko)
theorem SA_tr {a b c : S6} (h : SA a b) (g : SA b c) : SA a c := by
  obtain ⟨h1, h2, h3, h4, h5, h6, h7, h8⟩ := h
  obtain ⟨g1, g2, g3, g4, g5, g6, g7, g8⟩ := g
  exact ⟨g1.trans h1, g2.trans h2, g3.trans h3, g4.trans h4, g5.trans h5, g6.trans h6, g7.trans h7, fun s n kb ko J => g8 s n kb ko (h8 s n kb ko J)⟩
theorem SA_at (m : S6) (v : Int32) : SA m (S6_set_at m v) := ⟨k6_at m v, g_verb_at m v, g_meant_at m v, g_done_at m v, g_into_at m v, g_it_at m v, g_wrongAt_at m v, fun _ _ _ _ J => MI_at J v⟩
theorem SA_choice (m : S6) (v : Int32) : SA m (S6_set_choice m v) := ⟨k6_choice m v, g_verb_choice m v, g_meant_choice m v, g_done_choice m v, g_into_choice m v, g_it_choice m v, g_wrongAt_choice m v, fun _ _ _ _ J => MI_choice J v⟩
theorem SA_failedAt (m : S6) (v : Int32) : SA m (S6_set_failedAt m v) := ⟨k6_failedAt m v, g_verb_failedAt m v, g_meant_failedAt m v, g_done_failedAt m v, g_into_failedAt m v, g_it_failedAt m v, g_wrongAt_failedAt m v, fun _ _ _ _ J => MI_failedAt J v⟩
theorem SA_asked (m : S6) (v : Int32) : SA m (S6_set_asked m v) := ⟨k6_asked m v, g_verb_asked m v, g_meant_asked m v, g_done_asked m v, g_into_asked m v, g_it_asked m v, g_wrongAt_asked m v, fun _ _ _ _ J => MI_asked J v⟩
theorem SA_askedAt (m : S6) (v : Int32) : SA m (S6_set_askedAt m v) := ⟨k6_askedAt m v, g_verb_askedAt m v, g_meant_askedAt m v, g_done_askedAt m v, g_into_askedAt m v, g_it_askedAt m v, g_wrongAt_askedAt m v, fun _ _ _ _ J => MI_askedAt J v⟩
theorem failX_SA (A : S6) (x : Int32) (e q : Nat) : SA A (failX A x e q) := by
  unfold failX
  exact SA_tr (SA_at A x) (SA_tr (SA_failedAt _ _) (SA_choice _ _))
theorem failX_ex (A : S6) (x : Int32) (e q : Nat) : S6_choice (failX A x e q) = nI q ∧ S6_failedAt (failX A x e q) = nI e ∧ S6_asked (failX A x e q) = S6_asked A ∧ S6_askedAt (failX A x e q) = S6_askedAt A := by
  unfold failX
  rw [g_choice_choice, g_failedAt_choice, g_failedAt_failedAt, g_asked_choice, g_asked_failedAt, g_asked_at, g_askedAt_choice, g_askedAt_failedAt, g_askedAt_at]
  exact ⟨rfl, rfl, rfl, rfl⟩
theorem fail5 {F : S6} (h : S6_choice F = 0) : fX6_failed F = some (5, S6_set_wrongAt F (S6_failedAt F)) := by
  unfold fX6_failed
  rw [if_pos h]
theorem fail1 {F : S6} (h : ¬ S6_choice F = 0) : fX6_failed F = some (1, S6_set_askedAt (S6_set_asked F (S6_choice F)) (S6_failedAt F)) := by
  unfold fX6_failed
  rw [if_neg h, g_failedAt_asked]
theorem k6_oa {a b : S6} (h : keep6 a = keep6 b) : S6_length a = S6_length b ∧ S6_order a = S6_order b ∧ S6_answer a = S6_answer b := by
  simp only [keep6, Prod.mk.injEq] at h
  obtain ⟨-, -, -, -, h5, h6, h7, -⟩ := h
  exact ⟨h5, h6, h7⟩
theorem SA_LK {s1 : S1} {s2 : S2} {s4 : S4} {m A : S6} {w : Nat → Int32} {len n kb ko c : Nat} (h : SA m A) (K : LK s1 s2 s4 m w len n kb ko c) : LK s1 s2 s4 A w len n kb ko c := by
  obtain ⟨I, J, ho, hLF, hM, hA⟩ := K
  obtain ⟨h1, h2, h3, h4, h5, h6, h7, h8⟩ := h
  obtain ⟨k1, k2, k3⟩ := k6_oa h1
  exact ⟨I, h8 _ _ _ _ J, OR_of k1 k2 ho, hLF, ItR_of h6 hM, fun i hi => AnR_of k3 (hA i hi)⟩
theorem SA_Mem {s1 : S1} {m A : S6} {n : Nat} (h : SA m A) (q : MemR s1 m n) : MemR s1 A n := by
  obtain ⟨h1, h2, h3, h4, h5, h6, h7, h8⟩ := h
  exact MemR_of h2 h3 h4 h5 h6 q
theorem e_look {s0 : S0} {s1 : S1} {s2 : S2} {s4 : S4} {s5 : S5} {m : S6} {w : Nat → Int32} {len n kb ko c : Nat} (K : LK s1 s2 s4 m w len n kb ko c) (hc : c + 1 ≤ 24) (hM : MemR s1 m n) (hv : w 0 = 0 ∨ w 0 = 1 ∨ w 0 = 2 ∨ w 0 = 3 ∨ w 0 = 4) :
    ∃ r t0 t1 t4 t5 m2, fX5_lookAtOrder s0 s1 s2 s4 s5 = some (r, t0, t1, t4, t5) ∧ fX6_perform m = some (r, m2) ∧ LkR s2 c n kb s5 t5 m m2 r t1 t4 := by
  obtain ⟨I, J, ho, hLF, hM0, hA⟩ := id K
  have hn := I.1
  have hl := ho.2.1
  have hL := hLF.1.1
  have hw := hLF.1.2.1
  have hov := hLF.2.2.2
  have h0 := (hw 0 (by omega)).2.2.2.2.1 rfl
  have hlen : 0 < len := by
    have := (hw 0 (by omega)).2.2.1
    omega
  obtain ⟨A, hAe⟩ : ∃ A, A = S6_set_askedAt (S6_set_asked m 0) (-1) := ⟨_, rfl⟩
  have sA : SA m A := by
    rw [hAe]
    exact SA_tr (SA_asked m 0) (SA_askedAt _ _)
  have aA : S6_asked A = 0 ∧ S6_askedAt A = -1 := by
    rw [hAe, g_asked_askedAt, g_asked_asked, g_askedAt_askedAt]
    exact ⟨rfl, rfl⟩
  have hperf : fX6_perform m = fX6_perform_19 64 (S6_set_at A (nI (ST s2 0 - 1))) (nI 0) (-1) := by
    rw [hAe]
    rfl
  clear hAe
  have K0 := SA_LK sA K
  have M0 := SA_Mem sA hM
  obtain ⟨b1, ⟨mm, b2, b3, b4⟩, b5, b6, b7⟩ := id M0
  obtain ⟨Z, hZ⟩ : ∃ Z, Z = S0_set_choice (S0_set_openPhrase (S0_set_target (S0_set_group (S0_set_result (S0_set_reach s0 (nI (Rn s4 n ko))) 0) 0) (-1)) (-1)) 0 := ⟨_, rfl⟩
  have z1 : S0_group Z = nI 0 := by rw [hZ]; rfl
  have z2 : S0_reach Z = nI (Rn s4 n ko) := by rw [hZ]; rfl
  have z3 : S0_result Z = 0 := by rw [hZ]; rfl
  have z4 : S0_target Z = -1 := by rw [hZ]; rfl
  have hsu : fX4_suited s4 (S2_orderVerb s2) = some (nI (Un s4 n kb ko (w 0))) := by
    rw [hov]
    refine e_suited I ?_
    rcases hv with h | h | h | h | h
    · exact Or.inl h
    · exact Or.inr (Or.inl h)
    · exact Or.inr (Or.inr (Or.inl h))
    · exact Or.inr (Or.inr (Or.inr (Or.inl h)))
    · exact Or.inr (Or.inr (Or.inr (Or.inr (Or.inl h))))
  have hfind : fX0_find s0 s1 s2 s4 = fX0_find_28 s1 s2 s4 64 Z (nI (Un s4 n kb ko (w 0))) (nI 0) := by
    unfold fX0_find fX0_start
    rw [e_reachable I, bn1_s, bn1_s, hsu, bn1_s, hZ]
    rfl
  clear hZ
  have fd := e_fd K0 hc b3 b4 (c + 1) 64 64 0 0 Z (by omega) (by omega) (by omega) (by omega) h0 (Nat.pow_pos (by decide)) z1 z2 z3 z4
  unfold fX5_lookAtOrder fX5_lookAtOrder_68
  rw [hfind, hperf]
  rcases fd with ⟨s0', t0, m2, f1, f2, f3⟩ | ⟨t0, x, gk, tg, f1, f2, f3, f4, f5, f6⟩
  · rw [f1, f2, bn2_s]
    obtain ⟨i, x, hi, f3⟩ := f3
    rcases f3 with ⟨ht, hm⟩ | ⟨q, q1, q2, ht, hm⟩
    · have rt : S0_result t0 = 5 := by rw [ht]; rfl
      have ot : S0_openPhrase t0 = nI i := by rw [ht]; rfl
      have lp : fX2_lastPlaceOf s2 (S0_openPhrase t0) = some (nI (E2 s2 i)) := by
        rw [ot]
        unfold fX2_lastPlaceOf fX2_lastPlaceOf_18
        rw [e_hasP hL hc hi, bn1_s, if_neg (by decide), ai24 (by omega), cl_nI (by omega), (hw i hi).1]
      have sF := failX_SA A x (E2 s2 i) 0
      obtain ⟨c1, c2, c3, c4⟩ := failX_ex A x (E2 s2 i) 0
      rw [← hm] at sF c1 c2 c3 c4
      have sM := SA_tr sA sF
      rw [if_pos rt, lp, bn1_s, fail5 c1, bn2_s, c2]
      refine ⟨_, _, _, _, _, _, rfl, by rw [rt], (k6_wrongAt _ _).trans sM.1, MemR_of (g_verb_wrongAt _ _) (g_meant_wrongAt _ _) (g_done_wrongAt _ _) (g_into_wrongAt _ _) (g_it_wrongAt _ _) (SA_Mem sM hM), ⟨ko, I, MI_wrongAt (sM.2.2.2.2.2.2.2 _ _ _ _ J) _⟩, Or.inl ⟨rt, ?_, ?_, i, by omega, rfl, g_wrongAt_wrongAt _ _⟩⟩
      · rw [g_asked_wrongAt, c3]; exact aA.1
      · rw [g_askedAt_wrongAt, c4]; exact aA.2
    · have rt : S0_result t0 = 1 := by rw [ht]; rfl
      have ot : S0_openPhrase t0 = nI i := by rw [ht]; rfl
      have ct : S0_choice t0 = nI q := by rw [ht]; rfl
      have nz := pn_ne hn q1 q2
      have sF := failX_SA A x (E2 s2 i) q
      obtain ⟨c1, c2, c3, c4⟩ := failX_ex A x (E2 s2 i) q
      rw [← hm] at sF c1 c2 c3 c4
      have sM := SA_tr sA sF
      have sN := SA_tr sM (SA_tr (SA_asked m2 (nI q)) (SA_askedAt _ (nI (E2 s2 i))))
      rw [rt, if_neg (by decide), if_pos rfl, ot, ct, fail1 (by rw [c1]; exact nz), bn2_s, c1, c2]
      refine ⟨_, _, _, _, _, _, rfl, rfl, sN.1, SA_Mem sN hM, ⟨ko, I, sN.2.2.2.2.2.2.2 _ _ _ _ J⟩, Or.inr (Or.inl ⟨rfl, sN.2.2.2.2.2.2.1, i, q, by omega, q1, q2, rfl, ?_, g_askedAt_askedAt _ _⟩)⟩
      rw [g_asked_askedAt, g_asked_asked]
  · have sX := SA_tr sA (SA_at A x)
    have h01 : S6_order (S6_set_at A x) 0 = w 0 := (SA_LK (SA_at A x) K0).2.2.1.2.2 0 hlen
    have JX : MI (S6_set_at A x) s4 n kb ko := sX.2.2.2.2.2.2.2 _ _ _ _ J
    have iX : ItR s1 (S6_set_at A x) n := ItR_of (g_it_at A x) b7
    obtain ⟨t1, t4, m2, g1, g2, g3, g4, g5, g6, g7, g8⟩ := e_fin (t0 := t0) (s1 := s1) (s5 := s5) I JX h01 hv hov f2 f3 f5 f6 iX
    rw [f1, f4, bn2_s, if_neg (by decide), if_neg (by decide), g1, bn2_s]
    refine ⟨_, _, _, _, _, _, rfl, g2, g5.trans sX.1, g3, g4, Or.inr (Or.inr ⟨rfl, g6.trans sX.2.2.2.2.2.2.1, ?_, ?_, rfl⟩)⟩
    · rw [g7, g_asked_at]; exact aA.1
    · rw [g8, g_askedAt_at]; exact aA.2
