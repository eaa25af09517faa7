theorem bn2_id {α β : Type} (x : Option (α × β)) : bn2 x (fun a b => some (a, b)) = x := by
  cases x <;> rfl
theorem kp_things (m : S6) (v : Int32) : kp (S6_set_things m v) = kp m := rfl
theorem kp_noun (m : S6) (v : Nat → Int32) : kp (S6_set_noun m v) = kp m := rfl
theorem kp_adjectives (m : S6) (v : Nat → Int32) : kp (S6_set_adjectives m v) = kp m := rfl
theorem kp_box (m : S6) (v : Nat → Int32) : kp (S6_set_box m v) = kp m := rfl
theorem kp_open (m : S6) (v : Nat → Int32) : kp (S6_set_open m v) = kp m := rfl
theorem kp_place (m : S6) (v : Nat → Int32) : kp (S6_set_place m v) = kp m := rfl
theorem kp_wrongAt (m : S6) (v : Int32) : kp (S6_set_wrongAt m v) = kp m := rfl
theorem kp_verb (m : S6) (v : Int32) : kp (S6_set_verb m v) = kp m := rfl
theorem kp_meant (m : S6) (v : Int32) : kp (S6_set_meant m v) = kp m := rfl
theorem kp_done (m : S6) (v : Int32) : kp (S6_set_done m v) = kp m := rfl
theorem kp_into (m : S6) (v : Int32) : kp (S6_set_into m v) = kp m := rfl
theorem kp_it (m : S6) (v : Int32) : kp (S6_set_it m v) = kp m := rfl
theorem kp_length (m : S6) (v : Int32) : kp (S6_set_length m v) = kp m := rfl
theorem kp_order (m : S6) (v : Nat → Int32) : kp (S6_set_order m v) = kp m := rfl
theorem kp_answer (m : S6) (v : Nat → Int32) : kp (S6_set_answer m v) = kp m := rfl
theorem kp_asked (m : S6) (v : Int32) : kp (S6_set_asked m v) = kp m := rfl
theorem kp_askedAt (m : S6) (v : Int32) : kp (S6_set_askedAt m v) = kp m := rfl
theorem kp_at (m : S6) (v : Int32) : kp (S6_set_at m v) = kp m := rfl
theorem kp_failedAt (m : S6) (v : Int32) : kp (S6_set_failedAt m v) = kp m := rfl
theorem kp_choice (m : S6) (v : Int32) : kp (S6_set_choice m v) = kp m := rfl
theorem S6_ext {a b : S6} (h0 : S6_things a = S6_things b) (h1 : S6_noun a = S6_noun b) (h2 : S6_adjectives a = S6_adjectives b) (h3 : S6_box a = S6_box b) (h4 : S6_open a = S6_open b) (h5 : S6_place a = S6_place b) (h6 : S6_count a = S6_count b) (h7 : S6_words a = S6_words b) (h8 : S6_outcome a = S6_outcome b) (h9 : S6_wrongAt a = S6_wrongAt b) (h10 : S6_verb a = S6_verb b) (h11 : S6_meant a = S6_meant b) (h12 : S6_done a = S6_done b) (h13 : S6_into a = S6_into b) (h14 : S6_it a = S6_it b) (h15 : S6_questions a = S6_questions b) (h16 : S6_length a = S6_length b) (h17 : S6_order a = S6_order b) (h18 : S6_answer a = S6_answer b) (h19 : S6_asked a = S6_asked b) (h20 : S6_askedAt a = S6_askedAt b) (h21 : S6_at a = S6_at b) (h22 : S6_failedAt a = S6_failedAt b) (h23 : S6_choice a = S6_choice b) (h24 : S6_thrown a = S6_thrown b) : a = b := (Prod.ext h0 (Prod.ext h1 (Prod.ext h2 (Prod.ext h3 (Prod.ext h4 (Prod.ext h5 (Prod.ext h6 (Prod.ext h7 (Prod.ext h8 (Prod.ext h9 (Prod.ext h10 (Prod.ext h11 (Prod.ext h12 (Prod.ext h13 (Prod.ext h14 (Prod.ext h15 (Prod.ext h16 (Prod.ext h17 (Prod.ext h18 (Prod.ext h19 (Prod.ext h20 (Prod.ext h21 (Prod.ext h22 (Prod.ext h23 h24))))))))))))))))))))))))
theorem oa_step (t : S6) (o a o2 a2 : Nat → Int32) : S6_set_answer (S6_set_order (S6_set_answer (S6_set_order t o) a) o2) a2 = S6_set_answer (S6_set_order t o2) a2 :=
  S6_ext (by rw [g_things_answer, g_things_order, g_things_answer, g_things_order, g_things_answer, g_things_order]) (by rw [g_noun_answer, g_noun_order, g_noun_answer, g_noun_order, g_noun_answer, g_noun_order]) (by rw [g_adjectives_answer, g_adjectives_order, g_adjectives_answer, g_adjectives_order, g_adjectives_answer, g_adjectives_order]) (by rw [g_box_answer, g_box_order, g_box_answer, g_box_order, g_box_answer, g_box_order]) (by rw [g_open_answer, g_open_order, g_open_answer, g_open_order, g_open_answer, g_open_order]) (by rw [g_place_answer, g_place_order, g_place_answer, g_place_order, g_place_answer, g_place_order]) (by rw [g_count_answer, g_count_order, g_count_answer, g_count_order, g_count_answer, g_count_order]) (by rw [g_words_answer, g_words_order, g_words_answer, g_words_order, g_words_answer, g_words_order]) (by rw [g_outcome_answer, g_outcome_order, g_outcome_answer, g_outcome_order, g_outcome_answer, g_outcome_order]) (by rw [g_wrongAt_answer, g_wrongAt_order, g_wrongAt_answer, g_wrongAt_order, g_wrongAt_answer, g_wrongAt_order]) (by rw [g_verb_answer, g_verb_order, g_verb_answer, g_verb_order, g_verb_answer, g_verb_order]) (by rw [g_meant_answer, g_meant_order, g_meant_answer, g_meant_order, g_meant_answer, g_meant_order]) (by rw [g_done_answer, g_done_order, g_done_answer, g_done_order, g_done_answer, g_done_order]) (by rw [g_into_answer, g_into_order, g_into_answer, g_into_order, g_into_answer, g_into_order]) (by rw [g_it_answer, g_it_order, g_it_answer, g_it_order, g_it_answer, g_it_order]) (by rw [g_questions_answer, g_questions_order, g_questions_answer, g_questions_order, g_questions_answer, g_questions_order]) (by rw [g_length_answer, g_length_order, g_length_answer, g_length_order, g_length_answer, g_length_order]) (by rw [g_order_answer, g_order_order, g_order_answer, g_order_order]) (by rw [g_answer_answer, g_answer_answer]) (by rw [g_asked_answer, g_asked_order, g_asked_answer, g_asked_order, g_asked_answer, g_asked_order]) (by rw [g_askedAt_answer, g_askedAt_order, g_askedAt_answer, g_askedAt_order, g_askedAt_answer, g_askedAt_order]) (by rw [g_at_answer, g_at_order, g_at_answer, g_at_order, g_at_answer, g_at_order]) (by rw [g_failedAt_answer, g_failedAt_order, g_failedAt_answer, g_failedAt_order, g_failedAt_answer, g_failedAt_order]) (by rw [g_choice_answer, g_choice_order, g_choice_answer, g_choice_order, g_choice_answer, g_choice_order]) (by rw [g_thrown_answer, g_thrown_order, g_thrown_answer, g_thrown_order, g_thrown_answer, g_thrown_order])
theorem oa_eta (m : S6) : S6_set_answer (S6_set_order m (S6_order m)) (S6_answer m) = m :=
  S6_ext (by rw [g_things_answer, g_things_order]) (by rw [g_noun_answer, g_noun_order]) (by rw [g_adjectives_answer, g_adjectives_order]) (by rw [g_box_answer, g_box_order]) (by rw [g_open_answer, g_open_order]) (by rw [g_place_answer, g_place_order]) (by rw [g_count_answer, g_count_order]) (by rw [g_words_answer, g_words_order]) (by rw [g_outcome_answer, g_outcome_order]) (by rw [g_wrongAt_answer, g_wrongAt_order]) (by rw [g_verb_answer, g_verb_order]) (by rw [g_meant_answer, g_meant_order]) (by rw [g_done_answer, g_done_order]) (by rw [g_into_answer, g_into_order]) (by rw [g_it_answer, g_it_order]) (by rw [g_questions_answer, g_questions_order]) (by rw [g_length_answer, g_length_order]) (by rw [g_order_answer, g_order_order]) (g_answer_answer _ _) (by rw [g_asked_answer, g_asked_order]) (by rw [g_askedAt_answer, g_askedAt_order]) (by rw [g_at_answer, g_at_order]) (by rw [g_failedAt_answer, g_failedAt_order]) (by rw [g_choice_answer, g_choice_order]) (by rw [g_thrown_answer, g_thrown_order])
/-- an order's words are kept, without answers -/
theorem e_u59 {t : S6} {w : Nat → Int32} {len : Nat} (hw : S6_words t = w) (hc : S6_count t = nI len) (hl : len ≤ 24) : ∀ (d fu k : Nat) (o a : Nat → Int32), k + d = len → d < fu → ∃ o' a', fX6_understand_59 fu (S6_set_answer (S6_set_order t o) a) (nI k) = fX6_perform (S6_set_answer (S6_set_order t o') a') ∧ (∀ j, k ≤ j → j < len → o' j = w j ∧ a' j = -1) ∧ (∀ j, j < k → o' j = o j ∧ a' j = a j)
  | 0, fu, k, o, a, h, hf => by
    obtain ⟨g, rfl⟩ : ∃ g, fu = g + 1 := ⟨fu - 1, by omega⟩
    have e : k = len := by omega
    subst e
    refine ⟨o, a, ?_, fun j q1 q2 => absurd q1 (by omega), fun j _ => ⟨rfl, rfl⟩⟩
    rw [fX6_understand_59, g_count_answer, g_count_order, hc, if_pos (nI_le (Nat.le_refl k) (by omega)), bn2_id]
  | d + 1, fu, k, o, a, h, hf => by
    obtain ⟨g, rfl⟩ : ∃ g, fu = g + 1 := ⟨fu - 1, by omega⟩
    obtain ⟨o', a', i1, i2, i3⟩ := e_u59 hw hc hl d g (k + 1) (upd o k (w k)) (upd a k (-1)) (by omega) (by omega)
    refine ⟨o', a', ?_, fun j q1 q2 => ?_, fun j q => ?_⟩
    · rw [fX6_understand_59, g_count_answer, g_count_order, hc, if_neg (nI_ge (by omega) (by omega)), ai24 (by omega), ai24 (by omega), ai24 (by omega), cl_nI (by omega), nI_1, g_answer_order, g_answer_answer, g_order_answer, g_order_order, g_words_answer, g_words_order, hw, oa_step]
      exact i1
    · by_cases e : j = k
      · subst e
        obtain ⟨x, y⟩ := i3 j (by omega)
        rw [x, y, up_same, up_same]
        exact ⟨rfl, rfl⟩
      · exact i2 j (by omega) q2
    · obtain ⟨x, y⟩ := i3 j (by omega)
      rw [x, y, up_ne _ _ (by omega), up_ne _ _ (by omega)]
      exact ⟨rfl, rfl⟩
def isV (x : Int32) : Prop := x = 0 ∨ x = 1 ∨ x = 2 ∨ x = 3 ∨ x = 4
theorem cV {x : Int32} (h : isV x) : fX5_isVerb x = some 1 := by
  rcases h with h | h | h | h | h <;> rw [h] <;> rfl
theorem mV {x : Int32} (h : isV x) : fX6_isVerb x = some 1 := by
  rcases h with h | h | h | h | h <;> rw [h] <;> rfl
theorem SA_kp {m A : S6} (h : SA m A) : kp A = kp m := (k6_ex h.1).1
theorem kp_ex {a b : S6} (h : kp a = kp b) : S6_count a = S6_count b ∧ S6_words a = S6_words b ∧ S6_outcome a = S6_outcome b ∧ S6_questions a = S6_questions b := by
  simp only [kp, Prod.mk.injEq] at h
  obtain ⟨h1, h2, h3, h4, h5⟩ := h
  exact ⟨h1, h2, h3, h4⟩
theorem WS_kp {a b : S6} {w : Nat → Int32} {len : Nat} (h : kp a = kp b) (hs : WS b w len) : WS a w len := by
  obtain ⟨h1, h2, h3, h4⟩ := kp_ex h
  exact ⟨h2.trans hs.1, h1.trans hs.2.1, hs.2.2⟩
/-- the cells that an order's words are kept in -/
theorem oa_ex (t : S6) (o a : Nat → Int32) : kp (S6_set_answer (S6_set_order t o) a) = kp t ∧ S6_length (S6_set_answer (S6_set_order t o) a) = S6_length t ∧ S6_order (S6_set_answer (S6_set_order t o) a) = o ∧ S6_answer (S6_set_answer (S6_set_order t o) a) = a ∧
    S6_verb (S6_set_answer (S6_set_order t o) a) = S6_verb t ∧ S6_meant (S6_set_answer (S6_set_order t o) a) = S6_meant t ∧ S6_done (S6_set_answer (S6_set_order t o) a) = S6_done t ∧ S6_into (S6_set_answer (S6_set_order t o) a) = S6_into t ∧ S6_it (S6_set_answer (S6_set_order t o) a) = S6_it t ∧ S6_wrongAt (S6_set_answer (S6_set_order t o) a) = S6_wrongAt t ∧ (∀ s n kb ko, MI t s n kb ko → MI (S6_set_answer (S6_set_order t o) a) s n kb ko) := by
  refine ⟨?_, ?_, ?_, ?_, ?_, ?_, ?_, ?_, ?_, ?_, fun s n kb ko J => MI_answer (MI_order J o) a⟩
  · unfold kp
    rw [g_count_answer, g_count_order, g_words_answer, g_words_order, g_outcome_answer, g_outcome_order, g_questions_answer, g_questions_order, g_thrown_answer, g_thrown_order]
  · rw [g_length_answer, g_length_order]
  · rw [g_order_answer, g_order_order]
  · rw [g_answer_answer]
  · rw [g_verb_answer, g_verb_order]
  · rw [g_meant_answer, g_meant_order]
  · rw [g_done_answer, g_done_order]
  · rw [g_into_answer, g_into_order]
  · rw [g_it_answer, g_it_order]
  · rw [g_wrongAt_answer, g_wrongAt_order]
theorem nz_len {len : Nat} (h : 1 ≤ len) (h2 : len ≤ 24) : ¬ nI len = 0 := fun q => by
  have := nI_inj (a := len) (b := 0) (by omega) (by decide) q
  omega
/-- an order that is heard: both sides -/
theorem e_hearOrder {s0 : S0} {s1 : S1} {s2 : S2} {s4 : S4} {s5 : S5} {m : S6} {w : Nat → Int32} {len n kb ko : Nat} {adj noun : Int32} (I : WI s4 n kb ko) (J : MI m s4 n kb ko) (hM : MemR s1 m n) (hs : WS m w len) (hv : isV (w 0)) (hw5 : S5_wrongPlace s5 = -1) (hwm : S6_wrongAt m = -1) :
    ∃ r t0 t1 t2 t3 t4 t5 m2, fX5_hearOrder s0 s1 s2 (mk3 w len 0 adj noun) s4 s5 = some (r, t0, t1, t2, t3, t4, t5) ∧ fX6_understand m = some (r, m2) ∧ HR t2 n kb s5 t5 m m2 t1 t4 ∧ ∃ p a nn, t3 = mk3 w len p a nn := by
  have hl := hs.2.2.2
  have h1 := hs.2.2.1
  obtain ⟨A, hAe⟩ : ∃ A, A = S6_set_askedAt (S6_set_asked m 0) (-1) := ⟨_, rfl⟩
  have sA : SA m A := by
    rw [hAe]
    exact SA_tr (SA_asked m 0) (SA_askedAt _ _)
  have aA : S6_asked A = 0 ∧ S6_askedAt A = -1 := by
    rw [hAe, g_asked_askedAt, g_asked_asked, g_askedAt_askedAt]
    exact ⟨rfl, rfl⟩
  have hund : fX6_understand m = bn1 (fX6_wrongOrder A) fun r_8 => if S6_wrongAt (S6_set_wrongAt A r_8) = -1 then fX6_understand_59 64 (S6_set_length (S6_set_wrongAt A r_8) (S6_count (S6_set_wrongAt A r_8))) 0 else some (4, S6_set_wrongAt A r_8) := by
    unfold fX6_understand
    rw [hs.2.1, if_neg (nz_len h1 hl), ai24_0, cl0, hs.1, mV hv, bn1_s, if_neg (by decide), ← hAe]
  have sAw : ∀ v, kp (S6_set_wrongAt A v) = kp m := fun v => (kp_wrongAt A v).trans (SA_kp sA)
  have hsA := WS_kp (SA_kp sA) hs
  obtain ⟨D, hD⟩ : ∃ D, D = S5_set_askedPhrase (S5_set_askedThings s5 0) (-1) := ⟨_, rfl⟩
  have d1 : S5_askedThings D = 0 := by rw [hD]; rfl
  have d2 : S5_wrongPlace D = -1 := by rw [hD]; exact hw5
  have d3 : S5_questionCount D = S5_questionCount s5 := by rw [hD]; rfl
  have hdq : fX5_dropQuestion s5 = some D := by rw [hD]; rfl
  have h0 : ¬ w 0 < 0 := by
    rcases hv with h | h | h | h | h <;> rw [h] <;> decide
  unfold fX5_hearOrder
  rw [hund, hdq, bn1_s]
  rcases e_read hsA s2 adj noun h0 with ⟨t3, c, p, a, nn, r1, r2, r3⟩ | ⟨t3, e, a, nn, r1, r0, r3⟩
  · rw [r1, bn3_s, if_neg (by decide), r3, bn1_s, g_wrongAt_wrongAt, if_pos rfl]
    obtain ⟨L, hLe⟩ : ∃ L, L = S6_set_length (S6_set_wrongAt A (-1)) (S6_count (S6_set_wrongAt A (-1))) := ⟨_, rfl⟩
    have L1 : kp L = kp m := by
      rw [hLe, kp_length]
      exact sAw (-1)
    have L2 : S6_length L = nI len := by
      rw [hLe, g_length_length, (kp_ex (sAw (-1))).1]
      exact hs.2.1
    have L3 : S6_wrongAt L = -1 := by rw [hLe, g_wrongAt_length, g_wrongAt_wrongAt]
    have L4 : MI L s4 n kb ko := by
      rw [hLe]
      exact MI_length (MI_wrongAt (sA.2.2.2.2.2.2.2 _ _ _ _ J) _) _
    have L5 : MemR s1 L n := by
      rw [hLe]
      exact MemR_of (g_verb_length _ _) (g_meant_length _ _) (g_done_length _ _) (g_into_length _ _) (g_it_length _ _) (MemR_of (g_verb_wrongAt _ _) (g_meant_wrongAt _ _) (g_done_wrongAt _ _) (g_into_wrongAt _ _) (g_it_wrongAt _ _) (SA_Mem sA hM))
    rw [← hLe]
    clear hLe hund hAe
    have hsL := WS_kp L1 hs
    obtain ⟨o', a', u1, u2, -⟩ := e_u59 hsL.1 hsL.2.1 hl len 64 0 (S6_order L) (S6_answer L) (by omega) (by omega)
    rw [oa_eta] at u1
    obtain ⟨p1, p2, p3, p4, p5, p6, p7, p8, p9, p10, p11⟩ := oa_ex L o' a'
    obtain ⟨P, hP⟩ : ∃ P, P = S6_set_answer (S6_set_order L o') a' := ⟨_, rfl⟩
    rw [← hP] at u1 p1 p2 p3 p4 p5 p6 p7 p8 p9 p10 p11
    clear hP
    have hph := r2.1.2.1
    have hle : c + 1 ≤ 24 := by
      have x := E2_ge hph c (by omega)
      have y := (hph c (by omega)).2.2.1
      omega
    have K : LK s1 t3 s4 P w len n kb ko c := by
      refine ⟨I, p11 _ _ _ _ L4, ⟨p2.trans L2, hl, fun j hj => ?_⟩, ⟨⟨r2.1.1, hph, trivial⟩, r2.2⟩, ItR_of p9 L5.2.2.2.2, fun i hi => Or.inl ⟨r2.1.2.2 i hi, ?_⟩⟩
      · rw [p3]
        exact (u2 j (Nat.zero_le j) hj).1
      · rw [p4]
        exact (u2 _ (Nat.zero_le _) (hph i hi).2.2.1).2
    obtain ⟨r, t0, t1, t4, t5, m2, f1, f2, g1, g2, g3, g4, g5, g6⟩ := e_lookQ (s0 := s0) (s5 := D) K hle (MemR_of p5 p6 p7 p8 p9 L5) hv d1 (d2.trans (p10.trans L3).symm)
    rw [f1, bn5_s]
    refine ⟨_, _, _, _, _, _, _, _, rfl, u1.trans f2, ⟨g1.trans (p1.trans L1), g2, g3, g4, g5.trans d3, g6⟩, _, _, _, rfl⟩
  · have ne : ¬ nI e = -1 := nI_ne1 (by omega)
    rw [r1, bn3_s, if_pos rfl, r3, bn1_s, g_wrongAt_wrongAt, if_neg ne]
    refine ⟨_, _, _, _, _, _, _, _, rfl, rfl, ⟨sAw _, MemR_of (g_verb_wrongAt _ _) (g_meant_wrongAt _ _) (g_done_wrongAt _ _) (g_into_wrongAt _ _) (g_it_wrongAt _ _) (SA_Mem sA hM), ⟨ko, I, MI_wrongAt (sA.2.2.2.2.2.2.2 _ _ _ _ J) _⟩, (g_wrongAt_wrongAt _ _).symm, d3, Or.inl ⟨d1, ?_, ?_⟩⟩, _, _, _, rfl⟩
    · rw [g_asked_wrongAt]; exact aA.1
    · rw [g_askedAt_wrongAt]; exact aA.2
