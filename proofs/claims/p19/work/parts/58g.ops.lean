theorem SR_thr {s1 : S1} {s2 : S2} {s3 : S3} {s4 : S4} {s5 : S5} {m : S6} (h : SR s1 s2 s3 s4 s5 m) (v : Int32) : SR s1 s2 s3 s4 s5 (S6_set_thrown m v) := by
  obtain ⟨n, kb, ko, len, w, adj, noun, I, J, hM, ⟨h1, hl, hw, hc⟩, ⟨ho, hp, hq⟩, hQ⟩ := h
  have sB := SB_thrown m v
  refine ⟨n, kb, ko, len, w, adj, noun, I, sB.2.2 _ _ _ _ J, SB_Mem sB hM, ⟨h1, hl, ?_, ?_⟩, ⟨?_, ?_, ?_⟩, SB_Q sB rfl rfl hQ⟩
  · rw [g_words_thrown]; exact hw
  · rw [g_count_thrown]; exact hc
  · rw [g_outcome_thrown]; exact ho
  · rw [g_wrongAt_thrown]; exact hp
  · rw [g_questions_thrown]; exact hq
theorem op_outcome {s1 : S1} {s2 : S2} {s3 : S3} {s4 : S4} {s5 : S5} {m : S6} (h : SR s1 s2 s3 s4 s5 m) : ∃ r, fX5_outcome s5 = some r ∧ fX6_outcome m = some (r, S6_set_thrown m 0) := by
  obtain ⟨n, kb, ko, len, w, adj, noun, I, J, hM, ⟨h1, hl, hw, hc⟩, ⟨ho, hp, hq⟩, hQ⟩ := h
  refine ⟨S6_outcome m, ?_, ?_⟩
  · unfold fX5_outcome
    rw [ho]
  · unfold fX6_outcome
    rw [g_outcome_thrown]
theorem op_wrongAt {s1 : S1} {s2 : S2} {s3 : S3} {s4 : S4} {s5 : S5} {m : S6} (h : SR s1 s2 s3 s4 s5 m) : ∃ r, fX5_wrongAt s5 = some r ∧ fX6_wrongAt m = some (r, S6_set_thrown m 0) := by
  obtain ⟨n, kb, ko, len, w, adj, noun, I, J, hM, ⟨h1, hl, hw, hc⟩, ⟨ho, hp, hq⟩, hQ⟩ := h
  refine ⟨S6_wrongAt m, ?_, ?_⟩
  · unfold fX5_wrongAt
    rw [hp]
  · unfold fX6_wrongAt
    rw [g_wrongAt_thrown]
theorem op_questions {s1 : S1} {s2 : S2} {s3 : S3} {s4 : S4} {s5 : S5} {m : S6} (h : SR s1 s2 s3 s4 s5 m) : ∃ r, fX5_questions s5 = some r ∧ fX6_questions m = some (r, S6_set_thrown m 0) := by
  obtain ⟨n, kb, ko, len, w, adj, noun, I, J, hM, ⟨h1, hl, hw, hc⟩, ⟨ho, hp, hq⟩, hQ⟩ := h
  refine ⟨S6_questions m, ?_, ?_⟩
  · unfold fX5_questions
    rw [hq]
  · unfold fX6_questions
    rw [g_questions_thrown]
theorem op_verb {s1 : S1} {s2 : S2} {s3 : S3} {s4 : S4} {s5 : S5} {m : S6} (h : SR s1 s2 s3 s4 s5 m) : ∃ r, fX5_verb s1 s5 = some r ∧ fX6_verb m = some (r, S6_set_thrown m 0) := by
  obtain ⟨n, kb, ko, len, w, adj, noun, I, J, hM, ⟨h1, hl, hw, hc⟩, ⟨ho, hp, hq⟩, hQ⟩ := h
  refine ⟨S6_verb m, ?_, ?_⟩
  · unfold fX5_verb
    rw [hM.1]
  · unfold fX6_verb
    rw [g_verb_thrown]
theorem op_done {s1 : S1} {s2 : S2} {s3 : S3} {s4 : S4} {s5 : S5} {m : S6} (h : SR s1 s2 s3 s4 s5 m) : ∃ r, fX5_done s1 s5 = some r ∧ fX6_done m = some (r, S6_set_thrown m 0) := by
  obtain ⟨n, kb, ko, len, w, adj, noun, I, J, hM, ⟨h1, hl, hw, hc⟩, ⟨ho, hp, hq⟩, hQ⟩ := h
  refine ⟨S6_done m, ?_, ?_⟩
  · unfold fX5_done
    rw [hM.2.2.1]
  · unfold fX6_done
    rw [g_done_thrown]
theorem op_into {s1 : S1} {s2 : S2} {s3 : S3} {s4 : S4} {s5 : S5} {m : S6} (h : SR s1 s2 s3 s4 s5 m) : ∃ r, fX5_into s1 s5 = some r ∧ fX6_into m = some (r, S6_set_thrown m 0) := by
  obtain ⟨n, kb, ko, len, w, adj, noun, I, J, hM, ⟨h1, hl, hw, hc⟩, ⟨ho, hp, hq⟩, hQ⟩ := h
  refine ⟨S6_into m, ?_, ?_⟩
  · unfold fX5_into
    rw [hM.2.2.2.1]
  · unfold fX6_into
    rw [g_into_thrown]
theorem op_asked {s1 : S1} {s2 : S2} {s3 : S3} {s4 : S4} {s5 : S5} {m : S6} (h : SR s1 s2 s3 s4 s5 m) : ∃ r, fX5_asked s5 = some r ∧ fX6_asked m = some (r, S6_set_thrown m 0) := by
  obtain ⟨n, kb, ko, len, w, adj, noun, I, J, hM, ⟨h1, hl, hw, hc⟩, ⟨ho, hp, hq⟩, hQ⟩ := h
  refine ⟨S6_asked m, ?_, ?_⟩
  · unfold fX5_asked
    rw [QR_nz I.1 hQ]
  · unfold fX6_asked
    rw [g_asked_thrown]
theorem op_meant {s1 : S1} {s2 : S2} {s3 : S3} {s4 : S4} {s5 : S5} {m : S6} (h : SR s1 s2 s3 s4 s5 m) : ∃ r, fX5_meant s1 s5 = some r ∧ fX6_meant m = some (r, S6_set_thrown m 0) := by
  obtain ⟨n, kb, ko, len, w, adj, noun, I, J, hM, ⟨h1, hl, hw, hc⟩, ⟨ho, hp, hq⟩, hQ⟩ := h
  obtain ⟨-, ⟨mm, -, a1, a2⟩, -⟩ := hM
  refine ⟨S6_meant m, ?_, ?_⟩
  · unfold fX5_meant
    rw [a1, a2]
  · unfold fX6_meant
    rw [g_meant_thrown]
theorem op_askedAt {s1 : S1} {s2 : S2} {s3 : S3} {s4 : S4} {s5 : S5} {m : S6} (h : SR s1 s2 s3 s4 s5 m) : ∃ r, fX5_askedAt s2 s5 = some r ∧ fX6_askedAt m = some (r, S6_set_thrown m 0) := by
  obtain ⟨n, kb, ko, len, w, adj, noun, I, J, hM, ⟨h1, hl, hw, hc⟩, ⟨ho, hp, hq⟩, hQ⟩ := h
  refine ⟨S6_askedAt m, ?_, ?_⟩
  · unfold fX5_askedAt fX5_askedAt_22
    rcases hQ with ⟨q1, q2, q3⟩ | ⟨q, i, c, w', len', ⟨q1, q2, q3, q4, q5, q6, q7, q8⟩, ho, hL, hA, hv⟩
    · rw [if_pos q1, q3]
    · have nz : ¬ S5_askedThings s5 = 0 := by
        rw [q3]
        exact pn_ne I.1 q1 q2
      have lp : fX2_lastPlaceOf s2 (nI i) = some (nI (E2 s2 i)) := by
        unfold fX2_lastPlaceOf fX2_lastPlaceOf_18
        rw [e_hasP hL.1.1 q7 (show i < c + 1 by omega), bn1_s, if_neg (by decide), ai24 (by omega), cl_nI (by omega), (hL.1.2.1 i (by omega)).1]
      rw [if_neg nz, q5, lp, bn1_s, q8]
  · unfold fX6_askedAt
    rw [g_askedAt_thrown]
theorem op_inReach {s1 : S1} {s2 : S2} {s3 : S3} {s4 : S4} {s5 : S5} {m : S6} (h : SR s1 s2 s3 s4 s5 m) : ∃ r, fX5_inReach s4 s5 = some r ∧ fX6_inReach m = some (r, S6_set_thrown m 0) := by
  obtain ⟨n, kb, ko, len, w, adj, noun, I, J, hM, ⟨h1, hl, hw, hc⟩, ⟨ho, hp, hq⟩, hQ⟩ := h
  refine ⟨nI (mkS (rcT (S4_holders s4) ko) n), ?_, ?_⟩
  · unfold fX5_inReach
    rw [e_reachable I, bn1_s]
  · unfold fX6_inReach
    rw [e_mreachable I (MI_thrown J 0), bn1_s]
/-- a number is that of a thing on both sides, or on none -/
theorem has_cases {s4 : S4} {n kb ko : Nat} (I : WI s4 n kb ko) (a : Int32) : (∃ t, t < n ∧ a = nI t) ∨ (fX4_has s4 a = some 0 ∧ ∀ m : S6, S6_things m = nI n → fX6_isThing m a = some 0) := by
  have hn := I.1
  have hc := I.2.1
  by_cases p : a < 0
  · refine Or.inr ⟨?_, fun m hm => ?_⟩
    · unfold fX4_has fX4_has_22 fX4_has_23
      rw [if_pos p, bo0]
    · unfold fX6_isThing fX6_isThing_16 fX6_isThing_17
      rw [if_pos p, bo0]
  · obtain ⟨t, ht, rfl⟩ := nI_of p
    by_cases q : t < n
    · exact Or.inl ⟨t, q, rfl⟩
    · refine Or.inr ⟨?_, fun m hm => ?_⟩
      · unfold fX4_has fX4_has_22 fX4_has_23
        rw [if_neg p, hc, if_pos (nI_le (by omega) ht), bo0]
      · unfold fX6_isThing fX6_isThing_16 fX6_isThing_17
        rw [if_neg p, hm, if_pos (nI_le (by omega) ht), bo0]
theorem e_isThing {m : S6} {n t : Nat} (hn : n ≤ 12) (hm : S6_things m = nI n) (ht : t < n) : fX6_isThing m (nI t) = some 1 := by
  unfold fX6_isThing fX6_isThing_16 fX6_isThing_17
  rw [if_neg (ng (by omega)), hm, if_neg (nI_ge ht (by omega)), bo1]
theorem may1 (m : S6) : fX6_may m 1 = some (1, S6_set_thrown m 0) := by
  unfold fX6_may fX6_may_10
  rw [if_neg (by decide), bo1]
theorem may0 (m : S6) : fX6_may m 0 = some (0, S6_set_thrown m 1) := by
  unfold fX6_may fX6_may_10
  rw [if_pos rfl, bo0]
theorem op_placeOf {s1 : S1} {s2 : S2} {s3 : S3} {s4 : S4} {s5 : S5} {m : S6} (h : SR s1 s2 s3 s4 s5 m) (a : Int32) : ∃ k r, fX5_placeOf s4 s5 a = some (k, r) ∧ fX6_placeOf m a = some (r, S6_set_thrown m k) ∧ (k = 0 ∨ k = 1) := by
  obtain ⟨n, kb, ko, len, w, adj, noun, I, J, hM, ⟨h1, hl, hw, hc⟩, ⟨ho, hp, hq⟩, hQ⟩ := h
  have hn := I.1
  unfold fX5_placeOf fX6_placeOf fX6_placeOf_22
  rcases has_cases I a with ⟨t, ht, rfl⟩ | ⟨x, y⟩
  · rw [e_has I ht, bn1_s, if_neg (by decide), e_holderOf I ht, bn1_s, e_isThing hn J.1 ht, bn1_s, may1, bn2_s, if_neg (by decide), ai12 (by omega), cl_nI (by omega), g_place_thrown, J.2.2.2.1]
    exact ⟨0, _, rfl, rfl, Or.inl rfl⟩
  · rw [x, bn1_s, if_pos rfl, y m J.1, bn1_s, may0, bn2_s, if_pos rfl]
    exact ⟨1, _, rfl, rfl, Or.inr rfl⟩
theorem op_isOpen {s1 : S1} {s2 : S2} {s3 : S3} {s4 : S4} {s5 : S5} {m : S6} (h : SR s1 s2 s3 s4 s5 m) (a : Int32) : ∃ k r, fX5_isOpen s4 s5 a = some (k, r) ∧ fX6_isOpen m a = some (r, S6_set_thrown m k) ∧ (k = 0 ∨ k = 1) ∧ (r = 0 ∨ r = 1) := by
  obtain ⟨n, kb, ko, len, w, adj, noun, I, J, hM, ⟨h1, hl, hw, hc⟩, ⟨ho, hp, hq⟩, hQ⟩ := h
  have hn := I.1
  unfold fX5_isOpen fX6_isOpen fX6_isOpen_25 fX6_isOpen_26
  rcases has_cases I a with ⟨t, ht, rfl⟩ | ⟨x, y⟩
  · have ec := e_contains (k := ko) (t := t) (Nat.lt_trans I.2.2.2.2.2.1 (by decide)) (by omega)
    have eo := J.2.2.2.2.2 t (by omega)
    rw [e_has I ht, bn1_s, e_isThing hn J.1 ht, bn1_s, may1, bn2_s, if_neg (show ¬ (1 : Int32) = 0 by decide), if_neg (show ¬ (1 : Int32) = 0 by decide), I.2.2.2.1, ec, bn1_s, ai12 (by omega), cl_nI (by omega), g_open_thrown, eo]
    by_cases z : ko.testBit t = true
    · rw [if_pos z, bo1, if_neg (by decide), bo1]
      exact ⟨0, 1, rfl, rfl, Or.inl rfl, Or.inr rfl⟩
    · rw [if_neg z, bo0, if_pos rfl, bo0]
      exact ⟨0, 0, rfl, rfl, Or.inl rfl, Or.inl rfl⟩
  · rw [x, bn1_s, if_pos rfl, y m J.1, bn1_s, may0, bn2_s, if_pos rfl, bo0]
    exact ⟨1, 0, rfl, rfl, Or.inr rfl, Or.inl rfl⟩
