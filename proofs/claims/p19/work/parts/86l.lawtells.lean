theorem cg_outcome {s1 : S1} {s2 : S2} {s3 : S3} {s4 : S4} {s5 : S5} {m : S6} (h : SR s1 s2 s3 s4 s5 m) : fX5_outcome s5 = some (S6_outcome m) := by
  obtain ⟨r, e1, e2⟩ := op_outcome h
  unfold fX6_outcome at e2
  have e : S6_outcome (S6_set_thrown m 0) = r := congrArg Prod.fst (Option.some.inj e2)
  rw [e1, ← e, g_outcome_thrown]
theorem cg_wrongAt {s1 : S1} {s2 : S2} {s3 : S3} {s4 : S4} {s5 : S5} {m : S6} (h : SR s1 s2 s3 s4 s5 m) : fX5_wrongAt s5 = some (S6_wrongAt m) := by
  obtain ⟨r, e1, e2⟩ := op_wrongAt h
  unfold fX6_wrongAt at e2
  have e : S6_wrongAt (S6_set_thrown m 0) = r := congrArg Prod.fst (Option.some.inj e2)
  rw [e1, ← e, g_wrongAt_thrown]
theorem cg_questions {s1 : S1} {s2 : S2} {s3 : S3} {s4 : S4} {s5 : S5} {m : S6} (h : SR s1 s2 s3 s4 s5 m) : fX5_questions s5 = some (S6_questions m) := by
  obtain ⟨r, e1, e2⟩ := op_questions h
  unfold fX6_questions at e2
  have e : S6_questions (S6_set_thrown m 0) = r := congrArg Prod.fst (Option.some.inj e2)
  rw [e1, ← e, g_questions_thrown]
theorem cg_verb {s1 : S1} {s2 : S2} {s3 : S3} {s4 : S4} {s5 : S5} {m : S6} (h : SR s1 s2 s3 s4 s5 m) : fX5_verb s1 s5 = some (S6_verb m) := by
  obtain ⟨r, e1, e2⟩ := op_verb h
  unfold fX6_verb at e2
  have e : S6_verb (S6_set_thrown m 0) = r := congrArg Prod.fst (Option.some.inj e2)
  rw [e1, ← e, g_verb_thrown]
theorem cg_meant {s1 : S1} {s2 : S2} {s3 : S3} {s4 : S4} {s5 : S5} {m : S6} (h : SR s1 s2 s3 s4 s5 m) : fX5_meant s1 s5 = some (S6_meant m) := by
  obtain ⟨r, e1, e2⟩ := op_meant h
  unfold fX6_meant at e2
  have e : S6_meant (S6_set_thrown m 0) = r := congrArg Prod.fst (Option.some.inj e2)
  rw [e1, ← e, g_meant_thrown]
theorem cg_done {s1 : S1} {s2 : S2} {s3 : S3} {s4 : S4} {s5 : S5} {m : S6} (h : SR s1 s2 s3 s4 s5 m) : fX5_done s1 s5 = some (S6_done m) := by
  obtain ⟨r, e1, e2⟩ := op_done h
  unfold fX6_done at e2
  have e : S6_done (S6_set_thrown m 0) = r := congrArg Prod.fst (Option.some.inj e2)
  rw [e1, ← e, g_done_thrown]
theorem cg_into {s1 : S1} {s2 : S2} {s3 : S3} {s4 : S4} {s5 : S5} {m : S6} (h : SR s1 s2 s3 s4 s5 m) : fX5_into s1 s5 = some (S6_into m) := by
  obtain ⟨r, e1, e2⟩ := op_into h
  unfold fX6_into at e2
  have e : S6_into (S6_set_thrown m 0) = r := congrArg Prod.fst (Option.some.inj e2)
  rw [e1, ← e, g_into_thrown]
theorem cg_asked {s1 : S1} {s2 : S2} {s3 : S3} {s4 : S4} {s5 : S5} {m : S6} (h : SR s1 s2 s3 s4 s5 m) : fX5_asked s5 = some (S6_asked m) := by
  obtain ⟨r, e1, e2⟩ := op_asked h
  unfold fX6_asked at e2
  have e : S6_asked (S6_set_thrown m 0) = r := congrArg Prod.fst (Option.some.inj e2)
  rw [e1, ← e, g_asked_thrown]
theorem cg_askedAt {s1 : S1} {s2 : S2} {s3 : S3} {s4 : S4} {s5 : S5} {m : S6} (h : SR s1 s2 s3 s4 s5 m) : fX5_askedAt s2 s5 = some (S6_askedAt m) := by
  obtain ⟨r, e1, e2⟩ := op_askedAt h
  unfold fX6_askedAt at e2
  have e : S6_askedAt (S6_set_thrown m 0) = r := congrArg Prod.fst (Option.some.inj e2)
  rw [e1, ← e, g_askedAt_thrown]
/-- all that the class tells is what the law has kept -/
theorem l_tells {s1 : S1} {s2 : S2} {s3 : S3} {s4 : S4} {s5 : S5} {m : S6} {t z : Nat → Int32} {n : Nat} (h : SR s1 s2 s3 s4 s5 m) (hT : LMm t z m n) (hZ : LZ z m) (h2 : z 2 = S6_outcome m) (h11 : z 11 = S6_questions m) : fL_tells s1 s2 s4 s5 t z = some 1 := by
  have h' := h
  obtain ⟨n', kb, ko, len, w, adj, noun, I, J, hM, -, -, hQ⟩ := h
  have hn6 := hT.2.1
  have hnn : n' = n := nI_inj (by have := I.1; omega) (by omega) (J.1.symm.trans hT.2.2.2)
  subst hnn
  have hLT := LT_of J hT
  have z0 := hT.1
  obtain ⟨z3, z4, z5, z6, z7, -, z9, z10⟩ := hZ
  have noth : fX4_has s4 (nI n') = some 0 := by
    rcases has_cases I (nI n') with ⟨a, ha, e⟩ | ⟨x, -⟩
    · have := nI_inj (by omega) (by omega) e
      omega
    · exact x
  have pl : ∀ k, k < n' → fL_placed s4 s5 (nI k) = some (t (24 + k)) := fun k hk => by
    unfold fL_placed fX5_placeOf
    rw [e_has I hk, bn1_s, if_neg (show ¬ (1 : Int32) = 0 by decide), e_holderOf I hk, bn1_s, bn2_s, if_pos rfl, (hLT.2.2 k hk).2.2.2.2]
  have pln : fL_placed s4 s5 (nI n') = some (-101) := by
    unfold fL_placed fX5_placeOf
    rw [noth, bn1_s, if_pos rfl, bn2_s, if_neg (show ¬ (1 : Int32) = 0 by decide)]
  have opl : ∀ k, k < n' → fL_opened s4 s5 (nI k) = some (t (18 + k)) := fun k hk => by
    unfold fL_opened fX5_isOpen
    rw [e_has I hk, bn1_s, if_neg (show ¬ (1 : Int32) = 0 by decide), I.2.2.2.1, e_contains (Nat.lt_trans I.2.2.2.2.2.1 (by decide)) (by omega), bn1_s, (hLT.2.2 k hk).2.2.2.1]
    by_cases q : ko.testBit k = true
    · rw [if_pos q, bo1, bn2_s, if_pos rfl, if_neg (show ¬ (1 : Int32) = 0 by decide)]
    · rw [if_neg q, bo0, bn2_s, if_pos rfl, if_pos rfl]
  have opn : fL_opened s4 s5 (nI n') = some (-101) := by
    unfold fL_opened fX5_isOpen
    rw [noth, bn1_s, if_pos rfl, bn2_s, if_neg (show ¬ (1 : Int32) = 0 by decide)]
  have ir : fX5_inReach s4 s5 = some (nI (mkS (rcT (S4_holders s4) ko) n')) := by
    unfold fX5_inReach
    rw [e_reachable I, bn1_s]
  have loop : ∀ d fu k, k + d = n' + 1 → d < fu → fL_tells_2 s1 s2 s4 s5 t z fu (nI k) = some 1 := by
    intro d
    induction d with
    | zero =>
      intro fu k hk hf
      obtain ⟨g, rfl⟩ : ∃ g, fu = g + 1 := ⟨fu - 1, by omega⟩
      have e : k = n' + 1 := by omega
      subst e
      rw [fL_tells_2]
      unfold fL_tells_181
      simp only [ai13_0, ai13_2, ai13_3, ai13_4, ai13_5, ai13_6, ai13_7, ai13_9, ai13_10, ai13_11, cl0, cl_2, cl_3, cl_4, cl_5, cl_6, cl_7, cl_9, cl_10, cl_11]
      rw [z0, if_pos (nI_lt (a := n') (b := n' + 1) (by omega) (by omega)), ir, bn1_s, l_reach I hLT, bn1_s, if_pos rfl, cg_outcome h', bn1_s, h2, if_pos rfl, cg_wrongAt h', bn1_s, z3, if_pos rfl, cg_verb h', bn1_s, z4, if_pos rfl, cg_meant h', bn1_s, z5, if_pos rfl, cg_done h', bn1_s, z6, if_pos rfl, cg_into h', bn1_s, z7, if_pos rfl, cg_asked h', bn1_s, z9, if_pos rfl, cg_askedAt h', bn1_s, z10, if_pos rfl, cg_questions h', bn1_s, h11, if_pos rfl, bo1]
    | succ d ih =>
      intro fu k hk hf
      obtain ⟨g, rfl⟩ : ∃ g, fu = g + 1 := ⟨fu - 1, by omega⟩
      rw [fL_tells_2, ai13_0, cl0, z0, if_neg (show ¬ nI n' < nI k from nI_nlt (by omega) (by omega))]
      unfold fL_tells_32 fL_tells_58
      by_cases c : k = n'
      · subst c
        rw [pln, bn1_s, ai13_0, if_pos (nI_le (Nat.le_refl k) (by omega)), if_pos rfl, opn, bn1_s, ai13_0, cl0, z0, if_pos (nI_le (Nat.le_refl k) (by omega)), if_pos rfl]
        show fL_tells_2 s1 s2 s4 s5 t z g (nI k + 1) = some 1
        rw [nI_1]
        exact ih g (k + 1) (by omega) (by omega)
      · have hk2 : k < n' := by omega
        rw [pl k hk2, bn1_s, ai13_0, if_neg (nI_ge hk2 (by omega)), p_24, ai30 (by omega), cl_nI (by omega), if_pos rfl, opl k hk2, bn1_s, ai13_0, cl0, z0, if_neg (nI_ge hk2 (by omega)), p_18, ai30 (by omega), cl_nI (by omega), if_pos rfl]
        show fL_tells_2 s1 s2 s4 s5 t z g (nI k + 1) = some 1
        rw [nI_1]
        exact ih g (k + 1) (by omega) (by omega)
  unfold fL_tells
  exact loop (n' + 1) 64 0 (by omega) (by omega)
