theorem LM_words {t z : Nat → Int32} {m : S6} {n : Nat} (h : LMm t z m n) (x : Nat → Int32) : LMm t z (S6_set_words m x) n := LMm_of h rfl (g_noun_words _ _) (g_adjectives_words _ _) (g_box_words _ _) (g_open_words _ _) (g_place_words _ _) (g_things_words _ _)
theorem LM_count {t z : Nat → Int32} {m : S6} {n : Nat} (h : LMm t z m n) (x : Int32) : LMm t z (S6_set_count m x) n := LMm_of h rfl (g_noun_count _ _) (g_adjectives_count _ _) (g_box_count _ _) (g_open_count _ _) (g_place_count _ _) (g_things_count _ _)
theorem LM_thrown {t z : Nat → Int32} {m : S6} {n : Nat} (h : LMm t z m n) (x : Int32) : LMm t z (S6_set_thrown m x) n := LMm_of h rfl (g_noun_thrown _ _) (g_adjectives_thrown _ _) (g_box_thrown _ _) (g_open_thrown _ _) (g_place_thrown _ _) (g_things_thrown _ _)
theorem LM_wrongAt {t z : Nat → Int32} {m : S6} {n : Nat} (h : LMm t z m n) (x : Int32) : LMm t z (S6_set_wrongAt m x) n := LMm_of h rfl (g_noun_wrongAt _ _) (g_adjectives_wrongAt _ _) (g_box_wrongAt _ _) (g_open_wrongAt _ _) (g_place_wrongAt _ _) (g_things_wrongAt _ _)
theorem LM_outcome {t z : Nat → Int32} {m : S6} {n : Nat} (h : LMm t z m n) (x : Int32) : LMm t z (S6_set_outcome m x) n := LMm_of h rfl (g_noun_outcome _ _) (g_adjectives_outcome _ _) (g_box_outcome _ _) (g_open_outcome _ _) (g_place_outcome _ _) (g_things_outcome _ _)
theorem LM_questions {t z : Nat → Int32} {m : S6} {n : Nat} (h : LMm t z m n) (x : Int32) : LMm t z (S6_set_questions m x) n := LMm_of h rfl (g_noun_questions _ _) (g_adjectives_questions _ _) (g_box_questions _ _) (g_open_questions _ _) (g_place_questions _ _) (g_things_questions _ _)
theorem LM_z {t z z' : Nat → Int32} {m : S6} {n : Nat} (h : LMm t z m n) (e : z' 0 = z 0) : LMm t z' m n := LMm_of h e rfl rfl rfl rfl rfl rfl
theorem vf {x : Int32} (h : ¬ x < 0) : isV x ∨ 5 ≤ x := by
  by_cases q : isV x
  · exact Or.inl q
  · obtain ⟨j, hj, rfl⟩ := nI_of h
    by_cases c : 5 ≤ j
    · exact Or.inr (nI_le (a := 5) (b := j) c hj)
    · exact absurd (isV_of h (nI_nlt (a := 4) (b := j) (by omega) (by decide))) q
/-- the law's rows beside the class, between two rounds -/
def LRw (s1 : S1) (s2 : S2) (s3 : S3) (s4 : S4) (s5 : S5) (m : S6) (t z w u v : Nat → Int32) (n : Nat) : Prop :=
  SR s1 s2 s3 s4 s5 m ∧ S6_words m = w ∧ S6_count m = 0 ∧ LMm t z m n ∧ LAt t n ∧ (∀ k, n ≤ k → k < 6 → t (18 + k) = 0) ∧ LZ z m ∧ LO z u v m ∧ z 11 = S6_questions m
def KOK (K : S0 → S1 → S2 → S3 → S4 → S5 → Syt → Syz → Syw → Syu → Syv → Int32 → Option Int32) (x : Int32) : Prop := ∀ s0 s1 s2 s3 s4 s5 m t z w u v n, LRw s1 s2 s3 s4 s5 m t z w u v n → K s0 s1 s2 s3 s4 s5 t z w u v x = some 1
theorem l_219 (L : Nat) (xs : Nat → Int32) {K : S0 → S1 → S2 → S3 → S4 → S5 → Syt → Syz → Syw → Syu → Syv → Int32 → Option Int32} {i : Nat} (hK : KOK K (nI (i + 1))) (hi : i < 40) (s0 : S0) {s1 : S1} {s2 : S2} {s3 : S3} {s4 : S4} {s5 : S5} {m : S6} {t z w u v : Nat → Int32} {n : Nat} (h : LRw s1 s2 s3 s4 s5 m t z w u v n) : fL_law_219 L xs K s0 s1 s2 s3 s4 s5 t z w u v (nI i) = some 1 := by
  obtain ⟨hS, hw, hc, hT, hA, h0, hZ, hO, hq⟩ := h
  obtain ⟨n', kb, ko, len, w', adj, noun, I, J, hM, ⟨e3, hl, hw', hc'⟩, ⟨ho, hp, hqs⟩, hQ⟩ := hS
  have hn6 := hT.2.1
  have hnn : n' = n := nI_inj (by have := I.1; omega) (by omega) (J.1.symm.trans hT.2.2.2)
  subst hnn
  have el : len = 0 := nI_inj (b := 0) (by omega) (by decide) (hc'.symm.trans hc)
  subst el
  have ew : w' = w := hw'.symm.trans hw
  subst ew
  obtain ⟨s3', z', w2, e1, ⟨l, adj', noun', rfl, hl2, hz1, -, hwp⟩, hzs⟩ := l_speaks L xs s5 (b := 6 * i + 1) (by omega) (s3 := s3) (z := upd z 1 0) (w := w') (p := 0) ⟨0, adj, noun, e3, by omega, up_same _ _ _, Nat.le_refl _, fun j hj => absurd hj (by omega)⟩
  have zb : ∀ j, j ≠ 1 → z' j = z j := fun j hj => (hzs j hj).trans (up_ne _ _ hj)
  obtain ⟨m1, hm1⟩ : ∃ m1, m1 = S6_set_count (S6_set_words m w2) (nI l) := ⟨_, rfl⟩
  have sB1 : SB m m1 := by
    rw [hm1]
    exact SB_tr (SB_words m w2) (SB_count _ _)
  have a1 : S6_words m1 = w2 := by rw [hm1, g_words_count, g_words_words]
  have a2 : S6_count m1 = nI l := by rw [hm1, g_count_count]
  have a3 : S6_outcome m1 = S6_outcome m := by rw [hm1, g_outcome_count, g_outcome_words]
  have a4 : S6_wrongAt m1 = S6_wrongAt m := by rw [hm1, g_wrongAt_count, g_wrongAt_words]
  have a5 : S6_questions m1 = S6_questions m := by rw [hm1, g_questions_count, g_questions_words]
  have a6 : LMm t z' m1 n' := by
    rw [hm1]
    exact LM_count (LM_words (LM_z hT (zb 0 (by decide))) _) _
  clear hm1
  have hS1 : SR s1 s2 (mk3 w2 l 0 adj' noun') s4 s5 m1 := ⟨n', kb, ko, l, w2, adj', noun', I, sB1.2.2 _ _ _ _ J, SB_Mem sB1 hM, ⟨rfl, hl2, a1, a2⟩, ⟨ho.trans a3.symm, hp.trans a4.symm, hqs.trans a5.symm⟩, SB_Q sB1 rfl rfl hQ⟩
  obtain ⟨B, hB⟩ : ∃ B, B = S6_set_wrongAt (S6_set_thrown m1 0) (-1) := ⟨_, rfl⟩
  have sB : SB m B := by
    rw [hB]
    exact SB_tr sB1 (SB_tr (SB_thrown m1 0) (SB_wrongAt _ _))
  have b1 : S6_words B = w2 := by rw [hB, g_words_wrongAt, g_words_thrown, a1]
  have b2 : S6_count B = nI l := by rw [hB, g_count_wrongAt, g_count_thrown, a2]
  have b3 : S6_wrongAt B = -1 := by rw [hB, g_wrongAt_wrongAt]
  have b4 : S6_questions B = S6_questions m := by rw [hB, g_questions_wrongAt, g_questions_thrown, a5]
  have b5 : LMm t z' B n' := by
    rw [hB]
    exact LM_wrongAt (LM_thrown a6 _) _
  have hsay : fX6_say m1 = bn2 (fX6_understand B) fun r_1 s6_1 => if S6_outcome (S6_set_outcome s6_1 r_1) = 1 then fX6_say_36 (S6_set_outcome s6_1 r_1) (S6_questions (S6_set_outcome s6_1 r_1)) 1 else fX6_say_36 (S6_set_outcome s6_1 r_1) (S6_questions (S6_set_outcome s6_1 r_1)) 0 := by
    rw [hB]
    rfl
  clear hB
  obtain ⟨q3, q4, q5, q6, q7, q8, q9, q10⟩ := hZ
  obtain ⟨o1, o2, o3⟩ := hO
  obtain ⟨⟨y1, y2, y3, y4, y5⟩, ⟨y6, y7, y8, y9, y10⟩, y11⟩ := id sB
  obtain ⟨r, t2, z2, u2, v2, m2, d1, d2, c1, c2, ⟨c3, c4, c5, c6⟩, c7, c8, c9⟩ := l_said s0 (z := z') (u := u) (v := v) I (y11 _ _ _ _ J) (SB_Mem sB hM) b1 b2 hl2 (fun _ => vf (hwp 0 (by omega))) (SB_Q (t5 := s5) sB rfl rfl hQ) b3 b5 hA ⟨(zb 4 (by decide)).trans (q4.trans y1.symm), (zb 5 (by decide)).trans (q5.trans y2.symm), (zb 6 (by decide)).trans (q6.trans y3.symm), (zb 7 (by decide)).trans (q7.trans y4.symm), (zb 8 (by decide)).trans (q8.trans y5.symm), (zb 9 (by decide)).trans (q9.trans y6.symm), (zb 10 (by decide)).trans (q10.trans y7.symm)⟩ ⟨o1.trans y9.symm, o2.trans y10.symm, (zb 12 (by decide)).trans (o3.trans y8.symm)⟩ hz1
  obtain ⟨k1, k2, k3, k4⟩ := kp_ex c9
  obtain ⟨r', t0', t1', t2', t3', t4', t5', M', f1, f2, f3⟩ := e_say (s0 := s0) hS1
  rw [hsay, d2, bn2_s] at f2
  have key : ∀ x : Int32, fX6_say_36 (S6_set_outcome m2 r) (S6_questions (S6_set_outcome m2 r)) x = some (r, S6_set_count (S6_set_questions (S6_set_outcome m2 r) (S6_questions m2 + x)) 0) := fun x => by
    unfold fX6_say_36
    rw [g_questions_outcome, g_outcome_count, g_outcome_questions, g_outcome_outcome]
  rw [key, key, g_outcome_outcome] at f2
  have fin : ∀ x : Int32, some (r, S6_set_count (S6_set_questions (S6_set_outcome m2 r) (S6_questions m2 + x)) 0) = some (r', M') → fL_law_274 L xs K s0 s1 s2 (mk3 w2 l 0 adj' noun') s4 s5 t2 (upd z2 2 r) w2 u2 v2 (nI i) 11 (z2 11) x = some 1 := fun x hx => by
    obtain ⟨ex, eM⟩ := Prod.mk.inj (Option.some.inj hx)
    subst ex
    obtain ⟨M, hMM⟩ : ∃ M, M = S6_set_count (S6_set_questions (S6_set_outcome m2 r) (S6_questions m2 + x)) 0 := ⟨_, rfl⟩
    have eM2 : M' = M := eM.symm.trans hMM.symm
    subst eM2
    have sM : SB m2 M' := by
      rw [hMM]
      exact SB_tr (SB_outcome m2 r) (SB_tr (SB_questions _ _) (SB_count _ 0))
    have n1 : S6_words M' = w2 := by rw [hMM, g_words_count, g_words_questions, g_words_outcome, k2, b1]
    have n2 : S6_count M' = 0 := by rw [hMM, g_count_count]
    have n3 : S6_outcome M' = r := by rw [hMM, g_outcome_count, g_outcome_questions, g_outcome_outcome]
    have n4 : S6_wrongAt M' = S6_wrongAt m2 := by rw [hMM, g_wrongAt_count, g_wrongAt_questions, g_wrongAt_outcome]
    have n5 : S6_questions M' = S6_questions m2 + x := by rw [hMM, g_questions_count, g_questions_questions]
    obtain ⟨Y, hY⟩ : ∃ Y, Y = upd (upd z2 2 r) 11 (z2 11 + x) := ⟨_, rfl⟩
    have Yo : ∀ j, j ≠ 2 → j ≠ 11 → Y j = z2 j := fun j p q => by rw [hY, up_ne _ _ q, up_ne _ _ p]
    have Y2 : Y 2 = r := by rw [hY, up_ne _ _ (by decide), up_same]
    have Y11 : Y 11 = S6_questions m2 + x := by rw [hY, up_same, c6, zb 11 (by decide), hq, k4, b4]
    have n6 : LMm t2 Y M' n' := by
      rw [hMM]
      exact LM_count (LM_questions (LM_outcome (LM_z c1 (Yo 0 (by decide) (by decide))) _) _) _
    clear hMM hx eM
    obtain ⟨p3, p4, p5, p6, p7, p8, p9, p10⟩ := c7
    obtain ⟨g1, g2, g3⟩ := c8
    obtain ⟨⟨x1, x2, x3, x4, x5⟩, ⟨x6, x7, x8, x9, x10⟩, -⟩ := sM
    have n7 : LZ Y M' := ⟨(Yo 3 (by decide) (by decide)).trans (p3.trans n4.symm), (Yo 4 (by decide) (by decide)).trans (p4.trans x1.symm), (Yo 5 (by decide) (by decide)).trans (p5.trans x2.symm), (Yo 6 (by decide) (by decide)).trans (p6.trans x3.symm), (Yo 7 (by decide) (by decide)).trans (p7.trans x4.symm), (Yo 8 (by decide) (by decide)).trans (p8.trans x5.symm), (Yo 9 (by decide) (by decide)).trans (p9.trans x6.symm), (Yo 10 (by decide) (by decide)).trans (p10.trans x7.symm)⟩
    have n8 : LO Y u2 v2 M' := ⟨g1.trans x9.symm, g2.trans x10.symm, (Yo 12 (by decide) (by decide)).trans (g3.trans x8.symm)⟩
    have hLR : LRw t1' t2' t3' t4' t5' M' t2 Y w2 u2 v2 n' := by
      refine ⟨f3, n1, n2, n6, fun k hk => ?_, fun k hk hk6 => ?_, n7, n8, Y11.trans n5.symm⟩
      · rw [c2 (6 + k) (Or.inl (by omega))]
        exact hA k hk
      · rw [c2 (18 + k) (Or.inr (by omega))]
        exact h0 k hk hk6
    have bk : fL_backed t3' t5' = some (-101, t3') := by
      obtain ⟨_, _, _, len3, w3, adj3, noun3, _, _, _, ⟨rfl, hl3, -, hc3⟩, _, _⟩ := f3
      have e0 : len3 = 0 := nI_inj (b := 0) (by omega) (by decide) (hc3.symm.trans n2)
      subst e0
      unfold fL_backed fX5_back
      rw [show S3_count (mk3 w3 0 0 adj3 noun3) = nI 0 from rfl, if_neg (by decide), bn3_s, if_neg (show ¬ (1 : Int32) = 0 by decide), if_neg (show ¬ (1 : Int32) = 0 by decide)]
    unfold fL_law_274
    rw [ai13_11, cl_11, ← hY, f1, bn7_s, ai13_2, cl_2, Y2, if_pos rfl, l_tells f3 n6 n7 (Y2.trans n3.symm) (Y11.trans n5.symm), bn1_s, if_neg (show ¬ (1 : Int32) = 0 by decide), bk, bn2_s, if_pos rfl, nI_1]
    exact hK t0' t1' t2' t3' t4' t5' M' t2 Y w2 u2 v2 n' hLR
  unfold fL_law_219
  rw [ai13_1, cl_1, show (6 : Int32) * nI i + 1 = nI (6 * i + 1) by rw [show (6 : Int32) = nI 6 from rfl, pk_mul, nI_1], e1, bn4_s, if_neg (show ¬ (1 : Int32) = 0 by decide), d1, bn5_s, ai13_2, ai13_11, ai13_2, cl_2, cl_11, up_same, up_ne _ _ (show (11 : Nat) ≠ 2 by decide)]
  by_cases c : r = 1
  · rw [if_pos c] at f2
    rw [if_pos c]
    exact fin 1 f2
  · rw [if_neg c] at f2
    rw [if_neg c]
    exact fin 0 f2
theorem thing_ok {m : S6} {n j1 j2 : Nat} {a1 a2 : Int32} (a3 : Int32) (hn : n < 12) (ht : S6_things m = nI n) (e1 : a1 = nI j1) (h1 : j1 < 8) (e2 : a2 = nI j2) (h2 : j2 < 64) : fX6_thing m a1 a2 a3 = some (nI n, newT (S6_set_thrown m 0) n a1 a2 (vp_nar .boolean a3)) := by
  subst e1 e2
  unfold fX6_thing fX6_thing_26
  rw [if_neg (ng (by omega)), if_neg (show ¬ 7 < nI j1 from nI_nlt (a := 7) (b := j1) (by omega) (by decide)), if_neg (ng (by omega)), if_neg (show ¬ 63 < nI j2 from nI_nlt (a := 63) (b := j2) (by omega) (by decide)), ht, if_neg (ge12 hn), th40_11 hn ht]
theorem nk_s {β : Type} {x : Option β} : nk 0 x = x := if_pos rfl
theorem l_108 (L : Nat) (xs : Nat → Int32) {K : S0 → S1 → S2 → S3 → S4 → S5 → Syt → Syz → Syw → Syu → Syv → Int32 → Option Int32} {i : Nat} (hK : KOK K (nI (i + 1))) (hi : i < 40) (s0 : S0) {s1 : S1} {s2 : S2} {s3 : S3} {s4 : S4} {s5 : S5} {m : S6} {t z w u v : Nat → Int32} {n : Nat} (h : LRw s1 s2 s3 s4 s5 m t z w u v n) (hn : n < 6) (x8 : Int32) : fL_law_108 L xs K s0 s1 s2 s3 s4 s5 t z w u v (nI i) x8 = some 1 := by
  obtain ⟨hS, hw, hc, hT, hA, h0, hZ, hO, hq⟩ := h
  obtain ⟨ra, hra, ea⟩ := l_s2 (x8 >>> (4 &&& 31))
  obtain ⟨rb, hrb, eb⟩ := l_s4 (x8 >>> (6 &&& 31))
  obtain ⟨rc, hrc, ec⟩ := l_s3 (x8 >>> (9 &&& 31))
  have z0 := hT.1
  have key : ∀ b : Int32, (b = 0 ∨ b = 1) → fL_law_164 L xs K s0 s1 s2 s3 s4 s5 (upd (upd t n (nI ra)) (6 + n) (nI rb)) z w u v (nI i) (nI n) (nI (12 + n)) b = some 1 := fun b hb => by
    obtain ⟨Y, hY⟩ : ∃ Y, Y = upd (upd (upd (upd t n (nI ra)) (6 + n) (nI rb)) (12 + n) b) (24 + n) (-2) := ⟨_, rfl⟩
    have Yo : ∀ j, j ≠ n → j ≠ 6 + n → j ≠ 12 + n → j ≠ 24 + n → Y j = t j := fun j p q r s => by rw [hY, up_ne _ _ s, up_ne _ _ r, up_ne _ _ q, up_ne _ _ p]
    have Ya : Y n = nI ra := by rw [hY, up_ne _ _ (by omega), up_ne _ _ (by omega), up_ne _ _ (by omega), up_same]
    have Yb : Y (6 + n) = nI rb := by rw [hY, up_ne _ _ (by omega), up_ne _ _ (by omega), up_same]
    have Yc : Y (12 + n) = b := by rw [hY, up_ne _ _ (by omega), up_same]
    have Yd : Y (24 + n) = -2 := by rw [hY, up_same]
    obtain ⟨Z, hZZ⟩ : ∃ Z, Z = upd z 0 (nI (n + 1)) := ⟨_, rfl⟩
    have Zo : ∀ j, j ≠ 0 → Z j = z j := fun j p => by rw [hZZ, up_ne _ _ p]
    have Z0 : Z 0 = nI (n + 1) := by rw [hZZ, up_same]
    obtain ⟨k, r, T, m', g1, g2, g3, g4⟩ := op_thing hS (nI ra) (nI rb) b hb
    rw [thing_ok b (show n < 12 by omega) hT.2.2.2 rfl (show ra < 8 by omega) rfl (show rb < 64 by omega)] at g2
    obtain ⟨er, em⟩ := Prod.mk.inj (Option.some.inj g2)
    subst er em
    obtain ⟨n1, n2, ⟨n3, n4, n5, n6, n7⟩, ⟨n8, n9, n10, n11, n12⟩, n13⟩ := newT_SB (S6_set_thrown m 0) n (nI ra) (nI rb) (vp_nar .boolean b)
    have ek : k = 0 := g3.symm.trans (n13.trans (g_thrown_thrown _ _))
    subst ek
    rw [if_pos rfl] at g4
    obtain ⟨k1, k2, k3, k4⟩ := kp_ex n1
    have op0 : S6_open m n = 0 := by
      obtain ⟨n', kb, ko, -, -, -, -, I, J, -⟩ := hS
      have hnn : n' = n := nI_inj (by have := I.1; omega) (by omega) (J.1.symm.trans hT.2.2.2)
      subst hnn
      rw [J.2.2.2.2.2 n' (by omega), (I.2.2.2.2.2.2.1 n' (Nat.le_refl _)).2, if_neg (by decide)]
    have nb : vp_nar .boolean b = b := by
      rcases hb with rfl | rfl
      · exact nar0
      · exact nar1
    obtain ⟨q3, q4, q5, q6, q7, q8, q9, q10⟩ := hZ
    obtain ⟨o1, o2, o3⟩ := hO
    have tM : LMm Y Z (newT (S6_set_thrown m 0) n (nI ra) (nI rb) (vp_nar .boolean b)) (n + 1) := by
      have t1 : S6_noun (newT (S6_set_thrown m 0) n (nI ra) (nI rb) (vp_nar .boolean b)) = upd (S6_noun m) n (nI ra) := by
        unfold newT
        rw [g_noun_things, g_noun_place, g_noun_box, g_noun_adjectives, g_noun_noun, g_noun_thrown]
      have t2 : S6_adjectives (newT (S6_set_thrown m 0) n (nI ra) (nI rb) (vp_nar .boolean b)) = upd (S6_adjectives m) n (nI rb) := by
        unfold newT
        rw [g_adjectives_things, g_adjectives_place, g_adjectives_box, g_adjectives_adjectives, g_adjectives_thrown]
      have t3 : S6_box (newT (S6_set_thrown m 0) n (nI ra) (nI rb) (vp_nar .boolean b)) = upd (S6_box m) n b := by
        unfold newT
        rw [g_box_things, g_box_place, g_box_box, g_box_thrown, nb]
      have t4 : S6_open (newT (S6_set_thrown m 0) n (nI ra) (nI rb) (vp_nar .boolean b)) = S6_open m := by
        unfold newT
        rw [g_open_things, g_open_place, g_open_box, g_open_adjectives, g_open_noun, g_open_thrown]
      have t5 : S6_place (newT (S6_set_thrown m 0) n (nI ra) (nI rb) (vp_nar .boolean b)) = upd (S6_place m) n (-2) := by
        unfold newT
        rw [g_place_things, g_place_place, g_place_thrown]
      have t6 : S6_things (newT (S6_set_thrown m 0) n (nI ra) (nI rb) (vp_nar .boolean b)) = nI (n + 1) := by
        unfold newT
        rw [g_things_things]
      refine ⟨Z0, hn, fun k hk => ?_, t6⟩
      rw [t1, t2, t3, t4, t5]
      by_cases e : k = n
      · subst e
        rw [up_same, up_same, up_same, up_same]
        exact ⟨Ya, Yb, Yc, (Yo _ (by omega) (by omega) (by omega) (by omega)).trans ((h0 k (Nat.le_refl _) hn).trans op0.symm), Yd⟩
      · obtain ⟨r1, r2, r3, r4, r5⟩ := hT.2.2.1 k (by omega)
        rw [up_ne _ _ e, up_ne _ _ e, up_ne _ _ e, up_ne _ _ e]
        exact ⟨(Yo _ (by omega) (by omega) (by omega) (by omega)).trans r1, (Yo _ (by omega) (by omega) (by omega) (by omega)).trans r2, (Yo _ (by omega) (by omega) (by omega) (by omega)).trans r3, (Yo _ (by omega) (by omega) (by omega) (by omega)).trans r4, (Yo _ (by omega) (by omega) (by omega) (by omega)).trans r5⟩
    have hLR : LRw s1 s2 s3 T s5 (newT (S6_set_thrown m 0) n (nI ra) (nI rb) (vp_nar .boolean b)) Y Z w u v (n + 1) := by
      refine ⟨g4, (k2.trans (g_words_thrown _ _)).trans hw, (k1.trans (g_count_thrown _ _)).trans hc, tM, fun k hk => ?_, fun k hk hk6 => ?_, ⟨?_, ?_, ?_, ?_, ?_, ?_, ?_, ?_⟩, ⟨?_, ?_, ?_⟩, ?_⟩
      · by_cases e : k = n
        · subst e
          exact ⟨rb, by omega, Yb⟩
        · rw [Yo _ (by omega) (by omega) (by omega) (by omega)]
          exact hA k (by omega)
      · rw [Yo _ (by omega) (by omega) (by omega) (by omega)]
        exact h0 k (by omega) hk6
      · exact (Zo 3 (by decide)).trans (q3.trans (n2.trans (g_wrongAt_thrown _ _)).symm)
      · exact (Zo 4 (by decide)).trans (q4.trans (n3.trans (g_verb_thrown _ _)).symm)
      · exact (Zo 5 (by decide)).trans (q5.trans (n4.trans (g_meant_thrown _ _)).symm)
      · exact (Zo 6 (by decide)).trans (q6.trans (n5.trans (g_done_thrown _ _)).symm)
      · exact (Zo 7 (by decide)).trans (q7.trans (n6.trans (g_into_thrown _ _)).symm)
      · exact (Zo 8 (by decide)).trans (q8.trans (n7.trans (g_it_thrown _ _)).symm)
      · exact (Zo 9 (by decide)).trans (q9.trans (n8.trans (g_asked_thrown _ _)).symm)
      · exact (Zo 10 (by decide)).trans (q10.trans (n9.trans (g_askedAt_thrown _ _)).symm)
      · exact o1.trans (n11.trans (g_order_thrown _ _)).symm
      · exact o2.trans (n12.trans (g_answer_thrown _ _)).symm
      · exact (Zo 12 (by decide)).trans (o3.trans (n10.trans (g_length_thrown _ _)).symm)
      · exact (Zo 11 (by decide)).trans (hq.trans (k4.trans (g_questions_thrown _ _)).symm)
    unfold fL_law_164 fL_law_209
    rw [ai30 (by omega), p_24, ai30 (by omega), ai13_0, ai13_0, ai30 (by omega), p_6, ai30 (by omega), p_12, ai30 (by omega), cl_nI (show 12 + n < 2 ^ 31 by omega), cl_nI (show 24 + n < 2 ^ 31 by omega), cl_nI (show 6 + n < 2 ^ 31 by omega), cl_nI (show n < 2 ^ 31 by omega), cl0, z0, nI_1, ← hY, ← hZZ, Ya, Yb, Yc]
    rcases hb with rfl | rfl
    · rw [if_neg (show ¬ (0 : Int32) = 1 by decide), g1, bn3_s, nk_s, if_pos rfl]
      exact l_219 L xs hK hi s0 hLR
    · rw [if_pos rfl, g1, bn3_s, nk_s, if_pos rfl]
      exact l_219 L xs hK hi s0 hLR
  unfold fL_law_108
  rw [ai13_0, cl0, z0, ea, bn1_s, ai30 (by omega), eb, bn1_s, p_6, ai30 (by omega), cl_nI (by omega), cl_nI (by omega)]
  unfold bl
  dsimp only
  rw [ec, bn1_s, p_12]
  by_cases c : nI rc ≤ 0
  · rw [if_pos c]
    exact key 0 (Or.inl rfl)
  · rw [if_neg c]
    exact key 1 (Or.inr rfl)
/-- the law's rounds -/
theorem l_loop (L : Nat) (xs : Nat → Int32) : ∀ (d fu i : Nat), i + d = 40 → d < fu → KOK (fun s0 s1 s2 s3 s4 s5 t z w u v x => fL_law_66 L xs fu s0 s1 s2 s3 s4 s5 t z w u v x) (nI i)
  | 0, fu, i, hd, hf => fun s0 s1 s2 s3 s4 s5 m t z w u v n h => by
    obtain ⟨g, rfl⟩ : ∃ g, fu = g + 1 := ⟨fu - 1, by omega⟩
    show fL_law_66 L xs (g + 1) s0 s1 s2 s3 s4 s5 t z w u v (nI i) = some 1
    rw [fL_law_66, if_pos (show (40 : Int32) ≤ nI i from nI_le (a := 40) (b := i) (by omega) (by omega))]
  | d + 1, fu, i, hd, hf => fun s0 s1 s2 s3 s4 s5 m t z w u v n h => by
    obtain ⟨g, rfl⟩ : ∃ g, fu = g + 1 := ⟨fu - 1, by omega⟩
    show fL_law_66 L xs (g + 1) s0 s1 s2 s3 s4 s5 t z w u v (nI i) = some 1
    have hK := l_loop L xs d g (i + 1) (by omega) (by omega)
    have z0 := h.2.2.2.1.1
    have hn6 := h.2.2.2.1.2.1
    obtain ⟨x, e⟩ := l_cell L xs (j := 6 * i) (by omega)
    rw [fL_law_66, if_neg (show ¬ (40 : Int32) ≤ nI i from nI_ge (a := i) (b := 40) (by omega) (by decide)), show (6 : Int32) * nI i = nI (6 * i) from pk_mul 6 i, e, bn1_s, ai13_0, cl0, z0]
    by_cases c : 6 ≤ n
    · rw [if_pos (show (6 : Int32) ≤ nI n from nI_le (a := 6) (b := n) c (by omega))]
      exact l_219 L xs hK (by omega) s0 h
    · rw [if_neg (show ¬ (6 : Int32) ≤ nI n from nI_ge (a := n) (b := 6) (by omega) (by decide))]
      by_cases c3 : nI i < 3
      · rw [if_pos c3]
        exact l_108 L xs hK (by omega) s0 h (by omega) x
      · obtain ⟨r, hr, e2⟩ := l_s11 x
        rw [if_neg c3, e2, bn1_s]
        by_cases c4 : nI r = 0
        · rw [if_pos c4]
          exact l_108 L xs hK (by omega) s0 h (by omega) x
        · rw [if_neg c4]
          exact l_219 L xs hK (by omega) s0 h
