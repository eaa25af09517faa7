/-- F holds the world, the memory and the question of m -/
def SB (m F : S6) : Prop := (S6_verb F = S6_verb m ∧ S6_meant F = S6_meant m ∧ S6_done F = S6_done m ∧ S6_into F = S6_into m ∧ S6_it F = S6_it m) ∧ (S6_asked F = S6_asked m ∧ S6_askedAt F = S6_askedAt m ∧ S6_length F = S6_length m ∧ S6_order F = S6_order m ∧ S6_answer F = S6_answer m) ∧ (∀ s n kb ko, MI m s n kb ko → MI F s n kb ko)
theorem SB_tr {a b c : S6} (h : SB a b) (g : SB b c) : SB a c := by
  obtain ⟨⟨h1, h2, h3, h4, h5⟩, ⟨h6, h7, h8, h9, h10⟩, h11⟩ := h
  obtain ⟨⟨g1, g2, g3, g4, g5⟩, ⟨g6, g7, g8, g9, g10⟩, g11⟩ := g
  exact ⟨⟨g1.trans h1, g2.trans h2, g3.trans h3, g4.trans h4, g5.trans h5⟩, ⟨g6.trans h6, g7.trans h7, g8.trans h8, g9.trans h9, g10.trans h10⟩, fun s n kb ko J => g11 s n kb ko (h11 s n kb ko J)⟩
theorem SB_wrongAt (m : S6) (v : Int32) : SB m (S6_set_wrongAt m v) := ⟨⟨g_verb_wrongAt m v, g_meant_wrongAt m v, g_done_wrongAt m v, g_into_wrongAt m v, g_it_wrongAt m v⟩, ⟨g_asked_wrongAt m v, g_askedAt_wrongAt m v, g_length_wrongAt m v, g_order_wrongAt m v, g_answer_wrongAt m v⟩, fun _ _ _ _ J => MI_wrongAt J v⟩
theorem SB_outcome (m : S6) (v : Int32) : SB m (S6_set_outcome m v) := ⟨⟨g_verb_outcome m v, g_meant_outcome m v, g_done_outcome m v, g_into_outcome m v, g_it_outcome m v⟩, ⟨g_asked_outcome m v, g_askedAt_outcome m v, g_length_outcome m v, g_order_outcome m v, g_answer_outcome m v⟩, fun _ _ _ _ J => MI_outcome J v⟩
theorem SB_questions (m : S6) (v : Int32) : SB m (S6_set_questions m v) := ⟨⟨g_verb_questions m v, g_meant_questions m v, g_done_questions m v, g_into_questions m v, g_it_questions m v⟩, ⟨g_asked_questions m v, g_askedAt_questions m v, g_length_questions m v, g_order_questions m v, g_answer_questions m v⟩, fun _ _ _ _ J => MI_questions J v⟩
theorem SB_count (m : S6) (v : Int32) : SB m (S6_set_count m v) := ⟨⟨g_verb_count m v, g_meant_count m v, g_done_count m v, g_into_count m v, g_it_count m v⟩, ⟨g_asked_count m v, g_askedAt_count m v, g_length_count m v, g_order_count m v, g_answer_count m v⟩, fun _ _ _ _ J => MI_count J v⟩
theorem SB_thrown (m : S6) (v : Int32) : SB m (S6_set_thrown m v) := ⟨⟨g_verb_thrown m v, g_meant_thrown m v, g_done_thrown m v, g_into_thrown m v, g_it_thrown m v⟩, ⟨g_asked_thrown m v, g_askedAt_thrown m v, g_length_thrown m v, g_order_thrown m v, g_answer_thrown m v⟩, fun _ _ _ _ J => MI_thrown J v⟩
theorem SB_words (m : S6) (v : Nat → Int32) : SB m (S6_set_words m v) := ⟨⟨g_verb_words m v, g_meant_words m v, g_done_words m v, g_into_words m v, g_it_words m v⟩, ⟨g_asked_words m v, g_askedAt_words m v, g_length_words m v, g_order_words m v, g_answer_words m v⟩, fun _ _ _ _ J => MI_words J v⟩
theorem SB_Mem {s1 : S1} {m A : S6} {n : Nat} (h : SB m A) (q : MemR s1 m n) : MemR s1 A n := by
  obtain ⟨⟨h1, h2, h3, h4, h5⟩, -, -⟩ := h
  exact MemR_of h1 h2 h3 h4 h5 q
theorem SB_Q {s2 : S2} {s5 t5 : S5} {m m2 : S6} {n : Nat} (h : SB m m2) (a1 : S5_askedThings t5 = S5_askedThings s5) (a2 : S5_askedPhrase t5 = S5_askedPhrase s5) (q : QR s2 s5 m n) : QR s2 t5 m2 n := by
  obtain ⟨-, ⟨b1, b2, b3, b4, b5⟩, -⟩ := h
  rcases q with ⟨h1, h2, h3⟩ | ⟨q, i, c, w, len, ⟨h1, h2, h3, h4, h5, h6, h7, h8⟩, ho, hL, hA, hv⟩
  · exact Or.inl ⟨a1.trans h1, b1.trans h2, b2.trans h3⟩
  · exact Or.inr ⟨q, i, c, w, len, ⟨h1, h2, a1.trans h3, b1.trans h4, a2.trans h5, h6, h7, b2.trans h8⟩, OR_of b3 b4 ho, hL, fun j hj => AnR_of b5 (hA j hj), hv⟩
theorem LyG_ans {w : Nat → Int32} {len : Nat} {s2 : S2} {c : Nat} (h : LyG w len s2 c) (f : Nat → Int32) : LyG w len (S2_set_answers s2 f) c := h
/-- words that answer a question: both sides -/
theorem e_hearAnswer {s0 : S0} {s1 : S1} {s2 : S2} {s4 : S4} {s5 : S5} {m : S6} {w : Nat → Int32} {len n kb ko : Nat} {adj noun : Int32} (I : WI s4 n kb ko) (J : MI m s4 n kb ko) (hM : MemR s1 m n) (hs : WS m w len) (hQ : QR s2 s5 m n) (hnz : ¬ S5_askedThings s5 = 0) (hw5 : S5_wrongPlace s5 = -1) :
    ∃ r t0 t1 t2 t3 t4 t5 m2, fX5_hearAnswer s0 s1 s2 (mk3 w len 0 adj noun) s4 s5 = some (r, t0, t1, t2, t3, t4, t5) ∧ (bn1 (fX6_wrongAnswer m) fun r_6 => if S6_wrongAt (S6_set_wrongAt m r_6) = -1 then fX6_understand_130 64 (S6_set_wrongAt m r_6) 0 (-1) 0 else some (4, S6_set_wrongAt m r_6)) = some (r, m2) ∧ HR t2 n kb s5 t5 m m2 t1 t4 ∧ ∃ p a nn, t3 = mk3 w len p a nn := by
  have hn := I.1
  have hl := hs.2.2.2
  have hQ0 := hQ
  rcases hQ with ⟨h1, -, -⟩ | ⟨q, i, c, w', len', ⟨h1, h2, h3, h4, h5, h6, h7, h8⟩, ho, hL, hA, hv⟩
  · exact absurd h1 hnz
  have hq12 := lt12 hn h2
  unfold fX5_hearAnswer
  rcases e_readAns hs adj noun with ⟨a, nn, r1, r2, r3⟩ | ⟨p, a, nn, r1, r0, r2⟩
  · rw [r1, bn2_s, if_neg (by decide), r2, bn1_s, g_wrongAt_wrongAt, if_pos rfl, r3 _ (WS_kp (kp_wrongAt m (-1)) hs), h3, show S3_adjectives (mk3 w len len a nn) = a from rfl, show S3_noun (mk3 w len len a nn) = nn from rfl, e_described I hq12, bn1_s]
    obtain ⟨B, hB⟩ : ∃ B, B = S6_set_wrongAt m (-1) := ⟨_, rfl⟩
    have sB : SB m B := by
      rw [hB]
      exact SB_wrongAt m (-1)
    have kB : kp B = kp m := by
      rw [hB]
      exact kp_wrongAt m (-1)
    have wB : S6_wrongAt B = -1 := by rw [hB, g_wrongAt_wrongAt]
    rw [← hB]
    clear hB
    have JB := sB.2.2 _ _ _ _ J
    obtain ⟨F, hF⟩ : ∃ F, F = mkS (fun t => q.testBit t && DS (S4_nouns s4) (S4_adjectiveSets s4) a nn t) n := ⟨_, rfl⟩
    have hFn : F < 2 ^ n := by rw [hF]; exact mkS_lt _ n
    have hF12 := lt12 hn hFn
    unfold UF
    rw [sB.2.1.1, h4, e_having I JB hq12, bn1_s, ← hF]
    clear hF
    by_cases z : F = 0
    · have z0 : nI F = 0 := by rw [z]; rfl
      rw [if_pos z0, if_pos z0]
      exact ⟨_, _, _, _, _, _, _, _, rfl, rfl, ⟨kB, SB_Mem sB hM, ⟨ko, I, JB⟩, hw5.trans wB.symm, rfl, SB_Q sB rfl rfl hQ0⟩, _, _, _, rfl⟩
    · have z0 : ¬ nI F = 0 := fun y => z (nI_inj (a := F) (b := 0) (by omega) (by decide) y)
      have hp := pc_le 12 F
      have hp0 : pc 12 F ≠ 0 := fun y => z ((pc_zero hF12).mp y)
      rw [if_neg z0, if_neg z0, e_bitCount hF12, e_mbits hF12, bn1_s, bn1_s]
      by_cases y : pc 12 F = 1
      · obtain ⟨t, t12, rfl⟩ := pc_one hF12 y
        have htn : t < n := bit_lt hFn Nat.testBit_two_pow_self
        have hph := hL.1.2.1
        have hE := (hph i (by omega)).2.2.1
        have hl' := ho.2.1
        obtain ⟨D, hD⟩ : ∃ D, D = S5_set_askedPhrase (S5_set_askedThings s5 0) (-1) := ⟨_, rfl⟩
        have d1 : S5_askedThings D = 0 := by rw [hD]; rfl
        have d2 : S5_wrongPlace D = -1 := by rw [hD]; exact hw5
        have d3 : S5_questionCount D = S5_questionCount s5 := by rw [hD]; rfl
        have hdq : fX5_dropQuestion s5 = some D := by rw [hD]; rfl
        clear hD
        have hans : fX2_answer s2 (nI i) (nI (2 ^ t)) = some (S2_set_answers s2 (upd (S2_answers s2) i (nI (2 ^ t)))) := by
          unfold fX2_answer fX2_answer_15
          rw [e_hasP hL.1.1 h7 (by omega), bn1_s, if_neg (by decide), ai24 (by omega), cl_nI (by omega)]
        rw [y, if_pos (by decide), if_pos (by decide), h5, hans, bn1_s, hdq, bn1_s, e_lowest t t12, bn1_s, sB.2.1.2.1, h8, ai24 (by omega), cl_nI (by omega), bn2_id]
        obtain ⟨P, hP⟩ : ∃ P, P = S6_set_answer B (upd (S6_answer B) (E2 s2 i) (nI t)) := ⟨_, rfl⟩
        have p1 : kp P = kp m := by
          rw [hP, kp_answer]
          exact kB
        have p2 : S6_length P = S6_length m := by
          rw [hP, g_length_answer]
          exact sB.2.1.2.2.1
        have p3 : S6_order P = S6_order m := by
          rw [hP, g_order_answer]
          exact sB.2.1.2.2.2.1
        have p4 : S6_answer P = upd (S6_answer m) (E2 s2 i) (nI t) := by rw [hP, g_answer_answer, sB.2.1.2.2.2.2]
        have p5 : MI P s4 n kb ko := by
          rw [hP]
          exact MI_answer JB _
        have p6 : MemR s1 P n := by
          rw [hP]
          exact MemR_of (g_verb_answer _ _) (g_meant_answer _ _) (g_done_answer _ _) (g_into_answer _ _) (g_it_answer _ _) (SB_Mem sB hM)
        have p7 : S6_wrongAt P = -1 := by
          rw [hP, g_wrongAt_answer]
          exact wB
        rw [← hP]
        clear hP
        have K : LK s1 (S2_set_answers s2 (upd (S2_answers s2) i (nI (2 ^ t)))) s4 P w' len' n kb ko c := by
          refine ⟨I, p5, OR_of p2 p3 ho, LyG_ans hL _, p6.2.2.2.2, fun j hj => ?_⟩
          by_cases e : j = i
          · subst e
            refine Or.inr ⟨t, htn, up_same _ _ _, ?_⟩
            show S6_answer P (E2 s2 j) = _
            rw [p4, up_same]
          · have x1 : S2_answers (S2_set_answers s2 (upd (S2_answers s2) i (nI (2 ^ t)))) j = S2_answers s2 j := up_ne _ _ e
            have x2 : S6_answer P (E2 s2 j) = S6_answer m (E2 s2 j) := by rw [p4, up_ne _ _ (E2_inj hph (by omega) hj e)]
            rcases hA j hj with ⟨b1, b2⟩ | ⟨u, b1, b2, b3⟩
            · exact Or.inl ⟨x1.trans b1, x2.trans b2⟩
            · exact Or.inr ⟨u, b1, x1.trans b2, x2.trans b3⟩
        obtain ⟨r, t0, t1, t4, t5, m2, f1, f2, g1, g2, g3, g4, g5, g6⟩ := e_lookQ (s0 := s0) (s5 := D) K h7 p6 hv d1 (d2.trans p7.symm)
        rw [f1, bn5_s]
        exact ⟨_, _, _, _, _, _, _, _, rfl, f2, ⟨g1.trans p1, g2, g3, g4, g5.trans d3, g6⟩, _, _, _, rfl⟩
      · have nle : ¬ nI (pc 12 F) ≤ 1 := nI_ge (a := 1) (b := pc 12 F) (by omega) (by omega)
        rw [if_neg nle, if_neg nle]
        have sB2 : SB B B := ⟨⟨rfl, rfl, rfl, rfl, rfl⟩, ⟨rfl, rfl, rfl, rfl, rfl⟩, fun _ _ _ _ q => q⟩
        refine ⟨_, _, _, _, _, _, _, _, rfl, rfl, ⟨(kp_asked _ _).trans kB, MemR_of (g_verb_asked _ _) (g_meant_asked _ _) (g_done_asked _ _) (g_into_asked _ _) (g_it_asked _ _) (SB_Mem sB hM), ⟨ko, I, MI_asked JB _⟩, hw5.trans ((g_wrongAt_asked _ _).trans wB).symm, rfl, Or.inr ⟨F, i, c, w', len', ⟨by omega, hFn, rfl, g_asked_asked _ _, h5, h6, h7, (g_askedAt_asked _ _).trans (sB.2.1.2.1.trans h8)⟩, OR_of (g_length_asked _ _) (g_order_asked _ _) (OR_of sB.2.1.2.2.1 sB.2.1.2.2.2.1 ho), hL, fun j hj => AnR_of (g_answer_asked _ _) (AnR_of sB.2.1.2.2.2.2 (hA j hj)), hv⟩⟩, _, _, _, rfl⟩
  · have ne : ¬ nI p = -1 := nI_ne1 (by omega)
    rw [r1, bn2_s, if_pos rfl, r2, bn1_s, g_wrongAt_wrongAt, if_neg ne]
    exact ⟨_, _, _, _, _, _, _, _, rfl, rfl, ⟨kp_wrongAt _ _, SB_Mem (SB_wrongAt _ _) hM, ⟨ko, I, MI_wrongAt J _⟩, (g_wrongAt_wrongAt _ _).symm, rfl, SB_Q (SB_wrongAt _ _) rfl rfl hQ0⟩, _, _, _, rfl⟩
