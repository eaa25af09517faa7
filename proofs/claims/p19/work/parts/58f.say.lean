/-- both sides between two calls -/
def SR (s1 : S1) (s2 : S2) (s3 : S3) (s4 : S4) (s5 : S5) (m : S6) : Prop :=
  ∃ (n kb ko len : Nat) (w : Nat → Int32) (adj noun : Int32), WI s4 n kb ko ∧ MI m s4 n kb ko ∧ MemR s1 m n ∧ (s3 = mk3 w len 0 adj noun ∧ len ≤ 24 ∧ S6_words m = w ∧ S6_count m = nI len) ∧ (S5_lastOutcome s5 = S6_outcome m ∧ S5_wrongPlace s5 = S6_wrongAt m ∧ S5_questionCount s5 = S6_questions m) ∧ QR s2 s5 m n
theorem bn7_s {α α2 α3 α4 α5 α6 α7 β : Type} (a : α) (b : α2) (c : α3) (d : α4) (e : α5) (f : α6) (g : α7) (k : α → α2 → α3 → α4 → α5 → α6 → α7 → Option β) : bn7 (some (a, b, c, d, e, f, g)) k = k a b c d e f g := rfl
theorem say_end {r : Int32} {n kb len p : Nat} {w : Nat → Int32} {a nn : Int32} {t0 : S0} {t1 : S1} {t2 : S2} {t4 : S4} {t5 : S5} {m2 : S6} (hM : MemR t1 m2 n) (hW : ∃ ko2, WI t4 n kb ko2 ∧ MI m2 t4 n kb ko2) (hp : S5_wrongPlace t5 = S6_wrongAt m2) (hc : S5_questionCount t5 = S6_questions m2) (hQ : QR t2 t5 m2 n) (hw : S6_words m2 = w) :
    ∃ t5' m3, fX5_say_70 t0 t1 t2 (mk3 w len p a nn) t4 (S5_set_lastOutcome t5 r) = some (r, t0, t1, t2, mk3 w 0 0 a nn, t4, t5') ∧ (if S6_outcome (S6_set_outcome m2 r) = 1 then fX6_say_36 (S6_set_outcome m2 r) (S6_questions (S6_set_outcome m2 r)) 1 else fX6_say_36 (S6_set_outcome m2 r) (S6_questions (S6_set_outcome m2 r)) 0) = some (r, m3) ∧ SR t1 t2 (mk3 w 0 0 a nn) t4 t5' m3 := by
  have key : ∀ x : Int32, fX6_say_36 (S6_set_outcome m2 r) (S6_questions (S6_set_outcome m2 r)) x = some (r, S6_set_count (S6_set_questions (S6_set_outcome m2 r) (S6_questions m2 + x)) 0) := fun x => by
    unfold fX6_say_36
    rw [g_questions_outcome, g_outcome_count, g_outcome_questions, g_outcome_outcome]
  obtain ⟨ko2, I, J⟩ := hW
  have fin : ∀ (t5' : S5) (v : Int32), S5_lastOutcome t5' = r → S5_wrongPlace t5' = S5_wrongPlace t5 → S5_questionCount t5' = v → S5_askedThings t5' = S5_askedThings t5 → S5_askedPhrase t5' = S5_askedPhrase t5 → SR t1 t2 (mk3 w 0 0 a nn) t4 t5' (S6_set_count (S6_set_questions (S6_set_outcome m2 r) v) 0) := fun t5' v a1 a2 a3 a4 a5 => by
    have sB : SB m2 (S6_set_count (S6_set_questions (S6_set_outcome m2 r) v) 0) := SB_tr (SB_outcome m2 r) (SB_tr (SB_questions _ v) (SB_count _ 0))
    refine ⟨n, kb, ko2, 0, w, a, nn, I, sB.2.2 _ _ _ _ J, SB_Mem sB hM, ⟨rfl, by omega, ?_, ?_⟩, ⟨?_, ?_, ?_⟩, SB_Q sB a4 a5 hQ⟩
    · rw [g_words_count, g_words_questions, g_words_outcome]; exact hw
    · rw [g_count_count]; rfl
    · rw [g_outcome_count, g_outcome_questions, g_outcome_outcome]; exact a1
    · rw [g_wrongAt_count, g_wrongAt_questions, g_wrongAt_outcome]; exact a2.trans hp
    · rw [g_questions_count, g_questions_questions]; exact a3
  unfold fX5_say_70 fX5_say_88 fX3_clear
  rw [g_outcome_outcome, key, key, bn1_s, bn1_s]
  by_cases z : r = 1
  · have z5 : S5_lastOutcome (S5_set_lastOutcome t5 r) = 1 := z
    rw [if_pos z5, if_pos z]
    refine ⟨_, _, rfl, rfl, fin _ _ rfl rfl ?_ rfl rfl⟩
    show S5_questionCount t5 + 1 = _
    rw [hc]
  · have z5 : ¬ S5_lastOutcome (S5_set_lastOutcome t5 r) = 1 := z
    rw [if_neg z5, if_neg z]
    refine ⟨_, _, rfl, rfl, fin _ _ rfl rfl ?_ rfl rfl⟩
    show S5_questionCount t5 = _
    rw [hc, Int32.add_zero]
theorem isV_of {x : Int32} (h : ¬ x < 0) (g : ¬ 4 < x) : isV x := by
  obtain ⟨j, hj, rfl⟩ := nI_of h
  have b : j ≤ 4 := by
    rcases Nat.lt_or_ge 4 j with q | q
    · exact absurd (nI_lt (a := 4) (b := j) q hj) g
    · exact q
  have c : j = 0 ∨ j = 1 ∨ j = 2 ∨ j = 3 ∨ j = 4 := by omega
  rcases c with rfl | rfl | rfl | rfl | rfl
  · exact Or.inl rfl
  · exact Or.inr (Or.inl rfl)
  · exact Or.inr (Or.inr (Or.inl rfl))
  · exact Or.inr (Or.inr (Or.inr (Or.inl rfl)))
  · exact Or.inr (Or.inr (Or.inr (Or.inr rfl)))
theorem cnV {x : Int32} (h : ¬ isV x) : fX5_isVerb x = some 0 := by
  unfold fX5_isVerb fX5_isVerb_13 fX5_isVerb_14
  by_cases a : x < 0
  · rw [if_pos a, bo0]
  · rw [if_neg a]
    by_cases b : 4 < x
    · rw [if_pos b, bo0]
    · exact absurd (isV_of a b) h
theorem mnV {x : Int32} (h : ¬ isV x) : fX6_isVerb x = some 0 := by
  unfold fX6_isVerb fX6_isVerb_13 fX6_isVerb_14
  by_cases a : x < 0
  · rw [if_pos a, bo0]
  · rw [if_neg a]
    by_cases b : 4 < x
    · rw [if_pos b, bo0]
    · exact absurd (isV_of a b) h
theorem QR_nz {s2 : S2} {s5 : S5} {m : S6} {n : Nat} (hn : n ≤ 12) (h : QR s2 s5 m n) : S5_askedThings s5 = S6_asked m := by
  rcases h with ⟨h1, h2, -⟩ | ⟨q, i, c, w, len, ⟨h1, h2, h3, h4, -⟩, -⟩
  · exact h1.trans h2.symm
  · exact h3.trans h4.symm
theorem e_say {s0 : S0} {s1 : S1} {s2 : S2} {s3 : S3} {s4 : S4} {s5 : S5} {m : S6} (h : SR s1 s2 s3 s4 s5 m) :
    ∃ r t0 t1 t2 t3 t4 t5 m2, fX5_say s0 s1 s2 s3 s4 s5 = some (r, t0, t1, t2, t3, t4, t5) ∧ fX6_say m = some (r, m2) ∧ SR t1 t2 t3 t4 t5 m2 := by
  obtain ⟨n, kb, ko, len, w, adj, noun, I, J, hM, ⟨rfl, hl, hw, hc⟩, ⟨ho, hp, hq⟩, hQ⟩ := h
  obtain ⟨B, hB⟩ : ∃ B, B = S6_set_wrongAt (S6_set_thrown m 0) (-1) := ⟨_, rfl⟩
  have sB : SB m B := by
    rw [hB]
    exact SB_tr (SB_thrown m 0) (SB_wrongAt _ _)
  have wB : S6_wrongAt B = -1 := by rw [hB, g_wrongAt_wrongAt]
  have cB : S6_count B = nI len := by rw [hB, g_count_wrongAt, g_count_thrown, hc]
  have woB : S6_words B = w := by rw [hB, g_words_wrongAt, g_words_thrown, hw]
  have qB : S6_questions B = S6_questions m := by rw [hB, g_questions_wrongAt, g_questions_thrown]
  have hsay : fX6_say m = bn2 (fX6_understand B) fun r_1 s6_1 => if S6_outcome (S6_set_outcome s6_1 r_1) = 1 then fX6_say_36 (S6_set_outcome s6_1 r_1) (S6_questions (S6_set_outcome s6_1 r_1)) 1 else fX6_say_36 (S6_set_outcome s6_1 r_1) (S6_questions (S6_set_outcome s6_1 r_1)) 0 := by
    rw [hB]
    rfl
  clear hB
  obtain ⟨X, hX⟩ : ∃ X, X = S5_set_wrongPlace s5 (-1) := ⟨_, rfl⟩
  have x1 : S5_wrongPlace X = -1 := by rw [hX]; rfl
  have x2 : S5_questionCount X = S5_questionCount s5 := by rw [hX]; rfl
  have x3 : S5_askedThings X = S5_askedThings s5 := by rw [hX]; rfl
  have x4 : S5_askedPhrase X = S5_askedPhrase s5 := by rw [hX]; rfl
  have JB := sB.2.2 _ _ _ _ J
  have MB := SB_Mem sB hM
  have QB : QR s2 X B n := SB_Q sB x3 x4 hQ
  have hqX : S5_questionCount X = S6_questions B := x2.trans (hq.trans qB.symm)
  unfold fX5_say
  rw [hsay, ← hX, show S3_count (mk3 w len 0 adj noun) = nI len from rfl]
  clear hX hsay
  by_cases z : len = 0
  · have z0 : nI len = 0 := by rw [z]; rfl
    have u : fX6_understand B = some (2, B) := by
      unfold fX6_understand
      rw [cB, if_pos z0]
    obtain ⟨t5, m3, e1, e2, e3⟩ := say_end (r := 2) (t0 := s0) (len := len) (p := 0) (a := adj) (nn := noun) MB ⟨ko, I, JB⟩ (x1.trans wB.symm) hqX QB woB
    rw [if_pos z0, u, bn2_s, e1, e2]
    exact ⟨_, _, _, _, _, _, _, _, rfl, rfl, e3⟩
  · have h1 : 1 ≤ len := by omega
    have z0 := nz_len h1 hl
    have hs : WS B w len := ⟨woB, cB, h1, hl⟩
    rw [if_neg z0, e_peek hl (Nat.zero_le len), if_pos (show 0 < len from h1), bn1_s]
    by_cases hv : isV (w 0)
    · obtain ⟨r, t0, t1, t2, t3, t4, t5, m2, f1, f2, ⟨g1, g2, g3, g4, g5, g6⟩, p, a, nn, g7⟩ := e_hearOrder (s0 := s0) (s2 := s2) (adj := adj) (noun := noun) I JB MB hs hv x1 wB
      obtain ⟨k1, k2, k3, k4⟩ := kp_ex g1
      subst g7
      obtain ⟨t5', m3, e1, e2, e3⟩ := say_end (r := r) (t0 := t0) (len := len) (p := p) (a := a) (nn := nn) g2 g3 g4 (g5.trans (hqX.trans k4.symm)) g6 (k2.trans woB)
      rw [cV hv, bn1_s, if_neg (by decide), f1, bn7_s, f2, bn2_s, e1, e2]
      exact ⟨_, _, _, _, _, _, _, _, rfl, rfl, e3⟩
    · have hu : fX6_understand B = if S6_asked B = 0 then some (3, B) else (bn1 (fX6_wrongAnswer B) fun r_6 => if S6_wrongAt (S6_set_wrongAt B r_6) = -1 then fX6_understand_130 64 (S6_set_wrongAt B r_6) 0 (-1) 0 else some (4, S6_set_wrongAt B r_6)) := by
        unfold fX6_understand
        rw [cB, if_neg z0, ai24_0, cl0, woB, mnV hv, bn1_s, if_pos rfl]
      have ha := QR_nz I.1 QB
      rw [cnV hv, bn1_s, if_pos rfl, hu]
      by_cases y : S5_askedThings s5 = 0
      · have y2 : S6_asked B = 0 := by rw [← ha, x3, y]
        obtain ⟨t5, m3, e1, e2, e3⟩ := say_end (r := 3) (t0 := s0) (len := len) (p := 0) (a := adj) (nn := noun) MB ⟨ko, I, JB⟩ (x1.trans wB.symm) hqX QB woB
        rw [if_pos y, if_pos y2, bn2_s, e1, e2]
        exact ⟨_, _, _, _, _, _, _, _, rfl, rfl, e3⟩
      · have y2 : ¬ S6_asked B = 0 := by rw [← ha, x3]; exact y
        obtain ⟨r, t0, t1, t2, t3, t4, t5, m2, f1, f2, ⟨g1, g2, g3, g4, g5, g6⟩, p, a, nn, g7⟩ := e_hearAnswer (s0 := s0) (adj := adj) (noun := noun) I JB MB hs QB (by rw [x3]; exact y) x1
        obtain ⟨k1, k2, k3, k4⟩ := kp_ex g1
        subst g7
        obtain ⟨t5', m3, e1, e2, e3⟩ := say_end (r := r) (t0 := t0) (len := len) (p := p) (a := a) (nn := nn) g2 g3 g4 (g5.trans (hqX.trans k4.symm)) g6 (k2.trans woB)
        rw [if_neg y, if_neg y2, f1, bn7_s, f2, bn2_s, e1, e2]
        exact ⟨_, _, _, _, _, _, _, _, rfl, rfl, e3⟩
