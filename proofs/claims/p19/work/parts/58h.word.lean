/-- a word that is neither a verb nor a small word -/
def iW (a : Int32) : Bool := wA a || wN a || wP a
theorem isW19 (a : Int32) : fX5_isWord_19 a = some (if iW a = true then 1 else 0) := by
  have bA : fX5_isBetween a 20 6 = some (if wA a = true then 1 else 0) := e_isB
  have bN : fX5_isBetween a 30 8 = some (if wN a = true then 1 else 0) := e_isB
  have bP : fX5_isBetween a 40 8 = some (if wP a = true then 1 else 0) := e_isB
  unfold fX5_isWord_19 fX5_isWord_52 fX5_isWord_57 iW
  rw [bA, bN, bP, bn1_s, bn1_s, bn1_s]
  by_cases x : wA a = true
  · rw [if_pos x, if_neg (by decide), bo1, x]
    rfl
  · rw [if_neg x, if_pos rfl, bF x]
    by_cases y : wN a = true
    · rw [if_pos y, if_neg (by decide), bo1, y]
      rfl
    · rw [if_neg y, if_pos rfl, bF y]
      by_cases z : wP a = true
      · rw [if_pos z, if_neg (by decide), bo1, z]
        rfl
      · rw [if_neg z, if_pos rfl, bo0, bF z]
        rfl
theorem mW19 (a : Int32) (m : S6) : fX6_word_19 a m = fX6_word_45 a m (if iW a = true then 1 else 0) := by
  unfold fX6_word_19 fX6_word_40 iW
  rw [e_mA, bn1_s]
  by_cases x : wA a = true
  · rw [if_pos x, if_neg (by decide), x]
    rfl
  · rw [if_neg x, if_pos rfl, e_mN, bn1_s, bF x]
    by_cases y : wN a = true
    · rw [if_pos y, if_neg (by decide), y]
      rfl
    · rw [if_neg y, if_pos rfl, e_mP, bn1_s, bF y]
      by_cases z : wP a = true
      · rw [if_pos z, if_neg (by decide), z]
        rfl
      · rw [if_neg z, if_pos rfl, bF z]
        rfl
theorem isW_both (a : Int32) (m : S6) : ∃ b : Int32, (b = 0 ∨ b = 1) ∧ fX5_isWord a = some b ∧ fX6_word m a = fX6_word_45 a m b := by
  unfold fX5_isWord fX6_word fX6_word_40
  rw [isW19, mW19]
  by_cases v : isV a
  · rw [cV v, mV v, bn1_s, bn1_s, if_neg (by decide), if_neg (by decide)]
    unfold fX5_isWord_52 fX5_isWord_57
    exact ⟨1, Or.inr rfl, bo1 _, rfl⟩
  · rw [cnV v, mnV v, bn1_s, bn1_s, if_pos rfl, if_pos rfl]
    unfold fX5_isWord_52 fX5_isWord_57
    rw [bo1]
    by_cases x : a < 10
    · rw [if_pos x, if_pos x]
      by_cases z : iW a = true
      · rw [if_pos z]
        exact ⟨1, Or.inr rfl, rfl, rfl⟩
      · rw [if_neg z]
        exact ⟨0, Or.inl rfl, rfl, rfl⟩
    · rw [if_neg x, if_neg x]
      by_cases y : a ≤ 17
      · rw [if_pos y, if_pos y]
        exact ⟨1, Or.inr rfl, rfl, rfl⟩
      · rw [if_neg y, if_neg y]
        by_cases z : iW a = true
        · rw [if_pos z]
          exact ⟨1, Or.inr rfl, rfl, rfl⟩
        · rw [if_neg z]
          exact ⟨0, Or.inl rfl, rfl, rfl⟩
theorem mayB0 (m : S6) (x : Int32) : fX6_mayBoth m 0 x = some (0, S6_set_thrown m 1) := by
  unfold fX6_mayBoth fX6_mayBoth_18 fX6_mayBoth_33
  rw [if_pos rfl, g_thrown_thrown, if_neg (by decide), bo0]
theorem mayB10 (m : S6) : fX6_mayBoth m 1 0 = some (0, S6_set_thrown m 2) := by
  unfold fX6_mayBoth fX6_mayBoth_18 fX6_mayBoth_33
  rw [if_neg (by decide), if_pos rfl, g_thrown_thrown, if_neg (by decide), bo0]
theorem mayB11 (m : S6) : fX6_mayBoth m 1 1 = some (1, S6_set_thrown m 0) := by
  unfold fX6_mayBoth fX6_mayBoth_18 fX6_mayBoth_33
  rw [if_neg (by decide), if_neg (by decide), g_thrown_thrown, if_pos rfl, bo1]
/-- other words given, on both sides -/
theorem SR_words {s1 : S1} {s2 : S2} {s4 : S4} {s5 : S5} {m : S6} {len : Nat} {w : Nat → Int32} {adj noun : Int32} (h : SR s1 s2 (mk3 w len 0 adj noun) s4 s5 m) (v : Nat → Int32) (l : Nat) (hl : l ≤ 24) : SR s1 s2 (mk3 v l 0 adj noun) s4 s5 (S6_set_count (S6_set_words m v) (nI l)) := by
  obtain ⟨n, kb, ko, len', w', adj', noun', I, J, hM, ⟨h1, -, -, -⟩, ⟨ho, hp, hq⟩, hQ⟩ := h
  have sB : SB m (S6_set_count (S6_set_words m v) (nI l)) := SB_tr (SB_words m v) (SB_count _ _)
  refine ⟨n, kb, ko, l, v, adj, noun, I, sB.2.2 _ _ _ _ J, SB_Mem sB hM, ⟨rfl, hl, ?_, g_count_count _ _⟩, ⟨?_, ?_, ?_⟩, SB_Q sB rfl rfl hQ⟩
  · rw [g_words_count, g_words_words]
  · rw [g_outcome_count, g_outcome_words]; exact ho
  · rw [g_wrongAt_count, g_wrongAt_words]; exact hp
  · rw [g_questions_count, g_questions_words]; exact hq
theorem op_word {s1 : S1} {s2 : S2} {s3 : S3} {s4 : S4} {s5 : S5} {m : S6} (h : SR s1 s2 s3 s4 s5 m) (a : Int32) : ∃ k r t3 m', fX5_word s3 s5 a = some (k, r, t3) ∧ fX6_word m a = some (r, m') ∧ S6_thrown m' = k ∧ SR s1 s2 (if k = 0 then t3 else s3) s4 s5 m' := by
  have h' := h
  obtain ⟨n, kb, ko, len, w, adj, noun, I, J, hM, ⟨rfl, hl, hw, hc⟩, ⟨ho, hp, hq⟩, hQ⟩ := h
  obtain ⟨b, hb, e1, e2⟩ := isW_both a m
  unfold fX5_word
  rw [e1, e2, bn1_s, show S3_count (mk3 w len 0 adj noun) = nI len from rfl]
  unfold fX6_word_45 fX6_word_62
  rw [hc]
  rcases hb with rfl | rfl
  · have two : ∀ x : Option (Int32 × S6), (if (24 : Int32) ≤ nI len then x else x) = x := fun x => by split <;> rfl
    rw [if_pos rfl, mayB0, mayB0, bn2_s, if_pos rfl, two]
    exact ⟨1, 0, _, _, rfl, rfl, g_thrown_thrown _ _, SR_thr h' 1⟩
  · rw [if_neg (show ¬ (1 : Int32) = 0 by decide), mayB10, mayB11, bn2_s, bn2_s, if_pos rfl, if_neg (show ¬ (1 : Int32) = 0 by decide)]
    by_cases z : len < 24
    · have lt : nI len < 24 := nI_lt (a := len) (b := 24) z (by decide)
      have ad : fX3_add (mk3 w len 0 adj noun) a = some (mk3 (upd w len a) (len + 1) 0 adj noun) := by
        unfold fX3_add fX3_add_36
        rw [show S3_count (mk3 w len 0 adj noun) = nI len from rfl, if_neg (ng (by omega)), if_neg (ge24 z), ai24 z, cl_nI (by omega), nI_1]
        rfl
      rw [if_pos lt, ad, bn1_s, if_neg (ge24 z), g_count_thrown, hc, ai24 z, cl_nI (by omega), g_words_thrown, hw, g_count_words, g_count_thrown, hc, nI_1, g_count_count]
      exact ⟨0, _, _, _, rfl, rfl, by rw [g_thrown_count, g_thrown_words, g_thrown_thrown], SR_words (SR_thr h' 0) _ _ (by omega)⟩
    · have nlt : ¬ nI len < 24 := nI_nlt (a := len) (b := 24) (by omega) (by omega)
      rw [if_neg nlt, if_pos (ge24' (by omega) (by omega))]
      exact ⟨2, 0, _, _, rfl, rfl, g_thrown_thrown _ _, SR_thr h' 2⟩
theorem op_back {s1 : S1} {s2 : S2} {s3 : S3} {s4 : S4} {s5 : S5} {m : S6} (h : SR s1 s2 s3 s4 s5 m) : ∃ k r t3 m', fX5_back s3 s5 = some (k, r, t3) ∧ fX6_back m = some (r, m') ∧ S6_thrown m' = k ∧ SR s1 s2 (if k = 0 then t3 else s3) s4 s5 m' := by
  have h' := h
  obtain ⟨n, kb, ko, len, w, adj, noun, I, J, hM, ⟨rfl, hl, hw, hc⟩, ⟨ho, hp, hq⟩, hQ⟩ := h
  unfold fX5_back fX6_back fX6_back_13
  rw [show S3_count (mk3 w len 0 adj noun) = nI len from rfl, hc]
  by_cases z : len = 0
  · subst z
    rw [if_neg (by decide), if_pos (by decide), may0, bn2_s, if_pos rfl]
    exact ⟨1, 0, _, _, rfl, rfl, g_thrown_thrown _ _, SR_thr h' 1⟩
  · have lt : 0 < nI len := nI_lt (a := 0) (b := len) (by omega) (by omega)
    have nle : ¬ nI len ≤ 0 := nI_ge (a := 0) (b := len) (by omega) (by omega)
    have sb : nI len - 1 = nI (len - 1) := pk_sub (a := len) (b := 1) (by omega)
    have rm : fX3_removeLast (mk3 w len 0 adj noun) = some (w (len - 1), mk3 w (len - 1) 0 adj noun) := by
      unfold fX3_removeLast fX3_removeLast_16
      rw [show S3_count (mk3 w len 0 adj noun) = nI len from rfl, if_neg nle, if_pos (show nI len ≤ 24 from nI_le (a := len) (b := 24) hl (by decide)), sb, ai24 (by omega), cl_nI (by omega)]
      rfl
    rw [if_pos lt, rm, bn2_s, if_neg nle, may1, bn2_s, if_neg (by decide), g_count_thrown, hc, sb, g_count_count, ai24 (by omega), cl_nI (by omega), g_words_count, g_words_thrown, hw]
    have e : S6_set_count (S6_set_thrown m 0) (nI (len - 1)) = S6_set_count (S6_set_words (S6_set_thrown m 0) w) (nI (len - 1)) := by
      have q : S6_set_words (S6_set_thrown m 0) w = S6_set_thrown m 0 := by
        have q2 : w = S6_words (S6_set_thrown m 0) := by rw [g_words_thrown, hw]
        rw [q2]
        rfl
      rw [q]
    refine ⟨0, _, _, _, rfl, rfl, by rw [g_thrown_count, g_thrown_thrown], ?_⟩
    rw [e]
    exact SR_words (SR_thr h' 0) _ _ (by omega)
