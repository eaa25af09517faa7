theorem pow_s {q n : Nat} (h : q < 2 ^ n) : q < 2 ^ (n + 1) := Nat.lt_of_lt_of_le h (Nat.pow_le_pow_right (by decide) (by omega))
theorem ItR_mono {s1 : S1} {m : S6} {n : Nat} (q : ItR s1 m n) : ItR s1 m (n + 1) := by
  rcases q with h | ⟨t, h1, h2, h3⟩
  · exact Or.inl h
  · exact Or.inr ⟨t, by omega, h2, h3⟩
theorem MemR_mono {s1 : S1} {m : S6} {n : Nat} (q : MemR s1 m n) : MemR s1 m (n + 1) := by
  obtain ⟨q1, ⟨mm, q2, q3, q4⟩, q5, q6, q7⟩ := q
  exact ⟨q1, ⟨mm, pow_s q2, q3, q4⟩, q5, q6, ItR_mono q7⟩
theorem AnR_mono {s2 : S2} {m : S6} {n i : Nat} (q : AnR s2 m n i) : AnR s2 m (n + 1) i := by
  rcases q with h | ⟨t, h1, h2, h3⟩
  · exact Or.inl h
  · exact Or.inr ⟨t, by omega, h2, h3⟩
theorem QR_mono {s2 : S2} {s5 : S5} {m : S6} {n : Nat} (h : QR s2 s5 m n) : QR s2 s5 m (n + 1) := by
  rcases h with h | ⟨q, i, c, w, len, ⟨h1, h2, h3⟩, ho, hL, hA, hv⟩
  · exact Or.inl h
  · exact Or.inr ⟨q, i, c, w, len, ⟨h1, pow_s h2, h3⟩, ho, hL, fun j hj => AnR_mono (hA j hj), hv⟩
/-- the boxes behind a new thing -/
def kbn (kb n : Nat) (a3 : Int32) : Nat := if a3 = 0 then kb else kb ||| 2 ^ n
theorem kbn_ne {kb n t : Nat} {a3 : Int32} (h : t ≠ n) : (kbn kb n a3).testBit t = kb.testBit t := by
  unfold kbn
  by_cases z : a3 = 0
  · rw [if_pos z]
  · rw [if_neg z, Nat.testBit_or, Nat.testBit_two_pow]
    have : ¬ n = t := fun q => h q.symm
    simp [this]
theorem WI_add {s T : S4} {n kb ko : Nat} (I : WI s n kb ko) (hn : n < 12) (a3 : Int32) (t1 : S4_count T = nI (n + 1)) (t2 : S4_boxes T = nI (kbn kb n a3)) (t3 : S4_openBoxes T = nI ko) (t4 : S4_holders T = upd (S4_holders s) n (-2)) : WI T (n + 1) (kbn kb n a3) ko := by
  obtain ⟨h1, h2, h3, h4, h5, h6, h7, L, l1, l2, l3⟩ := I
  refine ⟨hn, t1, t2, t3, ?_, h6, fun t ht => ⟨?_, (h7 t (by omega)).2⟩, n :: L, ?_, fun t => ?_, ?_⟩
  · unfold kbn
    by_cases z : a3 = 0
    · rw [if_pos z]; exact h5
    · rw [if_neg z]; exact Nat.or_lt_two_pow h5 (two_pow_lt12 hn)
  · rw [kbn_ne (by omega)]
    exact (h7 t (by omega)).1
  · rw [List.length_cons, l1]
  · rw [List.mem_cons, l2]
    omega
  · rw [t4]
    exact ⟨Or.inl (by rw [up_same]; decide), okL_out n (fun q => by have := (l2 n).mp q; omega) l3⟩
theorem e_add4 {s : S4} {n kb ko : Nat} (I : WI s n kb ko) (hn : n < 12) (a1 a2 a3 : Int32) : ∃ T, fX4_add s a1 a2 a3 = some (nI n, T) ∧ S4_count T = nI (n + 1) ∧ S4_boxes T = nI (kbn kb n a3) ∧ S4_openBoxes T = nI ko ∧ S4_holders T = upd (S4_holders s) n (-2) ∧ S4_nouns T = upd (S4_nouns s) n a1 ∧ S4_adjectiveSets T = upd (S4_adjectiveSets s) n a2 := by
  have hc := I.2.1
  have lt : nI n < 12 := nI_lt (a := n) (b := 12) hn (by decide)
  unfold fX4_add fX4_add_62 kbn
  rw [hc, if_neg (ng (by omega)), if_pos lt, ai12 hn, ai12 hn, ai12 hn, cl_nI (by omega), nI_shl (by omega), I.2.2.1, nI_or]
  by_cases z : a3 = 0
  · rw [if_pos z, if_pos z]
    refine ⟨_, rfl, ?_, I.2.2.1, I.2.2.2.1, rfl, rfl, rfl⟩
    show S4_count s + 1 = _
    rw [hc, nI_1]
  · rw [if_neg z, if_neg z]
    refine ⟨_, rfl, ?_, rfl, I.2.2.2.1, rfl, rfl, rfl⟩
    show S4_count s + 1 = _
    rw [hc, nI_1]
/-- the reference's cells behind a new thing -/
def newT (M : S6) (n : Nat) (a1 a2 v : Int32) : S6 := S6_set_things (S6_set_place (S6_set_box (S6_set_adjectives (S6_set_noun M (upd (S6_noun M) n a1)) (upd (S6_adjectives M) n a2)) (upd (S6_box M) n v)) (upd (S6_place M) n (-2))) (nI (n + 1))
theorem th40_0 (m : S6) (a1 a2 a3 x : Int32) : fX6_thing_40 a1 a2 a3 m 0 x = some (0, S6_set_thrown m 1) := by
  unfold fX6_thing_40
  rw [mayB0, bn2_s, if_pos rfl]
theorem th40_10 (m : S6) (a1 a2 a3 : Int32) : fX6_thing_40 a1 a2 a3 m 1 0 = some (0, S6_set_thrown m 2) := by
  unfold fX6_thing_40
  rw [mayB10, bn2_s, if_pos rfl]
theorem th40_11 {m : S6} {n : Nat} (hn : n < 12) (ht : S6_things m = nI n) (a1 a2 a3 : Int32) : fX6_thing_40 a1 a2 a3 m 1 1 = some (nI n, newT (S6_set_thrown m 0) n a1 a2 (vp_nar .boolean a3)) := by
  have hM : S6_things (S6_set_thrown m 0) = nI n := by rw [g_things_thrown, ht]
  have hcl : (nI n).toNatClampNeg = n := cl_nI (by omega)
  have hsb : nI (n + 1) - 1 = nI n := pk_sub (a := n + 1) (b := 1) (by omega)
  unfold fX6_thing_40 newT
  rw [mayB11, bn2_s, if_neg (show ¬ (1 : Int32) = 0 by decide)]
  generalize S6_set_thrown m 0 = M at *
  simp only [g_things_noun, g_things_adjectives, g_things_box, g_things_place, g_things_things, g_adjectives_noun, g_box_adjectives, g_box_noun, g_place_box, g_place_adjectives, g_place_noun, hM, hcl, nI_1, hsb]
  rw [ai12 hn, ai12 hn, ai12 hn, ai12 hn]
theorem lt_not {a : Int32} (h : ¬ a < 0) {k : Nat} (hk : k + 1 < 2 ^ 31) : a < nI (k + 1) ↔ ¬ nI k < a := by
  obtain ⟨j, hj, rfl⟩ := nI_of h
  rw [nI_ltI hj hk, nI_ltI (by omega) hj]
  omega
theorem newT_SB (M : S6) (n : Nat) (a1 a2 v : Int32) : kp (newT M n a1 a2 v) = kp M ∧ S6_wrongAt (newT M n a1 a2 v) = S6_wrongAt M ∧ (S6_verb (newT M n a1 a2 v) = S6_verb M ∧ S6_meant (newT M n a1 a2 v) = S6_meant M ∧ S6_done (newT M n a1 a2 v) = S6_done M ∧ S6_into (newT M n a1 a2 v) = S6_into M ∧ S6_it (newT M n a1 a2 v) = S6_it M) ∧ (S6_asked (newT M n a1 a2 v) = S6_asked M ∧ S6_askedAt (newT M n a1 a2 v) = S6_askedAt M ∧ S6_length (newT M n a1 a2 v) = S6_length M ∧ S6_order (newT M n a1 a2 v) = S6_order M ∧ S6_answer (newT M n a1 a2 v) = S6_answer M) ∧ S6_thrown (newT M n a1 a2 v) = S6_thrown M := by
  unfold newT
  refine ⟨?_, ?_, ⟨?_, ?_, ?_, ?_, ?_⟩, ⟨?_, ?_, ?_, ?_, ?_⟩, ?_⟩
  · rw [kp_things, kp_place, kp_box, kp_adjectives, kp_noun]
  · rw [g_wrongAt_things, g_wrongAt_place, g_wrongAt_box, g_wrongAt_adjectives, g_wrongAt_noun]
  · rw [g_verb_things, g_verb_place, g_verb_box, g_verb_adjectives, g_verb_noun]
  · rw [g_meant_things, g_meant_place, g_meant_box, g_meant_adjectives, g_meant_noun]
  · rw [g_done_things, g_done_place, g_done_box, g_done_adjectives, g_done_noun]
  · rw [g_into_things, g_into_place, g_into_box, g_into_adjectives, g_into_noun]
  · rw [g_it_things, g_it_place, g_it_box, g_it_adjectives, g_it_noun]
  · rw [g_asked_things, g_asked_place, g_asked_box, g_asked_adjectives, g_asked_noun]
  · rw [g_askedAt_things, g_askedAt_place, g_askedAt_box, g_askedAt_adjectives, g_askedAt_noun]
  · rw [g_length_things, g_length_place, g_length_box, g_length_adjectives, g_length_noun]
  · rw [g_order_things, g_order_place, g_order_box, g_order_adjectives, g_order_noun]
  · rw [g_answer_things, g_answer_place, g_answer_box, g_answer_adjectives, g_answer_noun]
  · rw [g_thrown_things, g_thrown_place, g_thrown_box, g_thrown_adjectives, g_thrown_noun]
theorem QR_as {s2 : S2} {s5 : S5} {m m2 : S6} {n : Nat} (b : S6_asked m2 = S6_asked m ∧ S6_askedAt m2 = S6_askedAt m ∧ S6_length m2 = S6_length m ∧ S6_order m2 = S6_order m ∧ S6_answer m2 = S6_answer m) (q : QR s2 s5 m n) : QR s2 s5 m2 n := by
  obtain ⟨b1, b2, b3, b4, b5⟩ := b
  rcases q with ⟨h1, h2, h3⟩ | ⟨q, i, c, w, len, ⟨h1, h2, h3, h4, h5, h6, h7, h8⟩, ho, hL, hA, hv⟩
  · exact Or.inl ⟨h1, b1.trans h2, b2.trans h3⟩
  · exact Or.inr ⟨q, i, c, w, len, ⟨h1, h2, h3, b1.trans h4, h5, h6, h7, b2.trans h8⟩, OR_of b3 b4 ho, hL, fun j hj => AnR_of b5 (hA j hj), hv⟩
theorem MI_new {M : S6} {s T : S4} {n kb ko : Nat} {a1 a2 a3 : Int32} (I : WI s n kb ko) (J : MI M s n kb ko) (ha : a3 = 0 ∨ a3 = 1) (t5 : S4_nouns T = upd (S4_nouns s) n a1) (t6 : S4_adjectiveSets T = upd (S4_adjectiveSets s) n a2) (t4 : S4_holders T = upd (S4_holders s) n (-2)) : MI (newT M n a1 a2 (vp_nar .boolean a3)) T (n + 1) (kbn kb n a3) ko := by
  obtain ⟨j1, j2, j3, j4, j5, j6⟩ := J
  unfold newT
  refine ⟨?_, ?_, ?_, ?_, fun t ht => ?_, fun t ht => ?_⟩
  · rw [g_things_things]
  · rw [g_noun_things, g_noun_place, g_noun_box, g_noun_adjectives, g_noun_noun, t5, j2]
  · rw [g_adjectives_things, g_adjectives_place, g_adjectives_box, g_adjectives_adjectives, t6, j3]
  · rw [g_place_things, g_place_place, t4, j4]
  · rw [g_box_things, g_box_place, g_box_box]
    by_cases e : t = n
    · subst e
      have k0 := (I.2.2.2.2.2.2.1 t (Nat.le_refl t)).1
      rw [up_same]
      unfold kbn
      rcases ha with rfl | rfl
      · rw [nar0, if_pos rfl, k0, if_neg (by decide)]
      · rw [nar1, if_neg (show ¬ (1 : Int32) = 0 by decide), Nat.testBit_or, Nat.testBit_two_pow_self, Bool.or_true, if_pos rfl]
    · rw [up_ne _ _ e, kbn_ne e, j5 t ht]
  · rw [g_open_things, g_open_place, g_open_box, g_open_adjectives, g_open_noun, j6 t ht]
theorem op_thing {s1 : S1} {s2 : S2} {s3 : S3} {s4 : S4} {s5 : S5} {m : S6} (h : SR s1 s2 s3 s4 s5 m) (a1 a2 a3 : Int32) (ha : a3 = 0 ∨ a3 = 1) : ∃ k r t4 m', fX5_thing s4 s5 a1 a2 a3 = some (k, r, t4) ∧ fX6_thing m a1 a2 a3 = some (r, m') ∧ S6_thrown m' = k ∧ SR s1 s2 s3 (if k = 0 then t4 else s4) s5 m' := by
  have h' := h
  obtain ⟨n, kb, ko, len, w, adj, noun, I, J, hM, ⟨h3, hl, hw, hc⟩, ⟨ho, hp, hq⟩, hQ⟩ := h
  have hn := I.1
  have bad : ∀ b1 b2 b3 : Int32, fX6_thing_26 b1 b2 b3 m 0 = some (0, S6_set_thrown m 1) := fun b1 b2 b3 => by
    unfold fX6_thing_26
    rw [th40_0, th40_0]
    split <;> rfl
  have ref : ∃ r t4 m', (some ((1 : Int32), (0 : Int32), s4) : Option (Int32 × Int32 × S4)) = some (1, r, t4) ∧ (some ((0 : Int32), S6_set_thrown m 1) : Option (Int32 × S6)) = some (r, m') ∧ S6_thrown m' = 1 ∧ SR s1 s2 s3 (if (1 : Int32) = 0 then t4 else s4) s5 m' :=
    ⟨0, s4, _, rfl, rfl, g_thrown_thrown _ _, SR_thr h' 1⟩
  unfold fX5_thing fX6_thing fX6_thing_25
  rw [bad]
  by_cases c1 : a1 < 0
  · rw [if_pos c1, if_pos c1]
    exact ⟨1, ref⟩
  · rw [if_neg c1, if_neg c1]
    by_cases c2 : (7 : Int32) < a1
    · have g : ¬ a1 < 8 := fun q => (lt_not c1 (k := 7) (by decide)).mp q c2
      rw [if_neg g, if_pos c2]
      exact ⟨1, ref⟩
    · have g : a1 < 8 := (lt_not c1 (k := 7) (by decide)).mpr c2
      rw [if_pos g, if_neg c2]
      by_cases c3 : a2 < 0
      · rw [if_pos c3, if_pos c3]
        exact ⟨1, ref⟩
      · rw [if_neg c3, if_neg c3]
        by_cases c4 : (63 : Int32) < a2
        · have g : ¬ a2 < 64 := fun q => (lt_not c3 (k := 63) (by decide)).mp q c4
          rw [if_neg g, if_pos c4]
          exact ⟨1, ref⟩
        · have g : a2 < 64 := (lt_not c3 (k := 63) (by decide)).mpr c4
          rw [if_pos g, if_neg c4]
          unfold fX6_thing_26
          rw [I.2.1, J.1]
          by_cases z : n < 12
          · have lt : nI n < 12 := nI_lt (a := n) (b := 12) z (by decide)
            obtain ⟨T, e1, e2, e3, e4, e5, e6, e7⟩ := e_add4 I z a1 a2 a3
            rw [if_pos lt, e1, bn2_s, if_neg (ge12 z), th40_11 z J.1]
            obtain ⟨n1, n2, ⟨n3, n4, n5, n6, n7⟩, n8, n9⟩ := newT_SB (S6_set_thrown m 0) n a1 a2 (vp_nar .boolean a3)
            have sT := SB_thrown m 0
            obtain ⟨k1, k2, k3, k4⟩ := kp_ex n1
            refine ⟨0, _, _, _, rfl, rfl, n9.trans (g_thrown_thrown _ _), ?_⟩
            rw [if_pos rfl]
            refine ⟨n + 1, kbn kb n a3, ko, len, w, adj, noun, WI_add I z a3 e2 e3 e4 e5, MI_new I (MI_thrown J 0) ha e6 e7 e5, MemR_mono (MemR_of n3 n4 n5 n6 n7 (SB_Mem sT hM)), ⟨h3, hl, ?_, ?_⟩, ⟨?_, ?_, ?_⟩, QR_mono (QR_as n8 (SB_Q sT rfl rfl hQ))⟩
            · rw [k2, g_words_thrown]; exact hw
            · rw [k1, g_count_thrown]; exact hc
            · rw [k3, g_outcome_thrown]; exact ho
            · rw [n2, g_wrongAt_thrown]; exact hp
            · rw [k4, g_questions_thrown]; exact hq
          · have nlt : ¬ nI n < 12 := nI_nlt (a := n) (b := 12) (by omega) (by omega)
            rw [if_neg nlt, if_pos (ge12' (by omega) (by omega)), th40_10]
            exact ⟨2, 0, s4, _, rfl, rfl, g_thrown_thrown _ _, SR_thr h' 2⟩
