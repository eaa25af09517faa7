def MemR (s1 : S1) (m : S6) (n : Nat) : Prop :=
  S1_lastVerb s1 = S6_verb m ∧ (∃ mm, mm < 2 ^ n ∧ S1_lastMeant s1 = nI mm ∧ S6_meant m = nI mm) ∧ S1_lastDone s1 = S6_done m ∧ S1_lastTarget s1 = S6_into m ∧ ItR s1 m n
/-- what an order that is looked at leaves as it is -/
def keep6 (m : S6) := (S6_count m, S6_words m, S6_outcome m, S6_questions m, S6_length m, S6_order m, S6_answer m, S6_thrown m)
theorem rest6_ex {a b : S6} (h : rest6 a = rest6 b) : keep6 a = keep6 b ∧ S6_wrongAt a = S6_wrongAt b ∧ S6_verb a = S6_verb b ∧ S6_meant a = S6_meant b ∧ S6_into a = S6_into b ∧ S6_it a = S6_it b ∧ S6_asked a = S6_asked b ∧ S6_askedAt a = S6_askedAt b := by
  simp only [rest6, Prod.mk.injEq] at h
  obtain ⟨h1, h2, h3, h4, h5, h6, h7, h8, h9, h10, h11, h12, h13, h14, -, -, -, h18⟩ := h
  refine ⟨?_, h4, h5, h6, h7, h8, h13, h14⟩
  unfold keep6
  rw [h1, h2, h3, h9, h10, h11, h12, h18]
theorem k6_things (m : S6) (v : Int32) : keep6 (S6_set_things m v) = keep6 m := rfl
theorem r6_things (m : S6) (v : Int32) : rest6 (S6_set_things m v) = rest6 m := rfl
theorem k6_noun (m : S6) (v : Nat → Int32) : keep6 (S6_set_noun m v) = keep6 m := rfl
theorem r6_noun (m : S6) (v : Nat → Int32) : rest6 (S6_set_noun m v) = rest6 m := rfl
theorem k6_adjectives (m : S6) (v : Nat → Int32) : keep6 (S6_set_adjectives m v) = keep6 m := rfl
theorem r6_adjectives (m : S6) (v : Nat → Int32) : rest6 (S6_set_adjectives m v) = rest6 m := rfl
theorem k6_box (m : S6) (v : Nat → Int32) : keep6 (S6_set_box m v) = keep6 m := rfl
theorem r6_box (m : S6) (v : Nat → Int32) : rest6 (S6_set_box m v) = rest6 m := rfl
theorem k6_open (m : S6) (v : Nat → Int32) : keep6 (S6_set_open m v) = keep6 m := rfl
theorem r6_open (m : S6) (v : Nat → Int32) : rest6 (S6_set_open m v) = rest6 m := rfl
theorem k6_place (m : S6) (v : Nat → Int32) : keep6 (S6_set_place m v) = keep6 m := rfl
theorem r6_place (m : S6) (v : Nat → Int32) : rest6 (S6_set_place m v) = rest6 m := rfl
theorem k6_wrongAt (m : S6) (v : Int32) : keep6 (S6_set_wrongAt m v) = keep6 m := rfl
theorem k6_verb (m : S6) (v : Int32) : keep6 (S6_set_verb m v) = keep6 m := rfl
theorem k6_meant (m : S6) (v : Int32) : keep6 (S6_set_meant m v) = keep6 m := rfl
theorem k6_done (m : S6) (v : Int32) : keep6 (S6_set_done m v) = keep6 m := rfl
theorem r6_done (m : S6) (v : Int32) : rest6 (S6_set_done m v) = rest6 m := rfl
theorem k6_into (m : S6) (v : Int32) : keep6 (S6_set_into m v) = keep6 m := rfl
theorem k6_it (m : S6) (v : Int32) : keep6 (S6_set_it m v) = keep6 m := rfl
theorem k6_asked (m : S6) (v : Int32) : keep6 (S6_set_asked m v) = keep6 m := rfl
theorem k6_askedAt (m : S6) (v : Int32) : keep6 (S6_set_askedAt m v) = keep6 m := rfl
theorem k6_at (m : S6) (v : Int32) : keep6 (S6_set_at m v) = keep6 m := rfl
theorem k6_failedAt (m : S6) (v : Int32) : keep6 (S6_set_failedAt m v) = keep6 m := rfl
theorem k6_choice (m : S6) (v : Int32) : keep6 (S6_set_choice m v) = keep6 m := rfl
/-- the cells that are written as an order begins to be done -/
def beg (m : S6) (v g tg : Int32) : S6 := S6_set_into (S6_set_meant (S6_set_verb m v) g) tg
theorem rest6_fin {a m : S6} {v g tg it : Int32} (h : rest6 a = rest6 (S6_set_done (S6_set_it (beg m v g tg) it) 0)) : keep6 a = keep6 m ∧ S6_wrongAt a = S6_wrongAt m ∧ S6_verb a = v ∧ S6_meant a = g ∧ S6_into a = tg ∧ S6_it a = it ∧ S6_asked a = S6_asked m ∧ S6_askedAt a = S6_askedAt m := by
  rw [r6_done] at h
  obtain ⟨r1, r2, r3, r4, r5, r6, r7, r8⟩ := rest6_ex h
  unfold beg at *
  rw [k6_it, k6_into, k6_meant, k6_verb] at r1
  rw [g_wrongAt_it, g_wrongAt_into, g_wrongAt_meant, g_wrongAt_verb] at r2
  rw [g_verb_it, g_verb_into, g_verb_meant, g_verb_verb] at r3
  rw [g_meant_it, g_meant_into, g_meant_meant] at r4
  rw [g_into_it, g_into_into] at r5
  rw [g_it_it] at r6
  rw [g_asked_it, g_asked_into, g_asked_meant, g_asked_verb] at r7
  rw [g_askedAt_it, g_askedAt_into, g_askedAt_meant, g_askedAt_verb] at r8
  exact ⟨r1, r2, r3, r4, r5, r6, r7, r8⟩
theorem ai24_0 {β : Type} {x : Option β} : ai 24 0 x = x := ai24 (j := 0) (by decide)
theorem cl0 : (0 : Int32).toNatClampNeg = 0 := by decide
/-- an order whose things are found is done alike on both sides -/
theorem e_fin {t0 : S0} {s1 : S1} {s2 : S2} {s4 : S4} {s5 : S5} {m : S6} {v tg : Int32} {n kb ko gk : Nat} (I : WI s4 n kb ko) (J : MI m s4 n kb ko) (h0 : S6_order m 0 = v) (hv : v = 0 ∨ v = 1 ∨ v = 2 ∨ v = 3 ∨ v = 4) (h2v : S2_orderVerb s2 = v) (hg : S0_group t0 = nI gk) (ht : S0_target t0 = tg) (hgk : gk < 2 ^ n) (htg : v = 2 → ∃ j, j < n ∧ tg = nI j) (hM : ItR s1 m n) :
    ∃ t1 t4 m2, fX5_carryOut t0 s1 s2 s4 s5 = some (t1, t4) ∧ fX6_perform_92 m (nI gk) tg = some (0, m2) ∧ MemR t1 m2 n ∧ (∃ ko2, WI t4 n kb ko2 ∧ MI m2 t4 n kb ko2) ∧
      keep6 m2 = keep6 m ∧ S6_wrongAt m2 = S6_wrongAt m ∧ S6_asked m2 = S6_asked m ∧ S6_askedAt m2 = S6_askedAt m := by
  have hn := I.1
  have hg12 := lt12 hn hgk
  have hgn : ∀ t, n ≤ t → gk.testBit t = false := fun t h => Nat.testBit_lt_two_pow (Nat.lt_of_lt_of_le hgk (Nat.pow_le_pow_right (by decide) h))
  have JB : ∀ it, MI (S6_set_done (S6_set_it (beg m v (nI gk) tg) it) 0) s4 n kb ko := fun it => by
    unfold beg
    exact MI_done (MI_it (MI_into (MI_meant (MI_verb J v) (nI gk)) tg) it) 0
  have vB : ∀ it, S6_verb (S6_set_done (S6_set_it (beg m v (nI gk) tg) it) 0) = v := fun it => by
    unfold beg
    rw [g_verb_done, g_verb_it, g_verb_into, g_verb_meant, g_verb_verb]
  have iB : ∀ it, S6_into (S6_set_done (S6_set_it (beg m v (nI gk) tg) it) 0) = tg := fun it => by
    unfold beg
    rw [g_into_done, g_into_it, g_into_into]
  have itB : S6_it (beg m v (nI gk) tg) = S6_it m := by
    unfold beg
    rw [g_it_into, g_it_meant, g_it_verb]
  have key : ∀ it, ∃ (s' : S4) (m' : S6) (ko' dk' : Nat), fX5_carryOut t0 s1 s2 s4 s5 = bn1 (fX1_keep s1 v (nI gk) (nI dk') tg) (fun s1_2 => some (s1_2, s')) ∧ fX6_perform_132 (beg m v (nI gk) tg) (nI gk) it = some (0, m') ∧
      dk' < 2 ^ 12 ∧ WI s' n kb ko' ∧ MI m' s' n kb ko' ∧ rest6 m' = rest6 (S6_set_done (S6_set_it (beg m v (nI gk) tg) it) 0) ∧ S6_done m' = nI dk' := fun it => by
    unfold fX5_carryOut fX6_perform_132
    exact e_carry t0 s1 s2 s5 hg12 hgn hg ht h2v hv htg n 0 64 64 0 ko s4 (S6_set_done (S6_set_it (beg m v (nI gk) tg) it) 0) (by omega) (by omega) (by omega) (by decide) I (JB it) (vB it) (iB it) (g_done_done _ _)
  have h92 : fX6_perform_92 m (nI gk) tg = if pc 12 gk = 1 then bn1 (fX6_lowest (nI gk)) (fun r => fX6_perform_132 (beg m v (nI gk) tg) (nI gk) r) else fX6_perform_132 (beg m v (nI gk) tg) (nI gk) (S6_it m) := by
    have hp := pc_le 12 gk
    unfold fX6_perform_92
    rw [ai24_0, e_mbits hg12, bn1_s, cl0, h0]
    show (if nI (pc 12 gk) = 1 then bn1 (fX6_lowest (nI gk)) (fun r => fX6_perform_132 (beg m v (nI gk) tg) (nI gk) r) else fX6_perform_132 (beg m v (nI gk) tg) (nI gk) (S6_it (beg m v (nI gk) tg))) = _
    rw [itB]
    by_cases z : pc 12 gk = 1
    · rw [if_pos z, if_pos ((li_1 (by omega)).mpr z)]
    · rw [if_neg z, if_neg (fun q => z ((li_1 (by omega)).mp q))]
  have hk : ∀ dk, fX1_keep s1 v (nI gk) (nI dk) tg = some (if pc 12 gk = 1 then S1_set_lastAlone (S1_set_lastTarget (S1_set_lastDone (S1_set_lastMeant (S1_set_lastVerb s1 v) (nI gk)) (nI dk)) tg) (nI gk) else S1_set_lastTarget (S1_set_lastDone (S1_set_lastMeant (S1_set_lastVerb s1 v) (nI gk)) (nI dk)) tg) := by
    intro dk
    have hp := pc_le 12 gk
    unfold fX1_keep fX1_keep_34
    rw [e_bitCount hg12, bn1_s]
    by_cases z : pc 12 gk = 1
    · rw [if_pos z, if_pos ((li_1 (by omega)).mpr z)]
    · rw [if_neg z, if_neg (fun q => z ((li_1 (by omega)).mp q))]
  by_cases z : pc 12 gk = 1
  · obtain ⟨t, t12, rfl⟩ := pc_one hg12 z
    have htn : t < n := bit_lt hgk Nat.testBit_two_pow_self
    obtain ⟨s', m', ko', dk', c1, c2, c3, c4, c5, c6, c7⟩ := key (nI t)
    obtain ⟨r1, r2, r3, r4, r5, r6, r7, r8⟩ := rest6_fin c6
    rw [hk, bn1_s, if_pos z] at c1
    rw [if_pos z, e_lowest t t12, bn1_s, c2] at h92
    exact ⟨_, s', m', c1, h92, ⟨r3.symm, ⟨2 ^ t, hgk, rfl, r4⟩, c7.symm, r5.symm, Or.inr ⟨t, htn, rfl, r6⟩⟩, ⟨ko', c4, c5⟩, r1, r2, r7, r8⟩
  · obtain ⟨s', m', ko', dk', c1, c2, c3, c4, c5, c6, c7⟩ := key (S6_it m)
    obtain ⟨r1, r2, r3, r4, r5, r6, r7, r8⟩ := rest6_fin c6
    rw [hk, bn1_s, if_neg z] at c1
    rw [if_neg z, c2] at h92
    refine ⟨_, s', m', c1, h92, ⟨r3.symm, ⟨gk, hgk, rfl, r4⟩, c7.symm, r5.symm, ?_⟩, ⟨ko', c4, c5⟩, r1, r2, r7, r8⟩
    rcases hM with ⟨a, b⟩ | ⟨t, a, b, c⟩
    · exact Or.inl ⟨a, r6.trans b⟩
    · exact Or.inr ⟨t, a, b, r6.trans c⟩
