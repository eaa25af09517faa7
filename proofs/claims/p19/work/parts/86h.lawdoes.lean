/-- the law's rows of things beside the game -/
def LMm (t z : Nat → Int32) (m : S6) (n : Nat) : Prop := z 0 = nI n ∧ n ≤ 6 ∧ (∀ k, k < n → t k = S6_noun m k ∧ t (6 + k) = S6_adjectives m k ∧ t (12 + k) = S6_box m k ∧ t (18 + k) = S6_open m k ∧ t (24 + k) = S6_place m k) ∧ S6_things m = nI n
def LAt (t : Nat → Int32) (n : Nat) : Prop := ∀ k, k < n → ∃ a, a < 64 ∧ t (6 + k) = nI a
theorem LT_of {t z : Nat → Int32} {m : S6} {s : S4} {n kb ko : Nat} (J : MI m s n kb ko) (h : LMm t z m n) : LT t z s n kb ko := by
  obtain ⟨j1, j2, j3, j4, j5, j6⟩ := J
  obtain ⟨h1, h2, h3, -⟩ := h
  refine ⟨h1, h2, fun k hk => ?_⟩
  obtain ⟨r1, r2, r3, r4, r5⟩ := h3 k hk
  rw [r1, r2, r3, r4, r5, j2, j3, j4, j5 k (by omega), j6 k (by omega)]
  exact ⟨rfl, rfl, rfl, rfl, rfl⟩
theorem LM_of {t z : Nat → Int32} {m : S6} {s : S4} {n kb ko : Nat} (J : MI m s n kb ko) (h : LT t z s n kb ko) : LMm t z m n := by
  obtain ⟨j1, j2, j3, j4, j5, j6⟩ := J
  obtain ⟨h1, h2, h3⟩ := h
  refine ⟨h1, h2, fun k hk => ?_, j1⟩
  obtain ⟨r1, r2, r3, r4, r5⟩ := h3 k hk
  rw [r1, r2, r3, r4, r5, j2, j3, j4, j5 k (by omega), j6 k (by omega)]
  exact ⟨rfl, rfl, rfl, rfl, rfl⟩
theorem LA_of {t z : Nat → Int32} {s : S4} {n kb ko : Nat} (h : LT t z s n kb ko) (hA : LAt t n) : LA s n := fun k hk => by
  obtain ⟨a, a1, a2⟩ := hA k hk
  exact ⟨a, a1, by rw [← (h.2.2 k hk).2.1]; exact a2⟩
theorem pow_inj {a b : Nat} (ha : a < 12) (hb : b < 12) (h : nI (2 ^ a) = nI (2 ^ b)) : a = b := by
  have q := nI_inj (a := 2 ^ a) (b := 2 ^ b) (Nat.lt_trans (two_pow_lt12 ha) (by decide)) (Nat.lt_trans (two_pow_lt12 hb) (by decide)) h
  have h1 : (2 ^ a).testBit a = (2 ^ b).testBit a := congrArg (fun x : Nat => x.testBit a) q
  rw [Nat.testBit_two_pow_self, Nat.testBit_two_pow] at h1
  exact (of_decide_eq_true h1.symm).symm
theorem ItR_fun {s1 t1 : S1} {m m2 : S6} {n : Nat} (hn : n ≤ 12) (h : ItR s1 m n) (g : ItR t1 m2 n) (e : S1_lastAlone t1 = S1_lastAlone s1) : S6_it m2 = S6_it m := by
  rcases h with ⟨h1, h2⟩ | ⟨a, ha, h1, h2⟩ <;> rcases g with ⟨g1, g2⟩ | ⟨b, hb, g1, g2⟩
  · rw [h2, g2]
  · rw [g1, h1] at e; exact absurd e (pow_ne (by omega))
  · rw [g1, h1] at e; exact absurd e.symm (pow_ne (by omega))
  · rw [g1, h1] at e
    rw [h2, g2, pow_inj (by omega) (by omega) e]
theorem Mem_eq {s1 : S1} {m m2 : S6} {n : Nat} (hn : n ≤ 12) (h : MemR s1 m n) (g : MemR s1 m2 n) : S6_verb m2 = S6_verb m ∧ S6_meant m2 = S6_meant m ∧ S6_done m2 = S6_done m ∧ S6_into m2 = S6_into m ∧ S6_it m2 = S6_it m := by
  obtain ⟨h1, ⟨a, -, h2, h3⟩, h4, h5, h6⟩ := h
  obtain ⟨g1, ⟨b, -, g2, g3⟩, g4, g5, g6⟩ := g
  exact ⟨g1.symm.trans h1, by rw [g3, h3, ← g2, ← h2], g4.symm.trans h4, g5.symm.trans h5, ItR_fun hn h6 g6 rfl⟩
theorem WI_ko {s : S4} {n kb ko ko' : Nat} (I : WI s n kb ko) (I' : WI s n kb ko') : ko = ko' := by
  have a := I.2.2.2.1
  have b := I'.2.2.2.1
  have c := I.2.2.2.2.2.1
  have d := I'.2.2.2.2.2.1
  rw [a] at b
  exact nI_inj (by omega) (by omega) b
/-- what the law's numbers are, beside the game -/
def LZ (z : Nat → Int32) (m : S6) : Prop := z 3 = S6_wrongAt m ∧ z 4 = S6_verb m ∧ z 5 = S6_meant m ∧ z 6 = S6_done m ∧ z 7 = S6_into m ∧ z 8 = S6_it m ∧ z 9 = S6_asked m ∧ z 10 = S6_askedAt m
theorem l_find {s0 : S0} {s1 : S1} {s2 : S2} {s4 : S4} {w : Nat → Int32} {len n kb ko c : Nat} (I : WI s4 n kb ko) (hL : LyG w len s2 c) (hv : w 0 = 0 ∨ w 0 = 1 ∨ w 0 = 2 ∨ w 0 = 3 ∨ w 0 = 4) : ∃ Z, S0_group Z = nI 0 ∧ S0_reach Z = nI (Rn s4 n ko) ∧ S0_result Z = 0 ∧ S0_target Z = -1 ∧ fX0_find s0 s1 s2 s4 = fX0_find_28 s1 s2 s4 64 Z (nI (Un s4 n kb ko (w 0))) (nI 0) := by
  have hsu : fX4_suited s4 (S2_orderVerb s2) = some (nI (Un s4 n kb ko (w 0))) := by
    rw [hL.2.2.2]
    exact e_suited I (hv_suit hv)
  refine ⟨S0_set_choice (S0_set_openPhrase (S0_set_target (S0_set_group (S0_set_result (S0_set_reach s0 (nI (Rn s4 n ko))) 0) 0) (-1)) (-1)) 0, rfl, rfl, rfl, rfl, ?_⟩
  unfold fX0_find fX0_start
  rw [e_reachable I, bn1_s, bn1_s, hsu, bn1_s]
  rfl
theorem l_does (s0 : S0) (s5 : S5) {s1 : S1} {s2 : S2} {s4 : S4} {m : S6} {w v t z : Nat → Int32} {len n kb ko c : Nat} (K : LK s1 s2 s4 m w len n kb ko c) (hc : c + 1 ≤ 24) (hM : MemR s1 m n) (hv : w 0 = 0 ∨ w 0 = 1 ∨ w 0 = 2 ∨ w 0 = 3 ∨ w 0 = 4) (hT : LMm t z m n) (hA : LAt t n) (hz : z 3 = S6_wrongAt m ∧ z 4 = S6_verb m ∧ z 5 = S6_meant m ∧ z 6 = S6_done m ∧ z 7 = S6_into m ∧ z 8 = S6_it m) (hw1 : S6_wrongAt m = -1) (hz12 : z 12 = nI len) (hoa : ∀ j, j < len → v j = S6_answer m j) :
    ∃ r t' z' m2, fL_does t z w v = some (r, t', z') ∧ fX6_perform m = some (r, m2) ∧ LMm t' z' m2 n ∧ (∀ j, NT n j → t' j = t j) ∧ (z' 0 = z 0 ∧ z' 1 = z 1 ∧ z' 2 = z 2 ∧ z' 11 = z 11 ∧ z' 12 = z 12) ∧ LZ z' m2 ∧ keep6 m2 = keep6 m ∧ (r = 0 ∨ r = 1 ∨ r = 5) := by
  have K' := K
  obtain ⟨I, J, ho, hLF, hIt, hAn⟩ := K'
  have hn6 := hT.2.1
  have hn12 : n ≤ 12 := by omega
  have hl := ho.2.1
  have hL := hLF.1.1
  have hw := hLF.1.2.1
  have hLT := LT_of J hT
  have hLA := LA_of hLT hA
  obtain ⟨y3, y4, y5, y6, y7, y8⟩ := hz
  obtain ⟨f, o, kk, p1, p2⟩ := l_phrases hl hc hLF (fun _ => 0) (fun _ => 0) (fun _ => 0)
  obtain ⟨zz, hzz⟩ : ∃ zz, zz = upd (upd z 9 0) 10 (-1) := ⟨_, rfl⟩
  have zo : ∀ j, j ≠ 9 → j ≠ 10 → zz j = z j := fun j a b => by rw [hzz, up_ne _ _ b, up_ne _ _ a]
  have z9 : zz 9 = 0 := by rw [hzz, up_ne _ _ (by decide), up_same]
  have z10 : zz 10 = -1 := by rw [hzz, up_same]
  have hdo : fL_does t z w v = fL_does_56 w v 64 t zz f o kk (nI (c + 1)) (nI 0) (nI 0) (-1) (nI 0) := by
    unfold fL_does
    rw [ai13_12, cl_12, hz12, p1, bn4_s, ai13_9, ai13_10, cl_9, cl_10, ← hzz]
    rfl
  obtain ⟨mm, mm1, mm2, mm3⟩ := hM.2.1
  have hLT2 : LT t zz s4 n kb ko := ⟨(zo 0 (by decide) (by decide)).trans hLT.1, hLT.2⟩
  have E : LE s1 s2 s4 m w v t zz f o kk len n kb ko c mm := ⟨K, hc, hLT2, hLA, (zo 8 (by decide) (by decide)).trans y8, ⟨(zo 5 (by decide) (by decide)).trans (y5.trans mm3), mm2, mm1⟩, hoa, hv, p2⟩
  obtain ⟨Z, g1, g2, g3, g4, hfind⟩ := l_find (s0 := s0) (s1 := s1) I hLF hv
  obtain ⟨r, t0, t1, t4, t5, m2, e1, e2, k6, kM, ⟨ko2, kI, kJ⟩, kc⟩ := e_look (s0 := s0) (s5 := s5) K hc hM hv
  have fd := l_fd E (c + 1) 64 64 0 0 Z (by omega) (by omega) (by omega) (by omega) ((hw 0 (by omega)).2.2.2.2.1 rfl) (Nat.pow_pos (by decide)) g1 g2 g3 g4
  rw [hdo]
  have hlook : fX5_lookAtOrder s0 s1 s2 s4 s5 = bn2 (fX0_find_28 s1 s2 s4 64 Z (nI (Un s4 n kb ko (w 0))) (nI 0)) fun r_1 s0_1 => if r_1 = 5 then (bn1 (fX2_lastPlaceOf s2 (S0_openPhrase s0_1)) fun r_5 => some (r_1, s0_1, s1, s4, S5_set_wrongPlace s5 r_5)) else if r_1 = 1 then some (r_1, s0_1, s1, s4, S5_set_askedPhrase (S5_set_askedThings s5 (S0_choice s0_1)) (S0_openPhrase s0_1)) else bn2 (fX5_carryOut s0_1 s1 s2 s4 s5) fun s1_4 s4_4 => some (r_1, s0_1, s1_4, s4_4, s5) := by
    unfold fX5_lookAtOrder fX5_lookAtOrder_68
    rw [hfind]
  rw [hlook] at e1
  rcases fd with ⟨q0, f1, i, hi, f2⟩ | ⟨q0, gk, tg, g, f1, f2, f3, f4, f5, f6⟩
  · rw [f1, bn2_s] at e1
    rcases f2 with ⟨a1, a2, a3⟩ | ⟨q, b1, b2, a1, a2, a4, a3⟩
    · have lp : fX2_lastPlaceOf s2 (S0_openPhrase q0) = some (nI (E2 s2 i)) := by
        rw [a2]
        unfold fX2_lastPlaceOf fX2_lastPlaceOf_18
        rw [e_hasP hL hc (by omega), bn1_s, if_neg (by decide), ai24 (by omega), cl_nI (by omega), (hw i (by omega)).1]
      rw [a1, if_pos rfl, lp, bn1_s] at e1
      have e := Option.some.inj e1
      simp only [Prod.mk.injEq] at e
      obtain ⟨er, -, et1, et4, et5⟩ := e
      subst er et1 et4
      rcases kc with ⟨-, d1, d2, i', hi', d3, d4⟩ | ⟨d, -⟩ | ⟨d, -⟩
      · have ew : nI (E2 s2 i) = nI (E2 s2 i') := by
          have := congrArg S5_wrongPlace (et5.trans d3)
          exact this
        obtain ⟨q1, q2, q3, q4, q5⟩ := Mem_eq hn12 hM kM
        have ek := WI_ko I kI
        subst ek
        refine ⟨5, t, Z5 zz (E2 s2 i), m2, a3, e2, LM_of kJ ⟨?_, hLT2.2⟩, fun _ _ => rfl, ?_, ?_, k6, Or.inr (Or.inr rfl)⟩
        · exact hLT2.1
        · exact ⟨zo 0 (by decide) (by decide), zo 1 (by decide) (by decide), zo 2 (by decide) (by decide), zo 11 (by decide) (by decide), zo 12 (by decide) (by decide)⟩
        · refine ⟨?_, ?_, ?_, ?_, ?_, ?_, ?_, ?_⟩
          · exact ew.trans d4.symm
          · exact (zo 4 (by decide) (by decide)).trans (y4.trans q1.symm)
          · exact (zo 5 (by decide) (by decide)).trans (y5.trans q2.symm)
          · exact (zo 6 (by decide) (by decide)).trans (y6.trans q3.symm)
          · exact (zo 7 (by decide) (by decide)).trans (y7.trans q4.symm)
          · exact (zo 8 (by decide) (by decide)).trans (y8.trans q5.symm)
          · exact d1.symm
          · exact d2.symm
      · exact absurd d (by decide)
      · exact absurd d (by decide)
    · rw [a1, if_neg (by decide), if_pos rfl, a2, a4] at e1
      have e := Option.some.inj e1
      simp only [Prod.mk.injEq] at e
      obtain ⟨er, -, et1, et4, et5⟩ := e
      subst er et1 et4
      rcases kc with ⟨d, -⟩ | ⟨-, d0, i', q', hi', d1, d2, d3, d4, d5⟩ | ⟨d, -⟩
      · exact absurd d (by decide)
      · have eq : nI q = nI q' := congrArg S5_askedThings (et5.trans d3)
        have ei : nI i = nI i' := congrArg S5_askedPhrase (et5.trans d3)
        have ei2 : i = i' := nI_inj (by omega) (by omega) ei
        subst ei2
        obtain ⟨q1, q2, q3, q4, q5⟩ := Mem_eq hn12 hM kM
        have ek := WI_ko I kI
        subst ek
        refine ⟨1, t, Z1 zz (E2 s2 i) q, m2, a3, e2, LM_of kJ ⟨?_, hLT2.2⟩, fun _ _ => rfl, ?_, ?_, k6, Or.inr (Or.inl rfl)⟩
        · exact hLT2.1
        · exact ⟨zo 0 (by decide) (by decide), zo 1 (by decide) (by decide), zo 2 (by decide) (by decide), zo 11 (by decide) (by decide), zo 12 (by decide) (by decide)⟩
        · refine ⟨?_, ?_, ?_, ?_, ?_, ?_, ?_, ?_⟩
          · exact (d0.trans hw1).symm
          · exact (zo 4 (by decide) (by decide)).trans (y4.trans q1.symm)
          · exact (zo 5 (by decide) (by decide)).trans (y5.trans q2.symm)
          · exact (zo 6 (by decide) (by decide)).trans (y6.trans q3.symm)
          · exact (zo 7 (by decide) (by decide)).trans (y7.trans q4.symm)
          · exact (zo 8 (by decide) (by decide)).trans (y8.trans q5.symm)
          · exact eq.trans d4.symm
          · exact d5.symm
      · exact absurd d (by decide)
  · have hg12 := lt12 hn12 f4
    have hg64 := lt64 hn6 f4
    have hp := pc_le 12 gk
    obtain ⟨Y, hY⟩ : ∃ Y, Y = upd (upd (upd (upd zz 4 (w 0)) 5 (nI gk)) 6 0) 7 tg := ⟨_, rfl⟩
    have yo : ∀ j, j ≠ 4 → j ≠ 5 → j ≠ 6 → j ≠ 7 → Y j = zz j := fun j a b c d => by rw [hY, up_ne _ _ d, up_ne _ _ c, up_ne _ _ b, up_ne _ _ a]
    have Y4 : Y 4 = w 0 := by rw [hY, up_ne _ _ (by decide), up_ne _ _ (by decide), up_ne _ _ (by decide), up_same]
    have Y5 : Y 5 = nI gk := by rw [hY, up_ne _ _ (by decide), up_ne _ _ (by decide), up_same]
    have Y6 : Y 6 = nI 0 := by rw [hY, up_ne _ _ (by decide), up_same]; rfl
    have Y7 : Y 7 = tg := by rw [hY, up_same]
    have law : ∃ X, fL_does_56 w v (g + 1) t zz f o kk (nI (c + 1)) (nI gk) (nI 0) tg (nI (c + 1)) = fL_does_502 w v 64 t (upd Y 8 X) f o kk (nI gk) tg (nI 0) ∧ ((∃ τ, τ < n ∧ gk = 2 ^ τ ∧ pc 12 gk = 1 ∧ X = nI τ) ∨ (pc 12 gk ≠ 1 ∧ X = z 8)) := by
      by_cases a : pc 12 gk = 1
      · obtain ⟨τ, hτ, e⟩ := pc_one hg12 a
        have hτn : τ < n := bit_lt f4 (by rw [e, Nat.testBit_two_pow_self])
        refine ⟨nI τ, ?_, Or.inl ⟨τ, hτn, e, a, rfl⟩⟩
        rw [fL_does_56, if_pos (nI_le (Nat.le_refl _) (by omega)), ai24_0, ai13_4, ai13_5, ai13_6, cl_4, cl_5, cl_6, cl0]
        unfold bl fL_does_498
        dsimp only
        rw [ai13_7, cl_7, l_bits gk hg64, bn1_s, if_pos ((li_1 (by omega)).mpr a), e, l_only τ (by omega), bn1_s, ai13_8, cl_8, hY, e]
        rfl
      · refine ⟨z 8, ?_, Or.inr ⟨a, rfl⟩⟩
        rw [fL_does_56, if_pos (nI_le (Nat.le_refl _) (by omega)), ai24_0, ai13_4, ai13_5, ai13_6, cl_4, cl_5, cl_6, cl0]
        unfold bl fL_does_498
        dsimp only
        rw [ai13_7, cl_7, l_bits gk hg64, bn1_s, if_neg (fun y => a ((li_1 (by omega)).mp y)), ai13_8, ai13_8, cl_8, ← hY, yo 8 (by decide) (by decide) (by decide) (by decide), zo 8 (by decide) (by decide)]
        rfl
    obtain ⟨X, l1, l2⟩ := law
    have xo : ∀ j, j ≠ 8 → upd Y 8 X j = Y j := fun j a => up_ne _ _ a
    have hLT3 : LT t (upd Y 8 X) s4 n kb ko := ⟨by rw [xo 0 (by decide), yo 0 (by decide) (by decide) (by decide) (by decide)]; exact hLT2.1, hLT2.2⟩
    obtain ⟨s', ko', dk', t', z', c1, c2, c3, c4, c5, c6, c7⟩ := l_502 (v := v) (f := f) (o := o) (kk := kk) q0 s1 s2 s5 f4 f2 f3 hLF.2.2.2 hv f5 6 0 64 64 0 ko s4 t (upd Y 8 X) (by omega) (by omega) (by omega) I hLT3 ((xo 6 (by decide)).trans Y6)
    have hk : fX1_keep s1 (w 0) (nI gk) (nI dk') tg = some (if pc 12 gk = 1 then S1_set_lastAlone (S1_set_lastTarget (S1_set_lastDone (S1_set_lastMeant (S1_set_lastVerb s1 (w 0)) (nI gk)) (nI dk')) tg) (nI gk) else S1_set_lastTarget (S1_set_lastDone (S1_set_lastMeant (S1_set_lastVerb s1 (w 0)) (nI gk)) (nI dk')) tg) := by
      unfold fX1_keep fX1_keep_34
      rw [e_bitCount hg12, bn1_s]
      by_cases a : pc 12 gk = 1
      · rw [if_pos a, if_pos ((li_1 (by omega)).mpr a)]
      · rw [if_neg a, if_neg (fun y => a ((li_1 (by omega)).mp y))]
    have hco : fX5_carryOut q0 s1 s2 s4 s5 = some ((if pc 12 gk = 1 then S1_set_lastAlone (S1_set_lastTarget (S1_set_lastDone (S1_set_lastMeant (S1_set_lastVerb s1 (w 0)) (nI gk)) (nI dk')) tg) (nI gk) else S1_set_lastTarget (S1_set_lastDone (S1_set_lastMeant (S1_set_lastVerb s1 (w 0)) (nI gk)) (nI dk')) tg), s') := by
      unfold fX5_carryOut
      rw [show fX5_carryOut_4 q0 s2 s5 64 s1 s4 0 0 = _ from c1, hk, bn1_s]
    rw [f1, bn2_s, if_neg (by decide), if_neg (by decide), hco, bn2_s] at e1
    have e := Option.some.inj e1
    simp only [Prod.mk.injEq] at e
    obtain ⟨er, -, et1, et4, et5⟩ := e
    subst er et4
    rcases kc with ⟨d, -⟩ | ⟨d, -⟩ | ⟨-, d0, d1, d2, -⟩
    · exact absurd d (by decide)
    · exact absurd d (by decide)
    · have ek := WI_ko c3 kI
      subst ek
      have tv : S1_lastVerb t1 = w 0 ∧ S1_lastMeant t1 = nI gk ∧ S1_lastDone t1 = nI dk' ∧ S1_lastTarget t1 = tg := by
        rw [← et1]
        split <;> exact ⟨rfl, rfl, rfl, rfl⟩
      obtain ⟨v1, v2, v3, v4⟩ := tv
      obtain ⟨m1, ⟨mb, -, mB, mC⟩, mD, mE, mF⟩ := kM
      have zf : ∀ j, j ≠ 6 → j ≠ 8 → z' j = Y j := fun j a b => (c6 j a).trans (xo j b)
      have z8 : z' 8 = X := (c6 8 (by decide)).trans (up_same _ _ _)
      refine ⟨0, t', z', m2, by rw [f6, l1]; exact c2, e2, LM_of kJ c4, c7, ?_, ?_, k6, Or.inl rfl⟩
      · have zg : ∀ j, j ≠ 6 → j ≠ 8 → j ≠ 4 → j ≠ 5 → j ≠ 7 → j ≠ 9 → j ≠ 10 → z' j = z j := fun j a b c d e f h => (zf j a b).trans ((yo j c d a e).trans (zo j f h))
        exact ⟨zg 0 (by decide) (by decide) (by decide) (by decide) (by decide) (by decide) (by decide), zg 1 (by decide) (by decide) (by decide) (by decide) (by decide) (by decide) (by decide), zg 2 (by decide) (by decide) (by decide) (by decide) (by decide) (by decide) (by decide), zg 11 (by decide) (by decide) (by decide) (by decide) (by decide) (by decide) (by decide), zg 12 (by decide) (by decide) (by decide) (by decide) (by decide) (by decide) (by decide)⟩
      · refine ⟨?_, ?_, ?_, ?_, ?_, ?_, ?_, ?_⟩
        · exact (zf 3 (by decide) (by decide)).trans ((yo 3 (by decide) (by decide) (by decide) (by decide)).trans ((zo 3 (by decide) (by decide)).trans (y3.trans d0.symm)))
        · exact (zf 4 (by decide) (by decide)).trans (Y4.trans (v1.symm.trans m1))
        · exact (zf 5 (by decide) (by decide)).trans (Y5.trans (by rw [mC, ← mB, v2]))
        · exact c5.trans (v3.symm.trans mD)
        · exact (zf 7 (by decide) (by decide)).trans (Y7.trans (v4.symm.trans mE))
        · rw [z8]
          rcases l2 with ⟨τ, hτ, eg, ep, rfl⟩ | ⟨ep, rfl⟩
          · have al : S1_lastAlone t1 = nI gk := by rw [← et1, if_pos ep]; rfl
            rcases mF with ⟨a, -⟩ | ⟨b, hb, a1, a2⟩
            · rw [al, eg] at a; exact absurd a (pow_ne (by omega))
            · rw [al, eg] at a1
              rw [a2, pow_inj (by omega) (by omega) a1]
          · have al : S1_lastAlone t1 = S1_lastAlone s1 := by rw [← et1, if_neg ep]; rfl
            rw [y8, ItR_fun hn12 hIt mF al]
        · exact (zf 9 (by decide) (by decide)).trans ((yo 9 (by decide) (by decide) (by decide) (by decide)).trans (z9.trans d1.symm))
        · exact (zf 10 (by decide) (by decide)).trans ((yo 10 (by decide) (by decide) (by decide) (by decide)).trans (z10.trans d2.symm))
