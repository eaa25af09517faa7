/-- what the law keeps of an order -/
def LO (z u v : Nat → Int32) (m : S6) : Prop := u = S6_order m ∧ v = S6_answer m ∧ z 12 = S6_length m
/-- what words that are said come to, in the law's rows -/
def LC (t z : Nat → Int32) (m : S6) (n : Nat) (t' z' u' v' : Nat → Int32) (m2 : S6) : Prop :=
  LMm t' z' m2 n ∧ (∀ j, NT n j → t' j = t j) ∧ (z' 0 = z 0 ∧ z' 1 = z 1 ∧ z' 2 = z 2 ∧ z' 11 = z 11) ∧ LZ z' m2 ∧ LO z' u' v' m2 ∧ kp m2 = kp m
theorem LMm_of {t z z' : Nat → Int32} {m m2 : S6} {n : Nat} (h : LMm t z m n) (e : z' 0 = z 0) (h1 : S6_noun m2 = S6_noun m) (h2 : S6_adjectives m2 = S6_adjectives m) (h3 : S6_box m2 = S6_box m) (h4 : S6_open m2 = S6_open m) (h5 : S6_place m2 = S6_place m) (h6 : S6_things m2 = S6_things m) : LMm t z' m2 n := by
  unfold LMm
  rw [e, h1, h2, h3, h4, h5, h6]
  exact h
theorem l_157 (s0 : S0) {s1 : S1} {s2 : S2} {s4 : S4} {s5 : S5} {m : S6} {t Z w u v : Nat → Int32} {n kb ko len : Nat} {nn : Int32} (I : WI s4 n kb ko) (J : MI m s4 n kb ko) (hM : MemR s1 m n) (hQ : QR s2 s5 m n) (hnz : ¬ S6_asked m = 0) (hwm : S6_wrongAt m = -1) (hT : LMm t Z m n) (hA : LAt t n) (hz : LZ Z m) (hO : LO Z u v m) (h1 : 1 ≤ len) (hl : len ≤ 24) (hnn : nn = -1 ∨ ¬ nn < 0) :
    ∃ r t' z' u' v' m2, fL_said_157 w t Z u v (Z 9) 0 (nI (len - 1)) nn = some (r, t', z', u', v') ∧ UF m (nI (AS w 0 len)) nn = some (r, m2) ∧ LC t Z m n t' z' u' v' m2 := by
  have hn6 := hT.2.1
  have hn12 := I.1
  rcases hQ with ⟨-, q2, -⟩ | ⟨q, i, c, w', len', ⟨q0, qn, q5, qm, qi, ic, c24, qat⟩, ho, hL, hAn, hv⟩
  · exact absurd q2 hnz
  obtain ⟨z3, z4, z5, z6, z7, z8, z9, z10⟩ := hz
  obtain ⟨o1, o2, o3⟩ := hO
  have hq12 := lt12 hn12 qn
  have hLT := LT_of J hT
  have hu : ∀ j, j < len' → u j = w' j := fun j hj => by rw [o1]; exact ho.2.2 j hj
  have hLG := LyG_congr hu hL
  have hph := hLG.1.2.1
  have hE := (hph i (by omega)).2.2.1
  have hl' := ho.2.1
  have fit := l_fitting (w := w) (f := 0) (e := len - 1) (d := len) hLT (LA_of hLT hA) qn (by omega) (by omega) hnn
  obtain ⟨F, hF⟩ : ∃ F, F = mkS (fun t => q.testBit t && DS (S4_nouns s4) (S4_adjectiveSets s4) (nI (AS w 0 len)) nn t) n := ⟨_, rfl⟩
  rw [← hF] at fit
  have hFn : F < 2 ^ n := by rw [hF]; exact mkS_lt _ n
  have hF12 := lt12 hn12 hFn
  have hF64 := lt64 hn6 hFn
  unfold fL_said_157 UF
  rw [z9, qm, show fL_fitting t w (nI q) 0 (nI (len - 1)) nn = _ from fit, bn1_s, e_having I J hq12, bn1_s, ← hF]
  clear hF
  by_cases z : F = 0
  · have z0 : nI F = 0 := by rw [z]; rfl
    rw [if_pos z0, if_pos z0]
    exact ⟨_, _, _, _, _, _, rfl, rfl, hT, fun _ _ => rfl, ⟨rfl, rfl, rfl, rfl⟩, ⟨z3, z4, z5, z6, z7, z8, z9, z10⟩, ⟨o1, o2, o3⟩, rfl⟩
  · have z0 : ¬ nI F = 0 := fun y => z (nI_inj (a := F) (b := 0) (by omega) (by decide) y)
    have hp := pc_le 12 F
    have hp0 : pc 12 F ≠ 0 := fun y => z ((pc_zero hF12).mp y)
    rw [if_neg z0, if_neg z0, l_bits F hF64, e_mbits hF12, bn1_s, bn1_s]
    by_cases y : pc 12 F = 1
    · obtain ⟨τ, t12, rfl⟩ := pc_one hF12 y
      have htn : τ < n := bit_lt hFn Nat.testBit_two_pow_self
      rw [y, if_pos (by decide), if_pos (by decide), ai13_10, l_only τ (by omega), bn1_s, e_lowest τ t12, bn1_s, cl_10, z10, qat, ai24 (by omega), ai24 (by omega), cl_nI (by omega), bn2_id]
      obtain ⟨P, hP⟩ : ∃ P, P = S6_set_answer m (upd (S6_answer m) (E2 s2 i) (nI τ)) := ⟨_, rfl⟩
      have p1 : kp P = kp m := by rw [hP, kp_answer]
      have p2 : S6_length P = S6_length m := by rw [hP, g_length_answer]
      have p3 : S6_order P = S6_order m := by rw [hP, g_order_answer]
      have p4 : S6_answer P = upd (S6_answer m) (E2 s2 i) (nI τ) := by rw [hP, g_answer_answer]
      have p5 : MI P s4 n kb ko := by
        rw [hP]
        exact MI_answer J _
      have p6 : MemR s1 P n := by
        rw [hP]
        exact MemR_of (g_verb_answer _ _) (g_meant_answer _ _) (g_done_answer _ _) (g_into_answer _ _) (g_it_answer _ _) hM
      have p7 : S6_wrongAt P = -1 := by
        rw [hP, g_wrongAt_answer]
        exact hwm
      have p8 : LMm t Z P n := by
        rw [hP]
        exact LMm_of hT rfl (g_noun_answer _ _) (g_adjectives_answer _ _) (g_box_answer _ _) (g_open_answer _ _) (g_place_answer _ _) (g_things_answer _ _)
      have p9 : S6_verb P = S6_verb m ∧ S6_meant P = S6_meant m ∧ S6_done P = S6_done m ∧ S6_into P = S6_into m ∧ S6_it P = S6_it m := by
        rw [hP]
        exact ⟨g_verb_answer _ _, g_meant_answer _ _, g_done_answer _ _, g_into_answer _ _, g_it_answer _ _⟩
      rw [← hP]
      clear hP
      have K : LK s1 (S2_set_answers s2 (upd (S2_answers s2) i (nI (2 ^ τ)))) s4 P u len' n kb ko c := by
        refine ⟨I, p5, ⟨p2.trans ho.1, hl', fun j hj => by rw [p3, o1]⟩, LyG_ans hLG _, p6.2.2.2.2, fun j hj => ?_⟩
        by_cases e : j = i
        · subst e
          refine Or.inr ⟨τ, htn, up_same _ _ _, ?_⟩
          show S6_answer P (E2 s2 j) = _
          rw [p4, up_same]
        · have x1 : S2_answers (S2_set_answers s2 (upd (S2_answers s2) i (nI (2 ^ τ)))) j = S2_answers s2 j := up_ne _ _ e
          have x2 : S6_answer P (E2 s2 j) = S6_answer m (E2 s2 j) := by rw [p4, up_ne _ _ (E2_inj hph (by omega) hj e)]
          rcases hAn j hj with ⟨b1, b2⟩ | ⟨x, b1, b2, b3⟩
          · exact Or.inl ⟨x1.trans b1, x2.trans b2⟩
          · exact Or.inr ⟨x, b1, x1.trans b2, x2.trans b3⟩
      obtain ⟨r, t', z', m2, d1, d2, d3, d4, ⟨d5, d6, d7, d8, d9⟩, d10, d11, -⟩ := l_does (v := upd v (E2 s2 i) (nI τ)) s0 s5 K c24 p6 (by rw [hu 0 (by omega)]; exact hv) p8 hA ⟨z3.trans (hwm.trans p7.symm), z4.trans p9.1.symm, z5.trans p9.2.1.symm, z6.trans p9.2.2.1.symm, z7.trans p9.2.2.2.1.symm, z8.trans p9.2.2.2.2.symm⟩ p7 (o3.trans ho.1) (fun j _ => by rw [p4, o2])
      obtain ⟨k1, k2, k3, k4⟩ := k6_ex d11
      rw [d1, bn3_s]
      exact ⟨_, _, _, _, _, _, rfl, d2, d3, d4, ⟨d5, d6, d7, d8⟩, d10, ⟨o1.trans (p3.symm.trans k3.symm), by rw [k4, p4, o2], d9.trans (o3.trans (p2.symm.trans k2.symm))⟩, k1.trans p1⟩
    · have nle : ¬ nI (pc 12 F) ≤ 1 := nI_ge (a := 1) (b := pc 12 F) (by omega) (by omega)
      have zo : ∀ j, j ≠ 9 → upd Z 9 (nI F) j = Z j := fun j a => up_ne _ _ a
      rw [if_neg nle, if_neg nle, ai13_9, cl_9]
      refine ⟨_, _, _, _, _, _, rfl, rfl, LMm_of hT (zo 0 (by decide)) (g_noun_asked _ _) (g_adjectives_asked _ _) (g_box_asked _ _) (g_open_asked _ _) (g_place_asked _ _) (g_things_asked _ _), fun _ _ => rfl, ⟨zo 0 (by decide), zo 1 (by decide), zo 2 (by decide), zo 11 (by decide)⟩, ⟨?_, ?_, ?_, ?_, ?_, ?_, ?_, ?_⟩, ⟨?_, ?_, ?_⟩, kp_asked _ _⟩
      · exact (zo 3 (by decide)).trans (z3.trans (g_wrongAt_asked _ _).symm)
      · exact (zo 4 (by decide)).trans (z4.trans (g_verb_asked _ _).symm)
      · exact (zo 5 (by decide)).trans (z5.trans (g_meant_asked _ _).symm)
      · exact (zo 6 (by decide)).trans (z6.trans (g_done_asked _ _).symm)
      · exact (zo 7 (by decide)).trans (z7.trans (g_into_asked _ _).symm)
      · exact (zo 8 (by decide)).trans (z8.trans (g_it_asked _ _).symm)
      · rw [g_asked_asked]; exact up_same _ _ _
      · exact (zo 10 (by decide)).trans (z10.trans (g_askedAt_asked _ _).symm)
      · exact o1.trans (g_order_asked _ _).symm
      · exact o2.trans (g_answer_asked _ _).symm
      · exact (zo 12 (by decide)).trans (o3.trans (g_length_asked _ _).symm)
/-- an order's words are kept, on both sides -/
theorem l_said59 {L : S6} {w t z : Nat → Int32} {len : Nat} (hw : S6_words L = w) (hc : S6_count L = nI len) (hl : len ≤ 24) : ∀ (d fu k : Nat) (o a : Nat → Int32), k + d = len → d < fu → ∃ o' a', fL_said_59 w fu t z o a (nI len) (nI k) = (bn3 (fL_does t z o' a') fun r t2 z2 => some (r, t2, z2, o', a')) ∧ fX6_understand_59 fu (S6_set_answer (S6_set_order L o) a) (nI k) = fX6_perform (S6_set_answer (S6_set_order L o') a') ∧ (∀ j, k ≤ j → j < len → o' j = w j ∧ a' j = -1) ∧ (∀ j, j < k → o' j = o j ∧ a' j = a j)
  | 0, fu, k, o, a, h, hf => by
    obtain ⟨g, rfl⟩ : ∃ g, fu = g + 1 := ⟨fu - 1, by omega⟩
    have e : k = len := by omega
    subst e
    refine ⟨o, a, ?_, ?_, fun j q1 q2 => absurd q1 (by omega), fun j _ => ⟨rfl, rfl⟩⟩
    · rw [fL_said_59, if_pos (nI_le (Nat.le_refl k) (by omega))]
    · rw [fX6_understand_59, g_count_answer, g_count_order, hc, if_pos (nI_le (Nat.le_refl k) (by omega)), bn2_id]
  | d + 1, fu, k, o, a, h, hf => by
    obtain ⟨g, rfl⟩ : ∃ g, fu = g + 1 := ⟨fu - 1, by omega⟩
    obtain ⟨o', a', i0, i1, i2, i3⟩ := l_said59 hw hc hl d g (k + 1) (upd o k (w k)) (upd a k (-1)) (by omega) (by omega)
    refine ⟨o', a', ?_, ?_, fun j q1 q2 => ?_, fun j q => ?_⟩
    · rw [fL_said_59, if_neg (nI_ge (by omega) (by omega)), ai24 (by omega), ai24 (by omega), ai24 (by omega), cl_nI (by omega), nI_1]
      exact i0
    · rw [fX6_understand_59, g_count_answer, g_count_order, hc, if_neg (nI_ge (by omega) (by omega)), ai24 (by omega), ai24 (by omega), ai24 (by omega), cl_nI (by omega), nI_1, g_answer_order, g_answer_answer, g_order_answer, g_order_order, g_words_answer, g_words_order, hw, oa_step]
      exact i1
    · by_cases e : j = k
      · subst e
        obtain ⟨x, y⟩ := i3 j (by omega)
        rw [x, y, up_same, up_same]
        exact ⟨rfl, rfl⟩
      · exact i2 j (by omega) q2
    · obtain ⟨x, y⟩ := i3 j (by omega)
      rw [x, y, up_ne _ _ (by omega), up_ne _ _ (by omega)]
      exact ⟨rfl, rfl⟩
theorem l_said (s0 : S0) {s1 : S1} {s2 : S2} {s4 : S4} {s5 : S5} {m : S6} {t z w u v : Nat → Int32} {n kb ko len : Nat} (I : WI s4 n kb ko) (J : MI m s4 n kb ko) (hM : MemR s1 m n) (hw : S6_words m = w) (hc : S6_count m = nI len) (hl : len ≤ 24) (hv : len ≠ 0 → isV (w 0) ∨ 5 ≤ w 0) (hQ : QR s2 s5 m n) (hwm : S6_wrongAt m = -1) (hT : LMm t z m n) (hA : LAt t n) (hz : z 4 = S6_verb m ∧ z 5 = S6_meant m ∧ z 6 = S6_done m ∧ z 7 = S6_into m ∧ z 8 = S6_it m ∧ z 9 = S6_asked m ∧ z 10 = S6_askedAt m) (hO : LO z u v m) (hz1 : z 1 = nI len) :
    ∃ r t' z' u' v' m2, fL_said t z w u v = some (r, t', z', u', v') ∧ fX6_understand m = some (r, m2) ∧ LC t z m n t' z' u' v' m2 := by
  obtain ⟨z4, z5, z6, z7, z8, z9, z10⟩ := hz
  obtain ⟨o1, o2, o3⟩ := hO
  obtain ⟨Z, hZ⟩ : ∃ Z, Z = upd z 3 (-1) := ⟨_, rfl⟩
  have Zo : ∀ j, j ≠ 3 → Z j = z j := fun j a => by rw [hZ, up_ne _ _ a]
  have Z3 : Z 3 = -1 := by rw [hZ, up_same]
  have hLZ : LZ Z m := ⟨Z3.trans hwm.symm, (Zo 4 (by decide)).trans z4, (Zo 5 (by decide)).trans z5, (Zo 6 (by decide)).trans z6, (Zo 7 (by decide)).trans z7, (Zo 8 (by decide)).trans z8, (Zo 9 (by decide)).trans z9, (Zo 10 (by decide)).trans z10⟩
  have hLO : LO Z u v m := ⟨o1, o2, (Zo 12 (by decide)).trans o3⟩
  have hTZ : LMm t Z m n := LMm_of hT (Zo 0 (by decide)) rfl rfl rfl rfl rfl rfl
  have hZ4 : Z 0 = z 0 ∧ Z 1 = z 1 ∧ Z 2 = z 2 ∧ Z 11 = z 11 := ⟨Zo 0 (by decide), Zo 1 (by decide), Zo 2 (by decide), Zo 11 (by decide)⟩
  unfold fL_said fX6_understand
  simp only [ai13_1, ai13_3, ai13_9, ai13_10, ai13_12, cl_1, cl_3, cl_9, cl_10, cl_12, cl0, ai24_0]
  rw [hz1, hc, ← hZ]
  by_cases e : len = 0
  · have z0 : nI len = 0 := by rw [e]; rfl
    rw [if_pos z0, if_pos z0]
    exact ⟨_, _, _, _, _, _, rfl, rfl, hTZ, fun _ _ => rfl, hZ4, hLZ, hLO, rfl⟩
  · have h1 : 1 ≤ len := by omega
    have z0 := nz_len h1 hl
    have hs : WS m w len := ⟨hw, hc, h1, hl⟩
    rw [if_neg z0, if_neg z0, hw]
    by_cases q : isV (w 0)
    · have nv : ¬ 5 ≤ w 0 := by rcases q with x | x | x | x | x <;> rw [x] <;> decide
      rw [if_neg nv, mV q, bn1_s, if_neg (show ¬ (1 : Int32) = 0 by decide)]
      obtain ⟨A, hAe⟩ : ∃ A, A = S6_set_askedAt (S6_set_asked m 0) (-1) := ⟨_, rfl⟩
      have sA : SA m A := by
        rw [hAe]
        exact SA_tr (SA_asked m 0) (SA_askedAt _ _)
      have aA : S6_asked A = 0 ∧ S6_askedAt A = -1 := by
        rw [hAe, g_asked_askedAt, g_asked_asked, g_askedAt_askedAt]
        exact ⟨rfl, rfl⟩
      have fA : S6_noun A = S6_noun m ∧ S6_adjectives A = S6_adjectives m ∧ S6_box A = S6_box m ∧ S6_open A = S6_open m ∧ S6_place A = S6_place m ∧ S6_order A = S6_order m ∧ S6_answer A = S6_answer m ∧ S6_length A = S6_length m ∧ S6_things A = S6_things m := by
        rw [hAe]
        refine ⟨?_, ?_, ?_, ?_, ?_, ?_, ?_, ?_, ?_⟩
        · rw [g_noun_askedAt, g_noun_asked]
        · rw [g_adjectives_askedAt, g_adjectives_asked]
        · rw [g_box_askedAt, g_box_asked]
        · rw [g_open_askedAt, g_open_asked]
        · rw [g_place_askedAt, g_place_asked]
        · rw [g_order_askedAt, g_order_asked]
        · rw [g_answer_askedAt, g_answer_asked]
        · rw [g_length_askedAt, g_length_asked]
        · rw [g_things_askedAt, g_things_asked]
      rw [← hAe]
      clear hAe
      have hsA := WS_kp (SA_kp sA) hs
      have h0 : ¬ w 0 < 0 := by rcases q with x | x | x | x | x <;> rw [x] <;> decide
      have kA := SA_kp sA
      obtain ⟨-, a1, a2, a3, a4, a5, -, a7⟩ := sA
      rw [l_wrongOrder hsA]
      obtain ⟨Y, hY⟩ : ∃ Y, Y = upd (upd Z 9 0) 10 (-1) := ⟨_, rfl⟩
      have Yo : ∀ j, j ≠ 9 → j ≠ 10 → Y j = Z j := fun j b c => by rw [hY, up_ne _ _ c, up_ne _ _ b]
      have Y9 : Y 9 = 0 := by rw [hY, up_ne _ _ (by decide), up_same]
      have Y10 : Y 10 = -1 := by rw [hY, up_same]
      rw [← hY]
      clear hY
      rcases e_read hsA s2 0 0 h0 with ⟨t3, c, p, a, nn, -, r2, r3⟩ | ⟨t3, e', a, nn, -, r0, r3⟩
      · rw [r3, bn1_s, bn1_s, g_wrongAt_wrongAt, if_pos (show (-1 : Int32) = -1 from rfl)]
        unfold bl
        dsimp only
        rw [up_same, if_pos (show (-1 : Int32) < 0 by decide)]
        obtain ⟨X, hX⟩ : ∃ X, X = upd (upd Y 3 (-1)) 12 (nI len) := ⟨_, rfl⟩
        have Xo : ∀ j, j ≠ 3 → j ≠ 12 → X j = Y j := fun j b c => by rw [hX, up_ne _ _ c, up_ne _ _ b]
        have X3 : X 3 = -1 := by rw [hX, up_ne _ _ (by decide), up_same]
        have X12 : X 12 = nI len := by rw [hX, up_same]
        rw [← hX]
        clear hX
        obtain ⟨L, hLe⟩ : ∃ L, L = S6_set_length (S6_set_wrongAt A (-1)) (S6_count (S6_set_wrongAt A (-1))) := ⟨_, rfl⟩
        have L1 : kp L = kp m := by
          rw [hLe, kp_length, kp_wrongAt]
          exact kA
        have L2 : S6_length L = nI len := by
          rw [hLe, g_length_length, g_count_wrongAt]
          exact hsA.2.1
        have L3 : S6_wrongAt L = -1 := by rw [hLe, g_wrongAt_length, g_wrongAt_wrongAt]
        have L4 : MI L s4 n kb ko := by
          rw [hLe]
          exact MI_length (MI_wrongAt (a7 _ _ _ _ J) _) _
        have L5 : S6_verb L = S6_verb m ∧ S6_meant L = S6_meant m ∧ S6_done L = S6_done m ∧ S6_into L = S6_into m ∧ S6_it L = S6_it m := by
          rw [hLe]
          exact ⟨(g_verb_length _ _).trans ((g_verb_wrongAt _ _).trans a1), (g_meant_length _ _).trans ((g_meant_wrongAt _ _).trans a2), (g_done_length _ _).trans ((g_done_wrongAt _ _).trans a3), (g_into_length _ _).trans ((g_into_wrongAt _ _).trans a4), (g_it_length _ _).trans ((g_it_wrongAt _ _).trans a5)⟩
        have L6 : S6_noun L = S6_noun m ∧ S6_adjectives L = S6_adjectives m ∧ S6_box L = S6_box m ∧ S6_open L = S6_open m ∧ S6_place L = S6_place m ∧ S6_order L = S6_order m ∧ S6_answer L = S6_answer m ∧ S6_things L = S6_things m := by
          rw [hLe]
          obtain ⟨b1, b2, b3, b4, b5, b6, b7, -, b9⟩ := fA
          exact ⟨(g_noun_length _ _).trans ((g_noun_wrongAt _ _).trans b1), (g_adjectives_length _ _).trans ((g_adjectives_wrongAt _ _).trans b2), (g_box_length _ _).trans ((g_box_wrongAt _ _).trans b3), (g_open_length _ _).trans ((g_open_wrongAt _ _).trans b4), (g_place_length _ _).trans ((g_place_wrongAt _ _).trans b5), (g_order_length _ _).trans ((g_order_wrongAt _ _).trans b6), (g_answer_length _ _).trans ((g_answer_wrongAt _ _).trans b7), (g_things_length _ _).trans ((g_things_wrongAt _ _).trans b9)⟩
        rw [← hLe]
        clear hLe
        have hsL := WS_kp L1 hs
        obtain ⟨o', a', u0, u1, u2, -⟩ := l_said59 (t := t) (z := X) hsL.1 hsL.2.1 hl len 64 0 (S6_order L) (S6_answer L) (by omega) (by omega)
        rw [oa_eta] at u1
        obtain ⟨p1, p2, p3, p4, p5, p6, p7, p8, p9, p10, p11⟩ := oa_ex L o' a'
        have f1 : S6_noun (S6_set_answer (S6_set_order L o') a') = S6_noun L := by rw [g_noun_answer, g_noun_order]
        have f2 : S6_adjectives (S6_set_answer (S6_set_order L o') a') = S6_adjectives L := by rw [g_adjectives_answer, g_adjectives_order]
        have f3 : S6_box (S6_set_answer (S6_set_order L o') a') = S6_box L := by rw [g_box_answer, g_box_order]
        have f4 : S6_open (S6_set_answer (S6_set_order L o') a') = S6_open L := by rw [g_open_answer, g_open_order]
        have f5 : S6_place (S6_set_answer (S6_set_order L o') a') = S6_place L := by rw [g_place_answer, g_place_order]
        have f6 : S6_things (S6_set_answer (S6_set_order L o') a') = S6_things L := by rw [g_things_answer, g_things_order]
        obtain ⟨P, hP⟩ : ∃ P, P = S6_set_answer (S6_set_order L o') a' := ⟨_, rfl⟩
        rw [← hP] at u1 p1 p2 p3 p4 p5 p6 p7 p8 p9 p10 p11 f1 f2 f3 f4 f5 f6
        clear hP
        have hu : ∀ j, j < len → o' j = w j := fun j hj => (u2 j (Nat.zero_le _) hj).1
        have hph := r2.1.2.1
        have hle : c + 1 ≤ 24 := by
          have x := E2_ge hph c (by omega)
          have y := (hph c (by omega)).2.2.1
          omega
        have K : LK s1 t3 s4 P o' len n kb ko c := by
          refine ⟨I, p11 _ _ _ _ L4, ⟨p2.trans L2, hl, fun j hj => by rw [p3]⟩, LyG_congr hu ⟨⟨r2.1.1, hph, trivial⟩, r2.2⟩, ItR_of (p9.trans L5.2.2.2.2) hM.2.2.2.2, fun i hi => Or.inl ⟨r2.1.2.2 i hi, ?_⟩⟩
          rw [p4]
          exact (u2 _ (Nat.zero_le _) (hph i hi).2.2.1).2
        have p12 : LMm t X P n := LMm_of hTZ ((Xo 0 (by decide) (by decide)).trans (Yo 0 (by decide) (by decide))) (f1.trans L6.1) (f2.trans L6.2.1) (f3.trans L6.2.2.1) (f4.trans L6.2.2.2.1) (f5.trans L6.2.2.2.2.1) (f6.trans L6.2.2.2.2.2.2.2)
        have xz : ∀ j, j ≠ 3 → j ≠ 12 → j ≠ 9 → j ≠ 10 → X j = z j := fun j b c d e => (Xo j b c).trans ((Yo j d e).trans (Zo j b))
        obtain ⟨r, t', z', m2, d1, d2, d3, d4, ⟨d5, d6, d7, d8, d9⟩, d10, d11, -⟩ := l_does (v := a') s0 s5 K hle (MemR_of (p5.trans L5.1) (p6.trans L5.2.1) (p7.trans L5.2.2.1) (p8.trans L5.2.2.2.1) (p9.trans L5.2.2.2.2) hM) (by rw [hu 0 (by omega)]; exact q) p12 hA ⟨X3.trans (L3.symm.trans p10.symm), (xz 4 (by decide) (by decide) (by decide) (by decide)).trans (z4.trans (p5.trans L5.1).symm), (xz 5 (by decide) (by decide) (by decide) (by decide)).trans (z5.trans (p6.trans L5.2.1).symm), (xz 6 (by decide) (by decide) (by decide) (by decide)).trans (z6.trans (p7.trans L5.2.2.1).symm), (xz 7 (by decide) (by decide) (by decide) (by decide)).trans (z7.trans (p8.trans L5.2.2.2.1).symm), (xz 8 (by decide) (by decide) (by decide) (by decide)).trans (z8.trans (p9.trans L5.2.2.2.2).symm)⟩ (p10.trans L3) X12 (fun j _ => by rw [p4])
        obtain ⟨k1, k2, k3, k4⟩ := k6_ex d11
        have u3 : fL_said_59 w 64 t X u v (nI len) 0 = (bn3 (fL_does t X o' a') fun r t2 z2 => some (r, t2, z2, o', a')) := by
          rw [o1, o2, ← L6.2.2.2.2.2.1, ← L6.2.2.2.2.2.2.1]
          exact u0
        rw [u3, d1, bn3_s]
        refine ⟨_, _, _, _, _, _, rfl, u1.trans d2, d3, d4, ⟨d5.trans (xz 0 (by decide) (by decide) (by decide) (by decide)), d6.trans (xz 1 (by decide) (by decide) (by decide) (by decide)), d7.trans (xz 2 (by decide) (by decide) (by decide) (by decide)), d8.trans (xz 11 (by decide) (by decide) (by decide) (by decide))⟩, d10, ⟨?_, ?_, ?_⟩, k1.trans (p1.trans L1)⟩
        · rw [k3, p3]
        · rw [k4, p4]
        · exact d9.trans (X12.trans (L2.symm.trans (p2.symm.trans k2.symm)))
      · have ne : ¬ nI e' = -1 := nI_ne1 (by omega)
        rw [r3, bn1_s, bn1_s, g_wrongAt_wrongAt, if_neg ne]
        unfold bl
        dsimp only
        rw [up_same, if_neg (ng (by omega))]
        have Wo : ∀ j, j ≠ 3 → upd Y 3 (nI e') j = Y j := fun j b => up_ne _ _ b
        have wz : ∀ j, j ≠ 3 → j ≠ 9 → j ≠ 10 → upd Y 3 (nI e') j = z j := fun j b c d => (Wo j b).trans ((Yo j c d).trans (Zo j b))
        obtain ⟨b1, b2, b3, b4, b5, b6, b7, b8, b9⟩ := fA
        refine ⟨_, _, _, _, _, _, rfl, rfl, LMm_of hT (wz 0 (by decide) (by decide) (by decide)) ((g_noun_wrongAt _ _).trans b1) ((g_adjectives_wrongAt _ _).trans b2) ((g_box_wrongAt _ _).trans b3) ((g_open_wrongAt _ _).trans b4) ((g_place_wrongAt _ _).trans b5) ((g_things_wrongAt _ _).trans b9), fun _ _ => rfl, ⟨wz 0 (by decide) (by decide) (by decide), wz 1 (by decide) (by decide) (by decide), wz 2 (by decide) (by decide) (by decide), wz 11 (by decide) (by decide) (by decide)⟩, ⟨?_, ?_, ?_, ?_, ?_, ?_, ?_, ?_⟩, ⟨?_, ?_, ?_⟩, ?_⟩
        · rw [g_wrongAt_wrongAt]; exact up_same _ _ _
        · exact (wz 4 (by decide) (by decide) (by decide)).trans (z4.trans ((g_verb_wrongAt _ _).trans a1).symm)
        · exact (wz 5 (by decide) (by decide) (by decide)).trans (z5.trans ((g_meant_wrongAt _ _).trans a2).symm)
        · exact (wz 6 (by decide) (by decide) (by decide)).trans (z6.trans ((g_done_wrongAt _ _).trans a3).symm)
        · exact (wz 7 (by decide) (by decide) (by decide)).trans (z7.trans ((g_into_wrongAt _ _).trans a4).symm)
        · exact (wz 8 (by decide) (by decide) (by decide)).trans (z8.trans ((g_it_wrongAt _ _).trans a5).symm)
        · rw [g_asked_wrongAt, aA.1]; exact (Wo 9 (by decide)).trans Y9
        · rw [g_askedAt_wrongAt, aA.2]; exact (Wo 10 (by decide)).trans Y10
        · rw [g_order_wrongAt, b6]; exact o1
        · rw [g_answer_wrongAt, b7]; exact o2
        · rw [g_length_wrongAt, b8]; exact (wz 12 (by decide) (by decide) (by decide)).trans o3
        · rw [kp_wrongAt]
          exact kA
    · have yv : 5 ≤ w 0 := (hv e).resolve_left q
      rw [if_pos yv, mnV q, bn1_s, if_pos (show (0 : Int32) = 0 from rfl), Zo 9 (by decide), z9]
      by_cases y : S6_asked m = 0
      · rw [if_pos y, if_pos y]
        exact ⟨_, _, _, _, _, _, rfl, rfl, hTZ, fun _ _ => rfl, hZ4, hLZ, hLO, rfl⟩
      · rw [if_neg y, if_neg y]
        have sb : nI len - 1 = nI (len - 1) := pk_sub (a := len) (b := 1) h1
        rcases l_answer hs with ⟨nn, c1, c2, c3, c4⟩ | ⟨p, c0, c1, c2⟩
        · have eZ : upd Z 3 (-1) = Z := by
            funext j
            by_cases b : j = 3
            · rw [b, up_same, Z3]
            · rw [up_ne _ _ b]
          have eM : S6_set_wrongAt m (-1) = m := by
            have y1 : S6_set_wrongAt m (S6_wrongAt m) = m := rfl
            rw [hwm] at y1
            exact y1
          rw [c1, c2, bn1_s, bn1_s, eZ, eM, Z3, if_pos (show (-1 : Int32) < 0 by decide), hwm, if_pos (show (-1 : Int32) = -1 from rfl), c3 m hs, sb, ai24 (by omega), ai24 (by omega), cl_nI (by omega), e_lN, bn1_s]
          have hnn : nn = -1 ∨ ¬ nn < 0 := by
            rcases c4 with ⟨n1, n2⟩ | ⟨n1, n2⟩
            · obtain ⟨j, j1, j2⟩ := wN_nI n1
              exact Or.inr (by rw [n2, j2]; exact ng (by omega))
            · exact Or.inl n2
          obtain ⟨r, t', z', u', v', m2, d1, d2, d3, d4, ⟨d5, d6, d7, d8⟩, d9, d10, d11⟩ := l_157 s0 (w := w) (nn := nn) I J hM hQ y hwm hTZ hA hLZ hLO h1 hl hnn
          have fin : LC t z m n t' z' u' v' m2 := ⟨d3, d4, ⟨d5.trans hZ4.1, d6.trans hZ4.2.1, d7.trans hZ4.2.2.1, d8.trans hZ4.2.2.2⟩, d9, d10, d11⟩
          rcases c4 with ⟨n1, n2⟩ | ⟨n1, n2⟩
          · rw [if_pos n1, if_neg (show ¬ (1 : Int32) = 0 by decide), ← n2, d1]
            exact ⟨_, _, _, _, _, _, rfl, d2, fin⟩
          · rw [if_neg n1, if_pos (show (0 : Int32) = 0 from rfl), ← n2, d1]
            exact ⟨_, _, _, _, _, _, rfl, d2, fin⟩
        · have ne : ¬ nI p = -1 := nI_ne1 (by omega)
          rw [c1, c2, bn1_s, bn1_s, g_wrongAt_wrongAt, if_neg ne, up_same, if_neg (ng (by omega))]
          have Wo : ∀ j, j ≠ 3 → upd Z 3 (nI p) j = z j := fun j b => (up_ne _ _ b).trans (Zo j b)
          refine ⟨_, _, _, _, _, _, rfl, rfl, LMm_of hT (Wo 0 (by decide)) (g_noun_wrongAt _ _) (g_adjectives_wrongAt _ _) (g_box_wrongAt _ _) (g_open_wrongAt _ _) (g_place_wrongAt _ _) (g_things_wrongAt _ _), fun _ _ => rfl, ⟨Wo 0 (by decide), Wo 1 (by decide), Wo 2 (by decide), Wo 11 (by decide)⟩, ⟨?_, ?_, ?_, ?_, ?_, ?_, ?_, ?_⟩, ⟨?_, ?_, ?_⟩, kp_wrongAt _ _⟩
          · rw [g_wrongAt_wrongAt]; exact up_same _ _ _
          · exact (Wo 4 (by decide)).trans (z4.trans (g_verb_wrongAt _ _).symm)
          · exact (Wo 5 (by decide)).trans (z5.trans (g_meant_wrongAt _ _).symm)
          · exact (Wo 6 (by decide)).trans (z6.trans (g_done_wrongAt _ _).symm)
          · exact (Wo 7 (by decide)).trans (z7.trans (g_into_wrongAt _ _).symm)
          · exact (Wo 8 (by decide)).trans (z8.trans (g_it_wrongAt _ _).symm)
          · exact (Wo 9 (by decide)).trans (z9.trans (g_asked_wrongAt _ _).symm)
          · exact (Wo 10 (by decide)).trans (z10.trans (g_askedAt_wrongAt _ _).symm)
          · exact o1.trans (g_order_wrongAt _ _).symm
          · exact o2.trans (g_answer_wrongAt _ _).symm
          · exact (Wo 12 (by decide)).trans (o3.trans (g_length_wrongAt _ _).symm)
