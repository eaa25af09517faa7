def LyF (w : Nat → Int32) (len : Nat) (s2 : S2) (c : Nat) : Prop :=
  Ly w len s2 (c + 1) ∧ E2 s2 c + 1 = len ∧ (w 0 = 2 ↔ S2_roles s2 c = 2) ∧ S2_orderVerb s2 = w 0
theorem DF_and {s : S6} {w : Nat → Int32} {len k : Nat} (hs : WS s w len) {y : Int32} (hy : y = 4 ∨ y = 6 ∨ y = 7 ∨ y = 11) (h : k < len ∧ w k = 13) (x2 : Int32) : DF s y x2 0 k = DF s 1 (if y = 11 then 1 else 0) 0 (k + 1) := by
  rcases hy with rfl | rfl | rfl | rfl
  · rw [DF_4 hs h.1, if_pos h.2, NX_ok (by decide)]; rfl
  · rw [DF_6 hs h.1, if_pos h.2, NX_ok (by decide)]; rfl
  · rw [DF_7 hs h.1, if_pos h.2, NX_ok (by decide)]; rfl
  · rw [DF_11 hs h.1, if_pos h.2, NX_ok (by decide)]; rfl
theorem DF_in {s : S6} {w : Nat → Int32} {len k : Nat} (hs : WS s w len) {y : Int32} (hy : y = 4 ∨ y = 6 ∨ y = 7 ∨ y = 11) (h : k < len ∧ w k = 16) (h2 : w 0 = 2) (x2 : Int32) : DF s y x2 0 k = DF s 8 x2 1 (k + 1) := by
  have n : ¬ w k = 13 := by rw [h.2]; decide
  have g : w k = 16 ∧ w 0 = 2 := ⟨h.2, h2⟩
  rcases hy with rfl | rfl | rfl | rfl
  · rw [DF_4 hs h.1, if_neg n, if_pos g, NX_ok (by decide)]
  · rw [DF_6 hs h.1, if_neg n, if_pos g, NX_ok (by decide)]
  · rw [DF_7 hs h.1, if_neg n, if_pos g, NX_ok (by decide)]
  · rw [DF_11 hs h.1, if_neg n, if_pos g, NX_ok (by decide)]
theorem DF_stop {s : S6} {w : Nat → Int32} {len k : Nat} (hs : WS s w len) {y : Int32} (hy : y = 4 ∨ y = 6 ∨ y = 7 ∨ y = 11) (h : k < len) (h13 : ¬ w k = 13) (h16 : ¬ (w k = 16 ∧ w 0 = 2)) (h12 : y = 4 ∨ y = 6 → ¬ (k < len ∧ w k = 12)) (h4 : y = 4 → k < len → wA (w k) = false ∧ wP (w k) = false) (x2 : Int32) : DF s y x2 0 k = some (nI k) := by
  rcases hy with rfl | rfl | rfl | rfl
  · obtain ⟨a, b⟩ := h4 rfl h
    rw [DF_4 hs h, if_neg h13, if_neg h16, if_neg (show ¬ w k = 12 from fun q => h12 (Or.inl rfl) ⟨h, q⟩), if_neg (show ¬ wA (w k) = true by rw [a]; decide), if_neg (show ¬ wP (w k) = true by rw [b]; decide), NX_no]
  · rw [DF_6 hs h, if_neg h13, if_neg h16, if_neg (show ¬ w k = 12 from fun q => h12 (Or.inr rfl) ⟨h, q⟩), NX_no]
  · rw [DF_7 hs h, if_neg h13, if_neg h16, NX_no]
  · rw [DF_11 hs h, if_neg h13, if_neg h16, NX_no]
theorem e_r59 {s : S6} {w : Nat → Int32} {len : Nat} (hs : WS s w len) {t2 : S2} {c k2 : Nat} {a n y : Int32} (hL : Ly w len t2 (c + 1)) (hE : E2 t2 c + 1 = k2) (hk2 : k2 ≤ len) (hr : S2_roles t2 c ≠ 2) (hv : S2_orderVerb t2 = w 0) (hck : c + 1 ≤ k2)
    (hy : y = 4 ∨ y = 6 ∨ y = 7 ∨ y = 11) (h13 : ¬ (k2 < len ∧ w k2 = 13)) (h12 : y = 4 ∨ y = 6 → ¬ (k2 < len ∧ w k2 = 12)) (h4 : y = 4 → k2 < len → wA (w k2) = false ∧ wP (w k2) = false) :
    (∃ t3 e a' n', fX2_read_59 t2 (mk3 w len k2 a n) = some (0, t3, mk3 w len e a' n') ∧ e ≤ len ∧ ∀ x2, DF s y x2 0 k2 = some (nI e))
    ∨ (∃ t3 c3 p a' n', fX2_read_59 t2 (mk3 w len k2 a n) = some (1, t3, mk3 w len p a' n') ∧ LyF w len t3 c3 ∧ ∀ x2, DF s y x2 0 k2 = some (-1)) := by
  have hl := hs.2.2.2
  unfold fX2_read_59 fX2_read_85 fX2_read_87
  rw [hv]
  by_cases pt : w 0 = 2
  · rw [if_pos pt, e_accept hl hk2 (by decide)]
    by_cases b : k2 < len ∧ w k2 = 16
    · rw [if_pos b, bn2_s, if_neg (by decide)]
      rcases e_single hs (k := k2 + 1) (adj := a) (noun := n) (s2 := t2) (c := c + 1) b.1 hL.1 (by omega) 2 with ⟨e', a', n', kd', j1, j2, j3, j4, j5⟩ | ⟨e', a', n', j1, j0, j2⟩
      · rw [j1, bn3_s, if_neg (by decide), e_atEnd hl (show e' + 1 ≤ len from j3), bn1_s]
        have hD : ∀ x2, DF s y x2 0 k2 = DF s 12 x2 1 (e' + 1) := fun x2 => by
          rw [DF_in hs hy b pt, j5]; rfl
        by_cases z : e' + 1 = len
        · rw [if_pos z, bo1]
          have hst : ST t2 (c + 1) = k2 + 1 := by
            show E2 t2 c + 2 = _
            omega
          obtain ⟨l1, l2, l3, l4⟩ := Ly_add (kd := kd') (role := 2) (a := a') (n := n') hL hl (by omega) j3 (by rw [hst]; exact Or.inr (Or.inr j4)) (fun z => absurd z (by omega)) (fun j hj => by
            have : j = c := by omega
            subst this
            exact ⟨Or.inr (Or.inr (Or.inr ⟨rfl, by rw [hE]; exact b.2, pt⟩)), hr⟩)
          refine (Or.inr ⟨_, c + 1, e' + 1, a', n', rfl, ⟨l1, by omega, ⟨fun _ => l3, fun _ => pt⟩, hv⟩, fun x2 => ?_⟩)
          rw [hD, z, DF_end hs, if_pos (show (if w 0 = 2 then (12 : Int32) = 12 else (12 : Int32) = 4 ∨ (12 : Int32) = 6 ∨ (12 : Int32) = 7 ∨ (12 : Int32) = 11) by rw [if_pos pt])]
        · rw [if_neg z, bo0]
          refine (Or.inl ⟨_, e' + 1, a', n', rfl, (show e' + 1 ≤ len from j3), fun x2 => ?_⟩)
          rw [hD, DF_12 hs (by omega), NX_no]
      · rw [j1, bn3_s, if_pos rfl]
        refine (Or.inl ⟨_, e', a', n', rfl, j0, fun x2 => ?_⟩)
        rw [DF_in hs hy b pt, j2]
    · rw [if_neg b, bn2_s, if_pos rfl]
      refine (Or.inl ⟨_, k2, a, n, rfl, hk2, fun x2 => ?_⟩)
      by_cases z : k2 < len
      · exact DF_stop hs hy z (fun q => h13 ⟨z, q⟩) (fun q => b ⟨z, q.1⟩) h12 h4 x2
      · have e : k2 = len := by omega
        rw [e, DF_end hs]
        have nn : ¬ (if w 0 = 2 then y = 12 else y = 4 ∨ y = 6 ∨ y = 7 ∨ y = 11) := by
          rw [if_pos pt]
          rcases hy with rfl | rfl | rfl | rfl <;> decide
        rw [if_neg nn]
  · rw [if_neg pt, e_atEnd hl hk2, bn1_s]
    by_cases z : k2 = len
    · rw [if_pos z, bo1]
      refine Or.inr ⟨t2, c, k2, a, n, rfl, ⟨hL, by omega, ⟨fun q => absurd q pt, fun q => absurd q hr⟩, hv⟩, fun x2 => ?_⟩
      rw [z, DF_end hs, if_pos (show (if w 0 = 2 then y = 12 else y = 4 ∨ y = 6 ∨ y = 7 ∨ y = 11) by rw [if_neg pt]; exact hy)]
    · rw [if_neg z, bo0]
      exact (Or.inl ⟨t2, k2, a, n, rfl, hk2, fun x2 => DF_stop hs hy (by omega) (fun q => h13 ⟨by omega, q⟩) (fun q => pt q.2) h12 h4 x2⟩)
/-- the whole of an order, from the place of a part on -/
theorem e_loop {s : S6} {w : Nat → Int32} {len : Nat} (hs : WS s w len) : ∀ (m fu : Nat) (s2 : S2) (c k x3 : Nat) (adj noun : Int32), len < k + m → m + 2 ≤ fu → k ≤ len → Ly w len s2 c → ST s2 c = k → c + 1 ≤ k → x3 ≤ c → (∀ j, c = j + 1 → w (k - 1) = 13 ∧ S2_roles s2 j ≠ 2) → S2_orderVerb s2 = w 0 →
    (∃ t3 c3 p a n, fX2_read_26 fu s2 (mk3 w len k adj noun) 1 (nI x3) = some (1, t3, mk3 w len p a n) ∧ LyF w len t3 c3 ∧ DF s 1 (lr s2 c) 0 k = some (-1))
    ∨ (∃ t3 e a n, fX2_read_26 fu s2 (mk3 w len k adj noun) 1 (nI x3) = some (0, t3, mk3 w len e a n) ∧ e ≤ len ∧ DF s 1 (lr s2 c) 0 k = some (nI e))
  | 0, _, _, _, _, _, _, _, h, _, hk, _, _, _, _, _, _ => absurd h (by omega)
  | m + 1, fu, s2, c, k, x3, adj, noun, h, hf, hk, hL, hST, hck, hx, h0, hv => by
    have hl := hs.2.2.2
    obtain ⟨g, rfl⟩ : ∃ g, fu = g + 1 := ⟨fu - 1, by omega⟩
    rw [fX2_read_26, if_neg (ge24 (by omega)), if_neg (by decide)]
    rcases e_part hs (adj := adj) (noun := noun) hk hL.1 hck with ⟨t2, k2, a, n, y, q1, q2, q3, q4, q5, q6, q7, q8⟩ | ⟨t2, e, a, n, q1, q0, q2⟩
    · obtain ⟨c2, r1, r2, r3, r4, r5, r6, r7⟩ := Ly_Gd hL hl hST hck q4 h0 (Decidable.em _) q8
      rw [q1, bn3_s, if_neg (by decide), e_accept hl q4 (by decide)]
      by_cases b : k2 < len ∧ w k2 = 13
      · rw [if_pos b, bn2_s, nI_1]
        have hD : DF s 1 (lr s2 c) 0 k = DF s 1 (lr t2 (c2 + 1)) 0 (k2 + 1) := by
          rw [q2, DF_and hs q5 b, r5]
        rw [hD]
        exact e_loop hs m g t2 (c2 + 1) (k2 + 1) (x3 + 1) a n (by omega) (by omega) b.1 r2 (by show E2 t2 c2 + 2 = _; omega) (by omega) (by omega) (fun j hj => by
          have : j = c2 := by omega
          subst this
          exact ⟨b.2, r6⟩) (by rw [r7, hv])
      · rw [if_neg b, bn2_s]
        obtain ⟨g2, rfl⟩ : ∃ g2, g = g2 + 1 := ⟨g - 1, by omega⟩
        have e59 : fX2_read_26 (g2 + 1) t2 (mk3 w len k2 a n) 0 (nI x3 + 1) = fX2_read_59 t2 (mk3 w len k2 a n) := by
          rw [fX2_read_26]
          by_cases z : (24 : Int32) ≤ nI x3 + 1
          · rw [if_pos z]
          · rw [if_neg z, if_pos rfl]
        rw [e59]
        rcases e_r59 hs (a := a) (n := n) r2 r3 q4 r6 (by rw [r7, hv]) r4 q5 b q6 q7 with ⟨t3, e, a', n', u1, u0, u2⟩ | ⟨t3, c3, p, a', n', u1, u2, u3⟩
        · exact Or.inr ⟨t3, e, a', n', u1, u0, by rw [q2]; exact u2 _⟩
        · exact Or.inl ⟨t3, c3, p, a', n', u1, u2, by rw [q2]; exact u3 _⟩
    · rw [q1, bn3_s, if_pos rfl]
      exact Or.inr ⟨t2, e, a, n, rfl, q0, q2⟩
