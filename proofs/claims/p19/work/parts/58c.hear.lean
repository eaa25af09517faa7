/-- what hearing words leaves as it is -/
def kp (m : S6) := (S6_count m, S6_words m, S6_outcome m, S6_questions m, S6_thrown m)
/-- a question, on both sides, with the order that is kept -/
def QR (s2 : S2) (s5 : S5) (m : S6) (n : Nat) : Prop :=
  (S5_askedThings s5 = 0 ∧ S6_asked m = 0 ∧ S6_askedAt m = -1)
  ∨ ∃ (q i c : Nat) (w : Nat → Int32) (len : Nat), (0 < q ∧ q < 2 ^ n ∧ S5_askedThings s5 = nI q ∧ S6_asked m = nI q ∧ S5_askedPhrase s5 = nI i ∧ i ≤ c ∧ c + 1 ≤ 24 ∧ S6_askedAt m = nI (E2 s2 i)) ∧ OR m w len ∧ LyG w len s2 c ∧ (∀ j, j < c + 1 → AnR s2 m n j) ∧ (w 0 = 0 ∨ w 0 = 1 ∨ w 0 = 2 ∨ w 0 = 3 ∨ w 0 = 4)
/-- what hearing comes to -/
def HR (s2 : S2) (n kb : Nat) (s5 t5 : S5) (m m2 : S6) (t1 : S1) (t4 : S4) : Prop :=
  kp m2 = kp m ∧ MemR t1 m2 n ∧ (∃ ko2, WI t4 n kb ko2 ∧ MI m2 t4 n kb ko2) ∧ S5_wrongPlace t5 = S6_wrongAt m2 ∧ S5_questionCount t5 = S5_questionCount s5 ∧ QR s2 t5 m2 n
theorem k6_ex {a b : S6} (h : keep6 a = keep6 b) : kp a = kp b ∧ S6_length a = S6_length b ∧ S6_order a = S6_order b ∧ S6_answer a = S6_answer b := by
  simp only [keep6, Prod.mk.injEq] at h
  obtain ⟨h1, h2, h3, h4, h5, h6, h7, h8⟩ := h
  refine ⟨?_, h5, h6, h7⟩
  unfold kp
  rw [h1, h2, h3, h4, h8]
theorem E2_ge {w : Nat → Int32} {len c : Nat} {s2 : S2} (h : ∀ i, i < c → Ph w len s2 i) : ∀ i, i < c → i + 1 ≤ E2 s2 i
  | 0, hi => (h 0 hi).2.1
  | i + 1, hi => by
    have a := E2_ge h i (by omega)
    have b := (h (i + 1) hi).2.1
    have e : ST s2 (i + 1) = E2 s2 i + 2 := rfl
    omega
theorem E2_lt {w : Nat → Int32} {len c : Nat} {s2 : S2} (h : ∀ i, i < c → Ph w len s2 i) (i : Nat) : ∀ d, i + d + 1 < c → E2 s2 i < E2 s2 (i + d + 1)
  | 0, hi => by
    have b := (h (i + 1) hi).2.1
    have e : ST s2 (i + 1) = E2 s2 i + 2 := rfl
    show E2 s2 i < E2 s2 (i + 1)
    omega
  | d + 1, hi => by
    have a := E2_lt h i d (by omega)
    have b := (h (i + d + 1 + 1) (by omega)).2.1
    have e : ST s2 (i + d + 1 + 1) = E2 s2 (i + d + 1) + 2 := rfl
    show E2 s2 i < E2 s2 (i + d + 1 + 1)
    omega
theorem E2_inj {w : Nat → Int32} {len c : Nat} {s2 : S2} (h : ∀ i, i < c → Ph w len s2 i) {i j : Nat} (hi : i < c) (hj : j < c) (hn : j ≠ i) : E2 s2 j ≠ E2 s2 i := by
  rcases Nat.lt_or_ge i j with a | a
  · have := E2_lt h i (j - i - 1) (by omega)
    rw [show i + (j - i - 1) + 1 = j by omega] at this
    omega
  · have := E2_lt h j (i - j - 1) (by omega)
    rw [show j + (i - j - 1) + 1 = i by omega] at this
    omega
/-- looking at an order, with what becomes of the question -/
theorem e_lookQ {s0 : S0} {s1 : S1} {s2 : S2} {s4 : S4} {s5 : S5} {m : S6} {w : Nat → Int32} {len n kb ko c : Nat} (K : LK s1 s2 s4 m w len n kb ko c) (hc : c + 1 ≤ 24) (hM : MemR s1 m n) (hv : w 0 = 0 ∨ w 0 = 1 ∨ w 0 = 2 ∨ w 0 = 3 ∨ w 0 = 4) (hq : S5_askedThings s5 = 0) (hw : S5_wrongPlace s5 = S6_wrongAt m) :
    ∃ r t0 t1 t4 t5 m2, fX5_lookAtOrder s0 s1 s2 s4 s5 = some (r, t0, t1, t4, t5) ∧ fX6_perform m = some (r, m2) ∧ HR s2 n kb s5 t5 m m2 t1 t4 := by
  obtain ⟨r, t0, t1, t4, t5, m2, e1, e2, l1, l2, l3, l4⟩ := e_look (s0 := s0) (s5 := s5) K hc hM hv
  obtain ⟨k1, k2, k3, k4⟩ := k6_ex l1
  refine ⟨r, t0, t1, t4, t5, m2, e1, e2, k1, l2, l3, ?_⟩
  obtain ⟨-, -, ho, hLF, -, hA⟩ := K
  rcases l4 with ⟨-, a1, a2, i, -, rfl, a3⟩ | ⟨-, a0, i, q, a1, a2, a3, rfl, a4, a5⟩ | ⟨-, a0, a1, a2, rfl⟩
  · exact ⟨a3.symm, rfl, Or.inl ⟨hq, a1, a2⟩⟩
  · exact ⟨hw.trans a0.symm, rfl, Or.inr ⟨q, i, c, w, len, ⟨a2, a3, rfl, a4, rfl, a1, hc, a5⟩, OR_of k2 k3 ho, hLF, fun j hj => AnR_of k4 (hA j hj), hv⟩⟩
  · exact ⟨hw.trans a0.symm, rfl, Or.inl ⟨hq, a1, a2⟩⟩
