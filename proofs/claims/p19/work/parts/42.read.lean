def E2 (s2 : S2) (i : Nat) : Nat := (S2_lastPlaces s2 i).toNatClampNeg
def ST (s2 : S2) : Nat → Nat
  | 0 => 1
  | i + 1 => E2 s2 i + 2
/-- a phrase by its kind -/
def Kd (w : Nat → Int32) (len k e : Nat) (kd role a n : Int32) : Prop :=
  (kd = 15 ∧ role = 0 ∧ e = k ∧ w k = 15) ∨ (kd = 11 ∧ role = 0 ∧ Al w len k e a n) ∨ Sg w k e a n kd
/-- what stands between phrase j and the one behind it -/
def Sp (w : Nat → Int32) (s2 : S2) (j : Nat) (kd role : Int32) : Prop :=
  (role = 1 ∧ w (E2 s2 j + 1) = 12 ∧ S2_kinds s2 j = 11 ∧ S2_roles s2 j = 0)
  ∨ (role = 1 ∧ w (E2 s2 j + 1) = 13 ∧ S2_roles s2 j = 1)
  ∨ (role = 0 ∧ w (E2 s2 j + 1) = 13 ∧ (S2_roles s2 j = 1 → kd = 15 ∨ kd = 11))
  ∨ (role = 2 ∧ w (E2 s2 j + 1) = 16 ∧ w 0 = 2)
def Ph (w : Nat → Int32) (len : Nat) (s2 : S2) (i : Nat) : Prop :=
  S2_lastPlaces s2 i = nI (E2 s2 i) ∧ ST s2 i ≤ E2 s2 i ∧ E2 s2 i < len ∧
  Kd w len (ST s2 i) (E2 s2 i) (S2_kinds s2 i) (S2_roles s2 i) (S2_adjectiveSets s2 i) (S2_nouns s2 i) ∧
  (i = 0 → S2_roles s2 i = 0) ∧ (∀ j, i = j + 1 → Sp w s2 j (S2_kinds s2 i) (S2_roles s2 i) ∧ S2_roles s2 j ≠ 2)
def Ly (w : Nat → Int32) (len : Nat) (s2 : S2) (c : Nat) : Prop :=
  S2_count s2 = nI c ∧ (∀ i, i < c → Ph w len s2 i) ∧ (∀ i, i < c → S2_answers s2 i = 0)
theorem ad_E {s2 : S2} {c i : Nat} {kd role a n l : Int32} (h : i ≠ c) : E2 (addP s2 c kd role a n l) i = E2 s2 i := by
  show (upd (S2_lastPlaces s2) c l i).toNatClampNeg = _
  rw [up_ne _ _ h]; rfl
theorem ad_ST {s2 : S2} {c : Nat} {kd role a n l : Int32} : ∀ {i : Nat}, i ≤ c → ST (addP s2 c kd role a n l) i = ST s2 i
  | 0, _ => rfl
  | i + 1, h => by
    show E2 _ i + 2 = E2 s2 i + 2
    rw [ad_E (by omega)]
theorem ad_roles {s2 : S2} {c i : Nat} {kd role a n l : Int32} (h : i ≠ c) : S2_roles (addP s2 c kd role a n l) i = S2_roles s2 i := up_ne _ _ h
theorem ad_kinds {s2 : S2} {c i : Nat} {kd role a n l : Int32} (h : i ≠ c) : S2_kinds (addP s2 c kd role a n l) i = S2_kinds s2 i := up_ne _ _ h
theorem ad_adj {s2 : S2} {c i : Nat} {kd role a n l : Int32} (h : i ≠ c) : S2_adjectiveSets (addP s2 c kd role a n l) i = S2_adjectiveSets s2 i := up_ne _ _ h
theorem ad_nouns {s2 : S2} {c i : Nat} {kd role a n l : Int32} (h : i ≠ c) : S2_nouns (addP s2 c kd role a n l) i = S2_nouns s2 i := up_ne _ _ h
theorem ad_last {s2 : S2} {c i : Nat} {kd role a n l : Int32} (h : i ≠ c) : S2_lastPlaces (addP s2 c kd role a n l) i = S2_lastPlaces s2 i := up_ne _ _ h
theorem ad_ans {s2 : S2} {c i : Nat} {kd role a n l : Int32} (h : i ≠ c) : S2_answers (addP s2 c kd role a n l) i = S2_answers s2 i := up_ne _ _ h
theorem ad_Sp {w : Nat → Int32} {s2 : S2} {c j : Nat} {kd role a n l x y : Int32} (h : j ≠ c) : Sp w (addP s2 c kd role a n l) j x y ↔ Sp w s2 j x y := by
  unfold Sp
  rw [ad_E h, ad_kinds h, ad_roles h]
theorem ad_Ph {w : Nat → Int32} {len : Nat} {s2 : S2} {c i : Nat} {kd role a n l : Int32} (h : i < c) (p : Ph w len s2 i) : Ph w len (addP s2 c kd role a n l) i := by
  have h2 : i ≠ c := by omega
  obtain ⟨p1, p2, p3, p4, p5, p6⟩ := p
  unfold Ph
  rw [ad_E h2, ad_ST (by omega), ad_last h2, ad_kinds h2, ad_roles h2, ad_adj h2, ad_nouns h2]
  refine ⟨p1, p2, p3, p4, p5, fun j hj => ?_⟩
  rw [ad_Sp (by omega), ad_roles (by omega)]
  exact p6 j hj
theorem Ly_add {w : Nat → Int32} {len : Nat} {s2 : S2} {c e : Nat} {kd role a n : Int32} (hL : Ly w len s2 c) (hl : len ≤ 24) (h1 : ST s2 c ≤ e) (h2 : e < len) (h3 : Kd w len (ST s2 c) e kd role a n) (h4 : c = 0 → role = 0) (h5 : ∀ j, c = j + 1 → Sp w s2 j kd role ∧ S2_roles s2 j ≠ 2) :
    Ly w len (addP s2 c kd role a n (nI e)) (c + 1) ∧ E2 (addP s2 c kd role a n (nI e)) c = e ∧ S2_roles (addP s2 c kd role a n (nI e)) c = role ∧ S2_kinds (addP s2 c kd role a n (nI e)) c = kd := by
  have r1 : S2_lastPlaces (addP s2 c kd role a n (nI e)) c = nI e := up_same _ _ _
  have r2 : E2 (addP s2 c kd role a n (nI e)) c = e := by
    unfold E2
    rw [r1, cl_nI (by omega)]
  have r3 : S2_roles (addP s2 c kd role a n (nI e)) c = role := up_same _ _ _
  have r4 : S2_kinds (addP s2 c kd role a n (nI e)) c = kd := up_same _ _ _
  have r5 : S2_adjectiveSets (addP s2 c kd role a n (nI e)) c = a := up_same _ _ _
  have r6 : S2_nouns (addP s2 c kd role a n (nI e)) c = n := up_same _ _ _
  have r7 : S2_answers (addP s2 c kd role a n (nI e)) c = 0 := up_same _ _ _
  refine ⟨⟨rfl, fun i hi => ?_, fun i hi => ?_⟩, r2, r3, r4⟩
  · by_cases z : i = c
    · subst z
      unfold Ph
      rw [r1, r2, r3, r4, r5, r6, ad_ST (Nat.le_refl i)]
      refine ⟨rfl, h1, h2, h3, h4, fun j hj => ?_⟩
      rw [ad_Sp (by omega), ad_roles (by omega)]
      exact h5 j hj
    · exact ad_Ph (by omega) (hL.2.1 i (by omega))
  · by_cases z : i = c
    · subst z; exact r7
    · rw [ad_ans z]; exact hL.2.2 i (by omega)
theorem lr_s {s2 : S2} {c : Nat} : lr s2 (c + 1) = if S2_roles s2 c = 1 then 1 else 0 := by
  unfold lr
  by_cases r : S2_roles s2 c = 1
  · rw [if_pos r, if_pos (show c + 1 ≠ 0 ∧ S2_roles s2 (c + 1 - 1) = 1 from ⟨by omega, r⟩)]
  · rw [if_neg r, if_neg (show ¬ (c + 1 ≠ 0 ∧ S2_roles s2 (c + 1 - 1) = 1) from fun q => r q.2)]
theorem Ly_Gd {w : Nat → Int32} {len : Nat} {s2 t2 : S2} {c k k2 : Nat} {y : Int32} (hL : Ly w len s2 c) (hl : len ≤ 24) (hk : ST s2 c = k) (hck : c + 1 ≤ k) (hk2 : k2 ≤ len) (h0 : ∀ j, c = j + 1 → w (k - 1) = 13 ∧ S2_roles s2 j ≠ 2) (hy : y = 11 ∨ y ≠ 11) (hG : Gd w len s2 c k k2 y t2) :
    ∃ c2, c < c2 + 1 ∧ Ly w len t2 (c2 + 1) ∧ E2 t2 c2 + 1 = k2 ∧ c2 + 1 ≤ k2 ∧ lr t2 (c2 + 1) = (if y = 11 then 1 else 0) ∧ S2_roles t2 c2 ≠ 2 ∧ S2_orderVerb t2 = S2_orderVerb s2 := by
  have hE : ∀ j, c = j + 1 → k - 1 = E2 s2 j + 1 := fun j hj => by subst hj; rw [← hk]; rfl
  rcases hG with ⟨kd, role, a, n, e, rfl, g2, g3, g4, g5⟩ | ⟨a, n, e, kd', a', n', e', rfl, g1, g2, g3, g4, g5, g6⟩
  · have hK : Kd w len (ST s2 c) e kd role a n := by
      rw [hk]
      rcases g5 with g | g | g
      · exact Or.inl g
      · exact Or.inr (Or.inl g)
      · exact Or.inr (Or.inr g.2)
    have hz : c = 0 → role = 0 := fun z => by
      rcases g5 with g | g | g
      · exact g.2.1
      · exact g.2.1
      · rw [g.1]; unfold lr; rw [if_neg (fun q => q.1 z)]
    have hS : ∀ j, c = j + 1 → Sp w s2 j kd role ∧ S2_roles s2 j ≠ 2 := fun j hj => by
      obtain ⟨m1, m2⟩ := h0 j hj
      rw [hE j hj] at m1
      refine ⟨?_, m2⟩
      rcases g5 with g | g | g
      · exact Or.inr (Or.inr (Or.inl ⟨g.2.1, m1, fun _ => Or.inl g.1⟩))
      · exact Or.inr (Or.inr (Or.inl ⟨g.2.1, m1, fun _ => Or.inr g.1⟩))
      · have q := g.1
        subst hj
        rw [lr_s] at q
        by_cases r : S2_roles s2 j = 1
        · rw [if_pos r] at q
          exact Or.inr (Or.inl ⟨q, m1, r⟩)
        · rw [if_neg r] at q
          exact Or.inr (Or.inr (Or.inl ⟨q, m1, fun z => absurd z r⟩))
    obtain ⟨l1, l2, l3, l4⟩ := Ly_add hL hl (by omega) (show e < len by omega) hK hz hS
    refine ⟨c, by omega, l1, by omega, by omega, ?_, ?_, rfl⟩
    · rw [lr_s, l3]
      by_cases z : role = 1
      · rw [if_pos z, if_pos (g4.mpr z)]
      · rw [if_neg z, if_neg (fun q => z (g4.mp q))]
    · rw [l3]
      rcases g5 with g | g | g
      · rw [g.2.1]; decide
      · rw [g.2.1]; decide
      · rw [g.1]; rcases lr_01 s2 c with r | r <;> rw [r] <;> decide
  · have hke : k ≤ e := g1.2.1
    have hS : ∀ j, c = j + 1 → Sp w s2 j 11 0 ∧ S2_roles s2 j ≠ 2 := fun j hj => by
      obtain ⟨m1, m2⟩ := h0 j hj
      rw [hE j hj] at m1
      exact ⟨Or.inr (Or.inr (Or.inl ⟨rfl, m1, fun _ => Or.inr rfl⟩)), m2⟩
    obtain ⟨l1, l2, l3, l4⟩ := Ly_add (kd := 11) (role := 0) (a := a) (n := n) hL hl (by omega) (show e < len by omega) (Or.inr (Or.inl ⟨rfl, rfl, by rw [hk]; exact g1⟩)) (fun _ => rfl) hS
    have hst : ST (addP s2 c 11 0 a n (nI e)) (c + 1) = e + 2 := by
      show E2 _ c + 2 = _
      rw [l2]
    obtain ⟨m1, m2, m3, m4⟩ := Ly_add (kd := kd') (role := 1) (a := a') (n := n') l1 hl (by omega) (show e' < len by omega) (by rw [hst]; exact Or.inr (Or.inr g4)) (fun z => absurd z (by omega)) (fun j hj => by
      have : j = c := by omega
      subst this
      exact ⟨Or.inl ⟨rfl, by rw [l2]; exact g2, l4, l3⟩, by rw [l3]; decide⟩)
    refine ⟨c + 1, by omega, m1, by omega, by omega, ?_, by rw [m3]; decide, rfl⟩
    rw [lr_s, m3, if_pos rfl, if_pos g6]
