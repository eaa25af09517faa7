theorem AS_congr {w u : Nat → Int32} {k : Nat} : ∀ {d : Nat}, (∀ j, j < d → u (k + j) = w (k + j)) → AS u k d = AS w k d
  | 0, _ => rfl
  | d + 1, h => by
    show AS u k d ||| (if wA (u (k + d)) = true then 2 ^ (u (k + d) - 20).toNatClampNeg else 0) = AS w k d ||| (if wA (w (k + d)) = true then 2 ^ (w (k + d) - 20).toNatClampNeg else 0)
    rw [AS_congr (fun j hj => h j (by omega)), h d (by omega)]
theorem Kd_congr {w u : Nat → Int32} {len k e : Nat} {kd role a n : Int32} (hu : ∀ j, j < len → u j = w j) (he : e < len) (hk : k ≤ e) (h : Kd w len k e kd role a n) : Kd u len k e kd role a n := by
  have as : AS u k (e - k) = AS w k (e - k) := AS_congr (fun j hj => hu _ (by omega))
  have uk := hu k (by omega)
  have ue := hu e he
  rcases h with ⟨h1, h2, h3, h4⟩ | ⟨h1, h2, h3, h4, h5⟩ | h
  · exact Or.inl ⟨h1, h2, h3, uk.trans h4⟩
  · refine Or.inr (Or.inl ⟨h1, h2, h3.trans (by rw [as]), h4, ?_⟩)
    rcases h5 with ⟨a1, a2, a3, a4⟩ | ⟨a1, a2, a3, a4, a5⟩ | ⟨a1, a2, a3⟩
    · exact Or.inl ⟨uk.trans a1, a2, a3, fun q => by rw [hu _ q]; exact a4 q⟩
    · exact Or.inr (Or.inl ⟨uk.trans a1, a2, fun j p q => by rw [hu j (by omega)]; exact a3 j p q, by rw [ue]; exact a4, by rw [ue]; exact a5⟩)
    · exact Or.inr (Or.inr ⟨fun j p q => by rw [hu j (by omega)]; exact a1 j p q, by rw [ue]; exact a2, by rw [ue]; exact a3⟩)
  · refine Or.inr (Or.inr ?_)
    rcases h with ⟨a1, a2, a3⟩ | ⟨a1, ⟨a2, k1, b1, b2, b3, b4⟩, a3, a4, a5⟩
    · exact Or.inl ⟨uk.trans a1, a2, a3⟩
    · refine Or.inr ⟨a1, ⟨a2, k1, ?_, b2, fun j p q => by rw [hu j (by omega)]; exact b3 j p q, fun q => b4 (ue.symm.trans q)⟩, fun j p q => by rw [hu j (by omega)]; exact a3 j p q, by rw [as]; exact a4, by rw [ue]; exact a5⟩
      rcases b1 with b1 | ⟨b1, b5⟩
      · exact Or.inl b1
      · exact Or.inr ⟨b1, uk.trans b5⟩
/-- a layout says only what the words of the order are -/
theorem LyG_congr {w u : Nat → Int32} {len c : Nat} {s2 : S2} (hu : ∀ j, j < len → u j = w j) (h : LyG w len s2 c) : LyG u len s2 c := by
  obtain ⟨⟨h1, h2, h3⟩, h4, h5, h6⟩ := h
  have u0 := hu 0 (by omega)
  refine ⟨⟨h1, fun i hi => ?_, h3⟩, h4, by rw [u0]; exact h5, by rw [u0]; exact h6⟩
  obtain ⟨p1, p2, p3, p4, p5, p6⟩ := h2 i hi
  refine ⟨p1, p2, p3, Kd_congr hu p3 p2 p4, p5, fun j e => ?_⟩
  obtain ⟨q1, q2⟩ := p6 j e
  subst e
  have e2 : ST s2 (j + 1) = E2 s2 j + 2 := rfl
  have ub := hu (E2 s2 j + 1) (by omega)
  refine ⟨?_, q2⟩
  unfold Sp
  rw [ub, u0]
  exact q1
theorem AS_shift {w : Nat → Int32} (h : wA (w 0) = false) : ∀ d, AS w 0 (1 + d) = AS w 1 d
  | 0 => by
    show (0 : Nat) ||| (if wA (w (0 + 0)) = true then 2 ^ (w (0 + 0) - 20).toNatClampNeg else 0) = 0
    rw [h, if_neg (by decide)]
    rfl
  | d + 1 => by
    show AS w 0 (1 + d) ||| (if wA (w (0 + (1 + d))) = true then 2 ^ (w (0 + (1 + d)) - 20).toNatClampNeg else 0) = AS w 1 d ||| (if wA (w (1 + d)) = true then 2 ^ (w (1 + d) - 20).toNatClampNeg else 0)
    rw [AS_shift h d, Nat.zero_add]
theorem AS_last {w : Nat → Int32} {k d : Nat} (h : wA (w (k + d)) = false) : AS w k (d + 1) = AS w k d := by
  show AS w k d ||| (if wA (w (k + d)) = true then 2 ^ (w (k + d) - 20).toNatClampNeg else 0) = AS w k d
  rw [h, if_neg (by decide), Nat.or_zero]
theorem l_a16 {w : Nat → Int32} {len k0 : Nat} (hl : len ≤ 24) : ∀ (m fu c : Nat), k0 + c + m = len → m < fu → (∀ j, j < c → wA (w (k0 + j)) = true) →
    ∃ d, k0 + d ≤ len ∧ (∀ j, j < d → wA (w (k0 + j)) = true) ∧ ¬ (k0 + d < len ∧ wA (w (k0 + d)) = true) ∧ fL_wrongAnswer_16 w (nI len) fu (nI (k0 + c)) (nI k0) = fL_wrongAnswer_36 w (nI len) (nI (k0 + d)) (nI k0)
  | 0, fu, c, hm, hf, hj => by
    obtain ⟨g, rfl⟩ : ∃ g, fu = g + 1 := ⟨fu - 1, by omega⟩
    exact ⟨c, by omega, hj, fun q => by omega, by rw [fL_wrongAnswer_16, if_pos (nI_le (by omega) (by omega))]⟩
  | m + 1, fu, c, hm, hf, hj => by
    obtain ⟨g, rfl⟩ : ∃ g, fu = g + 1 := ⟨fu - 1, by omega⟩
    rw [fL_wrongAnswer_16, if_neg (nI_ge (show k0 + c < len by omega) (by omega)), ai24 (by omega), cl_nI (by omega), e_lA, bn1_s]
    by_cases a : wA (w (k0 + c)) = true
    · rw [if_pos a, if_neg (by decide), nI_1]
      exact l_a16 hl m g (c + 1) (by omega) (by omega) (fun j q => by
        by_cases z : j = c
        · rw [z]; exact a
        · exact hj j (by omega))
    · rw [if_neg a, if_pos rfl]
      exact ⟨c, by omega, hj, fun q => a q.2, rfl⟩
theorem l_a63_0 {w : Nat → Int32} {len k k0 : Nat} (hl : len ≤ 24) (hk : k ≤ len) (hk0 : k0 ≤ k) : fL_wrongAnswer_62 w (nI len) (nI k) (nI k0) = some (if k = len then (if k = k0 then nI len else -1) else nI k) := by
  unfold fL_wrongAnswer_62 fL_wrongAnswer_63 fL_wrongAnswer_76 fL_wrongAnswer_97
  rw [if_pos rfl, Int32.add_zero]
  by_cases a : k = len
  · rw [if_pos a, if_pos (nI_le (by omega) (by omega))]
    by_cases b : k = k0
    · rw [if_pos b, if_pos (show nI k = nI k0 by rw [b])]
    · rw [if_neg b, if_neg (fun q => b (nI_inj (by omega) (by omega) q))]
  · rw [if_neg a, if_neg (nI_ge (by omega) (by omega))]
theorem l_a63_1 {w : Nat → Int32} {len k k0 : Nat} (hl : len ≤ 24) (hk : k < len) (hk0 : k0 ≤ k) : fL_wrongAnswer_58 w (nI len) (nI k) (nI k0) = some (if k + 1 = len then -1 else nI (k + 1)) := by
  unfold fL_wrongAnswer_58 fL_wrongAnswer_63 fL_wrongAnswer_76 fL_wrongAnswer_97
  rw [if_neg (by decide), nI_1]
  by_cases a : k + 1 = len
  · rw [if_pos a, if_pos (nI_le (by omega) (by omega)), if_neg (fun q => absurd (nI_inj (a := k + 1) (b := k0) (by omega) (by omega) q) (by omega))]
  · rw [if_neg a, if_neg (nI_ge (by omega) (by omega))]
theorem l_a36 {w : Nat → Int32} {len k k0 : Nat} (hl : len ≤ 24) (hk : k ≤ len) (hk0 : k0 ≤ k) : fL_wrongAnswer_36 w (nI len) (nI k) (nI k0) = some (if k < len ∧ (wN (w k) = true ∨ w k = 17) then (if k + 1 = len then -1 else nI (k + 1)) else (if k = len then (if k = k0 then nI len else -1) else nI k)) := by
  unfold fL_wrongAnswer_36
  by_cases a : k < len
  · rw [if_neg (nI_ge a (by omega)), ai24 (by omega), ai24 (by omega), cl_nI (by omega), e_lN, bn1_s, l_a63_0 hl hk hk0, l_a63_1 hl a hk0]
    by_cases b : wN (w k) = true
    · rw [if_pos b, if_neg (by decide), if_pos (show k < len ∧ (wN (w k) = true ∨ w k = 17) from ⟨a, Or.inl b⟩)]
    · rw [if_neg b, if_pos rfl]
      by_cases c : w k = 17
      · rw [if_pos c, if_pos (show k < len ∧ (wN (w k) = true ∨ w k = 17) from ⟨a, Or.inr c⟩)]
      · rw [if_neg c, if_neg (show ¬ (k < len ∧ (wN (w k) = true ∨ w k = 17)) from fun q => q.2.elim b c)]
  · rw [if_pos (nI_le (by omega) (by omega)), l_a63_0 hl hk hk0, if_neg (show ¬ (k < len ∧ (wN (w k) = true ∨ w k = 17)) from fun q => a q.1)]
/-- an answer: whether it is right, and what it says -/
theorem l_answer {s : S6} {w : Nat → Int32} {len : Nat} (hs : WS s w len) :
    (∃ nn, fL_wrongAnswer w (nI len) = some (-1) ∧ fX6_wrongAnswer s = some (-1) ∧ (∀ t : S6, WS t w len → fX6_understand_130 64 t 0 (-1) 0 = UF t (nI (AS w 0 len)) nn) ∧ ((wN (w (len - 1)) = true ∧ nn = w (len - 1) - 30) ∨ (¬ wN (w (len - 1)) = true ∧ nn = -1)))
    ∨ (∃ p, p ≤ len ∧ fL_wrongAnswer w (nI len) = some (nI p) ∧ fX6_wrongAnswer s = some (nI p)) := by
  have hl := hs.2.2.2
  have h1 := hs.2.2.1
  obtain ⟨r, k0, a1, -, a3, a4, a5⟩ := e_the hs 0 0
  have key : ∃ k1, k1 ≤ len ∧ (k1 = 0 ∨ (k1 = 1 ∧ w 0 = 10)) ∧ (w 0 = 10 → k1 = 1) ∧ AW s 0 0 0 = AW s 0 0 k1 ∧ (∀ t : S6, WS t w len → UA t 0 (-1) 0 = UA t 0 (-1) k1) ∧ fL_wrongAnswer w (nI len) = fL_wrongAnswer_16 w (nI len) 64 (nI k1) (nI k1) := by
    unfold fL_wrongAnswer fL_wrongAnswer_13
    rw [ai24_0, cl0]
    by_cases h : w 0 = 10
    · rw [if_pos h]
      refine ⟨1, h1, Or.inr ⟨rfl, h⟩, fun _ => rfl, ?_, fun t ht => ?_, rfl⟩
      · rw [AW_go hs (show 0 < len by omega), if_pos (Or.inl ⟨rfl, h⟩), if_pos ⟨rfl, h⟩, h, if_neg (by decide)]
      · rw [UA_go ht (show 0 < len by omega), h, if_neg (by decide), if_neg (by decide)]
        rfl
    · rw [if_neg h]
      exact ⟨0, by omega, Or.inl rfl, fun q => absurd q h, rfl, fun _ _ => rfl, rfl⟩
  clear a1 a3 a4 a5
  obtain ⟨k1, b0, b1, b2, b3, b4, b5⟩ := key
  obtain ⟨e, c1, c2, c3, c4⟩ := l_a16 (w := w) (k0 := k1) hl (len - k1) 64 0 (by omega) (by omega) (fun j q => absurd q (by omega))
  have hW : fX6_wrongAnswer s = AW s (if e = 0 then 0 else 1) 0 (k1 + e) := by
    show AW s 0 0 0 = _
    rw [b3, AW_run hs e k1 0 c1 c2]
  have hU : ∀ t : S6, WS t w len → fX6_understand_130 64 t 0 (-1) 0 = UA t (nI (AS w k1 e)) (-1) (k1 + e) := fun t ht => by
    show UA t 0 (-1) 0 = _
    rw [b4 t ht]
    exact UA_run ht c1 c2 (-1) e 0 (by omega)
  have hL : fL_wrongAnswer w (nI len) = _ := b5.trans (c4.trans (l_a36 hl c1 (by omega)))
  have hA0 : AS w 0 (k1 + e) = AS w k1 e := by
    rcases b1 with z | ⟨z, z2⟩
    · rw [z, Nat.zero_add]
    · rw [z]; exact AS_shift (by rw [z2]; decide) e
  have h10 : ¬ (k1 + e = 0 ∧ w (k1 + e) = 10) := fun q => by
    have z : k1 = 0 := by omega
    have := b2 (by rw [← q.2, q.1])
    omega
  have hx1 : ∀ v : Int32, wA v = false → v ≠ 10 → ¬ ((if e = 0 then (0 : Int32) else 1) = 0 ∧ v = 10) := fun v _ v2 q => v2 q.2
  rw [hW, hL]
  generalize hk : k1 + e = k at *
  by_cases c : k < len ∧ (wN (w k) = true ∨ w k = 17)
  · have nA : wA (w k) = false := by
      rcases c.2 with q | q
      · exact wN_A q
      · rw [q]; decide
    have go : AW s (if e = 0 then 0 else 1) 0 k = AW s 1 1 (k + 1) := by
      rw [AW_go hs c.1, if_pos (by rcases c.2 with q | q; exact Or.inr (Or.inr (Or.inl q)); exact Or.inr (Or.inr (Or.inr q))), if_pos c.2, if_neg (show ¬ ((if e = 0 then (0 : Int32) else 1) = 0 ∧ w k = 10) from fun q => by
        rcases c.2 with y | y
        · exact wN_ne y wN10 q.2
        · exact absurd (y.symm.trans q.2) (by decide))]
    rw [if_pos c, go]
    by_cases z : k + 1 = len
    · rw [if_pos z]
      have ek : len - 1 = k := by omega
      have eA : AS w 0 len = AS w k1 e := by rw [← z, AS_last (by rw [Nat.zero_add]; exact nA), hA0]
      rw [ek, eA]
      by_cases n : wN (w k) = true
      · refine Or.inl ⟨w k - 30, rfl, by rw [z, AW_end hs, if_neg (by decide)], fun t ht => ?_, Or.inl ⟨n, rfl⟩⟩
        rw [hU t ht, UA_go ht c.1, if_neg (show ¬ wA (w k) = true by rw [nA]; decide), if_pos n, or0, z, UA_end ht]
      · refine Or.inl ⟨-1, rfl, by rw [z, AW_end hs, if_neg (by decide)], fun t ht => ?_, Or.inr ⟨n, rfl⟩⟩
        rw [hU t ht, UA_go ht c.1, if_neg (show ¬ wA (w k) = true by rw [nA]; decide), if_neg n, or0, z, UA_end ht]
    · rw [if_neg z]
      exact Or.inr ⟨k + 1, c.1, rfl, AW_1 hs (by omega) _⟩
  · rw [if_neg c]
    by_cases z : k = len
    · rw [if_pos z]
      by_cases y : k = k1
      · have e0 : e = 0 := by omega
        rw [if_pos y]
        exact Or.inr ⟨len, Nat.le_refl _, rfl, by rw [z, AW_end hs, if_pos e0, if_pos rfl]⟩
      · have e0 : ¬ e = 0 := by omega
        rw [if_neg y]
        have la : wA (w (len - 1)) = true := by
          have q := c2 (e - 1) (by omega)
          rw [show k1 + (e - 1) = len - 1 by omega] at q
          exact q
        refine Or.inl ⟨-1, rfl, by rw [z, AW_end hs, if_neg e0, if_neg (by decide)], fun t ht => ?_, Or.inr ⟨wA_N la, rfl⟩⟩
        rw [hU t ht, ← z, hA0, z, UA_end ht]
    · have kl : k < len := by omega
      rw [if_neg z]
      refine Or.inr ⟨k, c1, rfl, ?_⟩
      rw [AW_go hs kl, if_neg (show ¬ ((k = 0 ∧ w k = 10) ∨ wA (w k) = true ∨ wN (w k) = true ∨ w k = 17) from fun q => q.elim h10 (fun q => q.elim (fun q => c3 ⟨kl, q⟩) (fun q => c ⟨kl, q⟩)))]
