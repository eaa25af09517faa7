def okL (hd : Nat → Int32) : List Nat → Prop
  | [] => True
  | t :: L => (hd t < 0 ∨ ∃ k, k ∈ L ∧ hd t = nI k) ∧ okL hd L
def inC (h : Int32) (L : List Nat) : Prop := h < 0 ∨ ∃ k, k ∈ L ∧ h = nI k
def rc (hd : Nat → Int32) (ko : Nat) : Nat → Int32 → Bool
  | 0, _ => false
  | f + 1, h => if h < 0 then true else if ko.testBit h.toNatClampNeg then rc hd ko f (hd h.toNatClampNeg) else false
theorem okL_suf {hd : Nat → Int32} : ∀ (L : List Nat) {k : Nat}, okL hd L → k ∈ L → ∃ L', okL hd L' ∧ L'.length < L.length ∧ inC (hd k) L' ∧ (∀ j, j ∈ L' → j ∈ L)
  | [], _, _, h => by cases h
  | t :: L, k, h, hk => by
    rcases List.mem_cons.mp hk with rfl | hk
    · exact ⟨L, h.2, by simp, h.1, fun j hj => List.mem_cons_of_mem _ hj⟩
    · obtain ⟨L', h1, h2, h3, h4⟩ := okL_suf L h.2 hk
      exact ⟨L', h1, by simp; omega, h3, fun j hj => List.mem_cons_of_mem _ (h4 j hj)⟩
theorem rc_neg {hd : Nat → Int32} {ko f : Nat} {h : Int32} (hh : h < 0) : rc hd ko (f + 1) h = true := if_pos hh
theorem rc_pos {hd : Nat → Int32} {ko f k : Nat} (hk : k < 2 ^ 31) : rc hd ko (f + 1) (nI k) = if ko.testBit k then rc hd ko f (hd k) else false := by
  show (if nI k < 0 then true else if ko.testBit (nI k).toNatClampNeg then rc hd ko f (hd (nI k).toNatClampNeg) else false) = _
  rw [if_neg (ng hk), cl_nI hk]
theorem rc_stable {hd : Nat → Int32} {ko : Nat} : ∀ (f f' : Nat) (L : List Nat) (h : Int32), okL hd L → inC h L → (∀ j, j ∈ L → j < 2 ^ 31) → L.length < f → L.length < f' → rc hd ko f h = rc hd ko f' h
  | 0, _, _, _, _, _, _, h, _ => by omega
  | _ + 1, 0, _, _, _, _, _, _, h => by omega
  | f + 1, f' + 1, L, h, hL, hin, hb, h1, h2 => by
    rcases hin with hn | ⟨k, hk, rfl⟩
    · rw [rc_neg hn, rc_neg hn]
    · rw [rc_pos (hb k hk), rc_pos (hb k hk)]
      obtain ⟨L', g1, g2, g3, g4⟩ := okL_suf L hL hk
      rw [rc_stable f f' L' (hd k) g1 g3 (fun j hj => hb j (g4 j hj)) (by omega) (by omega)]
def WI (s : S4) (n kb ko : Nat) : Prop :=
  n ≤ 12 ∧ S4_count s = nI n ∧ S4_boxes s = nI kb ∧ S4_openBoxes s = nI ko ∧ kb < 2 ^ 12 ∧ ko < 2 ^ 12 ∧
  (∀ t, n ≤ t → kb.testBit t = false ∧ ko.testBit t = false) ∧
  ∃ L : List Nat, L.length = n ∧ (∀ t, t ∈ L ↔ t < n) ∧ okL (S4_holders s) L
/-- whether a thing is in reach -/
def rcT (hd : Nat → Int32) (ko : Nat) (t : Nat) : Bool := rc hd ko 13 (hd t)
theorem rcT_of {hd : Nat → Int32} {ko f : Nat} {L : List Nat} {h : Int32} (hL : okL hd L) (hin : inC h L) (hb : ∀ j, j ∈ L → j < 12) (h1 : L.length < f) (h2 : L.length < 13) : rc hd ko f h = rc hd ko 13 h :=
  rc_stable f 13 L h hL hin (fun j hj => Nat.lt_trans (hb j hj) (by decide)) h1 h2
theorem e_contains_neg {a0 a1 : Int32} (h : a1 < 0) : fX5_contains a0 a1 = some 0 := by
  unfold fX5_contains fX5_contains_22 fX5_contains_23
  rw [if_pos h, bo0]
theorem e_contains {k t : Nat} (hk : k < 2 ^ 31) (ht : t < 12) : fX5_contains (nI k) (nI t) = some (if k.testBit t then 1 else 0) := by
  unfold fX5_contains fX5_contains_22 fX5_contains_23
  rw [if_neg (ng (by omega)), if_neg (ge12 ht), nI_bit hk (by omega), bo0, bo1]
  by_cases q : k.testBit t = true
  · simp [q]
  · simp [q]
theorem e_holderOf {s : S4} {n kb ko t : Nat} (I : WI s n kb ko) (ht : t < n) : fX4_holderOf s (nI t) = some (S4_holders s t) := by
  obtain ⟨h1, h2, -⟩ := I
  unfold fX4_holderOf fX4_holderOf_29
  rw [if_neg (ng (by omega)), h2, if_neg (nI_ge ht (by omega)), if_neg (ge12 (by omega)), ai12 (by omega), cl_nI (by omega)]
theorem e_reach_inner {s : S4} {n kb ko : Nat} (I : WI s n kb ko) (k4 : Int32 → Int32 → Option Int32) (x1 x2 : Int32) :
    ∀ (fu j : Nat) (L : List Nat) (h : Int32), okL (S4_holders s) L → (∀ t, t ∈ L → t < n) → inC h L → L.length + j ≤ 12 → 12 < j + fu →
      fX4_reachable_21 s k4 fu x1 x2 h (nI j) = if rc (S4_holders s) ko 13 h then fX4_reachable_61 s k4 (x1 ||| ((1 : Int32) <<< (x2 &&& 31))) x2 else fX4_reachable_61 s k4 x1 x2
  | 0, j, L, h, hL, hb, hin, h1, h2 => by omega
  | fu + 1, j, L, h, hL, hb, hin, h1, h2 => by
    have hn12 := I.1
    have hko := I.2.2.2.1
    have hko2 := I.2.2.2.2.2.1
    rw [fX4_reachable_21]
    by_cases hj : 12 ≤ j
    · have hl0 : L = [] := List.length_eq_zero_iff.mp (by omega)
      subst hl0
      rcases hin with hn | ⟨k, hk, -⟩
      · rw [if_pos (ge12' hj (by omega)), rc_neg hn, if_pos rfl]
        unfold fX4_reachable_51
        rw [if_neg (fun q => Int32.lt_irrefl (Int32.lt_of_lt_of_le hn q))]
      · cases hk
    · rw [if_neg (ge12 (by omega)), hko]
      rcases hin with hn | ⟨k, hk, rfl⟩
      · rw [e_contains_neg hn, bn1_s, if_pos rfl, rc_neg hn, if_pos rfl]
        unfold fX4_reachable_51
        rw [if_neg (fun q => Int32.lt_irrefl (Int32.lt_of_lt_of_le hn q))]
      · have hkn := hb k hk
        rw [e_contains (Nat.lt_trans hko2 (by decide)) (by omega), bn1_s, rc_pos (by omega)]
        by_cases q : ko.testBit k = true
        · obtain ⟨L', g1, g2, g3, g4⟩ := okL_suf L hL hk
          rw [if_pos q, if_neg (by decide), e_holderOf I hkn, bn1_s, nI_1, if_pos q]
          rw [e_reach_inner I k4 x1 x2 fu (j + 1) L' _ g1 (fun t ht => hb t (g4 t ht)) g3 (by omega) (by omega)]
          rw [rcT_of (f := 12) g1 g3 (fun t ht => by have := hb t (g4 t ht); omega) (by omega) (by omega)]
        · rw [if_neg q, if_pos rfl, if_neg q]
          unfold fX4_reachable_51
          rw [if_pos (nI_pos' (by omega))]
          rfl
theorem WI.chain {s : S4} {n kb ko t : Nat} (I : WI s n kb ko) (ht : t < n) : ∃ L, okL (S4_holders s) L ∧ L.length < n ∧ inC (S4_holders s t) L ∧ (∀ j, j ∈ L → j < n) := by
  obtain ⟨-, -, -, -, -, -, -, L, h1, h2, h3⟩ := I
  obtain ⟨L', g1, g2, g3, g4⟩ := okL_suf L h3 ((h2 t).mpr ht)
  exact ⟨L', g1, by omega, g3, fun j hj => (h2 j).mp (g4 j hj)⟩
theorem e_reachable {s : S4} {n kb ko : Nat} (I : WI s n kb ko) : fX4_reachable s = some (nI (mkS (rcT (S4_holders s) ko) n)) := by
  have hn12 := I.1
  have hc := I.2.1
  have key := mk_loop (fun f x y => fX4_reachable_4 s f x y) (rcT (S4_holders s) ko) n hn12 (fun x => some x) ?_ ?_ n 0 64 (by omega) (by omega)
  · exact key
  · intro fu x
    show fX4_reachable_4 s (fu + 1) x (nI n) = some x
    rw [fX4_reachable_4, hc, if_pos (nI_le (Nat.le_refl n) (by omega))]
  · intro fu k t ht hk
    show fX4_reachable_4 s (fu + 1) (nI k) (nI t) = _
    rw [fX4_reachable_4, hc, if_neg (nI_ge ht (by omega)), e_holderOf I ht, bn1_s]
    obtain ⟨L, g1, g2, g3, g4⟩ := I.chain ht
    rw [show (0 : Int32) = nI 0 from rfl, e_reach_inner I _ _ _ 64 0 L _ g1 g4 g3 (by omega) (by omega)]
    unfold fX4_reachable_61
    rw [nI_shl (by omega), nI_or, nI_1, show rc (S4_holders s) ko 13 (S4_holders s t) = rcT (S4_holders s) ko t from rfl]
    by_cases q : rcT (S4_holders s) ko t = true
    · rw [if_pos q, if_pos q]
    · rw [if_neg q, if_neg q, Nat.or_zero]
def MI (m : S6) (s : S4) (n kb ko : Nat) : Prop :=
  S6_things m = nI n ∧ S6_noun m = S4_nouns s ∧ S6_adjectives m = S4_adjectiveSets s ∧ S6_place m = S4_holders s ∧
  (∀ t, t < 12 → S6_box m t = if kb.testBit t then 1 else 0) ∧ (∀ t, t < 12 → S6_open m t = if ko.testBit t then 1 else 0)
theorem e_mreaches_in {m : S6} {s : S4} {n kb ko : Nat} (I : WI s n kb ko) (J : MI m s n kb ko) (a1 : Int32) :
    ∀ (fu : Nat) (L : List Nat) (h : Int32), okL (S4_holders s) L → (∀ t, t ∈ L → t < n) → inC h L → L.length < fu → L.length < 13 →
      fX6_reaches_7 m a1 fu h = some (if rc (S4_holders s) ko 13 h then 1 else 0)
  | 0, L, h, hL, hb, hin, h1, h2 => by omega
  | fu + 1, L, h, hL, hb, hin, h1, h2 => by
    have hn12 := I.1
    rw [fX6_reaches_7]
    rcases hin with hn | ⟨k, hk, rfl⟩
    · rw [if_pos hn, rc_neg hn]; rfl
    · have hkn := hb k hk
      rw [if_neg (ng (by omega)), ai12 (by omega), ai12 (by omega), cl_nI (by omega), J.2.2.2.2.2 k (by omega), J.2.2.2.1, rc_pos (by omega)]
      by_cases q : ko.testBit k = true
      · obtain ⟨L', g1, g2, g3, g4⟩ := okL_suf L hL hk
        rw [if_pos q, if_neg (by decide), if_pos q, e_mreaches_in I J a1 fu L' _ g1 (fun t ht => hb t (g4 t ht)) g3 (by omega) (by omega)]
        rw [rcT_of (f := 12) g1 g3 (fun t ht => by have := hb t (g4 t ht); omega) (by omega) (by omega)]
      · rw [if_neg q, if_pos rfl, if_neg q]; rfl
theorem e_mreaches {m : S6} {s : S4} {n kb ko t : Nat} (I : WI s n kb ko) (J : MI m s n kb ko) (ht : t < n) : fX6_reaches m (nI t) = some (if rcT (S4_holders s) ko t then 1 else 0) := by
  have hn12 := I.1
  obtain ⟨L, g1, g2, g3, g4⟩ := I.chain ht
  unfold fX6_reaches
  rw [ai12 (by omega), cl_nI (by omega), J.2.2.2.1, e_mreaches_in I J _ 64 L _ g1 g4 g3 (by omega) (by omega)]
  rfl
theorem e_mreachable {m : S6} {s : S4} {n kb ko : Nat} (I : WI s n kb ko) (J : MI m s n kb ko) : fX6_reachable m = some (nI (mkS (rcT (S4_holders s) ko) n)) := by
  have hn12 := I.1
  have key := mk_loop (fun f x y => fX6_reachable_4 m f x y) (rcT (S4_holders s) ko) n hn12 (fun x => some x) ?_ ?_ n 0 64 (by omega) (by omega)
  · exact key
  · intro fu x
    show fX6_reachable_4 m (fu + 1) x (nI n) = some x
    rw [fX6_reachable_4, J.1, if_pos (nI_le (Nat.le_refl n) (by omega))]
  · intro fu k t ht hk
    show fX6_reachable_4 m (fu + 1) (nI k) (nI t) = _
    rw [fX6_reachable_4, J.1, if_neg (nI_ge ht (by omega)), e_mreaches I J ht, bn1_s]
    by_cases q : rcT (S4_holders s) ko t = true
    · rw [if_pos q, if_neg (by decide), if_pos q]
      unfold fX6_reachable_28
      rw [nI_shl (by omega), nI_or, nI_1]
    · rw [if_neg q, if_pos rfl, if_neg q]
      unfold fX6_reachable_28
      rw [show (0 : Int32) = nI 0 from rfl, nI_or, nI_1]
