/-- the reference's walk over the words of an answer, from place k -/
def AW (s : S6) (x1 x2 : Int32) (k : Nat) : Option Int32 := fX6_wrongAnswer_6 s (64 - k) x1 x2 (nI k)
def UA (s : S6) (x1 x2 : Int32) (k : Nat) : Option (Int32 × S6) := fX6_understand_130 (64 - k) s x1 x2 (nI k)
/-- what is done with an answer's adjectives and noun -/
def UF (s : S6) (x1 x2 : Int32) : Option (Int32 × S6) :=
  bn1 (fX6_having s (S6_asked s) x1 x2) fun r_2 =>
  if r_2 = 0 then some (5, s) else
  bn1 (fX6_bits r_2) fun r_4 =>
  if r_4 ≤ 1 then
    bn1 (fX6_lowest r_2) fun r_6 =>
    ai 24 (S6_askedAt s) <|
    bn2 (fX6_perform (S6_set_answer s (upd (S6_answer s) (S6_askedAt s).toNatClampNeg r_6))) fun r_8 s6_8 => some (r_8, s6_8)
  else some (1, S6_set_asked s r_2)
theorem aw90 {s : S6} {k6 : Int32 → Int32 → Int32 → Option Int32} {x3 v t0 : Int32} : fX6_wrongAnswer_90 s k6 x3 v t0 = k6 t0 (if wN v = true ∨ v = 17 then 1 else 0) (x3 + 1) := by
  unfold fX6_wrongAnswer_90 fX6_wrongAnswer_106 fX6_wrongAnswer_111
  rw [e_mN, bn1_s]
  by_cases c : wN v = true
  · rw [if_pos c, if_neg (by decide), if_pos (Or.inl c)]
  · rw [if_neg c, if_pos rfl]
    by_cases d : v = 17
    · rw [if_pos d, if_pos (Or.inr d)]
    · rw [if_neg d, if_neg (fun q => q.elim c d)]
theorem aw60 {s : S6} {k6 : Int32 → Int32 → Int32 → Option Int32} {x1 x3 v : Int32} : fX6_wrongAnswer_60 s k6 x1 x3 v = k6 (if x1 = 0 ∧ v = 10 then 0 else 1) (if wN v = true ∨ v = 17 then 1 else 0) (x3 + 1) := by
  unfold fX6_wrongAnswer_60 fX6_wrongAnswer_65 fX6_wrongAnswer_85
  rw [if_neg (by decide), aw90, aw90]
  by_cases a : x1 = 0
  · rw [if_pos a]
    by_cases b : v = 10
    · rw [if_pos b, if_pos (show x1 = 0 ∧ v = 10 from ⟨a, b⟩)]
    · rw [if_neg b, if_neg (show ¬ (x1 = 0 ∧ v = 10) from fun q => b q.2)]
  · rw [if_neg a, if_neg (show ¬ (x1 = 0 ∧ v = 10) from fun q => a q.1)]
theorem aw64 {s : S6} {k6 : Int32 → Int32 → Int32 → Option Int32} {x1 x3 v : Int32} : fX6_wrongAnswer_64 s k6 x1 x3 v = some x3 := by
  unfold fX6_wrongAnswer_64 fX6_wrongAnswer_65
  rw [if_pos rfl]
theorem aw37 {s : S6} {k6 : Int32 → Int32 → Int32 → Option Int32} {x1 x3 v : Int32} : fX6_wrongAnswer_37 s k6 x1 x3 v = if wA v = true ∨ wN v = true ∨ v = 17 then fX6_wrongAnswer_60 s k6 x1 x3 v else some x3 := by
  unfold fX6_wrongAnswer_37
  rw [e_mA, bn1_s, aw64]
  by_cases a : wA v = true
  · rw [if_pos a, if_neg (by decide), if_pos (Or.inl a)]
  · rw [if_neg a, if_pos rfl, e_mN, bn1_s]
    by_cases b : wN v = true
    · rw [if_pos b, if_neg (by decide), if_pos (Or.inr (Or.inl b))]
    · rw [if_neg b, if_pos rfl]
      by_cases c : v = 17
      · rw [if_pos c, if_pos (Or.inr (Or.inr c))]
      · rw [if_neg c, if_neg (fun q => q.elim a (fun q => q.elim b c))]
theorem AW_end {s : S6} {w : Nat → Int32} {len : Nat} (hs : WS s w len) (x1 x2 : Int32) : AW s x1 x2 len = some (if x1 = 0 then nI len else -1) := by
  have hl := hs.2.2.2
  unfold AW
  rw [show 64 - len = (63 - len) + 1 by omega, fX6_wrongAnswer_6, hs.2.1, if_pos (nI_le (Nat.le_refl len) (by omega))]
  unfold fX6_wrongAnswer_130
  by_cases z : x1 = 0
  · rw [if_pos z, if_pos z]
  · rw [if_neg z, if_neg z]
theorem AW_1 {s : S6} {w : Nat → Int32} {len k : Nat} (hs : WS s w len) (hk : k < len) (x1 : Int32) : AW s x1 1 k = some (nI k) := by
  have hl := hs.2.2.2
  unfold AW
  rw [show 64 - k = (63 - k) + 1 by omega, fX6_wrongAnswer_6, hs.2.1, if_neg (nI_ge hk (by omega)), ai24 (by omega), if_neg (by decide), aw64]
theorem AW_go {s : S6} {w : Nat → Int32} {len k : Nat} (hs : WS s w len) (hk : k < len) (x1 : Int32) : AW s x1 0 k = if (k = 0 ∧ w k = 10) ∨ wA (w k) = true ∨ wN (w k) = true ∨ w k = 17 then AW s (if x1 = 0 ∧ w k = 10 then 0 else 1) (if wN (w k) = true ∨ w k = 17 then 1 else 0) (k + 1) else some (nI k) := by
  have hl := hs.2.2.2
  unfold AW
  rw [show 64 - k = (63 - k) + 1 by omega, show 64 - (k + 1) = 63 - k by omega, fX6_wrongAnswer_6, hs.2.1, if_neg (nI_ge hk (by omega)), ai24 (by omega), if_pos rfl, cl_nI (by omega), hs.1, aw37, aw60, nI_1]
  by_cases z : k = 0
  · rw [if_pos (show nI k = 0 by rw [z]; rfl)]
    by_cases t : w k = 10
    · rw [if_pos t, if_pos (show (k = 0 ∧ w k = 10) ∨ wA (w k) = true ∨ wN (w k) = true ∨ w k = 17 from Or.inl ⟨z, t⟩)]
    · rw [if_neg t]
      by_cases g : wA (w k) = true ∨ wN (w k) = true ∨ w k = 17
      · rw [if_pos g, if_pos (Or.inr g)]
      · rw [if_neg g, if_neg (fun q => q.elim (fun q => t q.2) g)]
  · rw [if_neg (show ¬ nI k = 0 from fun q => z (nI_inj (a := k) (b := 0) (by omega) (by decide) q))]
    by_cases g : wA (w k) = true ∨ wN (w k) = true ∨ w k = 17
    · rw [if_pos g, if_pos (Or.inr g)]
    · rw [if_neg g, if_neg (fun q => q.elim (fun q => z q.1) g)]
theorem wA_N {v : Int32} (h : wA v = true) : ¬ wN v = true := fun q => by rw [wN_A q] at h; cases h
theorem AW_adj {s : S6} {w : Nat → Int32} {len k : Nat} (hs : WS s w len) (hk : k < len) (h : wA (w k) = true) (x1 : Int32) : AW s x1 0 k = AW s 1 0 (k + 1) := by
  rw [AW_go hs hk, if_pos (Or.inr (Or.inl h)), if_neg (show ¬ (x1 = 0 ∧ w k = 10) from fun q => wA_ne h wA10 q.2), if_neg (show ¬ (wN (w k) = true ∨ w k = 17) from fun q => q.elim (wA_N h) (wA_ne h wA17))]
theorem AW_run {s : S6} {w : Nat → Int32} {len : Nat} (hs : WS s w len) : ∀ (d k : Nat) (x1 : Int32), k + d ≤ len → (∀ j, j < d → wA (w (k + j)) = true) → AW s x1 0 k = AW s (if d = 0 then x1 else 1) 0 (k + d)
  | 0, k, x1, _, _ => by rw [if_pos rfl]; rfl
  | d + 1, k, x1, h, hj => by
    rw [AW_adj hs (by omega) (show wA (w k) = true from hj 0 (by omega)), AW_run hs d (k + 1) 1 (by omega) (fun j q => by rw [show k + 1 + j = k + (j + 1) by omega]; exact hj (j + 1) (by omega)), show k + 1 + d = k + (d + 1) by omega, if_neg (show ¬ d + 1 = 0 by omega)]
    by_cases z : d = 0
    · rw [if_pos z]
    · rw [if_neg z]
theorem UA_end {s : S6} {w : Nat → Int32} {len : Nat} (hs : WS s w len) (x1 x2 : Int32) : UA s x1 x2 len = UF s x1 x2 := by
  have hl := hs.2.2.2
  unfold UA
  rw [show 64 - len = (63 - len) + 1 by omega, fX6_understand_130, hs.2.1, if_pos (nI_le (Nat.le_refl len) (by omega))]
  rfl
theorem UA_go {s : S6} {w : Nat → Int32} {len k : Nat} (hs : WS s w len) (hk : k < len) (x1 x2 : Int32) : UA s x1 x2 k = UA s (x1 ||| (if wA (w k) = true then (1 : Int32) <<< ((w k - 20) &&& 31) else 0)) (if wN (w k) = true then w k - 30 else x2) (k + 1) := by
  have hl := hs.2.2.2
  have u166 : ∀ (n : Nat) (t0 t1 : Int32), fX6_understand_166 (fun s6 x1 x2 x3 => fX6_understand_130 n s6 x1 x2 x3) s x2 (nI k) t0 t1 = fX6_understand_130 n s (t0 ||| t1) (if wN (w k) = true then w k - 30 else x2) (nI (k + 1)) := by
    intro n t0 t1
    unfold fX6_understand_166 fX6_understand_193
    rw [ai24 (by omega), cl_nI (by omega), hs.1, e_mN, bn1_s, ai24 (by omega), nI_1]
    by_cases c : wN (w k) = true
    · rw [if_pos c, if_neg (by decide), if_pos c]
    · rw [if_neg c, if_pos rfl, if_neg c]
  unfold UA
  rw [show 64 - k = (63 - k) + 1 by omega, show 64 - (k + 1) = 63 - k by omega, fX6_understand_130, hs.2.1, if_neg (nI_ge hk (by omega)), ai24 (by omega), cl_nI (by omega), hs.1, e_mA, bn1_s, u166, u166, ai24 (by omega)]
  by_cases c : wA (w k) = true
  · rw [if_pos c, if_neg (by decide), if_pos c]
  · rw [if_neg c, if_pos rfl, if_neg c]
theorem or0 (x : Nat) : nI x ||| 0 = nI x := by rw [li0, nI_or, Nat.or_zero]
theorem UA_run {s : S6} {w : Nat → Int32} {len k0 e : Nat} (hs : WS s w len) (he : k0 + e ≤ len) (hj : ∀ j, j < e → wA (w (k0 + j)) = true) (x2 : Int32) : ∀ (d c : Nat), c + d = e → UA s (nI (AS w k0 c)) x2 (k0 + c) = UA s (nI (AS w k0 e)) x2 (k0 + e)
  | 0, c, h => by rw [show c = e by omega]
  | d + 1, c, h => by
    have q := hj c (by omega)
    obtain ⟨j, hj6, -, e2⟩ := wA_nI q
    have ea : AS w k0 (c + 1) = AS w k0 c ||| 2 ^ j := by
      show AS w k0 c ||| (if wA (w (k0 + c)) = true then 2 ^ (w (k0 + c) - 20).toNatClampNeg else 0) = _
      rw [if_pos q, e2, cl_nI (by omega)]
    rw [UA_go hs (by omega), if_pos q, if_neg (wA_N q), e2, nI_shl (by omega), nI_or, ← ea, ← UA_run hs he hj x2 d (c + 1) (by omega)]
    rfl
theorem AS_ne {w : Nat → Int32} {k : Nat} : ∀ {e : Nat}, (∀ j, j < e → wA (w (k + j)) = true) → (AS w k e = 0 ↔ e = 0)
  | 0, _ => by
    constructor
    · intro _; rfl
    · intro _; rfl
  | d + 1, h => by
    have q := h d (by omega)
    have ea : AS w k (d + 1) = AS w k d ||| 2 ^ (w (k + d) - 20).toNatClampNeg := by
      show AS w k d ||| (if wA (w (k + d)) = true then 2 ^ (w (k + d) - 20).toNatClampNeg else 0) = _
      rw [if_pos q]
    constructor
    · intro z
      have p : 0 < 2 ^ (w (k + d) - 20).toNatClampNeg := Nat.pow_pos (by decide)
      have := Nat.right_le_or (n := AS w k d) (m := 2 ^ (w (k + d) - 20).toNatClampNeg)
      omega
    · intro z; omega
