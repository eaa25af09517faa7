theorem bn1_s {α β : Type} (a : α) (k : α → Option β) : bn1 (some a) k = k a := rfl
theorem bn2_s {α α2 β : Type} (a : α) (b : α2) (k : α → α2 → Option β) : bn2 (some (a, b)) k = k a b := rfl
theorem bn3_s {α α2 α3 β : Type} (a : α) (b : α2) (c : α3) (k : α → α2 → α3 → Option β) : bn3 (some (a, b, c)) k = k a b c := rfl
theorem bn4_s {α α2 α3 α4 β : Type} (a : α) (b : α2) (c : α3) (d : α4) (k : α → α2 → α3 → α4 → Option β) : bn4 (some (a, b, c, d)) k = k a b c d := rfl
theorem bn5_s {α α2 α3 α4 α5 β : Type} (a : α) (b : α2) (c : α3) (d : α4) (e : α5) (k : α → α2 → α3 → α4 → α5 → Option β) : bn5 (some (a, b, c, d, e)) k = k a b c d e := rfl
theorem ai_s {β : Type} {n j : Nat} {x : Option β} (hj : j < n) (hn : n < 2 ^ 31) : ai n (nI j) x = x := if_neg (vp_in_nI hj hn)
theorem ai12 {β : Type} {j : Nat} {x : Option β} (hj : j < 12) : ai 12 (nI j) x = x := ai_s hj (by decide)
theorem ai24 {β : Type} {j : Nat} {x : Option β} (hj : j < 24) : ai 24 (nI j) x = x := ai_s hj (by decide)
theorem bo0 {β : Type} (x : Option β) : bo 0 x = x := if_pos (Or.inl rfl)
theorem bo1 {β : Type} (x : Option β) : bo 1 x = x := if_pos (Or.inr rfl)
theorem cl_nI {j : Nat} (hj : j < 2 ^ 31) : (nI j).toNatClampNeg = j := nI_clamp hj
theorem up_same (f : Nat → Int32) (k : Nat) (x : Int32) : upd f k x k = x := by unfold upd; rw [if_pos rfl]
theorem up_ne (f : Nat → Int32) {k j : Nat} (x : Int32) (h : j ≠ k) : upd f k x j = f j := by unfold upd; rw [if_neg h]
theorem li12 : (12 : Int32) = nI 12 := by decide
theorem li24 : (24 : Int32) = nI 24 := by decide
theorem li1 : (1 : Int32) = nI 1 := by decide
theorem li0 : (0 : Int32) = nI 0 := by decide
theorem ge12 {t : Nat} (h : t < 12) : ¬ (12 : Int32) ≤ nI t := by rw [li12]; exact nI_ge h (by decide)
theorem ge12' {t : Nat} (h : 12 ≤ t) (h2 : t < 2 ^ 31) : (12 : Int32) ≤ nI t := by rw [li12]; exact nI_le h h2
theorem ge24 {t : Nat} (h : t < 24) : ¬ (24 : Int32) ≤ nI t := by rw [li24]; exact nI_ge h (by decide)
theorem ge24' {t : Nat} (h : 24 ≤ t) (h2 : t < 2 ^ 31) : (24 : Int32) ≤ nI t := by rw [li24]; exact nI_le h h2
theorem ng {t : Nat} (h : t < 2 ^ 31) : ¬ nI t < 0 := nI_pos h
theorem nI_inj {a b : Nat} (ha : a < 2 ^ 31) (hb : b < 2 ^ 31) (h : nI a = nI b) : a = b := (nI_eq ha hb).mp h
theorem nI_or (a b : Nat) : nI a ||| nI b = nI (a ||| b) := by
  apply Int32.toBitVec_inj.mp
  show (BitVec.ofNat 32 a) ||| (BitVec.ofNat 32 b) = BitVec.ofNat 32 (a ||| b)
  rw [← BitVec.ofNat_or]
theorem nI_and (a b : Nat) : nI a &&& nI b = nI (a &&& b) := by
  apply Int32.toBitVec_inj.mp
  show (BitVec.ofNat 32 a) &&& (BitVec.ofNat 32 b) = BitVec.ofNat 32 (a &&& b)
  rw [← BitVec.ofNat_and]
theorem sh_l : ∀ n, n < 32 → ((nI n &&& 31).toBitVec.smod 32).toNat = n := by decide +kernel
theorem nI_shl {t : Nat} (ht : t < 31) : (1 : Int32) <<< (nI t &&& 31) = nI (2 ^ t) := by
  have h : 1 * 2 ^ t < 2 ^ 32 := by rw [Nat.one_mul]; exact Nat.pow_lt_pow_right (by decide) (by omega)
  have := pk_shlN (n := 1) (nI t &&& 31) t (sh_l t (by omega)) h
  rw [Nat.one_mul] at this
  exact this
theorem nI_bit {k t : Nat} (hk : k < 2 ^ 31) (ht : t < 31) : (nI k >>> (nI t &&& 31)) &&& 1 = if k.testBit t then 1 else 0 := by
  rw [pk_shrN hk (nI t &&& 31) t (sh_l t (by omega)), li1, nI_and, ← Nat.shiftRight_eq_div_pow]
  rw [Nat.testBit, Nat.and_comm 1]
  rcases Nat.mod_two_eq_zero_or_one (k >>> t) with h | h
  · have e : k >>> t &&& 1 = 0 := by rw [Nat.and_one_is_mod, h]
    rw [e]; rfl
  · have e : k >>> t &&& 1 = 1 := by rw [Nat.and_one_is_mod, h]
    rw [e]; rfl
def mkS (p : Nat → Bool) : Nat → Nat
  | 0 => 0
  | n + 1 => mkS p n ||| (if p n then 2 ^ n else 0)
theorem mkS_lt (p : Nat → Bool) : ∀ n, mkS p n < 2 ^ n
  | 0 => (by decide : 0 < 1)
  | n + 1 => by
    have h := mkS_lt p n
    have h2 : 2 ^ n < 2 ^ (n + 1) := Nat.pow_lt_pow_right (by decide) (by omega)
    show mkS p n ||| (if p n then 2 ^ n else 0) < 2 ^ (n + 1)
    refine Nat.or_lt_two_pow (Nat.lt_trans h h2) ?_
    split
    · exact h2
    · exact Nat.two_pow_pos _
theorem mkS_bit (p : Nat → Bool) (t : Nat) : ∀ n, (mkS p n).testBit t = (decide (t < n) && p t)
  | 0 => by simp [mkS]
  | n + 1 => by
    show (mkS p n ||| (if p n then 2 ^ n else 0)).testBit t = _
    rw [Nat.testBit_or, mkS_bit p t n]
    by_cases h : t = n
    · subst h
      by_cases q : p t = true
      · simp [q, Nat.testBit_two_pow_self]
      · simp [q]
    · have e : (if p n then 2 ^ n else 0).testBit t = false := by
        split
        · rw [Nat.testBit_two_pow]; simp; omega
        · exact Nat.zero_testBit t
      rw [e]
      by_cases q : t < n
      · simp [q]; omega
      · have : ¬ t < n + 1 := by omega
        simp [q, this]
theorem mkS_cong {p q : Nat → Bool} : ∀ n, (∀ t, t < n → p t = q t) → mkS p n = mkS q n
  | 0, _ => rfl
  | n + 1, h => by
    show mkS p n ||| _ = mkS q n ||| _
    rw [mkS_cong n (fun t ht => h t (by omega)), h n (by omega)]
theorem mkS_lt12 (p : Nat → Bool) {n : Nat} (h : n ≤ 12) : mkS p n < 2 ^ 12 := Nat.lt_of_lt_of_le (mkS_lt p n) (Nat.pow_le_pow_right (by decide) h)
theorem nat_ext {a b : Nat} (h : ∀ i, a.testBit i = b.testBit i) : a = b := Nat.eq_of_testBit_eq h
/-- a loop over the things that gathers a set -/
theorem mk_loop {α : Type} (f : Nat → Int32 → Int32 → Option α) (p : Nat → Bool) (n : Nat) (hn : n ≤ 12) (out : Int32 → Option α)
    (hend : ∀ fu x, f (fu + 1) x (nI n) = out x)
    (hstep : ∀ fu k t, t < n → k < 2 ^ 12 → f (fu + 1) (nI k) (nI t) = f fu (nI (k ||| (if p t then 2 ^ t else 0))) (nI (t + 1))) :
    ∀ d t fu, t + d = n → d < fu → f fu (nI (mkS p t)) (nI t) = out (nI (mkS p n))
  | 0, t, fu, h, hf => by
    obtain ⟨g, rfl⟩ : ∃ g, fu = g + 1 := ⟨fu - 1, by omega⟩
    have : t = n := by omega
    subst this
    exact hend g _
  | d + 1, t, fu, h, hf => by
    obtain ⟨g, rfl⟩ : ∃ g, fu = g + 1 := ⟨fu - 1, by omega⟩
    rw [hstep g _ t (by omega) (mkS_lt12 p (by omega))]
    exact mk_loop f p n hn out hend hstep d (t + 1) g (by omega) (by omega)
