theorem pow_and (t R : Nat) : 2 ^ t &&& R = if R.testBit t = true then 2 ^ t else 0 := by
  refine nat_ext fun i => ?_
  rw [Nat.testBit_and, Nat.testBit_two_pow]
  by_cases e : t = i
  · subst e
    by_cases q : R.testBit t = true
    · rw [if_pos q, Nat.testBit_two_pow, q]; simp
    · rw [if_neg q, Nat.zero_testBit, bF q]; simp
  · by_cases q : R.testBit t = true
    · rw [if_pos q, Nat.testBit_two_pow]; simp [e]
    · rw [if_neg q, Nat.zero_testBit]; simp [e]
theorem e_hasP {s2 : S2} {c i : Nat} (hc : S2_count s2 = nI c) (h24 : c ≤ 24) (h : i < c) : fX2_hasPhrase s2 (nI i) = some 1 := by
  unfold fX2_hasPhrase fX2_hasPhrase_22 fX2_hasPhrase_23
  rw [hc, if_neg (ng (by omega)), if_neg (nI_ge h (by omega)), if_neg (ge24 (by omega)), bo1]
/-- things in reach, fitting, suited -/
def Rn (s4 : S4) (n ko : Nat) : Nat := mkS (rcT (S4_holders s4) ko) n
def Fn (s4 : S4) (n ko : Nat) (a nn : Int32) : Nat := mkS (fun t => (Rn s4 n ko).testBit t && DS (S4_nouns s4) (S4_adjectiveSets s4) a nn t) n
def Un (s4 : S4) (n kb ko : Nat) (v : Int32) : Nat := mkS (SU (S4_holders s4) kb ko v) n
/-- it, and the answers -/
def ItR (s1 : S1) (m : S6) (n : Nat) : Prop := (S1_lastAlone s1 = 0 ∧ S6_it m = -1) ∨ ∃ t, t < n ∧ S1_lastAlone s1 = nI (2 ^ t) ∧ S6_it m = nI t
def AnR (s2 : S2) (m : S6) (n i : Nat) : Prop := (S2_answers s2 i = 0 ∧ S6_answer m (E2 s2 i) = -1) ∨ ∃ t, t < n ∧ S2_answers s2 i = nI (2 ^ t) ∧ S6_answer m (E2 s2 i) = nI t
theorem pow_ne {t : Nat} (h : t < 12) : ¬ nI (2 ^ t) = 0 := by
  intro q
  have h1 := two_pow_lt12 h
  have := nI_inj (a := 2 ^ t) (b := 0) (by omega) (by decide) q
  have p : 0 < 2 ^ t := Nat.pow_pos (by decide)
  omega
theorem nI_ne1 {t : Nat} (h : t < 2 ^ 31) : ¬ nI t = -1 := by
  intro q
  have := ng h
  rw [q] at this
  exact this (by decide)
theorem bit_lt {q t n : Nat} (h : q < 2 ^ n) (hb : q.testBit t = true) : t < n := by
  rcases Nat.lt_or_ge t n with a | a
  · exact a
  · have : q < 2 ^ t := Nat.lt_of_lt_of_le h (Nat.pow_le_pow_right (by decide) a)
    rw [Nat.testBit_lt_two_pow this] at hb
    exact Bool.noConfusion hb
theorem lt12 {q n : Nat} (hn : n ≤ 12) (h : q < 2 ^ n) : q < 4096 := Nat.lt_of_lt_of_le h (show 2 ^ n ≤ 2 ^ 12 from Nat.pow_le_pow_right (by decide) hn)
theorem li_1 {p : Nat} (hp : p < 2 ^ 31) : (nI p = 1) ↔ p = 1 := by
  constructor
  · intro h; exact nI_inj (a := p) (b := 1) hp (by decide) h
  · intro h; rw [h]; rfl
def askS (s0 : S0) (i q : Nat) : S0 := S0_set_choice (S0_set_openPhrase (S0_set_result s0 1) (nI i)) (nI q)
def notS (s0 : S0) (i : Nat) : S0 := S0_set_openPhrase (S0_set_result s0 5) (nI i)
theorem fs_A {s0 : S0} {s1 : S1} {s2 : S2} {s4 : S4} {c i : Nat} {a2 : Int32} (hc : S2_count s2 = nI c) (h24 : c ≤ 24) (hi : i < c) (hA : ¬ S2_answers s2 i = 0) : fX0_findSingle s0 s1 s2 s4 (nI i) a2 = some (S2_answers s2 i, s0) := by
  unfold fX0_findSingle
  rw [e_hasP hc h24 hi, bn1_s, if_neg (by decide), ai24 (by omega), cl_nI (by omega), if_neg hA, ai24 (by omega)]
theorem fs_I {s0 : S0} {s1 : S1} {s2 : S2} {s4 : S4} {c i : Nat} {a2 : Int32} (hc : S2_count s2 = nI c) (h24 : c ≤ 24) (hi : i < c) (hA : S2_answers s2 i = 0) (hK : S2_kinds s2 i = 14) {al R : Nat} (h1 : S1_lastAlone s1 = nI al) (h2 : S0_reach s0 = nI R) (h3 : al < 2 ^ 12) : fX0_findSingle s0 s1 s2 s4 (nI i) a2 = some (if al &&& R = 0 then (0, notS s0 i) else (nI (al &&& R), s0)) := by
  have hlt : al &&& R < 2 ^ 12 := Nat.lt_of_le_of_lt Nat.and_le_left h3
  unfold fX0_findSingle fX0_orNothing fX0_orNothing_14
  rw [e_hasP hc h24 hi, bn1_s, if_neg (by decide), ai24 (by omega), cl_nI (by omega), if_pos hA, ai24 (by omega), if_pos hK, h1, h2, nI_and]
  by_cases z : al &&& R = 0
  · rw [if_pos z, if_pos (show nI (al &&& R) = 0 by rw [z]; rfl), bn2_s, z]; rfl
  · have nz : ¬ nI (al &&& R) = 0 := fun q => z (nI_inj (a := al &&& R) (b := 0) (by omega) (by decide) q)
    rw [if_neg z, if_neg nz, bn2_s]
theorem fs_O {s0 : S0} {s1 : S1} {s2 : S2} {s4 : S4} {n kb ko c i U : Nat} (I : WI s4 n kb ko) (hc : S2_count s2 = nI c) (h24 : c ≤ 24) (hi : i < c) (hA : S2_answers s2 i = 0) (hK : ¬ S2_kinds s2 i = 14) (hR : S0_reach s0 = nI (Rn s4 n ko)) {F : Nat} (hF : F = Fn s4 n ko (S2_adjectiveSets s2 i) (S2_nouns s2 i)) :
    fX0_findSingle s0 s1 s2 s4 (nI i) (nI U) = some (if 1 < pc 12 F then (if pc 12 (F &&& U) = 1 then (nI (F &&& U), s0) else (0, askS s0 i (if F &&& U = 0 then F else F &&& U))) else if F = 0 then (0, notS s0 i) else (nI F, s0)) := by
  have hn := I.1
  have hF12 : F < 2 ^ 12 := by rw [hF]; exact mkS_lt12 _ hn
  have hR12 : Rn s4 n ko < 2 ^ 12 := mkS_lt12 _ hn
  have hG12 : F &&& U < 2 ^ 12 := Nat.lt_of_le_of_lt Nat.and_le_left hF12
  have hp := pc_le 12 F
  have hp2 := pc_le 12 (F &&& U)
  unfold fX0_findSingle fX0_orNothing fX0_orNothing_14 fX0_fitting fX0_findSingle_119 fX0_findSingle_123 fX0_ask
  rw [e_hasP hc h24 hi, bn1_s, if_neg (by decide), ai24 (by omega), cl_nI (by omega), if_pos hA, ai24 (by omega), if_neg hK, bn1_s, if_neg (by decide), ai24 (by omega), ai24 (by omega), hR, e_described I hR12, bn1_s, bn1_s, show mkS (fun t => (Rn s4 n ko).testBit t && DS (S4_nouns s4) (S4_adjectiveSets s4) (S2_adjectiveSets s2 i) (S2_nouns s2 i) t) n = F from hF.symm, e_bitCount hF12, bn1_s, nI_and, e_bitCount hG12, bn1_s]
  by_cases a : 1 < pc 12 F
  · rw [if_pos a, if_pos (show (1 : Int32) < nI (pc 12 F) by rw [li1]; exact nI_lt a (by omega))]
    by_cases b : pc 12 (F &&& U) = 1
    · rw [if_pos b, if_pos ((li_1 (by omega)).mpr b)]
    · rw [if_neg b, if_neg (fun q => b ((li_1 (by omega)).mp q))]
      by_cases z : F &&& U = 0
      · rw [if_pos z, if_pos (show nI (F &&& U) = 0 by rw [z]; rfl), bn2_s]; rfl
      · have nz : ¬ nI (F &&& U) = 0 := fun q => z (nI_inj (a := F &&& U) (b := 0) (by omega) (by decide) q)
        rw [if_neg z, if_neg nz, bn2_s]; rfl
  · rw [if_neg a, if_neg (show ¬ (1 : Int32) < nI (pc 12 F) from fun q => a (by
      rcases Nat.lt_or_ge 1 (pc 12 F) with y | y
      · exact y
      · exact absurd q (Int32.not_lt.mpr (by rw [li1]; exact nI_le y (by omega)))))]
    by_cases z : F = 0
    · rw [if_pos z, if_pos (show nI F = 0 by rw [z]; rfl), bn2_s, z]; rfl
    · have nz : ¬ nI F = 0 := fun q => z (nI_inj (a := F) (b := 0) (by omega) (by decide) q)
      rw [if_neg z, if_neg nz, bn2_s]
def failS (m : S6) (e q : Nat) : S6 := S6_set_choice (S6_set_failedAt (S6_set_at m (nI (e + 1))) (nI e)) (nI q)
theorem ms_A {m : S6} {e : Nat} {v : Int32} (he : e < 24) (hEn : fX6_endOf m (S6_at m) = some (nI e)) (hA : ¬ S6_answer m e = -1) : fX6_single m v = some (S6_answer m e, S6_set_at m (nI (e + 1))) := by
  unfold fX6_single
  rw [hEn, bn1_s, ai24 he, cl_nI (by omega), nI_1]
  show (if S6_answer m e = -1 then _ else ai 24 (nI e) (some (S6_answer m e, _))) = _
  rw [if_neg hA, ai24 he]
theorem ms_I {m : S6} {s4 : S4} {n kb ko e : Nat} {v : Int32} (I : WI s4 n kb ko) (J : MI m s4 n kb ko) (he : e < 24) (hEn : fX6_endOf m (S6_at m) = some (nI e)) (hA : S6_answer m e = -1) (hW : S6_order m e = 14) :
    (S6_it m = -1 → fX6_single m v = some (-1, failS m e 0)) ∧ (∀ t, t < n → S6_it m = nI t → fX6_single m v = some (if (Rn s4 n ko).testBit t = true then (nI t, S6_set_at m (nI (e + 1))) else (-1, failS m e 0))) := by
  have hn := I.1
  have base : fX6_single m v = (if S6_it m = -1 then fX6_single_72 v (S6_set_at m (nI (e + 1))) (nI e) else bn1 (fX6_reaches (S6_set_at m (nI (e + 1))) (S6_it m)) fun r_12 => if r_12 = 0 then fX6_single_72 v (S6_set_at m (nI (e + 1))) (nI e) else fX6_single_78 v (S6_set_at m (nI (e + 1))) (S6_it m)) := by
    unfold fX6_single
    rw [hEn, bn1_s, ai24 he, cl_nI (by omega), nI_1]
    show (if S6_answer m e = -1 then ai 24 (nI e) (if S6_order m e = 14 then _ else _) else _) = _
    rw [if_pos hA, ai24 he, if_pos hW]
    rfl
  refine ⟨fun h => ?_, fun t ht h => ?_⟩
  · rw [base, if_pos h]; rfl
  · have J2 : MI (S6_set_at m (nI (e + 1))) s4 n kb ko := J
    rw [base, h, if_neg (nI_ne1 (by omega)), e_mreaches I J2 ht, bn1_s]
    have hb : (Rn s4 n ko).testBit t = rcT (S4_holders s4) ko t := by
      unfold Rn
      rw [mkS_bit]
      simp [ht]
    rw [hb]
    by_cases z : rcT (S4_holders s4) ko t = true
    · rw [if_pos z, if_pos z, if_neg (by decide)]; rfl
    · rw [if_neg z, if_neg z, if_pos rfl]; rfl
theorem ms_O {m : S6} {s4 : S4} {w : Nat → Int32} {len n kb ko k e : Nat} {v : Int32} (I : WI s4 n kb ko) (J : MI m s4 n kb ko) (ho : OR m w len) (hat : S6_at m = nI k) (hke : k ≤ e) (he : e < len) (hEn : fX6_endOf m (S6_at m) = some (nI e)) (hA : S6_answer m e = -1) (hW : ¬ w e = 14) {a nn : Int32} (ha : a = nI (AS w k (e - k))) (hnn : (w e = 17 ∧ nn = -1) ∨ (¬ w e = 17 ∧ nn = w e - 30)) {F G : Nat} (hF : F = Fn s4 n ko a nn) (hG : G = F &&& Un s4 n kb ko v) :
    ∃ r, fX6_single m v = some r ∧ (pc 12 F = 1 → ∃ t, t < n ∧ F = 2 ^ t ∧ r = (nI t, S6_set_at m (nI (e + 1)))) ∧ (pc 12 F ≠ 1 → (pc 12 G = 1 → ∃ t, t < n ∧ G = 2 ^ t ∧ r = (nI t, S6_set_at m (nI (e + 1)))) ∧ (pc 12 G ≠ 1 → r = (-1, failS m e (if G = 0 then F else G)))) := by
  have hn := I.1
  have hl := ho.2.1
  have he24 : e < 24 := by omega
  have hF12 : F < 2 ^ 12 := by rw [hF]; exact mkS_lt12 _ hn
  have hR12 : Rn s4 n ko < 2 ^ 12 := mkS_lt12 _ hn
  have hFn : F < 2 ^ n := by rw [hF]; exact mkS_lt _ n
  have hGn : G < 2 ^ n := by rw [hG]; exact Nat.lt_of_le_of_lt Nat.and_le_left hFn
  have hG12 : G < 2 ^ 12 := by rw [hG]; exact Nat.lt_of_le_of_lt Nat.and_le_left hF12
  have hp := pc_le 12 F
  have hp2 := pc_le 12 G
  have J2 : MI (S6_set_at m (nI (e + 1))) s4 n kb ko := J
  have ho2 : OR (S6_set_at m (nI (e + 1))) w len := ho
  have hoe := ho.2.2 e he
  have base : fX6_single m v = fX6_single_114 v (S6_set_at m (nI (e + 1))) (nI e) (nI (Rn s4 n ko)) a nn := by
    unfold fX6_single
    rw [hEn, bn1_s, ai24 he24, cl_nI (by omega), nI_1]
    show (if S6_answer m e = -1 then ai 24 (nI e) (if S6_order m e = 14 then _ else _) else _) = _
    rw [if_pos hA, ai24 he24, hoe, if_neg hW, e_mreachable I J2, bn1_s, hat, e_adjUp ho2 hke he, bn1_s, ai24 he24, ← ha]
    show (if S6_order m e = 17 then fX6_single_114 v _ (nI e) (nI (Rn s4 n ko)) a (-1) else ai 24 (nI e) (fX6_single_114 v _ (nI e) (nI (Rn s4 n ko)) a (S6_order m e - 30))) = _
    rw [hoe]
    rcases hnn with ⟨x, y⟩ | ⟨x, y⟩
    · rw [if_pos x, y]
    · rw [if_neg x, ai24 he24, y]
  have hU : mkS (fun t => F.testBit t && SU (S4_holders s4) kb ko v t) n = G := by
    rw [hG]
    refine nat_ext fun i => ?_
    unfold Un
    rw [mkS_bit, Nat.testBit_and, mkS_bit]
    cases F.testBit i <;> cases (decide (i < n)) <;> simp
  unfold fX6_single_114 fX6_single_172 fX6_fail at base
  rw [e_having I J2 hR12, bn1_s, show mkS (fun t => (Rn s4 n ko).testBit t && DS (S4_nouns s4) (S4_adjectiveSets s4) a nn t) n = F from hF.symm, e_mbits hF12, bn1_s, e_msuited I J2 hF12, bn1_s, hU, e_mbits hG12, bn1_s] at base
  by_cases x : pc 12 F = 1
  · obtain ⟨t, ht, et⟩ := pc_one hF12 x
    have htn : t < n := bit_lt hFn (by rw [et, Nat.testBit_two_pow_self])
    rw [if_pos ((li_1 (by omega)).mpr x), et, e_lowest t ht, bn1_s] at base
    exact ⟨_, base, fun _ => ⟨t, htn, et, rfl⟩, fun y => absurd x y⟩
  · rw [if_neg (fun q => x ((li_1 (by omega)).mp q))] at base
    by_cases y : pc 12 G = 1
    · obtain ⟨t, ht, et⟩ := pc_one hG12 y
      have htn : t < n := bit_lt hGn (by rw [et, Nat.testBit_two_pow_self])
      rw [if_pos ((li_1 (by omega)).mpr y), et, e_lowest t ht, bn1_s] at base
      exact ⟨_, base, fun z => absurd z x, fun _ => ⟨fun _ => ⟨t, htn, et, rfl⟩, fun z => absurd y z⟩⟩
    · rw [if_neg (fun q => y ((li_1 (by omega)).mp q))] at base
      by_cases z : G = 0
      · rw [if_pos (show nI G = 0 by rw [z]; rfl), bn2_s] at base
        exact ⟨_, base, fun q => absurd q x, fun _ => ⟨fun q => absurd q y, fun _ => by rw [if_pos z]; rfl⟩⟩
      · have nz : ¬ nI G = 0 := fun q => z (nI_inj (a := G) (b := 0) (by omega) (by decide) q)
        rw [if_neg nz, bn2_s] at base
        exact ⟨_, base, fun q => absurd q x, fun _ => ⟨fun q => absurd q y, fun _ => by rw [if_neg z]; rfl⟩⟩
