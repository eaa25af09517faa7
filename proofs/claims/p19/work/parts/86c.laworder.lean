theorem nP_neg : ∀ p, p ≤ 24 → (-1 : Int32) - nI p < 0 := by decide
theorem nP_le : ∀ p, p ≤ 24 → (-1 : Int32) - nI p ≤ 0 := by decide
theorem nP_ge : ∀ p, p ≤ 24 → ¬ (0 : Int32) ≤ (-1 : Int32) - nI p := by decide
theorem nP_inv : ∀ p, p ≤ 24 → (-1 : Int32) - ((-1 : Int32) - nI p) = nI p := by decide
/-- the article and the adjectives from k on -/
def Hd (w : Nat → Int32) (len k k1 d : Nat) : Prop :=
  ((k1 = k ∧ ¬ (k < len ∧ w k = 10)) ∨ (k1 = k + 1 ∧ k < len ∧ w k = 10)) ∧ k1 + d ≤ len ∧ (∀ j, j < d → wA (w (k1 + j)) = true) ∧ ¬ (k1 + d < len ∧ wA (w (k1 + d)) = true)
theorem l_d52 {w : Nat → Int32} {len k1 : Nat} (hl : len ≤ 24) (a2 a3 : Int32) : ∀ (m fu c : Nat), k1 + c + m = len → m < fu → (∀ j, j < c → wA (w (k1 + j)) = true) →
    ∃ d, k1 + d ≤ len ∧ (∀ j, j < d → wA (w (k1 + j)) = true) ∧ ¬ (k1 + d < len ∧ wA (w (k1 + d)) = true) ∧ fL_described_52 w (nI len) a2 a3 fu (nI (k1 + c)) (nI k1) = fL_described_74 w (nI len) a2 a3 (nI (k1 + d)) (nI k1)
  | 0, fu, c, hm, hf, hj => by
    obtain ⟨g, rfl⟩ : ∃ g, fu = g + 1 := ⟨fu - 1, by omega⟩
    exact ⟨c, by omega, hj, fun q => by omega, by rw [fL_described_52, if_pos (nI_le (by omega) (by omega))]⟩
  | m + 1, fu, c, hm, hf, hj => by
    obtain ⟨g, rfl⟩ : ∃ g, fu = g + 1 := ⟨fu - 1, by omega⟩
    rw [fL_described_52, if_neg (nI_ge (show k1 + c < len by omega) (by omega)), ai24 (by omega), cl_nI (by omega), e_lA, bn1_s]
    by_cases a : wA (w (k1 + c)) = true
    · rw [if_pos a, if_neg (by decide), nI_1]
      exact l_d52 hl a2 a3 m g (c + 1) (by omega) (by omega) (fun j q => by
        by_cases z : j = c
        · rw [z]; exact a
        · exact hj j (by omega))
    · rw [if_neg a, if_pos rfl]
      exact ⟨c, by omega, hj, fun q => a q.2, rfl⟩
theorem l_d74 {w : Nat → Int32} {len k1 d : Nat} (hl : len ≤ 24) (hp : k1 + d ≤ len) (a2 a3 : Int32) : fL_described_74 w (nI len) a2 a3 (nI (k1 + d)) (nI k1) = some (if k1 + d < len ∧ (wN (w (k1 + d)) = true ∨ (w (k1 + d) = 17 ∧ d ≠ 0) ∨ (a3 = 1 ∧ wP (w (k1 + d)) = true)) then nI (k1 + d + 1) else (-1) - nI (k1 + d)) := by
  have y125 : fL_described_125 w (nI len) a2 a3 (nI (k1 + d)) = some ((-1) - nI (k1 + d)) := rfl
  have y121 : fL_described_121 w (nI len) a2 a3 (nI (k1 + d)) = some (nI (k1 + d + 1)) := by
    unfold fL_described_121 fL_described_126
    rw [if_neg (by decide), nI_1]; rfl
  unfold fL_described_74 fL_described_106
  rw [y125, y121]
  by_cases a : k1 + d < len
  · rw [if_neg (nI_ge a (by omega)), ai24 (by omega), cl_nI (by omega), e_lN, bn1_s]
    by_cases n : wN (w (k1 + d)) = true
    · rw [if_pos n, if_neg (by decide), if_pos ⟨a, Or.inl n⟩]
    · rw [if_neg n, if_pos rfl, ai24 (by omega), ai24 (by omega), e_lP, bn1_s]
      have h106 : (if a3 = 1 then (if (if wP (w (k1 + d)) = true then (1 : Int32) else 0) = 0 then some ((-1) - nI (k1 + d)) else some (nI (k1 + d + 1))) else some ((-1) - nI (k1 + d))) = some (if a3 = 1 ∧ wP (w (k1 + d)) = true then nI (k1 + d + 1) else (-1) - nI (k1 + d)) := by
        by_cases x : a3 = 1
        · by_cases y : wP (w (k1 + d)) = true
          · rw [if_pos x, if_pos y, if_neg (by decide), if_pos ⟨x, y⟩]
          · rw [if_pos x, if_neg y, if_pos rfl, if_neg (fun q => y q.2)]
        · rw [if_neg x, if_neg (fun q => x q.1)]
      rw [h106]
      by_cases o : w (k1 + d) = 17
      · rw [if_pos o]
        by_cases z : d = 0
        · rw [if_neg (show ¬ nI k1 < nI (k1 + d) from nI_nlt (by omega) (by omega)), z, Nat.add_zero]
          congr 1
          rw [z, Nat.add_zero] at n a
          by_cases y : a3 = 1 ∧ wP (w k1) = true
          · rw [if_pos y, if_pos ⟨a, Or.inr (Or.inr y)⟩]
          · rw [if_neg y, if_neg (fun q => by
              rcases q.2 with q | q | q
              · exact n q
              · exact q.2 rfl
              · exact y q)]
        · rw [if_pos (show nI k1 < nI (k1 + d) from nI_lt (by omega) (by omega)), if_pos ⟨a, Or.inr (Or.inl ⟨o, z⟩)⟩]
      · rw [if_neg o]
        congr 1
        by_cases y : a3 = 1 ∧ wP (w (k1 + d)) = true
        · rw [if_pos y, if_pos ⟨a, Or.inr (Or.inr y)⟩]
        · rw [if_neg y, if_neg (fun q => by
            rcases q.2 with q | q | q
            · exact n q
            · exact o q.1
            · exact y q)]
  · rw [if_pos (nI_le (by omega) (by omega)), if_neg (fun q => a q.1)]
theorem l_desc {w : Nat → Int32} {len k : Nat} (hl : len ≤ 24) (hk : k ≤ len) (a3 : Int32) :
    (k < len ∧ w k = 14 ∧ fL_described w (nI len) (nI k) a3 = some (nI (k + 1)))
    ∨ (¬ (k < len ∧ w k = 14) ∧ ∃ k1 d, Hd w len k k1 d ∧ fL_described w (nI len) (nI k) a3 = some (if k1 + d < len ∧ (wN (w (k1 + d)) = true ∨ (w (k1 + d) = 17 ∧ d ≠ 0) ∨ (a3 = 1 ∧ wP (w (k1 + d)) = true)) then nI (k1 + d + 1) else (-1) - nI (k1 + d))) := by
  have h23 : ¬ (k < len ∧ w k = 14) → fL_described w (nI len) (nI k) a3 = fL_described_23 w (nI len) (nI k) a3 (nI k) := fun n => by
    unfold fL_described
    by_cases a : k < len
    · rw [if_neg (nI_ge a (by omega)), ai24 (by omega), cl_nI (by omega), if_neg (fun q => n ⟨a, q⟩)]
    · rw [if_pos (nI_le (by omega) (by omega))]
  by_cases it : k < len ∧ w k = 14
  · refine Or.inl ⟨it.1, it.2, ?_⟩
    unfold fL_described
    rw [if_neg (nI_ge it.1 (by omega)), ai24 (by omega), cl_nI (by omega), if_pos it.2, nI_1]
  · refine Or.inr ⟨it, ?_⟩
    rw [h23 it]
    unfold fL_described_23 fL_described_44 fL_described_45
    rw [Int32.add_zero]
    by_cases th : k < len ∧ w k = 10
    · rw [if_neg (nI_ge th.1 (by omega)), ai24 (by omega), cl_nI (by omega), if_pos th.2, nI_1]
      obtain ⟨d, d1, d2, d3, d4⟩ := l_d52 (w := w) (k1 := k + 1) hl (nI k) a3 (len - (k + 1)) 64 0 (by omega) (by omega) (fun j q => absurd q (by omega))
      exact ⟨k + 1, d, ⟨Or.inr ⟨rfl, th.1, th.2⟩, d1, d2, d3⟩, d4.trans (l_d74 hl d1 _ _)⟩
    · obtain ⟨d, d1, d2, d3, d4⟩ := l_d52 (w := w) (k1 := k) hl (nI k) a3 (len - k) 64 0 (by omega) (by omega) (fun j q => absurd q (by omega))
      refine ⟨k, d, ⟨Or.inl ⟨rfl, th⟩, d1, d2, d3⟩, ?_⟩
      rw [← l_d74 hl d1 (nI k) a3, ← d4]
      by_cases a : k < len
      · rw [if_neg (nI_ge a (by omega)), ai24 (by omega), cl_nI (by omega), if_neg (fun q => th ⟨a, q⟩)]; rfl
      · rw [if_pos (nI_le (by omega) (by omega))]; rfl
theorem DF8_it {s : S6} {w : Nat → Int32} {len k : Nat} (hs : WS s w len) (h : k < len) (h14 : w k = 14) (x2 x3 : Int32) : DF s 8 x2 x3 k = DF s (if x3 = 0 then 11 else 12) x2 x3 (k + 1) := by
  rw [DF_8 hs h, show phN true false true false (w k) (en 8 x2 x3) = en 8 x2 x3 by simp [phN, h14, wA14, wN14], en_8, NX_ok (en_ne x3)]
theorem DF1_it {s : S6} {w : Nat → Int32} {len k : Nat} (hs : WS s w len) (h : k < len) (h14 : w k = 14) (x2 : Int32) : DF s 1 x2 0 k = DF s (if x2 = 0 then 7 else 11) x2 0 (k + 1) := by
  rw [DF_1 hs h, show phN true false false true (w k) (en 1 x2 0) = en 1 x2 0 by rw [h14]; simp [phN, wA14, wN14], en_1, NX_ok (eg_ne _)]
theorem DF8_sh {s : S6} {w : Nat → Int32} {len k k1 d : Nat} (hs : WS s w len) (hH : Hd w len k k1 d) (hit : ¬ (k < len ∧ w k = 14)) (x2 x3 : Int32) :
    DF s 8 x2 x3 k = if k1 + d < len ∧ wN (w (k1 + d)) = true then DF s (if x3 = 0 then 11 else 12) x2 x3 (k1 + d + 1) else if d ≠ 0 ∧ k1 + d < len ∧ w (k1 + d) = 17 then DF s (if x3 = 0 then 11 else 12) x2 x3 (k1 + d + 1) else some (nI (k1 + d)) := by
  obtain ⟨h0, h1, h2, h3⟩ := hH
  rcases h0 with ⟨rfl, th⟩ | ⟨rfl, th1, th2⟩
  · rw [DF_adj8 hs x2 x3 h1 h2]
    exact DF_head hs x2 x3 (Or.inl rfl) h1 (fun _ z y => ⟨fun q => by subst z; exact th ⟨y, q⟩, fun q => by subst z; exact hit ⟨y, q⟩⟩) h3
  · have u : DF s 8 x2 x3 k = DF s 9 x2 x3 (k + 1) := by
      rw [DF_8 hs th1, show phN true false true false (w k) (en 8 x2 x3) = 9 by simp [phN, th2], NX_ok (by decide)]
    rw [u, DF_adj9 hs x2 x3 h1 h2]
    exact DF_head hs x2 x3 (Or.inr rfl) h1 (fun y => absurd y (by decide)) h3
theorem DF1_sh {s : S6} {w : Nat → Int32} {len k k1 d : Nat} (hs : WS s w len) (hH : Hd w len k k1 d) (hit : ¬ (k < len ∧ w k = 14)) (h11 : k < len → w k ≠ 11 ∧ w k ≠ 15) (x2 : Int32) :
    (k1 + d < len ∧ wP (w (k1 + d)) = true → DF s 1 x2 0 k = DF s 6 x2 0 (k1 + d + 1))
    ∧ (¬ (k1 + d < len ∧ wP (w (k1 + d)) = true) → DF s 1 x2 0 k = if k1 + d < len ∧ wN (w (k1 + d)) = true then DF s (if x2 = 0 then 7 else 11) x2 0 (k1 + d + 1) else if d ≠ 0 ∧ k1 + d < len ∧ w (k1 + d) = 17 then DF s (if x2 = 0 then 7 else 11) x2 0 (k1 + d + 1) else some (nI (k1 + d))) := by
  obtain ⟨h0, h1, h2, h3⟩ := hH
  rcases h0 with ⟨rfl, th⟩ | ⟨rfl, th1, th2⟩
  · rw [DF_adj1 hs x2 0 h1 h2]
    exact DF_ghead hs x2 (Or.inl rfl) h1 (fun _ z y => by subst z; exact ⟨fun q => th ⟨y, q⟩, fun q => hit ⟨y, q⟩, (h11 y).1, (h11 y).2⟩) h3
  · have u : DF s 1 x2 0 k = DF s 2 x2 0 (k + 1) := by
      rw [DF_1 hs th1, show phN true false false true (w k) (en 1 x2 0) = 2 by rw [th2]; simp [phN], NX_ok (by decide)]
    rw [u, DF_adj2 hs x2 0 h1 h2]
    exact DF_ghead hs x2 (Or.inr rfl) h1 (fun y => absurd y (by decide)) h3
/-- a single found by described (kind 0), from the grammar's two starts -/
theorem l_desc0 {s : S6} {w : Nat → Int32} {len k : Nat} (hs : WS s w len) (hk : k ≤ len) :
    (∃ k2, k < k2 ∧ k2 ≤ len ∧ fL_described w (nI len) (nI k) 0 = some (nI k2) ∧ (∀ x2 x3, DF s 8 x2 x3 k = DF s (if x3 = 0 then 11 else 12) x2 x3 k2) ∧ (∀ x2, DF s 1 x2 0 k = DF s (if x2 = 0 then 7 else 11) x2 0 k2))
    ∨ (∃ e, e ≤ len ∧ fL_described w (nI len) (nI k) 0 = some ((-1) - nI e) ∧ ∀ x2 x3, DF s 8 x2 x3 k = some (nI e)) := by
  have hl := hs.2.2.2
  rcases l_desc (w := w) hl hk 0 with ⟨h1, h2, h3⟩ | ⟨it, k1, d, hH, h3⟩
  · exact Or.inl ⟨k + 1, by omega, by omega, h3, fun x2 x3 => DF8_it hs h1 h2 x2 x3, fun x2 => DF1_it hs h1 h2 x2⟩
  · have hb := hH.2.1
    have hkk : k ≤ k1 := by rcases hH.1 with ⟨z, -⟩ | ⟨z, -⟩ <;> omega
    have h8 := fun x2 x3 => DF8_sh hs hH it x2 x3
    by_cases a : k1 + d < len ∧ (wN (w (k1 + d)) = true ∨ (w (k1 + d) = 17 ∧ d ≠ 0))
    · have c : k1 + d < len ∧ (wN (w (k1 + d)) = true ∨ (w (k1 + d) = 17 ∧ d ≠ 0) ∨ ((0 : Int32) = 1 ∧ wP (w (k1 + d)) = true)) := ⟨a.1, by rcases a.2 with q | q; exact Or.inl q; exact Or.inr (Or.inl q)⟩
      rw [if_pos c] at h3
      have h11 : k < len → w k ≠ 11 ∧ w k ≠ 15 := fun _ => by
        rcases hH.1 with ⟨z, -⟩ | ⟨-, -, z⟩
        · subst z
          by_cases y : d = 0
          · subst y
            rcases a.2 with q | q
            · exact ⟨wN_ne q wN11, wN_ne q wN15⟩
            · exact absurd rfl q.2
          · have q := hH.2.2.1 0 (by omega)
            exact ⟨wA_ne q wA11, wA_ne q wA15⟩
        · rw [z]; decide
      have np : ¬ (k1 + d < len ∧ wP (w (k1 + d)) = true) := fun q => by
        rcases a.2 with y | y
        · have := wP_N q.2; rw [y] at this; exact Bool.noConfusion this
        · exact wP_ne q.2 wP17 y.1
      refine Or.inl ⟨k1 + d + 1, by omega, by omega, h3, fun x2 x3 => ?_, fun x2 => ?_⟩
      · rw [h8]
        rcases a.2 with q | q
        · rw [if_pos ⟨a.1, q⟩]
        · by_cases n : k1 + d < len ∧ wN (w (k1 + d)) = true
          · rw [if_pos n]
          · rw [if_neg n, if_pos ⟨q.2, a.1, q.1⟩]
      · rw [(DF1_sh hs hH it h11 x2).2 np]
        rcases a.2 with q | q
        · rw [if_pos ⟨a.1, q⟩]
        · by_cases n : k1 + d < len ∧ wN (w (k1 + d)) = true
          · rw [if_pos n]
          · rw [if_neg n, if_pos ⟨q.2, a.1, q.1⟩]
    · have c : ¬ (k1 + d < len ∧ (wN (w (k1 + d)) = true ∨ (w (k1 + d) = 17 ∧ d ≠ 0) ∨ ((0 : Int32) = 1 ∧ wP (w (k1 + d)) = true))) := fun q => a ⟨q.1, by
        rcases q.2 with y | y | y
        · exact Or.inl y
        · exact Or.inr y
        · exact absurd y.1 (by decide)⟩
      rw [if_neg c] at h3
      refine Or.inr ⟨k1 + d, hb, h3, fun x2 x3 => ?_⟩
      rw [h8, if_neg (fun q => a ⟨q.1, Or.inl q.2⟩), if_neg (fun q => a ⟨q.2.1, Or.inr ⟨q.2.2, q.1⟩⟩)]
theorem l_lo8 {s : S6} {w : Nat → Int32} {len : Nat} (hs : WS s w len) (a2 : Int32) : ∀ (m fu k : Nat) (x2 : Int32), len < k + m → m < fu → 0 < k → k ≤ len →
    ∃ k3 x3, fL_leftOut_8 w (nI len) a2 fu (nI k) = some (nI k3) ∧ k ≤ k3 ∧ k3 ≤ len ∧ DF s 11 x2 0 k = DF s 11 x3 0 k3
  | 0, fu, k, x2, hm, hf, hk0, hk => absurd hm (by omega)
  | m + 1, fu, k, x2, hm, hf, hk0, hk => by
    obtain ⟨g, rfl⟩ : ∃ g, fu = g + 1 := ⟨fu - 1, by omega⟩
    have hl := hs.2.2.2
    have stay : ∀ r : Option Int32, r = some (nI k) → ∃ k3 x3, r = some (nI k3) ∧ k ≤ k3 ∧ k3 ≤ len ∧ DF s 11 x2 0 k = DF s 11 x3 0 k3 := fun r e => ⟨k, x2, e, Nat.le_refl k, hk, rfl⟩
    rw [fL_leftOut_8, if_neg (nI_nle hk0 (by omega))]
    unfold fL_leftOut_49
    by_cases a : k < len
    · rw [if_neg (nI_ge a (by omega)), ai24 (by omega), cl_nI (by omega)]
      by_cases b : w k = 13
      · rw [if_pos b, nI_1]
        rcases l_desc0 hs (k := k + 1) a with ⟨k2, c1, c2, c3, -, c5⟩ | ⟨e, c1, c2, -⟩
        · rw [c3, bn1_s, if_pos (nI_pos' (by omega))]
          obtain ⟨k3, x3, i1, i2, i3, i4⟩ := l_lo8 hs a2 m g k2 1 (by omega) (by omega) (by omega) c2
          refine ⟨k3, x3, i1, by omega, i3, ?_⟩
          rw [DF_and hs (Or.inr (Or.inr (Or.inr rfl))) ⟨a, b⟩, if_pos rfl, c5 1, if_neg (by decide), i4]
        · rw [c2, bn1_s, if_neg (nP_ge e (by omega))]
          exact stay _ rfl
      · rw [if_neg b]
        exact stay _ rfl
    · rw [if_pos (nI_le (by omega) (by omega))]
      exact stay _ rfl
theorem l_leftOut {s : S6} {w : Nat → Int32} {len k : Nat} (hs : WS s w len) (hk : k ≤ len) (x2 : Int32) :
    (∃ k2 x3, fL_leftOut w (nI len) (nI k) = some (nI k2) ∧ k < k2 ∧ k2 ≤ len ∧ DF s 8 x2 0 k = DF s 11 x3 0 k2)
    ∨ (∃ e, e ≤ len ∧ fL_leftOut w (nI len) (nI k) = some ((-1) - nI e) ∧ DF s 8 x2 0 k = some (nI e)) := by
  have hl := hs.2.2.2
  unfold fL_leftOut
  rcases l_desc0 hs hk with ⟨k2, c1, c2, c3, c4, -⟩ | ⟨e, c1, c2, c3⟩
  · rw [c3, bn1_s]
    obtain ⟨k3, x3, i1, i2, i3, i4⟩ := l_lo8 hs (nI k) len 64 k2 x2 (by omega) (by omega) (by omega) c2
    exact Or.inl ⟨k3, x3, i1, by omega, i3, by rw [c4 x2 0, if_pos rfl, i4]⟩
  · rw [c2, bn1_s, fL_leftOut_8, if_pos (nP_le e (by omega))]
    exact Or.inr ⟨e, c1, rfl, c3 x2 0⟩
/-- what reading a part comes to -/
def PL (s : S6) (w : Nat → Int32) (len k : Nat) (v r : Option Int32) : Prop :=
  (∃ k2 x3 y, r = some (nI k2) ∧ k < k2 ∧ k2 ≤ len ∧ (y = 4 ∨ y = 6 ∨ y = 7 ∨ y = 11) ∧ (y = 4 ∨ y = 6 → ¬ (k2 < len ∧ w k2 = 12)) ∧ (y = 4 → k2 < len → wA (w k2) = false ∧ wP (w k2) = false) ∧ v = DF s y x3 0 k2)
  ∨ (∃ e, e ≤ len ∧ r = some ((-1) - nI e) ∧ v = some (nI e))
theorem l_131 {s : S6} {w : Nat → Int32} {len k k2 : Nat} (hs : WS s w len) (hkk : k < k2) (hk2 : k2 ≤ len) {y x2 : Int32} (hy : y = 4 ∨ y = 6) (h4 : y = 4 → k2 < len → wA (w k2) = false ∧ wP (w k2) = false) : PL s w len k (DF s y x2 0 k2) (fL_part_131 w (nI len) (nI k) (nI k2)) := by
  have hl := hs.2.2.2
  unfold fL_part_131 fL_part_155 fL_part_156
  by_cases a : k2 < len
  · rw [if_neg (nI_ge a (by omega)), ai24 (by omega), cl_nI (by omega)]
    by_cases b : w k2 = 12
    · rw [if_pos b, nI_1]
      have hD : DF s y x2 0 k2 = DF s 8 x2 0 (k2 + 1) := by
        rcases hy with rfl | rfl
        · rw [DF_4 hs a, b]; rfl
        · rw [DF_6 hs a, b]; rfl
      rcases l_leftOut hs (k := k2 + 1) a x2 with ⟨k3, x3, c1, c2, c3, c4⟩ | ⟨e, c1, c2, c3⟩
      · rw [c1, bn1_s]
        exact Or.inl ⟨k3, x3, 11, rfl, by omega, c3, Or.inr (Or.inr (Or.inr rfl)), fun z => by rcases z with z | z <;> exact absurd z (by decide), fun z => absurd z (by decide), hD.trans c4⟩
      · rw [c2, bn1_s]
        exact Or.inr ⟨e, c1, rfl, hD.trans c3⟩
    · rw [if_neg b]
      exact Or.inl ⟨k2, x2, y, rfl, hkk, hk2, by rcases hy with rfl | rfl; exact Or.inl rfl; exact Or.inr (Or.inl rfl), fun _ q => b q.2, h4, rfl⟩
  · rw [if_pos (nI_le (by omega) (by omega))]
    exact Or.inl ⟨k2, x2, y, rfl, hkk, hk2, by rcases hy with rfl | rfl; exact Or.inl rfl; exact Or.inr (Or.inl rfl), fun _ q => a q.1, h4, rfl⟩
theorem l_p33 {w : Nat → Int32} {len k1 : Nat} (hl : len ≤ 24) (a2 : Int32) : ∀ (m fu c : Nat), k1 + c + m = len → m < fu → (∀ j, j < c → wA (w (k1 + j)) = true) →
    ∃ d, k1 + d ≤ len ∧ (∀ j, j < d → wA (w (k1 + j)) = true) ∧ ¬ (k1 + d < len ∧ wA (w (k1 + d)) = true) ∧ fL_part_33 w (nI len) a2 fu (nI (k1 + c)) = fL_part_53 w (nI len) a2 (nI (k1 + d))
  | 0, fu, c, hm, hf, hj => by
    obtain ⟨g, rfl⟩ : ∃ g, fu = g + 1 := ⟨fu - 1, by omega⟩
    exact ⟨c, by omega, hj, fun q => by omega, by rw [fL_part_33, if_pos (nI_le (by omega) (by omega))]⟩
  | m + 1, fu, c, hm, hf, hj => by
    obtain ⟨g, rfl⟩ : ∃ g, fu = g + 1 := ⟨fu - 1, by omega⟩
    rw [fL_part_33, if_neg (nI_ge (show k1 + c < len by omega) (by omega)), ai24 (by omega), cl_nI (by omega), e_lA, bn1_s]
    by_cases a : wA (w (k1 + c)) = true
    · rw [if_pos a, if_neg (by decide), nI_1]
      exact l_p33 hl a2 m g (c + 1) (by omega) (by omega) (fun j q => by
        by_cases z : j = c
        · rw [z]; exact a
        · exact hj j (by omega))
    · rw [if_neg a, if_pos rfl]
      exact ⟨c, by omega, hj, fun q => a q.2, rfl⟩
theorem l_part {s : S6} {w : Nat → Int32} {len k : Nat} (hs : WS s w len) (hk : k ≤ len) (x2 : Int32) : PL s w len k (DF s 1 x2 0 k) (fL_part w (nI len) (nI k)) := by
  have hl := hs.2.2.2
  have gy : (if x2 = 0 then (7 : Int32) else 11) = 4 ∨ (if x2 = 0 then (7 : Int32) else 11) = 6 ∨ (if x2 = 0 then (7 : Int32) else 11) = 7 ∨ (if x2 = 0 then (7 : Int32) else 11) = 11 := by split <;> decide
  have gn : ¬ ((if x2 = 0 then (7 : Int32) else 11) = 4 ∨ (if x2 = 0 then (7 : Int32) else 11) = 6) := by split <;> decide
  have sing : ∀ k2, k < k2 → k2 ≤ len → DF s 1 x2 0 k = DF s (if x2 = 0 then 7 else 11) x2 0 k2 → PL s w len k (DF s 1 x2 0 k) (some (nI k2)) := fun k2 z1 z2 z3 =>
    Or.inl ⟨k2, x2, _, rfl, z1, z2, gy, fun q => absurd q gn, fun q => absurd (Or.inl q) gn, z3⟩
  unfold fL_part
  by_cases e0 : k = len
  · subst e0
    rw [if_pos rfl]
    refine Or.inr ⟨k, Nat.le_refl k, rfl, ?_⟩
    have n : ¬ (if w 0 = 2 then (1 : Int32) = 12 else (1 : Int32) = 4 ∨ (1 : Int32) = 6 ∨ (1 : Int32) = 7 ∨ (1 : Int32) = 11) := by
      by_cases y : w 0 = 2 <;> simp [y]
    rw [DF_end hs, if_neg n]
  · have a : k < len := by omega
    rw [if_neg (fun q => e0 (nI_inj (by omega) (by omega) q)), ai24 (by omega), cl_nI (by omega)]
    by_cases th : w k = 15
    · rw [if_pos th, nI_1]
      refine Or.inl ⟨k + 1, x2, 7, rfl, by omega, by omega, by decide, fun z => absurd z (by decide), fun z => absurd z (by decide), ?_⟩
      rw [DF_1 hs a, show phN true false false true (w k) (en 1 x2 0) = 7 by rw [th]; simp [phN, wA15, wN15, wP15], NX_ok (by decide)]
    · rw [if_neg th, ai24 (by omega)]
      by_cases al : w k = 11
      · rw [if_pos al, nI_1]
        obtain ⟨d, d1, d2, d3, d4⟩ := l_p33 (w := w) (k1 := k + 1) hl (nI k) (len - (k + 1)) 64 0 (by omega) (by omega) (fun j q => absurd q (by omega))
        rw [show fL_part_33 w (nI len) (nI k) 64 (nI (k + 1)) = _ from d4]
        have hD : DF s 1 x2 0 k = DF s (if d = 0 then 4 else 5) x2 0 (k + 1 + d) := by
          rw [DF_1 hs a, show phN true false false true (w k) (en 1 x2 0) = 4 by rw [al]; simp [phN, wA11, wN11, wP11], NX_ok (by decide), DF_adj4 hs x2 0 d1 d2]
        have y53 : fL_part_53 w (nI len) (nI k) (nI (k + 1 + d)) = fL_part_72 w (nI len) (nI k) (nI (k + 1 + d)) (if k + 1 + d < len ∧ wP (w (k + 1 + d)) = true then 1 else 0) := by
          unfold fL_part_53 fL_part_71
          by_cases b : k + 1 + d < len
          · rw [if_neg (nI_ge b (by omega)), ai24 (by omega), cl_nI (by omega), e_lP, bn1_s]
            by_cases c : wP (w (k + 1 + d)) = true
            · rw [if_pos c, if_neg (by decide), if_pos ⟨b, c⟩]
            · rw [if_neg c, if_pos rfl, if_neg (fun q => c q.2)]
          · rw [if_pos (nI_le (by omega) (by omega)), if_neg (fun q => b q.1)]
        rw [y53]
        unfold fL_part_72 fL_part_90 fL_part_101
        by_cases c : k + 1 + d < len ∧ wP (w (k + 1 + d)) = true
        · rw [if_pos c, if_neg (by decide), if_neg (by decide), nI_1]
          have hD2 : DF s 1 x2 0 k = DF s 6 x2 0 (k + 1 + d + 1) := by
            rw [hD]
            by_cases z : d = 0
            · rw [if_pos z, DF_4 hs c.1, if_neg (wP_ne c.2 wP13), if_neg (show ¬ (w (k + 1 + d) = 16 ∧ w 0 = 2) from fun q => wP_ne c.2 wP16 q.1), if_neg (wP_ne c.2 wP12), if_neg (show ¬ wA (w (k + 1 + d)) = true by rw [wP_A c.2]; decide), if_pos c.2, NX_ok (by decide)]
            · rw [if_neg z, DF_5 hs c.1, if_neg (show ¬ wA (w (k + 1 + d)) = true by rw [wP_A c.2]; decide), if_pos c.2, NX_ok (by decide)]
          rw [hD2]
          exact l_131 hs (by omega) (by omega) (Or.inr rfl) (fun z => absurd z (by decide))
        · rw [if_neg c, if_pos rfl]
          by_cases z : d = 0
          · subst z
            rw [if_pos rfl] at hD
            rw [nI_1, if_pos (show nI (k + 1 + 0) ≤ nI (k + 1) from nI_le (by omega) (by omega)), if_pos rfl, Int32.add_zero, hD]
            exact l_131 hs (by omega) (by omega) (Or.inl rfl) (fun _ q => ⟨bF (fun r => d3 ⟨q, r⟩), bF (fun r => c ⟨q, r⟩)⟩)
          · rw [nI_1, if_neg (show ¬ nI (k + 1 + d) ≤ nI (k + 1) from nI_ge (by omega) (by omega))]
            refine Or.inr ⟨k + 1 + d, d1, rfl, ?_⟩
            rw [hD, if_neg z]
            by_cases q : k + 1 + d < len
            · rw [DF_5 hs q, if_neg (show ¬ wA (w (k + 1 + d)) = true from fun r => d3 ⟨q, r⟩), if_neg (show ¬ wP (w (k + 1 + d)) = true from fun r => c ⟨q, r⟩), NX_no]
            · have e : k + 1 + d = len := by omega
              rw [e, DF_end hs]
              have n : ¬ (if w 0 = 2 then (5 : Int32) = 12 else (5 : Int32) = 4 ∨ (5 : Int32) = 6 ∨ (5 : Int32) = 7 ∨ (5 : Int32) = 11) := by
                by_cases y : w 0 = 2 <;> simp [y]
              rw [if_neg n]
      · rw [if_neg al]
        unfold fL_part_129
        rcases l_desc (w := w) hl hk 1 with ⟨-, h2, h3⟩ | ⟨it, k1, d, hH, h3⟩
        · rw [h3, bn1_s, if_neg (ng (by omega)), nI_pred, ai24 (by omega), cl_nI (by omega), e_lP, bn1_s, h2, if_neg (show ¬ wP 14 = true by decide), if_pos rfl]
          exact sing (k + 1) (by omega) (by omega) (DF1_it hs a h2 x2)
        · have hb := hH.2.1
          have hkk : k ≤ k1 := by rcases hH.1 with ⟨z, -⟩ | ⟨z, -⟩ <;> omega
          obtain ⟨g1, g2⟩ := DF1_sh hs hH it (fun _ => ⟨al, th⟩) x2
          rw [h3, bn1_s]
          by_cases c : k1 + d < len ∧ wP (w (k1 + d)) = true
          · have hc : k1 + d < len ∧ (wN (w (k1 + d)) = true ∨ (w (k1 + d) = 17 ∧ d ≠ 0) ∨ ((1 : Int32) = 1 ∧ wP (w (k1 + d)) = true)) := ⟨c.1, Or.inr (Or.inr ⟨rfl, c.2⟩)⟩
            rw [if_pos hc, if_neg (ng (by omega)), nI_pred, ai24 (by omega), cl_nI (by omega), e_lP, bn1_s, if_pos c.2, if_neg (by decide), g1 c]
            exact l_131 hs (by omega) (by omega) (Or.inr rfl) (fun z => absurd z (by decide))
          · have hg := g2 c
            by_cases b : k1 + d < len ∧ (wN (w (k1 + d)) = true ∨ (w (k1 + d) = 17 ∧ d ≠ 0))
            · have hc : k1 + d < len ∧ (wN (w (k1 + d)) = true ∨ (w (k1 + d) = 17 ∧ d ≠ 0) ∨ ((1 : Int32) = 1 ∧ wP (w (k1 + d)) = true)) := ⟨b.1, by rcases b.2 with q | q; exact Or.inl q; exact Or.inr (Or.inl q)⟩
              rw [if_pos hc, if_neg (ng (by omega)), nI_pred, ai24 (by omega), cl_nI (by omega), e_lP, bn1_s, if_neg (show ¬ wP (w (k1 + d)) = true from fun q => c ⟨b.1, q⟩), if_pos rfl]
              refine sing (k1 + d + 1) (by omega) (by omega) ?_
              rw [hg]
              rcases b.2 with q | q
              · rw [if_pos ⟨b.1, q⟩]
              · by_cases n : k1 + d < len ∧ wN (w (k1 + d)) = true
                · rw [if_pos n]
                · rw [if_neg n, if_pos ⟨q.2, b.1, q.1⟩]
            · have hc : ¬ (k1 + d < len ∧ (wN (w (k1 + d)) = true ∨ (w (k1 + d) = 17 ∧ d ≠ 0) ∨ ((1 : Int32) = 1 ∧ wP (w (k1 + d)) = true))) := fun q => by
                rcases q.2 with y | y | y
                · exact b ⟨q.1, Or.inl y⟩
                · exact b ⟨q.1, Or.inr y⟩
                · exact c ⟨q.1, y.2⟩
              rw [if_neg hc, if_pos (nP_neg _ (by omega))]
              refine Or.inr ⟨k1 + d, hb, rfl, ?_⟩
              rw [hg, if_neg (fun q => b ⟨q.1, Or.inl q.2⟩), if_neg (fun q => b ⟨q.2.1, Or.inr ⟨q.2.2, q.1⟩⟩)]
theorem l_wo76n {w : Nat → Int32} {len e : Nat} (he : e ≤ 24) : fL_wrongOrder_76 w (nI len) ((-1) - nI e) = some (nI e) := by
  unfold fL_wrongOrder_76 fL_wrongOrder_96
  rw [if_neg (nP_ge e he), nP_inv e he]
theorem l_wo76p {w : Nat → Int32} {len k : Nat} (hl : len ≤ 24) (hk : k ≤ len) : fL_wrongOrder_76 w (nI len) (nI k) = some (if k = len then -1 else nI k) := by
  unfold fL_wrongOrder_76 fL_wrongOrder_96
  rw [if_pos (nI_pos' (by omega))]
  by_cases a : k = len
  · rw [if_pos a, if_pos (nI_le (by omega) (by omega))]
  · rw [if_neg a, if_neg (nI_ge (by omega) (by omega))]
theorem l_wo36n {w : Nat → Int32} {len e : Nat} (he : e ≤ 24) : fL_wrongOrder_36 w (nI len) ((-1) - nI e) = some (nI e) := by
  unfold fL_wrongOrder_36
  rw [if_pos (nP_le e he), l_wo76n he]
theorem l_wo36 {s : S6} {w : Nat → Int32} {len k : Nat} (hs : WS s w len) (hk0 : 0 < k) (hk : k ≤ len) {y x2 : Int32} (hy : y = 4 ∨ y = 6 ∨ y = 7 ∨ y = 11) (h12 : y = 4 ∨ y = 6 → ¬ (k < len ∧ w k = 12)) (h4 : y = 4 → k < len → wA (w k) = false ∧ wP (w k) = false) (h13 : ¬ (k < len ∧ w k = 13)) : fL_wrongOrder_36 w (nI len) (nI k) = DF s y x2 0 k := by
  have hl := hs.2.2.2
  unfold fL_wrongOrder_36 fL_wrongOrder_72 fL_wrongOrder_75
  rw [if_neg (nI_nle hk0 (by omega)), ai24_0, cl0, l_wo76n (by omega), l_wo76p hl hk]
  by_cases pt : w 0 = 2
  · rw [if_pos pt]
    by_cases a : k < len
    · rw [if_neg (nI_ge a (by omega)), ai24 (by omega), cl_nI (by omega)]
      by_cases b : w k = 16
      · rw [if_pos b, nI_1, DF_in hs hy ⟨a, b⟩ pt]
        rcases l_desc0 hs (k := k + 1) a with ⟨k2, c1, c2, c3, c4, -⟩ | ⟨e, c1, c2, c3⟩
        · rw [c3, bn1_s, l_wo76p hl c2, c4 x2 1, if_neg (show ¬ (1 : Int32) = 0 by decide)]
          by_cases z : k2 = len
          · rw [if_pos z, z, DF_end hs, if_pos (show (if w 0 = 2 then (12 : Int32) = 12 else (12 : Int32) = 4 ∨ (12 : Int32) = 6 ∨ (12 : Int32) = 7 ∨ (12 : Int32) = 11) by rw [if_pos pt])]
          · rw [if_neg z, DF_12 hs (by omega), NX_no]
        · rw [c2, bn1_s, l_wo76n (by omega), c3 x2 1]
      · rw [if_neg b, DF_stop hs hy a (fun q => h13 ⟨a, q⟩) (fun q => b q.1) h12 h4 x2]
    · have e : k = len := by omega
      rw [if_pos (nI_le (by omega) (by omega)), e, DF_end hs]
      have nn : ¬ (if w 0 = 2 then y = 12 else y = 4 ∨ y = 6 ∨ y = 7 ∨ y = 11) := by
        rw [if_pos pt]
        rcases hy with rfl | rfl | rfl | rfl <;> decide
      rw [if_neg nn]
  · rw [if_neg pt]
    by_cases a : k = len
    · rw [if_pos a, a, DF_end hs, if_pos (show (if w 0 = 2 then y = 12 else y = 4 ∨ y = 6 ∨ y = 7 ∨ y = 11) by rw [if_neg pt]; exact hy)]
    · rw [if_neg a, DF_stop hs hy (by omega) (fun q => h13 ⟨by omega, q⟩) (fun q => pt q.2) h12 h4 x2]
theorem l_wo7 {s : S6} {w : Nat → Int32} {len : Nat} (hs : WS s w len) : ∀ (m fu k : Nat) (y x2 : Int32), len < k + m → m < fu → 0 < k → k ≤ len → (y = 4 ∨ y = 6 ∨ y = 7 ∨ y = 11) → (y = 4 ∨ y = 6 → ¬ (k < len ∧ w k = 12)) → (y = 4 → k < len → wA (w k) = false ∧ wP (w k) = false) → fL_wrongOrder_7 w (nI len) fu (nI k) = DF s y x2 0 k
  | 0, fu, k, y, x2, hm, _, _, hk, _, _, _ => absurd hm (by omega)
  | m + 1, fu, k, y, x2, hm, hf, hk0, hk, hy, h12, h4 => by
    obtain ⟨g, rfl⟩ : ∃ g, fu = g + 1 := ⟨fu - 1, by omega⟩
    have hl := hs.2.2.2
    rw [fL_wrongOrder_7, if_neg (nI_nle hk0 (by omega))]
    by_cases a : k < len
    · rw [if_neg (nI_ge a (by omega)), ai24 (by omega), cl_nI (by omega)]
      by_cases b : w k = 13
      · rw [if_pos b, nI_1, DF_and hs hy ⟨a, b⟩]
        rcases l_part hs (k := k + 1) a (if y = 11 then 1 else 0) with ⟨k2, x3, y', c1, c2, c3, c4, c5, c6, c7⟩ | ⟨e, c1, c2, c3⟩
        · rw [c1, bn1_s, c7]
          exact l_wo7 hs m g k2 y' x3 (by omega) (by omega) (by omega) c3 c4 c5 c6
        · obtain ⟨g2, rfl⟩ : ∃ g2, g = g2 + 1 := ⟨g - 1, by omega⟩
          rw [c2, bn1_s, fL_wrongOrder_7, if_pos (nP_le e (by omega)), l_wo36n (by omega), c3]
      · rw [if_neg b]
        exact l_wo36 hs hk0 hk hy h12 h4 (fun q => b q.2)
    · rw [if_pos (nI_le (by omega) (by omega))]
      exact l_wo36 hs hk0 hk hy h12 h4 (fun q => a q.1)
theorem l_wrongOrder {s : S6} {w : Nat → Int32} {len : Nat} (hs : WS s w len) : fL_wrongOrder w (nI len) = fX6_wrongOrder s := by
  have hl := hs.2.2.2
  have hW : fX6_wrongOrder s = DF s 1 0 0 1 := rfl
  rw [hW]
  unfold fL_wrongOrder
  rcases l_part hs (k := 1) hs.2.2.1 0 with ⟨k2, x3, y', c1, c2, c3, c4, c5, c6, c7⟩ | ⟨e, c1, c2, c3⟩
  · rw [show fL_part w (nI len) 1 = _ from c1, bn1_s, c7]
    exact l_wo7 hs 62 64 k2 y' x3 (by omega) (by omega) (by omega) c3 c4 c5 c6
  · rw [show fL_part w (nI len) 1 = _ from c2, bn1_s, fL_wrongOrder_7, if_pos (nP_le e (by omega)), l_wo36n (by omega), c3]
