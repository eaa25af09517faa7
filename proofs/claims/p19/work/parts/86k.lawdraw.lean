theorem u_nI (u : UInt32) : u.toInt32 = nI u.toNat := by
  have h : (UInt32.ofNat u.toNat).toInt32 = nI u.toNat := rfl
  rw [UInt32.ofNat_toNat] at h
  exact h
/-- a draw is below its bound -/
theorem l_some (a : Int32) {n : Nat} (h0 : 0 < n) (h : n < 2 ^ 31) : ∃ r, r < n ∧ fL_some a (nI n) = some (nI r) := by
  have b : (a.toUInt32 >>> ((2 : Int32).toUInt32 &&& Int32.toUInt32 31)).toNat < 2 ^ 31 := by
    rw [UInt32.toNat_shiftRight, show (((2 : Int32).toUInt32 &&& Int32.toUInt32 31).toNat % 32) = 2 from by decide, Nat.shiftRight_eq_div_pow]
    have := a.toUInt32.toNat_lt
    omega
  have z : ¬ nI n = 0 := fun q => by
    have := nI_inj (a := n) (b := 0) h (by decide) q
    omega
  unfold fL_some nz
  rw [if_neg z, u_nI, pk_rem b h0 h]
  exact ⟨_, Nat.mod_lt _ h0, rfl⟩
theorem l_s2 (a : Int32) : ∃ r, r < 2 ∧ fL_some a 2 = some (nI r) := l_some a (n := 2) (by decide) (by decide)
theorem l_s3 (a : Int32) : ∃ r, r < 3 ∧ fL_some a 3 = some (nI r) := l_some a (n := 3) (by decide) (by decide)
theorem l_s4 (a : Int32) : ∃ r, r < 4 ∧ fL_some a 4 = some (nI r) := l_some a (n := 4) (by decide) (by decide)
theorem l_s5 (a : Int32) : ∃ r, r < 5 ∧ fL_some a 5 = some (nI r) := l_some a (n := 5) (by decide) (by decide)
theorem l_s8 (a : Int32) : ∃ r, r < 8 ∧ fL_some a 8 = some (nI r) := l_some a (n := 8) (by decide) (by decide)
theorem l_s9 (a : Int32) : ∃ r, r < 9 ∧ fL_some a 9 = some (nI r) := l_some a (n := 9) (by decide) (by decide)
theorem l_s11 (a : Int32) : ∃ r, r < 11 ∧ fL_some a 11 = some (nI r) := l_some a (n := 11) (by decide) (by decide)
theorem l_s12 (a : Int32) : ∃ r, r < 12 ∧ fL_some a 12 = some (nI r) := l_some a (n := 12) (by decide) (by decide)
theorem l_cell (L : Nat) (xs : Nat → Int32) {j : Nat} (hj : j < 2 ^ 31) : ∃ x, fL_cell L xs (nI j) = some x := by
  unfold fL_cell fL_cell_25
  by_cases a : Int32.ofNat L ≤ nI j
  · rw [if_pos a]; exact ⟨_, rfl⟩
  · rw [if_neg a]
    refine ⟨xs (nI j).toNatClampNeg, ?_⟩
    unfold ai
    rw [if_neg]
    rintro (q | q)
    · exact ng hj q
    · rw [cl_nI hj] at q
      exact a (nI_le q hj)
/-- a word, by its number -/
def IW (a : Int32) : Prop := fX5_isWord a = some 1 ∧ ¬ a < 0
theorem iw_0 {j : Nat} (h : j < 5) : IW (nI j) := ⟨(by decide +kernel : ∀ j, j < 5 → fX5_isWord (nI j) = some 1) j h, ng (by omega)⟩
theorem iw_10 {j : Nat} (h : j < 8) : IW (10 + nI j) := ⟨(by decide +kernel : ∀ j, j < 8 → fX5_isWord (10 + nI j) = some 1) j h, (by decide +kernel : ∀ j, j < 8 → ¬ (10 + nI j < 0)) j h⟩
theorem iw_20 {j : Nat} (h : j < 3) : IW (20 + nI j) := ⟨(by decide +kernel : ∀ j, j < 3 → fX5_isWord (20 + nI j) = some 1) j h, (by decide +kernel : ∀ j, j < 3 → ¬ (20 + nI j < 0)) j h⟩
theorem iw_30 {j : Nat} (h : j < 2) : IW (30 + nI j) := ⟨(by decide +kernel : ∀ j, j < 2 → fX5_isWord (30 + nI j) = some 1) j h, (by decide +kernel : ∀ j, j < 2 → ¬ (30 + nI j < 0)) j h⟩
theorem iw_40 {j : Nat} (h : j < 2) : IW (40 + nI j) := ⟨(by decide +kernel : ∀ j, j < 2 → fX5_isWord (40 + nI j) = some 1) j h, (by decide +kernel : ∀ j, j < 2 → ¬ (40 + nI j < 0)) j h⟩
/-- words that are being said, with at least p of them -/
def SP (s3 : S3) (z w : Nat → Int32) (p : Nat) : Prop := ∃ (l : Nat) (adj noun : Int32), s3 = mk3 w l 0 adj noun ∧ l ≤ 24 ∧ z 1 = nI l ∧ p ≤ l ∧ ∀ j, j < l → ¬ w j < 0
def ZS (z z' : Nat → Int32) : Prop := ∀ j, j ≠ 1 → z' j = z j
def OKs (p : Nat) (z : Nat → Int32) (x : Option (Int32 × S3 × Syz × Syw)) : Prop := ∃ s3' z' w', x = some (1, s3', z', w') ∧ SP s3' z' w' p ∧ ZS z z'
theorem OKs.tr {p : Nat} {z z' : Nat → Int32} {x : Option (Int32 × S3 × Syz × Syw)} (h : OKs p z' x) (g : ZS z z') : OKs p z x := by
  obtain ⟨a, b, c, h1, h2, h3⟩ := h
  exact ⟨a, b, c, h1, h2, fun j hj => (h3 j hj).trans (g j hj)⟩
theorem OKs.lo {p : Nat} {z : Nat → Int32} {x : Option (Int32 × S3 × Syz × Syw)} (h : OKs p z x) : OKs 0 z x := by
  obtain ⟨a, b, c, h1, ⟨l, d, e, f1, f2, f3, -, f5⟩, h3⟩ := h
  exact ⟨a, b, c, h1, ⟨l, d, e, f1, f2, f3, Nat.zero_le _, f5⟩, h3⟩
theorem OKs.st {p : Nat} {s3 : S3} {z w : Nat → Int32} (h : SP s3 z w p) : OKs p z (some (1, s3, z, w)) := ⟨_, _, _, rfl, h, fun _ _ => rfl⟩
theorem SP.lo {p : Nat} {s3 : S3} {z w : Nat → Int32} (h : SP s3 z w p) : SP s3 z w 0 := by
  obtain ⟨l, d, e, f1, f2, f3, -, f5⟩ := h
  exact ⟨l, d, e, f1, f2, f3, Nat.zero_le _, f5⟩
theorem l_adds (s5 : S5) {s3 : S3} {z w : Nat → Int32} {p : Nat} {a : Int32} (h : SP s3 z w p) (ha : IW a) : OKs 1 z (fL_adds s3 s5 z w a) := by
  obtain ⟨l, adj, noun, rfl, hl, hz, -, hw⟩ := h
  obtain ⟨a1, a2⟩ := ha
  unfold fL_adds fL_adds_23 fL_adds_53 fL_worded fX5_word
  simp only [ai13_1, cl_1]
  rw [a1, bn1_s, if_neg (show ¬ (1 : Int32) = 0 by decide), show S3_count (mk3 w l 0 adj noun) = nI l from rfl, hz]
  by_cases e : l < 24
  · have lt : nI l < 24 := nI_lt (a := l) (b := 24) e (by decide)
    have ne : ¬ nI l = 24 := fun q => by
      have := nI_inj (a := l) (b := 24) (by omega) (by decide) q
      omega
    have ad : fX3_add (mk3 w l 0 adj noun) a = some (mk3 (upd w l a) (l + 1) 0 adj noun) := by
      unfold fX3_add fX3_add_36
      rw [show S3_count (mk3 w l 0 adj noun) = nI l from rfl, if_neg (ng (by omega)), if_neg (ge24 e), ai24 e, cl_nI (by omega), nI_1]
      rfl
    rw [if_neg ne, if_pos lt, ad, bn1_s, bn3_s, if_pos rfl, if_pos rfl, bn2_s, ai24 e, cl_nI (by omega), nI_1, up_same, if_pos (show S3_count (mk3 (upd w l a) (l + 1) 0 adj noun) = nI (l + 1) from rfl), bo1]
    refine ⟨_, _, _, rfl, ⟨l + 1, adj, noun, rfl, by omega, up_same _ _ _, by omega, fun j hj => ?_⟩, fun j hj => up_ne _ _ hj⟩
    by_cases q : j = l
    · rw [q, up_same]; exact a2
    · rw [up_ne _ _ q]; exact hw j (by omega)
  · have e2 : l = 24 := by omega
    subst e2
    have nlt : ¬ nI 24 < 24 := by decide
    rw [if_pos (show nI 24 = 24 from rfl), if_neg nlt, bn3_s, if_neg (show ¬ (2 : Int32) = 0 by decide), if_neg (show ¬ (2 : Int32) = 1 by decide), if_neg (show ¬ (2 : Int32) = 0 by decide), bn2_s, if_pos rfl, bo1]
    exact ⟨_, _, _, rfl, ⟨24, adj, noun, rfl, by omega, hz, by omega, hw⟩, fun _ _ => rfl⟩
theorem ph_228 (s5 : S5) (a1 a4 : Int32) {s3 : S3} {z w : Nat → Int32} {p : Nat} {a : Int32} (h : SP s3 z w p) (ha : IW a) : OKs 1 z (fL_phrase_228 s5 a1 a4 s3 z w a) := by
  obtain ⟨s', z', w', e, h2, h3⟩ := l_adds s5 h ha
  unfold fL_phrase_228 fL_phrase_239
  rw [e, bn4_s, if_neg (show ¬ (1 : Int32) = 0 by decide), bo1]
  exact (OKs.st h2).tr h3
theorem ph_217 (s5 : S5) (a1 a4 : Int32) {s3 : S3} {z w : Nat → Int32} {p : Nat} (h : SP s3 z w p) : OKs 1 z (fL_phrase_217 s5 a1 a4 s3 z w) := by
  obtain ⟨r, hr, e⟩ := l_s2 (a1 >>> (12 &&& 31))
  unfold fL_phrase_217
  rw [e, bn1_s]
  exact ph_228 s5 a1 a4 h (iw_30 hr)
theorem iw_17 : IW 17 := iw_10 (j := 7) (by decide)
theorem iw_14 : IW 14 := iw_10 (j := 4) (by decide)
theorem iw_15 : IW 15 := iw_10 (j := 5) (by decide)
theorem iw_16 : IW 16 := iw_10 (j := 6) (by decide)
theorem iw_11 : IW 11 := iw_10 (j := 1) (by decide)
theorem iw_12 : IW 12 := iw_10 (j := 2) (by decide)
theorem iw_13 : IW 13 := iw_10 (j := 3) (by decide)
theorem iw_t : IW 10 := iw_10 (j := 0) (by decide)
theorem ph_196 (s5 : S5) (a1 a4 : Int32) {s3 : S3} {z w : Nat → Int32} {p : Nat} (h : SP s3 z w p) (x7 : Int32) : OKs 1 z (fL_phrase_196 s5 a1 a4 s3 z w x7) := by
  unfold fL_phrase_196
  by_cases c : x7 = 0
  · rw [if_pos c]; exact ph_217 s5 a1 a4 h
  · obtain ⟨r, hr, e⟩ := l_s3 (a1 >>> (14 &&& 31))
    rw [if_neg c, e, bn1_s]
    by_cases d : nI r = 0
    · rw [if_pos d]; exact ph_228 s5 a1 a4 h iw_17
    · rw [if_neg d]; exact ph_217 s5 a1 a4 h
theorem ph_182 (s5 : S5) (a1 a4 : Int32) {s3 : S3} {z w : Nat → Int32} {p : Nat} (h : SP s3 z w p) : OKs 1 z (fL_phrase_182 s5 a1 a4 s3 z w) := by
  obtain ⟨r, hr, e⟩ := l_s2 (a1 >>> (12 &&& 31))
  unfold fL_phrase_182
  rw [e, bn1_s]
  exact ph_228 s5 a1 a4 h (iw_40 hr)
theorem ph_156 (s5 : S5) (a1 a4 : Int32) {s3 : S3} {z w : Nat → Int32} {p : Nat} (h : SP s3 z w p) (x5 x7 : Int32) : OKs 1 z (fL_phrase_156 s5 a1 a4 s3 z w x5 1 x7) := by
  unfold fL_phrase_156
  rw [if_neg (show ¬ (1 : Int32) = 0 by decide)]
  by_cases c : a4 = 0
  · rw [if_pos c]
    by_cases d : x5 = 2
    · rw [if_pos d]; exact ph_182 s5 a1 a4 h
    · rw [if_neg d]
      by_cases f : 6 ≤ x5
      · rw [if_pos f]; exact ph_196 s5 a1 a4 h x7
      · rw [if_neg f]; exact ph_182 s5 a1 a4 h
  · rw [if_neg c]; exact ph_196 s5 a1 a4 h x7
theorem ph_117 (s5 : S5) (a1 a4 : Int32) {s3 : S3} {z w : Nat → Int32} {p : Nat} (h : SP s3 z w p) (x5 t0 : Int32) : OKs 1 z (fL_phrase_117 s5 a1 a4 s3 z w x5 1 t0) := by
  unfold fL_phrase_117 fL_phrase_154
  by_cases c : t0 = 0
  · rw [if_pos c]; exact ph_156 s5 a1 a4 h x5 t0
  · obtain ⟨r, hr, e⟩ := l_s2 (a1 >>> (9 &&& 31))
    obtain ⟨s', z', w', f, h2, h3⟩ := l_adds s5 h (iw_20 (j := r) (by omega))
    rw [if_neg c, if_neg (show ¬ (1 : Int32) = 0 by decide), e, bn1_s, f, bn4_s, if_neg (show ¬ (1 : Int32) = 0 by decide)]
    exact (ph_156 s5 a1 a4 h2 x5 t0).tr h3
theorem ph_101 (s5 : S5) (a1 a4 : Int32) {s3 : S3} {z w : Nat → Int32} {p : Nat} (h : SP s3 z w p) (x5 : Int32) : OKs 1 z (fL_phrase_101 s5 a1 a4 s3 z w x5 1) := by
  obtain ⟨r, hr, e⟩ := l_s2 (a1 >>> (7 &&& 31))
  unfold fL_phrase_101
  rw [e, bn1_s]
  by_cases c : nI r = 0
  · rw [if_pos c]; exact ph_117 s5 a1 a4 h x5 1
  · rw [if_neg c]; exact ph_117 s5 a1 a4 h x5 0
theorem ph_81 (s5 : S5) (a1 a4 : Int32) {s3 : S3} {z w : Nat → Int32} {p : Nat} (h : SP s3 z w p) (x5 : Int32) : OKs 1 z (fL_phrase_81 s5 a1 a4 s3 z w x5 1) := by
  obtain ⟨r, hr, e⟩ := l_s2 (a1 >>> (4 &&& 31))
  unfold fL_phrase_81
  rw [e, bn1_s]
  by_cases c : nI r = 0
  · obtain ⟨s', z', w', f, h2, h3⟩ := l_adds s5 h iw_t
    rw [if_pos c, f, bn4_s]
    exact (ph_101 s5 a1 a4 h2 x5).tr h3
  · rw [if_neg c]; exact ph_101 s5 a1 a4 h x5
theorem ph_62 (s5 : S5) (a1 a4 : Int32) {s3 : S3} {z w : Nat → Int32} {p : Nat} (h : SP s3 z w p) (x5 : Int32) : OKs 1 z (fL_phrase_62 s5 a1 a4 s3 z w x5) := by
  obtain ⟨s', z', w', f, h2, h3⟩ := l_adds s5 h iw_11
  unfold fL_phrase_62
  rw [f, bn4_s]
  by_cases c : x5 = 3
  · rw [if_pos c, bo1]; exact (OKs.st h2).tr h3
  · rw [if_neg c]; exact (ph_101 s5 a1 a4 h2 x5).tr h3
theorem ph_45 (s5 : S5) (a1 a4 : Int32) {s3 : S3} {z w : Nat → Int32} {p : Nat} (h : SP s3 z w p) (x5 : Int32) : OKs 1 z (fL_phrase_45 s5 a1 a4 s3 z w x5 1) := by
  unfold fL_phrase_45
  by_cases c : a4 = 0
  · rw [if_pos c]
    by_cases d : x5 = 2
    · rw [if_pos d]; exact ph_62 s5 a1 a4 h x5
    · rw [if_neg d]
      by_cases f : x5 = 3
      · rw [if_pos f]; exact ph_62 s5 a1 a4 h x5
      · rw [if_neg f]; exact ph_81 s5 a1 a4 h x5
  · rw [if_neg c]; exact ph_81 s5 a1 a4 h x5
/-- a phrase is drawn and said word by word -/
theorem l_phrase (s5 : S5) (a1 a4 : Int32) {s3 : S3} {z w : Nat → Int32} {p : Nat} (h : SP s3 z w p) : OKs 1 z (fL_phrase s3 s5 z w a1 a4) := by
  obtain ⟨r, hr, e⟩ := l_s12 a1
  unfold fL_phrase
  rw [e, bn1_s]
  by_cases c : nI r = 0
  · obtain ⟨s', z', w', f, h2, h3⟩ := l_adds s5 h iw_14
    rw [if_pos c, f, bn4_s, bo1]
    exact (OKs.st h2).tr h3
  · rw [if_neg c]
    by_cases d : a4 = 0
    · rw [if_pos d]
      by_cases g : nI r = 1
      · obtain ⟨s', z', w', f, h2, h3⟩ := l_adds s5 h iw_15
        rw [if_pos g, f, bn4_s, bo1]
        exact (OKs.st h2).tr h3
      · rw [if_neg g]; exact ph_45 s5 a1 a4 h _
    · rw [if_neg d]; exact ph_45 s5 a1 a4 h _
theorem sp_485 (L : Nat) (xs : Nat → Int32) (s5 : S5) (a2 : Int32) {s3 : S3} {z w : Nat → Int32} {p : Nat} (h : SP s3 z w p) (x5 x8 : Int32) : OKs 0 z (fL_speaks_485 L xs s5 a2 s3 z w x5 1 x8) := by
  unfold fL_speaks_485 fL_speaks_519 fL_speaks_524
  rw [if_neg (show ¬ (1 : Int32) = 0 by decide), bo1]
  by_cases c : x8 = 1
  · obtain ⟨r, hr, e⟩ := l_s8 (x5 >>> (10 &&& 31))
    obtain ⟨s', z', w', f, h2, h3⟩ := l_adds s5 h (iw_10 hr)
    rw [if_pos c, e, bn1_s, f, bn4_s, if_neg (show ¬ (1 : Int32) = 0 by decide), bo1]
    exact ((OKs.st h2).tr h3).lo
  · rw [if_neg c]; exact (OKs.st h).lo
theorem sp_435 (L : Nat) (xs : Nat → Int32) (s5 : S5) (a2 : Int32) {s3 : S3} {z w : Nat → Int32} (h : SP s3 z w 1) (x5 : Int32) : OKs 0 z (fL_speaks_435 L xs s5 a2 s3 z w x5 1) := by
  obtain ⟨r, hr, e⟩ := l_s12 (x5 >>> (15 &&& 31))
  unfold fL_speaks_435 fL_speaks_483
  rw [e, bn1_s]
  by_cases c : nI r = 0
  · obtain ⟨l, adj, noun, rfl, hl, hz, h1, hw⟩ := h
    have lt : 0 < nI l := nI_lt (a := 0) (b := l) (by omega) (by omega)
    have nle : ¬ nI l ≤ 0 := nI_ge (a := 0) (b := l) (by omega) (by omega)
    have sb : nI l - 1 = nI (l - 1) := pk_sub (a := l) (b := 1) h1
    have rm : fX3_removeLast (mk3 w l 0 adj noun) = some (w (l - 1), mk3 w (l - 1) 0 adj noun) := by
      unfold fX3_removeLast fX3_removeLast_16
      rw [show S3_count (mk3 w l 0 adj noun) = nI l from rfl, if_neg nle, if_pos (show nI l ≤ 24 from nI_le (a := l) (b := 24) hl (by decide)), sb, ai24 (by omega), cl_nI (by omega)]
      rfl
    have bk : fL_backed (mk3 w l 0 adj noun) s5 = some (w (l - 1), mk3 w (l - 1) 0 adj noun) := by
      unfold fL_backed fX5_back
      rw [show S3_count (mk3 w l 0 adj noun) = nI l from rfl, if_pos lt, rm, bn2_s, bn3_s, if_pos rfl, if_pos rfl]
    simp only [ai13_1, cl_1]
    rw [if_pos c, if_neg (show ¬ (1 : Int32) = 0 by decide), bk, bn2_s, hz, sb, up_same, ai24 (by omega), cl_nI (by omega), if_pos rfl]
    exact (sp_485 L xs s5 a2 (p := 0) ⟨l - 1, adj, noun, rfl, by omega, up_same _ _ _, Nat.zero_le _, fun j hj => hw j (by omega)⟩ x5 (nI r)).tr (fun j hj => up_ne _ _ hj)
  · rw [if_neg c]; exact sp_485 L xs s5 a2 h x5 _
theorem sp_374 (L : Nat) (xs : Nat → Int32) (s5 : S5) {b : Nat} (hb : b < 1000) {s3 : S3} {z w : Nat → Int32} (h : SP s3 z w 1) (x5 x7 : Int32) : OKs 0 z (fL_speaks_374 L xs s5 (nI b) s3 z w x5 1 x7) := by
  unfold fL_speaks_374 fL_speaks_433
  by_cases c : x7 = 2
  · obtain ⟨r, hr, e⟩ := l_s9 (x5 >>> (14 &&& 31))
    rw [if_pos c, e, bn1_s]
    by_cases d : nI r ≤ 0
    · rw [if_pos d]; exact sp_435 L xs s5 _ h x5
    · obtain ⟨s', z', w', f, h2, h3⟩ := l_adds s5 h iw_16
      obtain ⟨x, g⟩ := l_cell L xs (j := b + 4) (by omega)
      obtain ⟨s'', z'', w'', f2, h4, h5⟩ := l_phrase s5 x 1 h2
      rw [if_neg d, if_neg (show ¬ (1 : Int32) = 0 by decide), f, bn4_s, if_neg (show ¬ (1 : Int32) = 0 by decide), show nI b + 4 = nI (b + 4) from nI_add b 4, g, bn1_s, f2, bn4_s, if_neg (show ¬ (1 : Int32) = 0 by decide)]
      exact ((sp_435 L xs s5 _ h4 x5).tr h5).tr h3
  · rw [if_neg c]; exact sp_435 L xs s5 _ h x5
theorem sp_361 (L : Nat) (xs : Nat → Int32) (s5 : S5) {b : Nat} (hb : b < 1000) {s3 : S3} {z w : Nat → Int32} {p : Nat} (h : SP s3 z w p) (x5 x7 t1 t4 : Int32) : OKs 0 z (fL_speaks_361 L xs s5 (nI b) s3 z w x5 x7 t1 t4) := by
  obtain ⟨s', z', w', f, h2, h3⟩ := l_phrase s5 t1 t4 h
  unfold fL_speaks_361 fL_speaks_372
  rw [f, bn4_s, if_neg (show ¬ (1 : Int32) = 0 by decide)]
  exact (sp_374 L xs s5 hb h2 x5 x7).tr h3
theorem sp_302 (L : Nat) (xs : Nat → Int32) (s5 : S5) {b : Nat} (hb : b < 1000) {s3 : S3} {z w : Nat → Int32} (h : SP s3 z w 1) (x5 x7 : Int32) : OKs 0 z (fL_speaks_302 L xs s5 (nI b) s3 z w x5 x7 1) := by
  obtain ⟨r, hr, e⟩ := l_s2 (x5 >>> (11 &&& 31))
  unfold fL_speaks_302
  rw [e, bn1_s]
  by_cases c : nI r = 0
  · obtain ⟨s', z', w', f, h2, h3⟩ := l_adds s5 h iw_13
    obtain ⟨x, g⟩ := l_cell L xs (j := b + 3) (by omega)
    obtain ⟨r2, hr2, e2⟩ := l_s2 (x5 >>> (12 &&& 31))
    rw [if_pos c, if_neg (show ¬ (1 : Int32) = 0 by decide), f, bn4_s, if_neg (show ¬ (1 : Int32) = 0 by decide), show nI b + 3 = nI (b + 3) from nI_add b 3, g, bn1_s, e2, bn1_s]
    by_cases d : nI r2 = 0
    · rw [if_pos d]; exact (sp_361 L xs s5 hb h2 x5 x7 x 1).tr h3
    · rw [if_neg d]; exact (sp_361 L xs s5 hb h2 x5 x7 x 0).tr h3
  · rw [if_neg c]; exact sp_374 L xs s5 hb h x5 x7
theorem sp_291 (L : Nat) (xs : Nat → Int32) (s5 : S5) {b : Nat} (hb : b < 1000) {s3 : S3} {z w : Nat → Int32} {p : Nat} (h : SP s3 z w p) (x5 x7 t1 t4 : Int32) : OKs 0 z (fL_speaks_291 L xs s5 (nI b) s3 z w x5 x7 t1 t4) := by
  obtain ⟨s', z', w', f, h2, h3⟩ := l_phrase s5 t1 t4 h
  unfold fL_speaks_291
  rw [f, bn4_s, if_neg (show ¬ (1 : Int32) = 0 by decide)]
  exact (sp_302 L xs s5 hb h2 x5 x7).tr h3
theorem sp_257 (L : Nat) (xs : Nat → Int32) (s5 : S5) {b : Nat} (hb : b < 1000) {s3 : S3} {z w : Nat → Int32} {p : Nat} (h : SP s3 z w p) (x5 x7 : Int32) {t3 : Int32} (ht : IW t3) : OKs 0 z (fL_speaks_257 L xs s5 (nI b) s3 z w x5 x7 t3) := by
  obtain ⟨s', z', w', f, h2, h3⟩ := l_adds s5 h ht
  obtain ⟨x, g⟩ := l_cell L xs (j := b + 2) (by omega)
  obtain ⟨r2, hr2, e2⟩ := l_s2 (x5 >>> (9 &&& 31))
  unfold fL_speaks_257
  rw [f, bn4_s, if_neg (show ¬ (1 : Int32) = 0 by decide), show nI b + 2 = nI (b + 2) from nI_add b 2, g, bn1_s, e2, bn1_s]
  by_cases d : nI r2 = 0
  · rw [if_pos d]; exact (sp_291 L xs s5 hb h2 x5 x7 x 1).tr h3
  · rw [if_neg d]; exact (sp_291 L xs s5 hb h2 x5 x7 x 0).tr h3
theorem sp_215 (L : Nat) (xs : Nat → Int32) (s5 : S5) {b : Nat} (hb : b < 1000) {s3 : S3} {z w : Nat → Int32} (h : SP s3 z w 1) (x5 x7 : Int32) : OKs 0 z (fL_speaks_215 L xs s5 (nI b) s3 z w x5 x7 1) := by
  obtain ⟨r, hr, e⟩ := l_s3 (x5 >>> (6 &&& 31))
  unfold fL_speaks_215
  rw [e, bn1_s]
  by_cases c : nI r = 0
  · obtain ⟨r2, hr2, e2⟩ := l_s2 (x5 >>> (8 &&& 31))
    rw [if_pos c, if_neg (show ¬ (1 : Int32) = 0 by decide), e2, bn1_s]
    by_cases d : nI r2 = 0
    · rw [if_pos d]; exact sp_257 L xs s5 hb h x5 x7 iw_13
    · rw [if_neg d]; exact sp_257 L xs s5 hb h x5 x7 iw_12
  · rw [if_neg c]; exact sp_374 L xs s5 hb h x5 x7
theorem sp_170 (L : Nat) (xs : Nat → Int32) (s5 : S5) {b : Nat} (hb : b < 1000) {s3 : S3} {z w : Nat → Int32} {p : Nat} (h : SP s3 z w p) (x5 : Int32) : OKs 0 z (fL_speaks_170 L xs s5 (nI b) s3 z w x5) := by
  obtain ⟨r, hr, e⟩ := l_s5 (x5 >>> (3 &&& 31))
  obtain ⟨s', z', w', f, h2, h3⟩ := l_adds s5 h (iw_0 hr)
  obtain ⟨x, g⟩ := l_cell L xs (j := b + 1) (by omega)
  obtain ⟨s'', z'', w'', f2, h4, h5⟩ := l_phrase s5 x 0 h2
  unfold fL_speaks_170
  rw [e, bn1_s, f, bn4_s, if_neg (show ¬ (1 : Int32) = 0 by decide), nI_1, g, bn1_s, f2, bn4_s, if_neg (show ¬ (1 : Int32) = 0 by decide)]
  exact ((sp_215 L xs s5 hb h4 x5 _).tr h5).tr h3
theorem sp_158 (L : Nat) (xs : Nat → Int32) (s5 : S5) (a2 : Int32) {s3 : S3} {z w : Nat → Int32} {p : Nat} (h : SP s3 z w p) {t3 : Int32} (ht : IW t3) : OKs 0 z (fL_speaks_158 L xs s5 a2 s3 z w t3) := by
  obtain ⟨s', z', w', f, h2, h3⟩ := l_adds s5 h ht
  unfold fL_speaks_158 fL_speaks_164 fL_speaks_169
  rw [f, bn4_s, if_neg (show ¬ (1 : Int32) = 0 by decide), bo1]
  exact ((OKs.st h2).tr h3).lo
theorem sp_101 (L : Nat) (xs : Nat → Int32) (s5 : S5) (a2 : Int32) {s3 : S3} {z w : Nat → Int32} {p : Nat} (h : SP s3 z w p) (x7 : Int32) : OKs 0 z (fL_speaks_101 L xs s5 a2 s3 z w x7) := by
  obtain ⟨r, hr, e⟩ := l_s3 (x7 >>> (6 &&& 31))
  unfold fL_speaks_101 fL_speaks_106
  rw [if_neg (show ¬ (1 : Int32) = 0 by decide), e, bn1_s]
  by_cases c : nI r = 0
  · unfold fL_speaks_164 fL_speaks_169
    rw [if_pos c, bo1]
    exact (OKs.st h).lo
  · obtain ⟨r2, hr2, e2⟩ := l_s4 (x7 >>> (8 &&& 31))
    rw [if_neg c, e2, bn1_s]
    by_cases d : nI r2 = 0
    · rw [if_pos d]; exact sp_158 L xs s5 a2 h iw_17
    · obtain ⟨r3, hr3, e3⟩ := l_s2 (x7 >>> (8 &&& 31))
      rw [if_neg d, e3, bn1_s]
      exact sp_158 L xs s5 a2 h (iw_30 hr3)
theorem sp_57 (L : Nat) (xs : Nat → Int32) (s5 : S5) (a2 : Int32) {s3 : S3} {z w : Nat → Int32} {p : Nat} (h : SP s3 z w p) (x7 : Int32) : OKs 0 z (fL_speaks_57 L xs s5 a2 s3 z w x7) := by
  obtain ⟨r, hr, e⟩ := l_s2 (x7 >>> (2 &&& 31))
  unfold fL_speaks_57 fL_speaks_62
  rw [if_neg (show ¬ (1 : Int32) = 0 by decide), e, bn1_s]
  by_cases c : nI r = 0
  · rw [if_pos c]; exact sp_101 L xs s5 a2 h x7
  · obtain ⟨r2, hr2, e2⟩ := l_s3 (x7 >>> (4 &&& 31))
    obtain ⟨s', z', w', f, h2, h3⟩ := l_adds s5 h (iw_20 hr2)
    rw [if_neg c, e2, bn1_s, f, bn4_s, if_neg (show ¬ (1 : Int32) = 0 by decide)]
    exact (sp_101 L xs s5 a2 h2 x7).tr h3
/-- words are drawn and said, one by one -/
theorem l_speaks (L : Nat) (xs : Nat → Int32) (s5 : S5) {b : Nat} (hb : b < 1000) {s3 : S3} {z w : Nat → Int32} {p : Nat} (h : SP s3 z w p) : OKs 0 z (fL_speaks L xs s3 s5 z w (nI b)) := by
  obtain ⟨x, g⟩ := l_cell L xs (j := b) (by omega)
  unfold fL_speaks
  rw [g, bn1_s, ai13_9, cl_9]
  by_cases c : z 9 ≤ 0
  · rw [if_pos c]; exact sp_170 L xs s5 hb h x
  · obtain ⟨r, hr, e⟩ := l_s4 x
    rw [if_neg c, e, bn1_s]
    by_cases d : nI r ≤ 0
    · rw [if_pos d]; exact sp_170 L xs s5 hb h x
    · obtain ⟨x2, g2⟩ := l_cell L xs (j := b + 1) (by omega)
      obtain ⟨r2, hr2, e2⟩ := l_s3 x2
      rw [if_neg d, nI_1, g2, bn1_s, e2, bn1_s]
      by_cases k : 0 < nI r2
      · rw [if_pos k]; exact sp_57 L xs s5 _ h x2
      · obtain ⟨s', z', w', f, h2, h3⟩ := l_adds s5 h iw_t
        rw [if_neg k, f, bn4_s, if_neg (show ¬ (1 : Int32) = 0 by decide)]
        exact (sp_57 L xs s5 _ h2 x2).tr h3
