abbrev rmL_cell : Room := { frames := 0, cells := 0, slots := 0, locals := 0 }
set_option maxHeartbeats 4000000 in
set_option maxRecDepth 100000 in
theorem ktL_cell (l : Launch) (dC : Nat → ClassId) (dI : Nat → Nat → Nat) (b L : Nat) (xs : Nat → Int32) (sz : Nat) (a1 : Int32) (r : Int32) (hf : fL_cell L xs a1 = some r) : Met l yL_cell wsL_cell rmL_cell (va_Pc [.ref b, .int a1] (pre_l (XS b L xs) (dC, dI) ([] : va_W) [] sz)) (va_Qi (fun (r' : Int32) (_ : Unit) => r' = r) (post_w (dC, dI) ([] : va_W) [] (va_A ([] : va_W) sz)) (va_A ([] : va_W) sz)) 0 0 (va_A ([] : va_W) sz) := by
  refine gml (X := (XS b L xs)) (mc := 0) (ms := 0) (ty := .int) (cc := cL_cell) (maxL := 2) (by decide) rfl (Nat.le_of_ble_eq_true rfl) ?_
  intro p e s m below meth c A QQ ls hx hb hml hown hts hK hN hX hA hP hD hS hl hret
  have hXS : XS b L xs A s s.heap := hX
  have hown : s.vm.findClass RL = some m.cls := hown
  have hl : lv_has ls 2 [(0, .ref b), (1, .int a1)] := hl
  have J25 : ∀ (t0 : Int32) (H : Heap) (locs : List Loc), va_P (dC, dI) vwCl ([] : va_W) H → va_D A ([] : va_W) → va_S A s.heap H locs → ∀ (ls : Array Slot), lv_has ls 2 [] → fL_cell_25 L xs a1 t0 = some r → W p l e rmL_cell s m ([.ref b, .int a1] : List Value).toArray below meth c H locs (0) (0) QQ (F0 m 25 ls [.int t0]) := by
    intro t0 H locs hP hD hS ls hl hf
    unfold fL_cell_25 at hf
    have hf : (some t0 : Option (Int32)) = some r := hf
    have he := Option.some.inj hf
    have he0 : t0 = r := he
    exact hret _ _ _ _ _ _ rfl he0 rfl dL_cell_25 hP hD hS
  unfold fL_cell at hf
  refine lv_iload_n hx hb dL_cell_0 rfl (lv_at hl 1 rfl) ?_
  refine lv_aload_n hx hb dL_cell_1 rfl (lv_at hl 0 rfl) ?_
  refine va_slen hx hb hXS.1 hXS.2.1 hXS.2.2 hS dL_cell_2 ?_
  refine lv_icmp_ge (tgt := 12) hx hb dL_cell_3 (by decide) (fun c_1 => ?_) (fun c_1 => ?_)
  · have hf := it_t c_1 hf
    refine lv_ldc2 (v := 3935559001) hx hb hown (hts (.constantLong RL 7 (3935559001)) (by decide +kernel)) dL_cell_12 ?_
    refine lv_iload_n hx hb dL_cell_15 rfl (lv_at hl 1 rfl) ?_
    refine lv_bipush (v := 12) hx hb dL_cell_16 (by decide) ?_
    refine lv_iadd hx hb dL_cell_18 ?_
    refine lv_i2l (v := (a1 + 12).toInt64) hx hb dL_cell_19 rfl ?_
    refine lv_lmul hx hb dL_cell_20 ?_
    refine lv_bipush (v := 8) hx hb dL_cell_21 (by decide) ?_
    refine lv_lushr (v := ((((3935559001 : Int64) * ((a1 + 12).toInt64)).toUInt64 >>> ((8 : Int32).toInt64.toUInt64 &&& Int64.toUInt64 63)).toInt64)) hx hb dL_cell_23 rfl ?_
    refine lv_l2i (v := ((((3935559001 : Int64) * ((a1 + 12).toInt64)).toUInt64 >>> ((8 : Int32).toInt64.toUInt64 &&& Int64.toUInt64 63)).toInt64).toInt32) hx hb dL_cell_24 rfl ?_
    exact J25 (((((3935559001 : Int64) * ((a1 + 12).toInt64)).toUInt64 >>> ((8 : Int32).toInt64.toUInt64 &&& Int64.toUInt64 63)).toInt64).toInt32) _ _ hP hD hS _ (lv_sub hl [] rfl) hf
  · have hf := it_f c_1 hf
    refine lv_aload_n hx hb dL_cell_6 rfl (lv_at hl 0 rfl) ?_
    refine lv_iload_n hx hb dL_cell_7 rfl (lv_at hl 1 rfl) ?_
    obtain ⟨hi_2, hf⟩ := ai_ok hf
    refine va_sld hx hb hXS.1 hXS.2.1 hXS.2.2 hS hi_2 dL_cell_8 ?_
    refine lv_goto (tgt := 25) hx hb dL_cell_9 (by decide) ?_
    exact J25 (xs a1.toNatClampNeg) _ _ hP hD hS _ (lv_sub hl [] rfl) hf
abbrev rmL_some : Room := { frames := 0, cells := 0, slots := 0, locals := 0 }
set_option maxHeartbeats 4000000 in
set_option maxRecDepth 100000 in
theorem ktL_some (l : Launch) (dC : Nat → ClassId) (dI : Nat → Nat → Nat) (sz : Nat) (a0 : Int32) (a1 : Int32) (r : Int32) (hf : fL_some a0 a1 = some r) : Met l yL_some wsL_some rmL_some (va_Pc [.int a0, .int a1] (pre_w (dC, dI) ([] : va_W) [] sz)) (va_Qi (fun (r' : Int32) (_ : Unit) => r' = r) (post_w (dC, dI) ([] : va_W) [] (va_A ([] : va_W) sz)) (va_A ([] : va_W) sz)) 0 0 (va_A ([] : va_W) sz) := by
  refine gmw (mc := 0) (ms := 0) (ty := .int) (cc := cL_some) (maxL := 2) (by decide) rfl (Nat.le_of_ble_eq_true rfl) ?_
  intro p e s m below meth c A QQ ls hx hb hml hown hts hK hN hA hP hD hS hl hret
  have hown : s.vm.findClass RL = some m.cls := hown
  have hl : lv_has ls 2 [(0, .int a0), (1, .int a1)] := hl
  unfold fL_some at hf
  refine lv_iload_n hx hb dL_some_0 rfl (lv_at hl 0 rfl) ?_
  refine lv_iconst (v := 2) hx hb dL_some_1 (by decide) ?_
  refine lv_iushr (v := (a0.toUInt32 >>> ((2 : Int32).toUInt32 &&& Int32.toUInt32 31)).toInt32) hx hb dL_some_2 rfl ?_
  refine lv_iload_n hx hb dL_some_3 rfl (lv_at hl 1 rfl) ?_
  obtain ⟨hz_1, hf⟩ := nz_ok hf
  refine lv_irem hx hb dL_some_4 hz_1 ?_
  have hf : (some (((a0.toUInt32 >>> ((2 : Int32).toUInt32 &&& Int32.toUInt32 31)).toInt32) - ((a0.toUInt32 >>> ((2 : Int32).toUInt32 &&& Int32.toUInt32 31)).toInt32) / a1 * a1) : Option (Int32)) = some r := hf
  have he := Option.some.inj hf
  have he0 : (((a0.toUInt32 >>> ((2 : Int32).toUInt32 &&& Int32.toUInt32 31)).toInt32) - ((a0.toUInt32 >>> ((2 : Int32).toUInt32 &&& Int32.toUInt32 31)).toInt32) / a1 * a1) = r := he
  exact hret _ _ _ _ _ _ rfl he0 rfl dL_some_5 hP hD hS
abbrev rmL_isAdjective : Room := { frames := 0, cells := 0, slots := 0, locals := 0 }
set_option maxHeartbeats 4000000 in
set_option maxRecDepth 100000 in
theorem ktL_isAdjective (l : Launch) (dC : Nat → ClassId) (dI : Nat → Nat → Nat) (sz : Nat) (a0 : Int32) (r : Int32) (hf : fL_isAdjective a0 = some r) : Met l yL_isAdjective wsL_isAdjective rmL_isAdjective (va_Pc [.int a0] (pre_w (dC, dI) ([] : va_W) [] sz)) (va_Qi (fun (r' : Int32) (_ : Unit) => r' = r) (post_w (dC, dI) ([] : va_W) [] (va_A ([] : va_W) sz)) (va_A ([] : va_W) sz)) 0 0 (va_A ([] : va_W) sz) := by
  refine gmw (mc := 0) (ms := 0) (ty := .boolean) (cc := cL_isAdjective) (maxL := 1) (by decide) rfl (Nat.le_of_ble_eq_true rfl) ?_
  intro p e s m below meth c A QQ ls hx hb hml hown hts hK hN hA hP hD hS hl hret
  have hown : s.vm.findClass RL = some m.cls := hown
  have hl : lv_has ls 1 [(0, .int a0)] := hl
  have J17 : ∀ (t0 : Int32) (H : Heap) (locs : List Loc), va_P (dC, dI) vwCl ([] : va_W) H → va_D A ([] : va_W) → va_S A s.heap H locs → ∀ (ls : Array Slot), lv_has ls 1 [] → fL_isAdjective_17 a0 t0 = some r → W p l e rmL_isAdjective s m ([.int a0] : List Value).toArray below meth c H locs (0) (0) QQ (F0 m 17 ls [.int t0]) := by
    intro t0 H locs hP hD hS ls hl hf
    unfold fL_isAdjective_17 at hf
    obtain ⟨hz_1, hf⟩ := bo_ok hf
    have hf : (some t0 : Option (Int32)) = some r := hf
    have he := Option.some.inj hf
    have he0 : t0 = r := he
    exact hret _ _ _ _ _ _ hz_1 he0 rfl dL_isAdjective_17 hP hD hS
  have J16 : ∀ (H : Heap) (locs : List Loc), va_P (dC, dI) vwCl ([] : va_W) H → va_D A ([] : va_W) → va_S A s.heap H locs → ∀ (ls : Array Slot), lv_has ls 1 [] → fL_isAdjective_16 a0 = some r → W p l e rmL_isAdjective s m ([.int a0] : List Value).toArray below meth c H locs (0) (0) QQ (F0 m 16 ls []) := by
    intro H locs hP hD hS ls hl hf
    unfold fL_isAdjective_16 at hf
    refine lv_iconst (v := 0) hx hb dL_isAdjective_16 (by decide) ?_
    exact J17 0 _ _ hP hD hS _ (lv_sub hl [] rfl) hf
  unfold fL_isAdjective at hf
  refine lv_iload_n hx hb dL_isAdjective_0 rfl (lv_at hl 0 rfl) ?_
  refine lv_bipush (v := 19) hx hb dL_isAdjective_1 (by decide) ?_
  refine lv_icmp_le (tgt := 16) hx hb dL_isAdjective_3 (by decide) (fun c_1 => ?_) (fun c_1 => ?_)
  · have hf := it_t c_1 hf
    exact J16 _ _ hP hD hS _ (lv_sub hl [] rfl) hf
  · have hf := it_f c_1 hf
    refine lv_iload_n hx hb dL_isAdjective_6 rfl (lv_at hl 0 rfl) ?_
    refine lv_bipush (v := 26) hx hb dL_isAdjective_7 (by decide) ?_
    refine lv_icmp_ge (tgt := 16) hx hb dL_isAdjective_9 (by decide) (fun c_2 => ?_) (fun c_2 => ?_)
    · have hf := it_t c_2 hf
      exact J16 _ _ hP hD hS _ (lv_sub hl [] rfl) hf
    · have hf := it_f c_2 hf
      refine lv_iconst (v := 1) hx hb dL_isAdjective_12 (by decide) ?_
      refine lv_goto (tgt := 17) hx hb dL_isAdjective_13 (by decide) ?_
      exact J17 1 _ _ hP hD hS _ (lv_sub hl [] rfl) hf
abbrev rmL_isNoun : Room := { frames := 0, cells := 0, slots := 0, locals := 0 }
set_option maxHeartbeats 4000000 in
set_option maxRecDepth 100000 in
theorem ktL_isNoun (l : Launch) (dC : Nat → ClassId) (dI : Nat → Nat → Nat) (sz : Nat) (a0 : Int32) (r : Int32) (hf : fL_isNoun a0 = some r) : Met l yL_isNoun wsL_isNoun rmL_isNoun (va_Pc [.int a0] (pre_w (dC, dI) ([] : va_W) [] sz)) (va_Qi (fun (r' : Int32) (_ : Unit) => r' = r) (post_w (dC, dI) ([] : va_W) [] (va_A ([] : va_W) sz)) (va_A ([] : va_W) sz)) 0 0 (va_A ([] : va_W) sz) := by
  refine gmw (mc := 0) (ms := 0) (ty := .boolean) (cc := cL_isNoun) (maxL := 1) (by decide) rfl (Nat.le_of_ble_eq_true rfl) ?_
  intro p e s m below meth c A QQ ls hx hb hml hown hts hK hN hA hP hD hS hl hret
  have hown : s.vm.findClass RL = some m.cls := hown
  have hl : lv_has ls 1 [(0, .int a0)] := hl
  have J17 : ∀ (t0 : Int32) (H : Heap) (locs : List Loc), va_P (dC, dI) vwCl ([] : va_W) H → va_D A ([] : va_W) → va_S A s.heap H locs → ∀ (ls : Array Slot), lv_has ls 1 [] → fL_isNoun_17 a0 t0 = some r → W p l e rmL_isNoun s m ([.int a0] : List Value).toArray below meth c H locs (0) (0) QQ (F0 m 17 ls [.int t0]) := by
    intro t0 H locs hP hD hS ls hl hf
    unfold fL_isNoun_17 at hf
    obtain ⟨hz_1, hf⟩ := bo_ok hf
    have hf : (some t0 : Option (Int32)) = some r := hf
    have he := Option.some.inj hf
    have he0 : t0 = r := he
    exact hret _ _ _ _ _ _ hz_1 he0 rfl dL_isNoun_17 hP hD hS
  have J16 : ∀ (H : Heap) (locs : List Loc), va_P (dC, dI) vwCl ([] : va_W) H → va_D A ([] : va_W) → va_S A s.heap H locs → ∀ (ls : Array Slot), lv_has ls 1 [] → fL_isNoun_16 a0 = some r → W p l e rmL_isNoun s m ([.int a0] : List Value).toArray below meth c H locs (0) (0) QQ (F0 m 16 ls []) := by
    intro H locs hP hD hS ls hl hf
    unfold fL_isNoun_16 at hf
    refine lv_iconst (v := 0) hx hb dL_isNoun_16 (by decide) ?_
    exact J17 0 _ _ hP hD hS _ (lv_sub hl [] rfl) hf
  unfold fL_isNoun at hf
  refine lv_iload_n hx hb dL_isNoun_0 rfl (lv_at hl 0 rfl) ?_
  refine lv_bipush (v := 29) hx hb dL_isNoun_1 (by decide) ?_
  refine lv_icmp_le (tgt := 16) hx hb dL_isNoun_3 (by decide) (fun c_1 => ?_) (fun c_1 => ?_)
  · have hf := it_t c_1 hf
    exact J16 _ _ hP hD hS _ (lv_sub hl [] rfl) hf
  · have hf := it_f c_1 hf
    refine lv_iload_n hx hb dL_isNoun_6 rfl (lv_at hl 0 rfl) ?_
    refine lv_bipush (v := 38) hx hb dL_isNoun_7 (by decide) ?_
    refine lv_icmp_ge (tgt := 16) hx hb dL_isNoun_9 (by decide) (fun c_2 => ?_) (fun c_2 => ?_)
    · have hf := it_t c_2 hf
      exact J16 _ _ hP hD hS _ (lv_sub hl [] rfl) hf
    · have hf := it_f c_2 hf
      refine lv_iconst (v := 1) hx hb dL_isNoun_12 (by decide) ?_
      refine lv_goto (tgt := 17) hx hb dL_isNoun_13 (by decide) ?_
      exact J17 1 _ _ hP hD hS _ (lv_sub hl [] rfl) hf
abbrev rmL_isPlural : Room := { frames := 0, cells := 0, slots := 0, locals := 0 }
set_option maxHeartbeats 4000000 in
set_option maxRecDepth 100000 in
theorem ktL_isPlural (l : Launch) (dC : Nat → ClassId) (dI : Nat → Nat → Nat) (sz : Nat) (a0 : Int32) (r : Int32) (hf : fL_isPlural a0 = some r) : Met l yL_isPlural wsL_isPlural rmL_isPlural (va_Pc [.int a0] (pre_w (dC, dI) ([] : va_W) [] sz)) (va_Qi (fun (r' : Int32) (_ : Unit) => r' = r) (post_w (dC, dI) ([] : va_W) [] (va_A ([] : va_W) sz)) (va_A ([] : va_W) sz)) 0 0 (va_A ([] : va_W) sz) := by
  refine gmw (mc := 0) (ms := 0) (ty := .boolean) (cc := cL_isPlural) (maxL := 1) (by decide) rfl (Nat.le_of_ble_eq_true rfl) ?_
  intro p e s m below meth c A QQ ls hx hb hml hown hts hK hN hA hP hD hS hl hret
  have hown : s.vm.findClass RL = some m.cls := hown
  have hl : lv_has ls 1 [(0, .int a0)] := hl
  have J17 : ∀ (t0 : Int32) (H : Heap) (locs : List Loc), va_P (dC, dI) vwCl ([] : va_W) H → va_D A ([] : va_W) → va_S A s.heap H locs → ∀ (ls : Array Slot), lv_has ls 1 [] → fL_isPlural_17 a0 t0 = some r → W p l e rmL_isPlural s m ([.int a0] : List Value).toArray below meth c H locs (0) (0) QQ (F0 m 17 ls [.int t0]) := by
    intro t0 H locs hP hD hS ls hl hf
    unfold fL_isPlural_17 at hf
    obtain ⟨hz_1, hf⟩ := bo_ok hf
    have hf : (some t0 : Option (Int32)) = some r := hf
    have he := Option.some.inj hf
    have he0 : t0 = r := he
    exact hret _ _ _ _ _ _ hz_1 he0 rfl dL_isPlural_17 hP hD hS
  have J16 : ∀ (H : Heap) (locs : List Loc), va_P (dC, dI) vwCl ([] : va_W) H → va_D A ([] : va_W) → va_S A s.heap H locs → ∀ (ls : Array Slot), lv_has ls 1 [] → fL_isPlural_16 a0 = some r → W p l e rmL_isPlural s m ([.int a0] : List Value).toArray below meth c H locs (0) (0) QQ (F0 m 16 ls []) := by
    intro H locs hP hD hS ls hl hf
    unfold fL_isPlural_16 at hf
    refine lv_iconst (v := 0) hx hb dL_isPlural_16 (by decide) ?_
    exact J17 0 _ _ hP hD hS _ (lv_sub hl [] rfl) hf
  unfold fL_isPlural at hf
  refine lv_iload_n hx hb dL_isPlural_0 rfl (lv_at hl 0 rfl) ?_
  refine lv_bipush (v := 39) hx hb dL_isPlural_1 (by decide) ?_
  refine lv_icmp_le (tgt := 16) hx hb dL_isPlural_3 (by decide) (fun c_1 => ?_) (fun c_1 => ?_)
  · have hf := it_t c_1 hf
    exact J16 _ _ hP hD hS _ (lv_sub hl [] rfl) hf
  · have hf := it_f c_1 hf
    refine lv_iload_n hx hb dL_isPlural_6 rfl (lv_at hl 0 rfl) ?_
    refine lv_bipush (v := 48) hx hb dL_isPlural_7 (by decide) ?_
    refine lv_icmp_ge (tgt := 16) hx hb dL_isPlural_9 (by decide) (fun c_2 => ?_) (fun c_2 => ?_)
    · have hf := it_t c_2 hf
      exact J16 _ _ hP hD hS _ (lv_sub hl [] rfl) hf
    · have hf := it_f c_2 hf
      refine lv_iconst (v := 1) hx hb dL_isPlural_12 (by decide) ?_
      refine lv_goto (tgt := 17) hx hb dL_isPlural_13 (by decide) ?_
      exact J17 1 _ _ hP hD hS _ (lv_sub hl [] rfl) hf
abbrev rmL_bits : Room := { frames := 0, cells := 0, slots := 0, locals := 0 }
set_option maxHeartbeats 4000000 in
set_option maxRecDepth 100000 in
theorem ktL_bits (l : Launch) (dC : Nat → ClassId) (dI : Nat → Nat → Nat) (sz : Nat) (a0 : Int32) (r : Int32) (hf : fL_bits a0 = some r) : Met l yL_bits wsL_bits rmL_bits (va_Pc [.int a0] (pre_w (dC, dI) ([] : va_W) [] sz)) (va_Qi (fun (r' : Int32) (_ : Unit) => r' = r) (post_w (dC, dI) ([] : va_W) [] (va_A ([] : va_W) sz)) (va_A ([] : va_W) sz)) 0 0 (va_A ([] : va_W) sz) := by
  refine gmw (mc := 0) (ms := 0) (ty := .int) (cc := cL_bits) (maxL := 3) (by decide) rfl (Nat.le_of_ble_eq_true rfl) ?_
  intro p e s m below meth c A QQ ls hx hb hml hown hts hK hN hA hP hD hS hl hret
  have hown : s.vm.findClass RL = some m.cls := hown
  have hl : lv_has ls 3 [(0, .int a0)] := hl
  have J4 : ∀ (n : Nat) (x1 : Int32) (x2 : Int32) (H : Heap) (locs : List Loc), va_P (dC, dI) vwCl ([] : va_W) H → va_D A ([] : va_W) → va_S A s.heap H locs → ∀ (ls : Array Slot), lv_has ls 3 [(0, .int a0), (1, .int x1), (2, .int x2)] → fL_bits_4 a0 n x1 x2 = some r → W p l e rmL_bits s m ([.int a0] : List Value).toArray below meth c H locs (0) (0) QQ (F0 m 4 ls []) := by
    intro n
    induction n with
    | zero =>
      intro x1 x2 H locs hP hD hS ls hl hf
      cases hf
    | succ n ih =>
      intro x1 x2 H locs hP hD hS ls hl hf
      rw [fL_bits_4] at hf
      refine lv_iload_n hx hb dL_bits_4 rfl (lv_at hl 2 rfl) ?_
      refine lv_bipush (v := 6) hx hb dL_bits_5 (by decide) ?_
      refine lv_icmp_ge (tgt := 24) hx hb dL_bits_7 (by decide) (fun c_1 => ?_) (fun c_1 => ?_)
      · have hf := it_t c_1 hf
        refine lv_iload_n hx hb dL_bits_24 rfl (lv_at hl 1 rfl) ?_
        have hf : (some x1 : Option (Int32)) = some r := hf
        have he := Option.some.inj hf
        have he0 : x1 = r := he
        exact hret _ _ _ _ _ _ rfl he0 rfl dL_bits_25 hP hD hS
      · have hf := it_f c_1 hf
        refine lv_iload_n hx hb dL_bits_10 rfl (lv_at hl 1 rfl) ?_
        refine lv_iload_n hx hb dL_bits_11 rfl (lv_at hl 0 rfl) ?_
        refine lv_iload_n hx hb dL_bits_12 rfl (lv_at hl 2 rfl) ?_
        refine lv_ishr hx hb dL_bits_13 ?_
        refine lv_iconst (v := 1) hx hb dL_bits_14 (by decide) ?_
        refine lv_iand hx hb dL_bits_15 ?_
        refine lv_iadd hx hb dL_bits_16 ?_
        refine lv_istore_n (lv' := [(1, .int (x1 + ((a0 >>> (x2 &&& 31)) &&& 1))), (0, .int a0), (2, .int x2)]) hx hb dL_bits_17 rfl hl (by decide) rfl (fun ls hl => ?_)
        refine lv_iinc (v := (x2 + 1)) (lv' := [(2, .int (x2 + 1)), (1, .int (x1 + ((a0 >>> (x2 &&& 31)) &&& 1))), (0, .int a0)]) hx hb dL_bits_18 hl (k := 2) rfl rfl (by decide) rfl (fun ls hl => ?_)
        refine lv_goto (tgt := 4) hx hb dL_bits_21 (by decide) ?_
        exact ih (x1 + ((a0 >>> (x2 &&& 31)) &&& 1)) (x2 + 1) _ _ hP hD hS _ (lv_sub hl [2, 1, 0] rfl) hf
  unfold fL_bits at hf
  refine lv_iconst (v := 0) hx hb dL_bits_0 (by decide) ?_
  refine lv_istore_n (lv' := [(1, .int 0), (0, .int a0)]) hx hb dL_bits_1 rfl hl (by decide) rfl (fun ls hl => ?_)
  refine lv_iconst (v := 0) hx hb dL_bits_2 (by decide) ?_
  refine lv_istore_n (lv' := [(2, .int 0), (1, .int 0), (0, .int a0)]) hx hb dL_bits_3 rfl hl (by decide) rfl (fun ls hl => ?_)
  exact J4 64 0 0 _ _ hP hD hS _ (lv_sub hl [2, 1, 0] rfl) hf
abbrev rmL_only : Room := { frames := 0, cells := 0, slots := 0, locals := 0 }
set_option maxHeartbeats 4000000 in
set_option maxRecDepth 100000 in
theorem ktL_only (l : Launch) (dC : Nat → ClassId) (dI : Nat → Nat → Nat) (sz : Nat) (a0 : Int32) (r : Int32) (hf : fL_only a0 = some r) : Met l yL_only wsL_only rmL_only (va_Pc [.int a0] (pre_w (dC, dI) ([] : va_W) [] sz)) (va_Qi (fun (r' : Int32) (_ : Unit) => r' = r) (post_w (dC, dI) ([] : va_W) [] (va_A ([] : va_W) sz)) (va_A ([] : va_W) sz)) 0 0 (va_A ([] : va_W) sz) := by
  refine gmw (mc := 0) (ms := 0) (ty := .int) (cc := cL_only) (maxL := 3) (by decide) rfl (Nat.le_of_ble_eq_true rfl) ?_
  intro p e s m below meth c A QQ ls hx hb hml hown hts hK hN hA hP hD hS hl hret
  have hown : s.vm.findClass RL = some m.cls := hown
  have hl : lv_has ls 3 [(0, .int a0)] := hl
  have J24 : ∀ (k4 : Int32 → Int32 → Option (Int32)) (hk4 : ∀ (x1 : Int32) (x2 : Int32) (H : Heap) (locs : List Loc), va_P (dC, dI) vwCl ([] : va_W) H → va_D A ([] : va_W) → va_S A s.heap H locs → ∀ (ls : Array Slot), lv_has ls 3 [(0, .int a0), (1, .int x1), (2, .int x2)] → k4 x1 x2 = some r → W p l e rmL_only s m ([.int a0] : List Value).toArray below meth c H locs (0) (0) QQ (F0 m 4 ls [])) (x2 : Int32) (t0 : Int32) (H : Heap) (locs : List Loc), va_P (dC, dI) vwCl ([] : va_W) H → va_D A ([] : va_W) → va_S A s.heap H locs → ∀ (ls : Array Slot), lv_has ls 3 [(0, .int a0), (2, .int x2)] → fL_only_24 a0 k4 x2 t0 = some r → W p l e rmL_only s m ([.int a0] : List Value).toArray below meth c H locs (0) (0) QQ (F0 m 24 ls [.int t0]) := by
    intro k4 hk4 x2 t0 H locs hP hD hS ls hl hf
    unfold fL_only_24 at hf
    refine lv_istore_n (lv' := [(1, .int t0), (0, .int a0), (2, .int x2)]) hx hb dL_only_24 rfl hl (by decide) rfl (fun ls hl => ?_)
    refine lv_iinc (v := (x2 + 1)) (lv' := [(2, .int (x2 + 1)), (1, .int t0), (0, .int a0)]) hx hb dL_only_25 hl (k := 2) rfl rfl (by decide) rfl (fun ls hl => ?_)
    refine lv_goto (tgt := 4) hx hb dL_only_28 (by decide) ?_
    exact hk4 t0 (x2 + 1) _ _ hP hD hS _ (lv_sub hl [2, 1, 0] rfl) hf
  have J4 : ∀ (n : Nat) (x1 : Int32) (x2 : Int32) (H : Heap) (locs : List Loc), va_P (dC, dI) vwCl ([] : va_W) H → va_D A ([] : va_W) → va_S A s.heap H locs → ∀ (ls : Array Slot), lv_has ls 3 [(0, .int a0), (1, .int x1), (2, .int x2)] → fL_only_4 a0 n x1 x2 = some r → W p l e rmL_only s m ([.int a0] : List Value).toArray below meth c H locs (0) (0) QQ (F0 m 4 ls []) := by
    intro n
    induction n with
    | zero =>
      intro x1 x2 H locs hP hD hS ls hl hf
      cases hf
    | succ n ih =>
      intro x1 x2 H locs hP hD hS ls hl hf
      rw [fL_only_4] at hf
      refine lv_iload_n hx hb dL_only_4 rfl (lv_at hl 2 rfl) ?_
      refine lv_bipush (v := 6) hx hb dL_only_5 (by decide) ?_
      refine lv_icmp_ge (tgt := 31) hx hb dL_only_7 (by decide) (fun c_1 => ?_) (fun c_1 => ?_)
      · have hf := it_t c_1 hf
        refine lv_iload_n hx hb dL_only_31 rfl (lv_at hl 1 rfl) ?_
        have hf : (some x1 : Option (Int32)) = some r := hf
        have he := Option.some.inj hf
        have he0 : x1 = r := he
        exact hret _ _ _ _ _ _ rfl he0 rfl dL_only_32 hP hD hS
      · have hf := it_f c_1 hf
        refine lv_iload_n hx hb dL_only_10 rfl (lv_at hl 0 rfl) ?_
        refine lv_iload_n hx hb dL_only_11 rfl (lv_at hl 2 rfl) ?_
        refine lv_ishr hx hb dL_only_12 ?_
        refine lv_iconst (v := 1) hx hb dL_only_13 (by decide) ?_
        refine lv_iand hx hb dL_only_14 ?_
        refine lv_iconst (v := 1) hx hb dL_only_15 (by decide) ?_
        refine lv_icmp_ne (tgt := 23) hx hb dL_only_16 (by decide) (fun c_2 => ?_) (fun c_2 => ?_)
        · have hf := it_f c_2 hf
          refine lv_iload_n hx hb dL_only_23 rfl (lv_at hl 1 rfl) ?_
          exact J24 (fun x1 x2 => fL_only_4 a0 n x1 x2) (fun x1 x2 H locs hP hD hS ls hl hf => ih x1 x2 H locs hP hD hS ls hl hf) x2 x1 _ _ hP hD hS _ (lv_sub hl [0, 2] rfl) hf
        · have hf := it_t c_2 hf
          refine lv_iload_n hx hb dL_only_19 rfl (lv_at hl 2 rfl) ?_
          refine lv_goto (tgt := 24) hx hb dL_only_20 (by decide) ?_
          exact J24 (fun x1 x2 => fL_only_4 a0 n x1 x2) (fun x1 x2 H locs hP hD hS ls hl hf => ih x1 x2 H locs hP hD hS ls hl hf) x2 x2 _ _ hP hD hS _ (lv_sub hl [0, 2] rfl) hf
  unfold fL_only at hf
  refine lv_iconst (v := (-1)) hx hb dL_only_0 (by decide) ?_
  refine lv_istore_n (lv' := [(1, .int (-1)), (0, .int a0)]) hx hb dL_only_1 rfl hl (by decide) rfl (fun ls hl => ?_)
  refine lv_iconst (v := 0) hx hb dL_only_2 (by decide) ?_
  refine lv_istore_n (lv' := [(2, .int 0), (1, .int (-1)), (0, .int a0)]) hx hb dL_only_3 rfl hl (by decide) rfl (fun ls hl => ?_)
  exact J4 64 (-1) 0 _ _ hP hD hS _ (lv_sub hl [2, 1, 0] rfl) hf
abbrev rmL_reach : Room := { frames := 0, cells := 0, slots := 0, locals := 0 }
set_option maxHeartbeats 4000000 in
set_option maxRecDepth 100000 in
theorem ktL_reach (l : Launch) (dC : Nat → ClassId) (dI : Nat → Nat → Nat) (cI : ClassId) (hyt hyz : Nat) (sz : Nat) (syt : Syt) (syz : Syz) (r : Int32) (hf : fL_reach syt syz = some r) : Met l yL_reach wsL_reach rmL_reach (va_Pc [.ref hyt, .ref hyz] (pre_w (dC, dI) (cf_ytyz cI hyt hyz syt syz) [(cI, .int)] sz)) (va_Qi (fun (r' : Int32) (_ : Unit) => r' = r) (post_w (dC, dI) (cf_ytyz cI hyt hyz syt syz) [(cI, .int)] (va_A (cf_ytyz cI hyt hyz syt syz) sz)) (va_A (cf_ytyz cI hyt hyz syt syz) sz)) 0 0 (va_A (cf_ytyz cI hyt hyz syt syz) sz) := by
  refine gmw (mc := 0) (ms := 0) (ty := .int) (cc := cL_reach) (maxL := 6) (by decide) rfl (Nat.le_of_ble_eq_true rfl) ?_
  intro p e s m below meth c A QQ ls hx hb hml hown hts hK hN hA hP hD hS hl hret
  have hown : s.vm.findClass RL = some m.cls := hown
  have hl : lv_has ls 6 [(0, .ref hyt), (1, .ref hyz)] := hl
  have J65 : ∀ (k4 : Int32 → Int32 → Option (Int32)) (hk4 : ∀ (x2 : Int32) (x3 : Int32) (H : Heap) (locs : List Loc), va_P (dC, dI) vwCl (cf_ytyz cI hyt hyz syt syz) H → va_D A (cf_ytyz cI hyt hyz syt syz) → va_S A s.heap H locs → ∀ (ls : Array Slot), lv_has ls 6 [(0, .ref hyt), (1, .ref hyz), (2, .int x2), (3, .int x3)] → k4 x2 x3 = some r → W p l e rmL_reach s m ([.ref hyt, .ref hyz] : List Value).toArray below meth c H locs (0) (0) QQ (F0 m 4 ls [])) (k13 : Int32 → Int32 → Int32 → Option (Int32)) (hk13 : ∀ (x2 : Int32) (x3 : Int32) (x4 : Int32) (H : Heap) (locs : List Loc), va_P (dC, dI) vwCl (cf_ytyz cI hyt hyz syt syz) H → va_D A (cf_ytyz cI hyt hyz syt syz) → va_S A s.heap H locs → ∀ (ls : Array Slot), lv_has ls 6 [(0, .ref hyt), (1, .ref hyz), (2, .int x2), (3, .int x3), (4, .int x4)] → k13 x2 x3 x4 = some r → W p l e rmL_reach s m ([.ref hyt, .ref hyz] : List Value).toArray below meth c H locs (0) (0) QQ (F0 m 13 ls [])) (x3 : Int32) (x4 : Int32) (t0 : Int32) (t1 : Int32) (H : Heap) (locs : List Loc), va_P (dC, dI) vwCl (cf_ytyz cI hyt hyz syt syz) H → va_D A (cf_ytyz cI hyt hyz syt syz) → va_S A s.heap H locs → ∀ (ls : Array Slot), lv_has ls 6 [(0, .ref hyt), (1, .ref hyz), (3, .int x3), (4, .int x4)] → fL_reach_65 syt syz k4 k13 x3 x4 t0 t1 = some r → W p l e rmL_reach s m ([.ref hyt, .ref hyz] : List Value).toArray below meth c H locs (0) (0) QQ (F0 m 65 ls [.int t1, .int t0]) := by
    intro k4 hk4 k13 hk13 x3 x4 t0 t1 H locs hP hD hS ls hl hf
    unfold fL_reach_65 at hf
    refine lv_ior hx hb dL_reach_65 ?_
    refine lv_istore_n (lv' := [(2, .int (t0 ||| t1)), (0, .ref hyt), (1, .ref hyz), (3, .int x3), (4, .int x4)]) hx hb dL_reach_66 rfl hl (by decide) rfl (fun ls hl => ?_)
    refine lv_iinc (v := (x4 + 1)) (lv' := [(4, .int (x4 + 1)), (2, .int (t0 ||| t1)), (0, .ref hyt), (1, .ref hyz), (3, .int x3)]) hx hb dL_reach_67 hl (k := 4) rfl rfl (by decide) rfl (fun ls hl => ?_)
    refine lv_goto (tgt := 13) hx hb dL_reach_70 (by decide) ?_
    exact hk13 (t0 ||| t1) x3 (x4 + 1) _ _ hP hD hS _ (lv_sub hl [2, 3, 1, 4, 0] rfl) hf
  have J57 : ∀ (k4 : Int32 → Int32 → Option (Int32)) (hk4 : ∀ (x2 : Int32) (x3 : Int32) (H : Heap) (locs : List Loc), va_P (dC, dI) vwCl (cf_ytyz cI hyt hyz syt syz) H → va_D A (cf_ytyz cI hyt hyz syt syz) → va_S A s.heap H locs → ∀ (ls : Array Slot), lv_has ls 6 [(0, .ref hyt), (1, .ref hyz), (2, .int x2), (3, .int x3)] → k4 x2 x3 = some r → W p l e rmL_reach s m ([.ref hyt, .ref hyz] : List Value).toArray below meth c H locs (0) (0) QQ (F0 m 4 ls [])) (k13 : Int32 → Int32 → Int32 → Option (Int32)) (hk13 : ∀ (x2 : Int32) (x3 : Int32) (x4 : Int32) (H : Heap) (locs : List Loc), va_P (dC, dI) vwCl (cf_ytyz cI hyt hyz syt syz) H → va_D A (cf_ytyz cI hyt hyz syt syz) → va_S A s.heap H locs → ∀ (ls : Array Slot), lv_has ls 6 [(0, .ref hyt), (1, .ref hyz), (2, .int x2), (3, .int x3), (4, .int x4)] → k13 x2 x3 x4 = some r → W p l e rmL_reach s m ([.ref hyt, .ref hyz] : List Value).toArray below meth c H locs (0) (0) QQ (F0 m 13 ls [])) (x3 : Int32) (x4 : Int32) (t0 : Int32) (H : Heap) (locs : List Loc), va_P (dC, dI) vwCl (cf_ytyz cI hyt hyz syt syz) H → va_D A (cf_ytyz cI hyt hyz syt syz) → va_S A s.heap H locs → ∀ (ls : Array Slot), lv_has ls 6 [(0, .ref hyt), (1, .ref hyz), (3, .int x3), (4, .int x4)] → fL_reach_57 syt syz k4 k13 x3 x4 t0 = some r → W p l e rmL_reach s m ([.ref hyt, .ref hyz] : List Value).toArray below meth c H locs (0) (0) QQ (F0 m 57 ls [.int t0]) := by
    intro k4 hk4 k13 hk13 x3 x4 t0 H locs hP hD hS ls hl hf
    unfold fL_reach_57 at hf
    refine lv_iconst (v := 1) hx hb dL_reach_57 (by decide) ?_
    refine lv_iload hx hb dL_reach_58 (lv_at hl 3 rfl) ?_
    refine lv_ishl hx hb dL_reach_60 ?_
    refine lv_goto (tgt := 65) hx hb dL_reach_61 (by decide) ?_
    exact J65 k4 hk4 k13 hk13 x3 x4 t0 ((1 : Int32) <<< (x4 &&& 31)) _ _ hP hD hS _ (lv_sub hl [0, 1, 2, 3] rfl) hf
  have J64 : ∀ (k4 : Int32 → Int32 → Option (Int32)) (hk4 : ∀ (x2 : Int32) (x3 : Int32) (H : Heap) (locs : List Loc), va_P (dC, dI) vwCl (cf_ytyz cI hyt hyz syt syz) H → va_D A (cf_ytyz cI hyt hyz syt syz) → va_S A s.heap H locs → ∀ (ls : Array Slot), lv_has ls 6 [(0, .ref hyt), (1, .ref hyz), (2, .int x2), (3, .int x3)] → k4 x2 x3 = some r → W p l e rmL_reach s m ([.ref hyt, .ref hyz] : List Value).toArray below meth c H locs (0) (0) QQ (F0 m 4 ls [])) (k13 : Int32 → Int32 → Int32 → Option (Int32)) (hk13 : ∀ (x2 : Int32) (x3 : Int32) (x4 : Int32) (H : Heap) (locs : List Loc), va_P (dC, dI) vwCl (cf_ytyz cI hyt hyz syt syz) H → va_D A (cf_ytyz cI hyt hyz syt syz) → va_S A s.heap H locs → ∀ (ls : Array Slot), lv_has ls 6 [(0, .ref hyt), (1, .ref hyz), (2, .int x2), (3, .int x3), (4, .int x4)] → k13 x2 x3 x4 = some r → W p l e rmL_reach s m ([.ref hyt, .ref hyz] : List Value).toArray below meth c H locs (0) (0) QQ (F0 m 13 ls [])) (x3 : Int32) (x4 : Int32) (t0 : Int32) (H : Heap) (locs : List Loc), va_P (dC, dI) vwCl (cf_ytyz cI hyt hyz syt syz) H → va_D A (cf_ytyz cI hyt hyz syt syz) → va_S A s.heap H locs → ∀ (ls : Array Slot), lv_has ls 6 [(0, .ref hyt), (1, .ref hyz), (3, .int x3), (4, .int x4)] → fL_reach_64 syt syz k4 k13 x3 x4 t0 = some r → W p l e rmL_reach s m ([.ref hyt, .ref hyz] : List Value).toArray below meth c H locs (0) (0) QQ (F0 m 64 ls [.int t0]) := by
    intro k4 hk4 k13 hk13 x3 x4 t0 H locs hP hD hS ls hl hf
    unfold fL_reach_64 at hf
    refine lv_iconst (v := 0) hx hb dL_reach_64 (by decide) ?_
    exact J65 k4 hk4 k13 hk13 x3 x4 t0 0 _ _ hP hD hS _ (lv_sub hl [0, 1, 2, 3] rfl) hf
  have J13 : ∀ (k4 : Int32 → Int32 → Option (Int32)) (hk4 : ∀ (x2 : Int32) (x3 : Int32) (H : Heap) (locs : List Loc), va_P (dC, dI) vwCl (cf_ytyz cI hyt hyz syt syz) H → va_D A (cf_ytyz cI hyt hyz syt syz) → va_S A s.heap H locs → ∀ (ls : Array Slot), lv_has ls 6 [(0, .ref hyt), (1, .ref hyz), (2, .int x2), (3, .int x3)] → k4 x2 x3 = some r → W p l e rmL_reach s m ([.ref hyt, .ref hyz] : List Value).toArray below meth c H locs (0) (0) QQ (F0 m 4 ls [])) (n : Nat) (x2 : Int32) (x3 : Int32) (x4 : Int32) (H : Heap) (locs : List Loc), va_P (dC, dI) vwCl (cf_ytyz cI hyt hyz syt syz) H → va_D A (cf_ytyz cI hyt hyz syt syz) → va_S A s.heap H locs → ∀ (ls : Array Slot), lv_has ls 6 [(0, .ref hyt), (1, .ref hyz), (2, .int x2), (3, .int x3), (4, .int x4)] → fL_reach_13 syt syz k4 n x2 x3 x4 = some r → W p l e rmL_reach s m ([.ref hyt, .ref hyz] : List Value).toArray below meth c H locs (0) (0) QQ (F0 m 13 ls []) := by
    intro k4 hk4
    intro n
    induction n with
    | zero =>
      intro x2 x3 x4 H locs hP hD hS ls hl hf
      cases hf
    | succ n ih =>
      intro x2 x3 x4 H locs hP hD hS ls hl hf
      rw [fL_reach_13] at hf
      refine lv_iload hx hb dL_reach_13 (lv_at hl 4 rfl) ?_
      refine lv_aload_n hx hb dL_reach_15 rfl (lv_at hl 1 rfl) ?_
      refine lv_iconst (v := 0) hx hb dL_reach_16 (by decide) ?_
      obtain ⟨hi_1, hf⟩ := ai_ok hf
      refine va_iald (n := 13) (f := syz) hx hb hK hP 1 0 rfl rfl hi_1 dL_reach_17 ?_
      refine lv_icmp_ge (tgt := 73) hx hb dL_reach_18 (by decide) (fun c_2 => ?_) (fun c_2 => ?_)
      · have hf := it_t c_2 hf
        refine lv_iinc (v := (x3 + 1)) (lv' := [(3, .int (x3 + 1)), (0, .ref hyt), (1, .ref hyz), (2, .int x2), (4, .int x4)]) hx hb dL_reach_73 hl (k := 3) rfl rfl (by decide) rfl (fun ls hl => ?_)
        refine lv_goto (tgt := 4) hx hb dL_reach_76 (by decide) ?_
        exact hk4 x2 (x3 + 1) _ _ hP hD hS _ (lv_sub hl [1, 2, 3, 0] rfl) hf
      · have hf := it_f c_2 hf
        refine lv_aload_n hx hb dL_reach_21 rfl (lv_at hl 0 rfl) ?_
        refine lv_bipush (v := 24) hx hb dL_reach_22 (by decide) ?_
        refine lv_iload hx hb dL_reach_24 (lv_at hl 4 rfl) ?_
        refine lv_iadd hx hb dL_reach_26 ?_
        obtain ⟨hi_3, hf⟩ := ai_ok hf
        refine va_iald (n := 30) (f := syt) hx hb hK hP 0 0 rfl rfl hi_3 dL_reach_27 ?_
        refine lv_istore (lv' := [(5, .int (syt (24 + x4).toNatClampNeg)), (0, .ref hyt), (1, .ref hyz), (2, .int x2), (3, .int x3), (4, .int x4)]) hx hb dL_reach_28 hl (by decide) rfl (fun ls hl => ?_)
        refine lv_iload_n hx hb dL_reach_30 rfl (lv_at hl 3 rfl) ?_
        refine lv_iload hx hb dL_reach_31 (lv_at hl 0 rfl) ?_
        refine lv_if_lt (tgt := 57) hx hb dL_reach_33 (by decide) (fun c_4 => ?_) (fun c_4 => ?_)
        · have hf := it_t c_4 hf
          exact J57 k4 hk4 (fun x2 x3 x4 => fL_reach_13 syt syz k4 n x2 x3 x4) (fun x2 x3 x4 H locs hP hD hS ls hl hf => ih x2 x3 x4 H locs hP hD hS ls hl hf) x3 x4 x2 _ _ hP hD hS _ (lv_sub hl [1, 2, 4, 5] rfl) hf
        · have hf := it_f c_4 hf
          refine lv_aload_n hx hb dL_reach_36 rfl (lv_at hl 1 rfl) ?_
          refine lv_bipush (v := 18) hx hb dL_reach_37 (by decide) ?_
          refine lv_iload hx hb dL_reach_39 (lv_at hl 0 rfl) ?_
          refine lv_iadd hx hb dL_reach_41 ?_
          obtain ⟨hi_5, hf⟩ := ai_ok hf
          refine va_iald (n := 30) (f := syt) hx hb hK hP 0 0 rfl rfl hi_5 dL_reach_42 ?_
          refine lv_iconst (v := 1) hx hb dL_reach_43 (by decide) ?_
          refine lv_icmp_ne (tgt := 64) hx hb dL_reach_44 (by decide) (fun c_6 => ?_) (fun c_6 => ?_)
          · have hf := it_f c_6 hf
            exact J64 k4 hk4 (fun x2 x3 x4 => fL_reach_13 syt syz k4 n x2 x3 x4) (fun x2 x3 x4 H locs hP hD hS ls hl hf => ih x2 x3 x4 H locs hP hD hS ls hl hf) x3 x4 x2 _ _ hP hD hS _ (lv_sub hl [1, 2, 4, 5] rfl) hf
          · have hf := it_t c_6 hf
            refine lv_iload_n hx hb dL_reach_47 rfl (lv_at hl 3 rfl) ?_
            refine lv_iload hx hb dL_reach_48 (lv_at hl 0 rfl) ?_
            refine lv_ishr hx hb dL_reach_50 ?_
            refine lv_iconst (v := 1) hx hb dL_reach_51 (by decide) ?_
            refine lv_iand hx hb dL_reach_52 ?_
            refine lv_iconst (v := 1) hx hb dL_reach_53 (by decide) ?_
            refine lv_icmp_ne (tgt := 64) hx hb dL_reach_54 (by decide) (fun c_7 => ?_) (fun c_7 => ?_)
            · have hf := it_f c_7 hf
              exact J64 k4 hk4 (fun x2 x3 x4 => fL_reach_13 syt syz k4 n x2 x3 x4) (fun x2 x3 x4 H locs hP hD hS ls hl hf => ih x2 x3 x4 H locs hP hD hS ls hl hf) x3 x4 x2 _ _ hP hD hS _ (lv_sub hl [1, 2, 4, 5] rfl) hf
            · have hf := it_t c_7 hf
              exact J57 k4 hk4 (fun x2 x3 x4 => fL_reach_13 syt syz k4 n x2 x3 x4) (fun x2 x3 x4 H locs hP hD hS ls hl hf => ih x2 x3 x4 H locs hP hD hS ls hl hf) x3 x4 x2 _ _ hP hD hS _ (lv_sub hl [1, 2, 4, 5] rfl) hf
  have J4 : ∀ (n : Nat) (x2 : Int32) (x3 : Int32) (H : Heap) (locs : List Loc), va_P (dC, dI) vwCl (cf_ytyz cI hyt hyz syt syz) H → va_D A (cf_ytyz cI hyt hyz syt syz) → va_S A s.heap H locs → ∀ (ls : Array Slot), lv_has ls 6 [(0, .ref hyt), (1, .ref hyz), (2, .int x2), (3, .int x3)] → fL_reach_4 syt syz n x2 x3 = some r → W p l e rmL_reach s m ([.ref hyt, .ref hyz] : List Value).toArray below meth c H locs (0) (0) QQ (F0 m 4 ls []) := by
    intro n
    induction n with
    | zero =>
      intro x2 x3 H locs hP hD hS ls hl hf
      cases hf
    | succ n ih =>
      intro x2 x3 H locs hP hD hS ls hl hf
      rw [fL_reach_4] at hf
      refine lv_iload_n hx hb dL_reach_4 rfl (lv_at hl 3 rfl) ?_
      refine lv_bipush (v := 7) hx hb dL_reach_5 (by decide) ?_
      refine lv_icmp_ge (tgt := 79) hx hb dL_reach_7 (by decide) (fun c_1 => ?_) (fun c_1 => ?_)
      · have hf := it_t c_1 hf
        refine lv_iload_n hx hb dL_reach_79 rfl (lv_at hl 2 rfl) ?_
        have hf : (some x2 : Option (Int32)) = some r := hf
        have he := Option.some.inj hf
        have he0 : x2 = r := he
        exact hret _ _ _ _ _ _ rfl he0 rfl dL_reach_80 hP hD hS
      · have hf := it_f c_1 hf
        refine lv_iconst (v := 0) hx hb dL_reach_10 (by decide) ?_
        refine lv_istore (lv' := [(4, .int 0), (0, .ref hyt), (1, .ref hyz), (2, .int x2), (3, .int x3)]) hx hb dL_reach_11 hl (by decide) rfl (fun ls hl => ?_)
        exact J13 (fun x2 x3 => fL_reach_4 syt syz n x2 x3) (fun x2 x3 H locs hP hD hS ls hl hf => ih x2 x3 H locs hP hD hS ls hl hf) 64 x2 x3 0 _ _ hP hD hS _ (lv_sub hl [1, 2, 3, 4, 0] rfl) hf
  unfold fL_reach at hf
  refine lv_iconst (v := 0) hx hb dL_reach_0 (by decide) ?_
  refine lv_istore_n (lv' := [(2, .int 0), (0, .ref hyt), (1, .ref hyz)]) hx hb dL_reach_1 rfl hl (by decide) rfl (fun ls hl => ?_)
  refine lv_iconst (v := 0) hx hb dL_reach_2 (by decide) ?_
  refine lv_istore_n (lv' := [(3, .int 0), (2, .int 0), (0, .ref hyt), (1, .ref hyz)]) hx hb dL_reach_3 rfl hl (by decide) rfl (fun ls hl => ?_)
  exact J4 64 0 0 _ _ hP hD hS _ (lv_sub hl [2, 3, 1, 0] rfl) hf
abbrev rmL_held : Room := { frames := 0, cells := 0, slots := 0, locals := 0 }
set_option maxHeartbeats 4000000 in
set_option maxRecDepth 100000 in
theorem ktL_held (l : Launch) (dC : Nat → ClassId) (dI : Nat → Nat → Nat) (cI : ClassId) (hyt hyz : Nat) (sz : Nat) (syt : Syt) (syz : Syz) (r : Int32) (hf : fL_held syt syz = some r) : Met l yL_held wsL_held rmL_held (va_Pc [.ref hyt, .ref hyz] (pre_w (dC, dI) (cf_ytyz cI hyt hyz syt syz) [(cI, .int)] sz)) (va_Qi (fun (r' : Int32) (_ : Unit) => r' = r) (post_w (dC, dI) (cf_ytyz cI hyt hyz syt syz) [(cI, .int)] (va_A (cf_ytyz cI hyt hyz syt syz) sz)) (va_A (cf_ytyz cI hyt hyz syt syz) sz)) 0 0 (va_A (cf_ytyz cI hyt hyz syt syz) sz) := by
  refine gmw (mc := 0) (ms := 0) (ty := .int) (cc := cL_held) (maxL := 4) (by decide) rfl (Nat.le_of_ble_eq_true rfl) ?_
  intro p e s m below meth c A QQ ls hx hb hml hown hts hK hN hA hP hD hS hl hret
  have hown : s.vm.findClass RL = some m.cls := hown
  have hl : lv_has ls 4 [(0, .ref hyt), (1, .ref hyz)] := hl
  have J30 : ∀ (k4 : Int32 → Int32 → Option (Int32)) (hk4 : ∀ (x2 : Int32) (x3 : Int32) (H : Heap) (locs : List Loc), va_P (dC, dI) vwCl (cf_ytyz cI hyt hyz syt syz) H → va_D A (cf_ytyz cI hyt hyz syt syz) → va_S A s.heap H locs → ∀ (ls : Array Slot), lv_has ls 4 [(0, .ref hyt), (1, .ref hyz), (2, .int x2), (3, .int x3)] → k4 x2 x3 = some r → W p l e rmL_held s m ([.ref hyt, .ref hyz] : List Value).toArray below meth c H locs (0) (0) QQ (F0 m 4 ls [])) (x3 : Int32) (t0 : Int32) (t1 : Int32) (H : Heap) (locs : List Loc), va_P (dC, dI) vwCl (cf_ytyz cI hyt hyz syt syz) H → va_D A (cf_ytyz cI hyt hyz syt syz) → va_S A s.heap H locs → ∀ (ls : Array Slot), lv_has ls 4 [(0, .ref hyt), (1, .ref hyz), (3, .int x3)] → fL_held_30 syt syz k4 x3 t0 t1 = some r → W p l e rmL_held s m ([.ref hyt, .ref hyz] : List Value).toArray below meth c H locs (0) (0) QQ (F0 m 30 ls [.int t1, .int t0]) := by
    intro k4 hk4 x3 t0 t1 H locs hP hD hS ls hl hf
    unfold fL_held_30 at hf
    refine lv_ior hx hb dL_held_30 ?_
    refine lv_istore_n (lv' := [(2, .int (t0 ||| t1)), (0, .ref hyt), (1, .ref hyz), (3, .int x3)]) hx hb dL_held_31 rfl hl (by decide) rfl (fun ls hl => ?_)
    refine lv_iinc (v := (x3 + 1)) (lv' := [(3, .int (x3 + 1)), (2, .int (t0 ||| t1)), (0, .ref hyt), (1, .ref hyz)]) hx hb dL_held_32 hl (k := 3) rfl rfl (by decide) rfl (fun ls hl => ?_)
    refine lv_goto (tgt := 4) hx hb dL_held_35 (by decide) ?_
    exact hk4 (t0 ||| t1) (x3 + 1) _ _ hP hD hS _ (lv_sub hl [2, 3, 1, 0] rfl) hf
  have J4 : ∀ (n : Nat) (x2 : Int32) (x3 : Int32) (H : Heap) (locs : List Loc), va_P (dC, dI) vwCl (cf_ytyz cI hyt hyz syt syz) H → va_D A (cf_ytyz cI hyt hyz syt syz) → va_S A s.heap H locs → ∀ (ls : Array Slot), lv_has ls 4 [(0, .ref hyt), (1, .ref hyz), (2, .int x2), (3, .int x3)] → fL_held_4 syt syz n x2 x3 = some r → W p l e rmL_held s m ([.ref hyt, .ref hyz] : List Value).toArray below meth c H locs (0) (0) QQ (F0 m 4 ls []) := by
    intro n
    induction n with
    | zero =>
      intro x2 x3 H locs hP hD hS ls hl hf
      cases hf
    | succ n ih =>
      intro x2 x3 H locs hP hD hS ls hl hf
      rw [fL_held_4] at hf
      refine lv_iload_n hx hb dL_held_4 rfl (lv_at hl 3 rfl) ?_
      refine lv_aload_n hx hb dL_held_5 rfl (lv_at hl 1 rfl) ?_
      refine lv_iconst (v := 0) hx hb dL_held_6 (by decide) ?_
      obtain ⟨hi_1, hf⟩ := ai_ok hf
      refine va_iald (n := 13) (f := syz) hx hb hK hP 1 0 rfl rfl hi_1 dL_held_7 ?_
      refine lv_icmp_ge (tgt := 38) hx hb dL_held_8 (by decide) (fun c_2 => ?_) (fun c_2 => ?_)
      · have hf := it_t c_2 hf
        refine lv_iload_n hx hb dL_held_38 rfl (lv_at hl 2 rfl) ?_
        have hf : (some x2 : Option (Int32)) = some r := hf
        have he := Option.some.inj hf
        have he0 : x2 = r := he
        exact hret _ _ _ _ _ _ rfl he0 rfl dL_held_39 hP hD hS
      · have hf := it_f c_2 hf
        refine lv_iload_n hx hb dL_held_11 rfl (lv_at hl 2 rfl) ?_
        refine lv_aload_n hx hb dL_held_12 rfl (lv_at hl 0 rfl) ?_
        refine lv_bipush (v := 24) hx hb dL_held_13 (by decide) ?_
        refine lv_iload_n hx hb dL_held_15 rfl (lv_at hl 3 rfl) ?_
        refine lv_iadd hx hb dL_held_16 ?_
        obtain ⟨hi_3, hf⟩ := ai_ok hf
        refine va_iald (n := 30) (f := syt) hx hb hK hP 0 0 rfl rfl hi_3 dL_held_17 ?_
        refine lv_bipush (v := (-3)) hx hb dL_held_18 (by decide) ?_
        refine lv_icmp_ne (tgt := 29) hx hb dL_held_20 (by decide) (fun c_4 => ?_) (fun c_4 => ?_)
        · have hf := it_f c_4 hf
          refine lv_iconst (v := 0) hx hb dL_held_29 (by decide) ?_
          exact J30 (fun x2 x3 => fL_held_4 syt syz n x2 x3) (fun x2 x3 H locs hP hD hS ls hl hf => ih x2 x3 H locs hP hD hS ls hl hf) x3 x2 0 _ _ hP hD hS _ (lv_sub hl [0, 1, 3] rfl) hf
        · have hf := it_t c_4 hf
          refine lv_iconst (v := 1) hx hb dL_held_23 (by decide) ?_
          refine lv_iload_n hx hb dL_held_24 rfl (lv_at hl 3 rfl) ?_
          refine lv_ishl hx hb dL_held_25 ?_
          refine lv_goto (tgt := 30) hx hb dL_held_26 (by decide) ?_
          exact J30 (fun x2 x3 => fL_held_4 syt syz n x2 x3) (fun x2 x3 H locs hP hD hS ls hl hf => ih x2 x3 H locs hP hD hS ls hl hf) x3 x2 ((1 : Int32) <<< (x3 &&& 31)) _ _ hP hD hS _ (lv_sub hl [0, 1, 3] rfl) hf
  unfold fL_held at hf
  refine lv_iconst (v := 0) hx hb dL_held_0 (by decide) ?_
  refine lv_istore_n (lv' := [(2, .int 0), (0, .ref hyt), (1, .ref hyz)]) hx hb dL_held_1 rfl hl (by decide) rfl (fun ls hl => ?_)
  refine lv_iconst (v := 0) hx hb dL_held_2 (by decide) ?_
  refine lv_istore_n (lv' := [(3, .int 0), (2, .int 0), (0, .ref hyt), (1, .ref hyz)]) hx hb dL_held_3 rfl hl (by decide) rfl (fun ls hl => ?_)
  exact J4 64 0 0 _ _ hP hD hS _ (lv_sub hl [2, 3, 1, 0] rfl) hf
abbrev rmL_suited : Room := { frames := 1, cells := 0, slots := 0, locals := 25 }
set_option maxHeartbeats 4000000 in
set_option maxRecDepth 100000 in
theorem ktL_suited (l : Launch) (dC : Nat → ClassId) (dI : Nat → Nat → Nat) (cI : ClassId) (hyt hyz : Nat) (sz : Nat) (syt : Syt) (syz : Syz) (a2 : Int32) (r : Int32) (hf : fL_suited syt syz a2 = some r) : Met l yL_suited wsL_suited rmL_suited (va_Pc [.ref hyt, .ref hyz, .int a2] (pre_w (dC, dI) (cf_ytyz cI hyt hyz syt syz) [(cI, .int)] sz)) (va_Qi (fun (r' : Int32) (_ : Unit) => r' = r) (post_w (dC, dI) (cf_ytyz cI hyt hyz syt syz) [(cI, .int)] (va_A (cf_ytyz cI hyt hyz syt syz) sz)) (va_A (cf_ytyz cI hyt hyz syt syz) sz)) 0 0 (va_A (cf_ytyz cI hyt hyz syt syz) sz) := by
  refine gmw (mc := 0) (ms := 0) (ty := .int) (cc := cL_suited) (maxL := 7) (by decide) rfl (Nat.le_of_ble_eq_true rfl) ?_
  intro p e s m below meth c A QQ ls hx hb hml hown hts hK hN hA hP hD hS hl hret
  have hown : s.vm.findClass RL = some m.cls := hown
  have hl : lv_has ls 7 [(0, .ref hyt), (1, .ref hyz), (2, .int a2)] := hl
  have J93 : ∀ (t0 : Int32) (H : Heap) (locs : List Loc), va_P (dC, dI) vwCl (cf_ytyz cI hyt hyz syt syz) H → va_D A (cf_ytyz cI hyt hyz syt syz) → va_S A s.heap H locs → ∀ (ls : Array Slot), lv_has ls 7 [(0, .ref hyt), (1, .ref hyz)] → fL_suited_93 syt syz a2 t0 = some r → W p l e rmL_suited s m ([.ref hyt, .ref hyz, .int a2] : List Value).toArray below meth c H locs (0) (0) QQ (F0 m 93 ls [.int t0]) := by
    intro t0 H locs hP hD hS ls hl hf
    unfold fL_suited_93 at hf
    refine lv_istore (lv' := [(6, .int t0), (0, .ref hyt), (1, .ref hyz)]) hx hb dL_suited_93 hl (by decide) rfl (fun ls hl => ?_)
    refine lv_aload_n hx hb dL_suited_95 rfl (lv_at hl 1 rfl) ?_
    refine lv_aload_n hx hb dL_suited_96 rfl (lv_at hl 2 rfl) ?_
    obtain ⟨r_1, hc_1, hf⟩ := bn1_ok hf
    refine gc_i (wc := (cf_ytyz cI hyt hyz syt syz)) (wr := ([] : va_W)) (w1 := (cf_ytyz cI hyt hyz syt syz)) (ws' := (cf_ytyz cI hyt hyz syt syz)) hP hD hS hA [0, 1] [] [0, 1] rfl rfl (by decide) (by decide) rfl (by decide) (va_runS (As := [.ref hyt, .ref hyz]) (rest := []) ⟨hx, hb, hml, hown, hts⟩ (ktL_reach l dC dI cI hyt hyz _ syt syz r_1 hc_1) (va_cwS 2 hts gL_suited_L_reach rfl rfl rfl (by decide +kernel) ⟨Nat.le_of_ble_eq_true rfl, Nat.le_of_ble_eq_true rfl⟩) (gc_S (hP.sub (ws' := (cf_ytyz cI hyt hyz syt syz)) [0, 1] rfl) (hK.sub (tys' := [(cI, .int)]) [0] rfl) (hD.sub (ws' := (cf_ytyz cI hyt hyz syt syz)) [0, 1] (by decide) rfl) hN) rfl rfl hl.1 rfl (lv_room (Nat.le_of_ble_eq_true rfl)) dL_suited_97 ⟨by show (0) + 0 ≤ 0; omega, by show (0) + 0 ≤ 0; omega⟩) (fun H locs hP hD hS => ?_)
    refine lv_iload hx hb dL_suited_100 (lv_at hl 0 rfl) ?_
    refine lv_iand hx hb dL_suited_102 ?_
    have hf : (some (r_1 &&& t0) : Option (Int32)) = some r := hf
    have he := Option.some.inj hf
    have he0 : (r_1 &&& t0) = r := he
    exact hret _ _ _ _ _ _ rfl he0 rfl dL_suited_103 hP hD hS
  have J8 : ∀ (n : Nat) (x3 : Int32) (x4 : Int32) (x5 : Int32) (H : Heap) (locs : List Loc), va_P (dC, dI) vwCl (cf_ytyz cI hyt hyz syt syz) H → va_D A (cf_ytyz cI hyt hyz syt syz) → va_S A s.heap H locs → ∀ (ls : Array Slot), lv_has ls 7 [(0, .ref hyt), (1, .ref hyz), (2, .int a2), (3, .int x3), (4, .int x4), (5, .int x5)] → fL_suited_8 syt syz a2 n x3 x4 x5 = some r → W p l e rmL_suited s m ([.ref hyt, .ref hyz, .int a2] : List Value).toArray below meth c H locs (0) (0) QQ (F0 m 8 ls []) := by
    intro n
    induction n with
    | zero =>
      intro x3 x4 x5 H locs hP hD hS ls hl hf
      cases hf
    | succ n ih =>
      intro x3 x4 x5 H locs hP hD hS ls hl hf
      rw [fL_suited_8] at hf
      refine lv_iload hx hb dL_suited_8 (lv_at hl 5 rfl) ?_
      refine lv_aload_n hx hb dL_suited_10 rfl (lv_at hl 1 rfl) ?_
      refine lv_iconst (v := 0) hx hb dL_suited_11 (by decide) ?_
      obtain ⟨hi_1, hf⟩ := ai_ok hf
      refine va_iald (n := 13) (f := syz) hx hb hK hP 1 0 rfl rfl hi_1 dL_suited_12 ?_
      refine lv_icmp_ge (tgt := 50) hx hb dL_suited_13 (by decide) (fun c_2 => ?_) (fun c_2 => ?_)
      · have hf := it_t c_2 hf
        refine lv_aload_n hx hb dL_suited_50 rfl (lv_at hl 0 rfl) ?_
        refine lv_aload_n hx hb dL_suited_51 rfl (lv_at hl 1 rfl) ?_
        obtain ⟨r_3, hc_3, hf⟩ := bn1_ok hf
        refine gc_i (wc := (cf_ytyz cI hyt hyz syt syz)) (wr := ([] : va_W)) (w1 := (cf_ytyz cI hyt hyz syt syz)) (ws' := (cf_ytyz cI hyt hyz syt syz)) hP hD hS hA [0, 1] [] [0, 1] rfl rfl (by decide) (by decide) rfl (by decide) (va_runS (As := [.ref hyt, .ref hyz]) (rest := []) ⟨hx, hb, hml, hown, hts⟩ (ktL_held l dC dI cI hyt hyz _ syt syz r_3 hc_3) (va_cwS 2 hts gL_suited_L_held rfl rfl rfl (by decide +kernel) ⟨Nat.le_of_ble_eq_true rfl, Nat.le_of_ble_eq_true rfl⟩) (gc_S (hP.sub (ws' := (cf_ytyz cI hyt hyz syt syz)) [0, 1] rfl) (hK.sub (tys' := [(cI, .int)]) [0] rfl) (hD.sub (ws' := (cf_ytyz cI hyt hyz syt syz)) [0, 1] (by decide) rfl) hN) rfl rfl hl.1 rfl (lv_room (Nat.le_of_ble_eq_true rfl)) dL_suited_52 ⟨by show (0) + 0 ≤ 0; omega, by show (0) + 0 ≤ 0; omega⟩) (fun H locs hP hD hS => ?_)
        refine lv_istore (lv' := [(5, .int r_3), (0, .ref hyt), (1, .ref hyz), (2, .int a2), (3, .int x3), (4, .int x4)]) hx hb dL_suited_55 hl (by decide) rfl (fun ls hl => ?_)
        refine lv_iload_n hx hb dL_suited_57 rfl (lv_at hl 3 rfl) ?_
        refine lv_if_ne (tgt := 68) hx hb dL_suited_58 (by decide) (fun c_4 => ?_) (fun c_4 => ?_)
        · have hf := it_f c_4 hf
          refine lv_iload_n hx hb dL_suited_68 rfl (lv_at hl 3 rfl) ?_
          refine lv_iconst (v := 3) hx hb dL_suited_69 (by decide) ?_
          refine lv_icmp_ge (tgt := 78) hx hb dL_suited_70 (by decide) (fun c_5 => ?_) (fun c_5 => ?_)
          · have hf := it_t c_5 hf
            refine lv_iload_n hx hb dL_suited_78 rfl (lv_at hl 3 rfl) ?_
            refine lv_iconst (v := 3) hx hb dL_suited_79 (by decide) ?_
            refine lv_icmp_ne (tgt := 92) hx hb dL_suited_80 (by decide) (fun c_6 => ?_) (fun c_6 => ?_)
            · have hf := it_f c_6 hf
              refine lv_iload_n hx hb dL_suited_92 rfl (lv_at hl 4 rfl) ?_
              exact J93 x3 _ _ hP hD hS _ (lv_sub hl [1, 2] rfl) hf
            · have hf := it_t c_6 hf
              refine lv_iload hx hb dL_suited_83 (lv_at hl 5 rfl) ?_
              refine lv_iload_n hx hb dL_suited_85 rfl (lv_at hl 4 rfl) ?_
              refine lv_iconst (v := (-1)) hx hb dL_suited_86 (by decide) ?_
              refine lv_ixor hx hb dL_suited_87 ?_
              refine lv_iand hx hb dL_suited_88 ?_
              refine lv_goto (tgt := 93) hx hb dL_suited_89 (by decide) ?_
              exact J93 (x4 &&& (x3 ^^^ (-1))) _ _ hP hD hS _ (lv_sub hl [1, 2] rfl) hf
          · have hf := it_f c_5 hf
            refine lv_iload hx hb dL_suited_73 (lv_at hl 0 rfl) ?_
            refine lv_goto (tgt := 93) hx hb dL_suited_75 (by decide) ?_
            exact J93 r_3 _ _ hP hD hS _ (lv_sub hl [1, 2] rfl) hf
        · have hf := it_t c_4 hf
          refine lv_iload hx hb dL_suited_61 (lv_at hl 0 rfl) ?_
          refine lv_iconst (v := (-1)) hx hb dL_suited_63 (by decide) ?_
          refine lv_ixor hx hb dL_suited_64 ?_
          refine lv_goto (tgt := 93) hx hb dL_suited_65 (by decide) ?_
          exact J93 (r_3 ^^^ (-1)) _ _ hP hD hS _ (lv_sub hl [1, 2] rfl) hf
      · have hf := it_f c_2 hf
        refine lv_iload_n hx hb dL_suited_16 rfl (lv_at hl 3 rfl) ?_
        refine lv_aload_n hx hb dL_suited_17 rfl (lv_at hl 0 rfl) ?_
        refine lv_bipush (v := 18) hx hb dL_suited_18 (by decide) ?_
        refine lv_iload hx hb dL_suited_20 (lv_at hl 5 rfl) ?_
        refine lv_iadd hx hb dL_suited_22 ?_
        obtain ⟨hi_7, hf⟩ := ai_ok hf
        refine va_iald (n := 30) (f := syt) hx hb hK hP 0 0 rfl rfl hi_7 dL_suited_23 ?_
        refine lv_iload hx hb dL_suited_24 (lv_at hl 5 rfl) ?_
        refine lv_ishl hx hb dL_suited_26 ?_
        refine lv_ior hx hb dL_suited_27 ?_
        refine lv_istore_n (lv' := [(3, .int (x3 ||| ((syt (18 + x5).toNatClampNeg) <<< (x5 &&& 31)))), (0, .ref hyt), (1, .ref hyz), (2, .int a2), (4, .int x4), (5, .int x5)]) hx hb dL_suited_28 rfl hl (by decide) rfl (fun ls hl => ?_)
        refine lv_iload hx hb dL_suited_29 (lv_at hl 4 rfl) ?_
        refine lv_aload_n hx hb dL_suited_31 rfl (lv_at hl 1 rfl) ?_
        refine lv_bipush (v := 12) hx hb dL_suited_32 (by decide) ?_
        refine lv_iload hx hb dL_suited_34 (lv_at hl 5 rfl) ?_
        refine lv_iadd hx hb dL_suited_36 ?_
        obtain ⟨hi_8, hf⟩ := ai_ok hf
        refine va_iald (n := 30) (f := syt) hx hb hK hP 0 0 rfl rfl hi_8 dL_suited_37 ?_
        refine lv_iload hx hb dL_suited_38 (lv_at hl 5 rfl) ?_
        refine lv_ishl hx hb dL_suited_40 ?_
        refine lv_ior hx hb dL_suited_41 ?_
        refine lv_istore (lv' := [(4, .int (x4 ||| ((syt (12 + x5).toNatClampNeg) <<< (x5 &&& 31)))), (3, .int (x3 ||| ((syt (18 + x5).toNatClampNeg) <<< (x5 &&& 31)))), (0, .ref hyt), (1, .ref hyz), (2, .int a2), (5, .int x5)]) hx hb dL_suited_42 hl (by decide) rfl (fun ls hl => ?_)
        refine lv_iinc (v := (x5 + 1)) (lv' := [(5, .int (x5 + 1)), (4, .int (x4 ||| ((syt (12 + x5).toNatClampNeg) <<< (x5 &&& 31)))), (3, .int (x3 ||| ((syt (18 + x5).toNatClampNeg) <<< (x5 &&& 31)))), (0, .ref hyt), (1, .ref hyz), (2, .int a2)]) hx hb dL_suited_44 hl (k := 5) rfl rfl (by decide) rfl (fun ls hl => ?_)
        refine lv_goto (tgt := 8) hx hb dL_suited_47 (by decide) ?_
        exact ih (x3 ||| ((syt (18 + x5).toNatClampNeg) <<< (x5 &&& 31))) (x4 ||| ((syt (12 + x5).toNatClampNeg) <<< (x5 &&& 31))) (x5 + 1) _ _ hP hD hS _ (lv_sub hl [3, 4, 5, 2, 1, 0] rfl) hf
  unfold fL_suited at hf
  refine lv_iconst (v := 0) hx hb dL_suited_0 (by decide) ?_
  refine lv_istore_n (lv' := [(3, .int 0), (0, .ref hyt), (1, .ref hyz), (2, .int a2)]) hx hb dL_suited_1 rfl hl (by decide) rfl (fun ls hl => ?_)
  refine lv_iconst (v := 0) hx hb dL_suited_2 (by decide) ?_
  refine lv_istore (lv' := [(4, .int 0), (3, .int 0), (0, .ref hyt), (1, .ref hyz), (2, .int a2)]) hx hb dL_suited_3 hl (by decide) rfl (fun ls hl => ?_)
  refine lv_iconst (v := 0) hx hb dL_suited_5 (by decide) ?_
  refine lv_istore (lv' := [(5, .int 0), (4, .int 0), (3, .int 0), (0, .ref hyt), (1, .ref hyz), (2, .int a2)]) hx hb dL_suited_6 hl (by decide) rfl (fun ls hl => ?_)
  exact J8 64 0 0 0 _ _ hP hD hS _ (lv_sub hl [3, 4, 5, 2, 1, 0] rfl) hf
abbrev rmL_fitting : Room := { frames := 1, cells := 0, slots := 0, locals := 20 }
set_option maxHeartbeats 4000000 in
set_option maxRecDepth 100000 in
theorem ktL_fitting (l : Launch) (dC : Nat → ClassId) (dI : Nat → Nat → Nat) (cI : ClassId) (hyt hyw : Nat) (sz : Nat) (syt : Syt) (syw : Syw) (a1 : Int32) (a3 : Int32) (a4 : Int32) (a5 : Int32) (r : Int32) (hf : fL_fitting syt syw a1 a3 a4 a5 = some r) : Met l yL_fitting wsL_fitting rmL_fitting (va_Pc [.ref hyt, .int a1, .ref hyw, .int a3, .int a4, .int a5] (pre_w (dC, dI) (cf_ytyw cI hyt hyw syt syw) [(cI, .int)] sz)) (va_Qi (fun (r' : Int32) (_ : Unit) => r' = r) (post_w (dC, dI) (cf_ytyw cI hyt hyw syt syw) [(cI, .int)] (va_A (cf_ytyw cI hyt hyw syt syw) sz)) (va_A (cf_ytyw cI hyt hyw syt syw) sz)) 0 0 (va_A (cf_ytyw cI hyt hyw syt syw) sz) := by
  refine gmw (mc := 0) (ms := 0) (ty := .int) (cc := cL_fitting) (maxL := 10) (by decide) rfl (Nat.le_of_ble_eq_true rfl) ?_
  intro p e s m below meth c A QQ ls hx hb hml hown hts hK hN hA hP hD hS hl hret
  have hown : s.vm.findClass RL = some m.cls := hown
  have hl : lv_has ls 10 [(0, .ref hyt), (1, .int a1), (2, .ref hyw), (3, .int a3), (4, .int a4), (5, .int a5)] := hl
  have J85 : ∀ (k6 : Int32 → Int32 → Option (Int32)) (hk6 : ∀ (x6 : Int32) (x7 : Int32) (H : Heap) (locs : List Loc), va_P (dC, dI) vwCl (cf_ytyw cI hyt hyw syt syw) H → va_D A (cf_ytyw cI hyt hyw syt syw) → va_S A s.heap H locs → ∀ (ls : Array Slot), lv_has ls 10 [(0, .ref hyt), (2, .ref hyw), (3, .int a3), (4, .int a4), (5, .int a5), (6, .int x6), (7, .int x7)] → k6 x6 x7 = some r → W p l e rmL_fitting s m ([.ref hyt, .int a1, .ref hyw, .int a3, .int a4, .int a5] : List Value).toArray below meth c H locs (0) (0) QQ (F0 m 6 ls [])) (k37 : Int32 → Int32 → Int32 → Int32 → Option (Int32)) (hk37 : ∀ (x6 : Int32) (x7 : Int32) (x8 : Int32) (x9 : Int32) (H : Heap) (locs : List Loc), va_P (dC, dI) vwCl (cf_ytyw cI hyt hyw syt syw) H → va_D A (cf_ytyw cI hyt hyw syt syw) → va_S A s.heap H locs → ∀ (ls : Array Slot), lv_has ls 10 [(0, .ref hyt), (2, .ref hyw), (3, .int a3), (4, .int a4), (5, .int a5), (6, .int x6), (7, .int x7), (8, .int x8), (9, .int x9)] → k37 x6 x7 x8 x9 = some r → W p l e rmL_fitting s m ([.ref hyt, .int a1, .ref hyw, .int a3, .int a4, .int a5] : List Value).toArray below meth c H locs (0) (0) QQ (F0 m 37 ls [])) (x6 : Int32) (x7 : Int32) (x9 : Int32) (t0 : Int32) (H : Heap) (locs : List Loc), va_P (dC, dI) vwCl (cf_ytyw cI hyt hyw syt syw) H → va_D A (cf_ytyw cI hyt hyw syt syw) → va_S A s.heap H locs → ∀ (ls : Array Slot), lv_has ls 10 [(0, .ref hyt), (2, .ref hyw), (3, .int a3), (4, .int a4), (5, .int a5), (6, .int x6), (7, .int x7), (9, .int x9)] → fL_fitting_85 syt syw a1 a3 a4 a5 k6 k37 x6 x7 x9 t0 = some r → W p l e rmL_fitting s m ([.ref hyt, .int a1, .ref hyw, .int a3, .int a4, .int a5] : List Value).toArray below meth c H locs (0) (0) QQ (F0 m 85 ls [.int t0]) := by
    intro k6 hk6 k37 hk37 x6 x7 x9 t0 H locs hP hD hS ls hl hf
    unfold fL_fitting_85 at hf
    refine lv_istore (lv' := [(8, .int t0), (0, .ref hyt), (2, .ref hyw), (3, .int a3), (4, .int a4), (5, .int a5), (6, .int x6), (7, .int x7), (9, .int x9)]) hx hb dL_fitting_85 hl (by decide) rfl (fun ls hl => ?_)
    refine lv_iinc (v := (x9 + 1)) (lv' := [(9, .int (x9 + 1)), (8, .int t0), (0, .ref hyt), (2, .ref hyw), (3, .int a3), (4, .int a4), (5, .int a5), (6, .int x6), (7, .int x7)]) hx hb dL_fitting_87 hl (k := 8) rfl rfl (by decide) rfl (fun ls hl => ?_)
    refine lv_goto (tgt := 37) hx hb dL_fitting_90 (by decide) ?_
    exact hk37 x6 x7 t0 (x9 + 1) _ _ hP hD hS _ (lv_sub hl [2, 3, 4, 5, 6, 7, 8, 1, 0] rfl) hf
  have J84 : ∀ (k6 : Int32 → Int32 → Option (Int32)) (hk6 : ∀ (x6 : Int32) (x7 : Int32) (H : Heap) (locs : List Loc), va_P (dC, dI) vwCl (cf_ytyw cI hyt hyw syt syw) H → va_D A (cf_ytyw cI hyt hyw syt syw) → va_S A s.heap H locs → ∀ (ls : Array Slot), lv_has ls 10 [(0, .ref hyt), (2, .ref hyw), (3, .int a3), (4, .int a4), (5, .int a5), (6, .int x6), (7, .int x7)] → k6 x6 x7 = some r → W p l e rmL_fitting s m ([.ref hyt, .int a1, .ref hyw, .int a3, .int a4, .int a5] : List Value).toArray below meth c H locs (0) (0) QQ (F0 m 6 ls [])) (k37 : Int32 → Int32 → Int32 → Int32 → Option (Int32)) (hk37 : ∀ (x6 : Int32) (x7 : Int32) (x8 : Int32) (x9 : Int32) (H : Heap) (locs : List Loc), va_P (dC, dI) vwCl (cf_ytyw cI hyt hyw syt syw) H → va_D A (cf_ytyw cI hyt hyw syt syw) → va_S A s.heap H locs → ∀ (ls : Array Slot), lv_has ls 10 [(0, .ref hyt), (2, .ref hyw), (3, .int a3), (4, .int a4), (5, .int a5), (6, .int x6), (7, .int x7), (8, .int x8), (9, .int x9)] → k37 x6 x7 x8 x9 = some r → W p l e rmL_fitting s m ([.ref hyt, .int a1, .ref hyw, .int a3, .int a4, .int a5] : List Value).toArray below meth c H locs (0) (0) QQ (F0 m 37 ls [])) (x6 : Int32) (x7 : Int32) (x9 : Int32) (H : Heap) (locs : List Loc), va_P (dC, dI) vwCl (cf_ytyw cI hyt hyw syt syw) H → va_D A (cf_ytyw cI hyt hyw syt syw) → va_S A s.heap H locs → ∀ (ls : Array Slot), lv_has ls 10 [(0, .ref hyt), (2, .ref hyw), (3, .int a3), (4, .int a4), (5, .int a5), (6, .int x6), (7, .int x7), (9, .int x9)] → fL_fitting_84 syt syw a1 a3 a4 a5 k6 k37 x6 x7 x9 = some r → W p l e rmL_fitting s m ([.ref hyt, .int a1, .ref hyw, .int a3, .int a4, .int a5] : List Value).toArray below meth c H locs (0) (0) QQ (F0 m 84 ls []) := by
    intro k6 hk6 k37 hk37 x6 x7 x9 H locs hP hD hS ls hl hf
    unfold fL_fitting_84 at hf
    refine lv_iconst (v := 0) hx hb dL_fitting_84 (by decide) ?_
    exact J85 k6 hk6 k37 hk37 x6 x7 x9 0 _ _ hP hD hS _ (lv_sub hl [0, 1, 2, 3, 4, 5, 6, 7] rfl) hf
  have J80 : ∀ (k6 : Int32 → Int32 → Option (Int32)) (hk6 : ∀ (x6 : Int32) (x7 : Int32) (H : Heap) (locs : List Loc), va_P (dC, dI) vwCl (cf_ytyw cI hyt hyw syt syw) H → va_D A (cf_ytyw cI hyt hyw syt syw) → va_S A s.heap H locs → ∀ (ls : Array Slot), lv_has ls 10 [(0, .ref hyt), (2, .ref hyw), (3, .int a3), (4, .int a4), (5, .int a5), (6, .int x6), (7, .int x7)] → k6 x6 x7 = some r → W p l e rmL_fitting s m ([.ref hyt, .int a1, .ref hyw, .int a3, .int a4, .int a5] : List Value).toArray below meth c H locs (0) (0) QQ (F0 m 6 ls [])) (k37 : Int32 → Int32 → Int32 → Int32 → Option (Int32)) (hk37 : ∀ (x6 : Int32) (x7 : Int32) (x8 : Int32) (x9 : Int32) (H : Heap) (locs : List Loc), va_P (dC, dI) vwCl (cf_ytyw cI hyt hyw syt syw) H → va_D A (cf_ytyw cI hyt hyw syt syw) → va_S A s.heap H locs → ∀ (ls : Array Slot), lv_has ls 10 [(0, .ref hyt), (2, .ref hyw), (3, .int a3), (4, .int a4), (5, .int a5), (6, .int x6), (7, .int x7), (8, .int x8), (9, .int x9)] → k37 x6 x7 x8 x9 = some r → W p l e rmL_fitting s m ([.ref hyt, .int a1, .ref hyw, .int a3, .int a4, .int a5] : List Value).toArray below meth c H locs (0) (0) QQ (F0 m 37 ls [])) (x6 : Int32) (x7 : Int32) (x9 : Int32) (H : Heap) (locs : List Loc), va_P (dC, dI) vwCl (cf_ytyw cI hyt hyw syt syw) H → va_D A (cf_ytyw cI hyt hyw syt syw) → va_S A s.heap H locs → ∀ (ls : Array Slot), lv_has ls 10 [(0, .ref hyt), (2, .ref hyw), (3, .int a3), (4, .int a4), (5, .int a5), (6, .int x6), (7, .int x7), (9, .int x9)] → fL_fitting_80 syt syw a1 a3 a4 a5 k6 k37 x6 x7 x9 = some r → W p l e rmL_fitting s m ([.ref hyt, .int a1, .ref hyw, .int a3, .int a4, .int a5] : List Value).toArray below meth c H locs (0) (0) QQ (F0 m 80 ls []) := by
    intro k6 hk6 k37 hk37 x6 x7 x9 H locs hP hD hS ls hl hf
    unfold fL_fitting_80 at hf
    refine lv_iconst (v := 1) hx hb dL_fitting_80 (by decide) ?_
    refine lv_goto (tgt := 85) hx hb dL_fitting_81 (by decide) ?_
    exact J85 k6 hk6 k37 hk37 x6 x7 x9 1 _ _ hP hD hS _ (lv_sub hl [0, 1, 2, 3, 4, 5, 6, 7] rfl) hf
  have J110 : ∀ (k6 : Int32 → Int32 → Option (Int32)) (hk6 : ∀ (x6 : Int32) (x7 : Int32) (H : Heap) (locs : List Loc), va_P (dC, dI) vwCl (cf_ytyw cI hyt hyw syt syw) H → va_D A (cf_ytyw cI hyt hyw syt syw) → va_S A s.heap H locs → ∀ (ls : Array Slot), lv_has ls 10 [(0, .ref hyt), (2, .ref hyw), (3, .int a3), (4, .int a4), (5, .int a5), (6, .int x6), (7, .int x7)] → k6 x6 x7 = some r → W p l e rmL_fitting s m ([.ref hyt, .int a1, .ref hyw, .int a3, .int a4, .int a5] : List Value).toArray below meth c H locs (0) (0) QQ (F0 m 6 ls [])) (x7 : Int32) (t0 : Int32) (t1 : Int32) (H : Heap) (locs : List Loc), va_P (dC, dI) vwCl (cf_ytyw cI hyt hyw syt syw) H → va_D A (cf_ytyw cI hyt hyw syt syw) → va_S A s.heap H locs → ∀ (ls : Array Slot), lv_has ls 10 [(0, .ref hyt), (2, .ref hyw), (3, .int a3), (4, .int a4), (5, .int a5), (7, .int x7)] → fL_fitting_110 syt syw a1 a3 a4 a5 k6 x7 t0 t1 = some r → W p l e rmL_fitting s m ([.ref hyt, .int a1, .ref hyw, .int a3, .int a4, .int a5] : List Value).toArray below meth c H locs (0) (0) QQ (F0 m 110 ls [.int t1, .int t0]) := by
    intro k6 hk6 x7 t0 t1 H locs hP hD hS ls hl hf
    unfold fL_fitting_110 at hf
    refine lv_iand hx hb dL_fitting_110 ?_
    refine lv_istore (lv' := [(6, .int (t0 &&& t1)), (0, .ref hyt), (2, .ref hyw), (3, .int a3), (4, .int a4), (5, .int a5), (7, .int x7)]) hx hb dL_fitting_111 hl (by decide) rfl (fun ls hl => ?_)
    refine lv_iinc (v := (x7 + 1)) (lv' := [(7, .int (x7 + 1)), (6, .int (t0 &&& t1)), (0, .ref hyt), (2, .ref hyw), (3, .int a3), (4, .int a4), (5, .int a5)]) hx hb dL_fitting_113 hl (k := 6) rfl rfl (by decide) rfl (fun ls hl => ?_)
    refine lv_goto (tgt := 6) hx hb dL_fitting_116 (by decide) ?_
    exact hk6 (t0 &&& t1) (x7 + 1) _ _ hP hD hS _ (lv_sub hl [2, 3, 4, 5, 6, 1, 0] rfl) hf
  have J37 : ∀ (k6 : Int32 → Int32 → Option (Int32)) (hk6 : ∀ (x6 : Int32) (x7 : Int32) (H : Heap) (locs : List Loc), va_P (dC, dI) vwCl (cf_ytyw cI hyt hyw syt syw) H → va_D A (cf_ytyw cI hyt hyw syt syw) → va_S A s.heap H locs → ∀ (ls : Array Slot), lv_has ls 10 [(0, .ref hyt), (2, .ref hyw), (3, .int a3), (4, .int a4), (5, .int a5), (6, .int x6), (7, .int x7)] → k6 x6 x7 = some r → W p l e rmL_fitting s m ([.ref hyt, .int a1, .ref hyw, .int a3, .int a4, .int a5] : List Value).toArray below meth c H locs (0) (0) QQ (F0 m 6 ls [])) (n : Nat) (x6 : Int32) (x7 : Int32) (x8 : Int32) (x9 : Int32) (H : Heap) (locs : List Loc), va_P (dC, dI) vwCl (cf_ytyw cI hyt hyw syt syw) H → va_D A (cf_ytyw cI hyt hyw syt syw) → va_S A s.heap H locs → ∀ (ls : Array Slot), lv_has ls 10 [(0, .ref hyt), (2, .ref hyw), (3, .int a3), (4, .int a4), (5, .int a5), (6, .int x6), (7, .int x7), (8, .int x8), (9, .int x9)] → fL_fitting_37 syt syw a1 a3 a4 a5 k6 n x6 x7 x8 x9 = some r → W p l e rmL_fitting s m ([.ref hyt, .int a1, .ref hyw, .int a3, .int a4, .int a5] : List Value).toArray below meth c H locs (0) (0) QQ (F0 m 37 ls []) := by
    intro k6 hk6
    intro n
    induction n with
    | zero =>
      intro x6 x7 x8 x9 H locs hP hD hS ls hl hf
      cases hf
    | succ n ih =>
      intro x6 x7 x8 x9 H locs hP hD hS ls hl hf
      rw [fL_fitting_37] at hf
      refine lv_iload hx hb dL_fitting_37 (lv_at hl 8 rfl) ?_
      refine lv_iload hx hb dL_fitting_39 (lv_at hl 3 rfl) ?_
      refine lv_icmp_gt (tgt := 93) hx hb dL_fitting_41 (by decide) (fun c_1 => ?_) (fun c_1 => ?_)
      · have hf := it_t c_1 hf
        refine lv_iload hx hb dL_fitting_93 (lv_at hl 5 rfl) ?_
        refine lv_iload hx hb dL_fitting_95 (lv_at hl 7 rfl) ?_
        refine lv_if_eq (tgt := 104) hx hb dL_fitting_97 (by decide) (fun c_2 => ?_) (fun c_2 => ?_)
        · have hf := it_t c_2 hf
          refine lv_iconst (v := 1) hx hb dL_fitting_104 (by decide) ?_
          refine lv_iload hx hb dL_fitting_105 (lv_at hl 6 rfl) ?_
          refine lv_ishl hx hb dL_fitting_107 ?_
          refine lv_iconst (v := (-1)) hx hb dL_fitting_108 (by decide) ?_
          refine lv_ixor hx hb dL_fitting_109 ?_
          exact J110 k6 hk6 x7 x6 (((1 : Int32) <<< (x7 &&& 31)) ^^^ (-1)) _ _ hP hD hS _ (lv_sub hl [0, 1, 2, 3, 4, 6] rfl) hf
        · have hf := it_f c_2 hf
          refine lv_iconst (v := (-1)) hx hb dL_fitting_100 (by decide) ?_
          refine lv_goto (tgt := 110) hx hb dL_fitting_101 (by decide) ?_
          exact J110 k6 hk6 x7 x6 (-1) _ _ hP hD hS _ (lv_sub hl [0, 1, 2, 3, 4, 6] rfl) hf
      · have hf := it_f c_1 hf
        refine lv_iload hx hb dL_fitting_44 (lv_at hl 7 rfl) ?_
        refine lv_if_eq (tgt := 84) hx hb dL_fitting_46 (by decide) (fun c_3 => ?_) (fun c_3 => ?_)
        · have hf := it_t c_3 hf
          exact J84 k6 hk6 (fun x6 x7 x8 x9 => fL_fitting_37 syt syw a1 a3 a4 a5 k6 n x6 x7 x8 x9) (fun x6 x7 x8 x9 H locs hP hD hS ls hl hf => ih x6 x7 x8 x9 H locs hP hD hS ls hl hf) x6 x7 x9 _ _ hP hD hS _ (lv_sub hl [0, 1, 2, 3, 4, 5, 6, 8] rfl) hf
        · have hf := it_f c_3 hf
          refine lv_aload_n hx hb dL_fitting_49 rfl (lv_at hl 1 rfl) ?_
          refine lv_iload hx hb dL_fitting_50 (lv_at hl 8 rfl) ?_
          obtain ⟨hi_4, hf⟩ := ai_ok hf
          refine va_iald (n := 24) (f := syw) hx hb hK hP 1 0 rfl rfl hi_4 dL_fitting_52 ?_
          obtain ⟨r_5, hc_5, hf⟩ := bn1_ok hf
          refine gc_i (wc := ([] : va_W)) (wr := (cf_ytyw cI hyt hyw syt syw)) (w1 := ([] : va_W)) (ws' := (cf_ytyw cI hyt hyw syt syw)) hP hD hS hA [] [0, 1] [0, 1] rfl rfl (by decide) (by decide) rfl (by decide) (va_runS (As := [.int (syw x9.toNatClampNeg)]) (rest := []) ⟨hx, hb, hml, hown, hts⟩ (ktL_isAdjective l dC dI _ (syw x9.toNatClampNeg) r_5 hc_5) (va_cwS 1 hts gL_fitting_L_isAdjective rfl rfl rfl (by decide +kernel) ⟨Nat.le_of_ble_eq_true rfl, Nat.le_of_ble_eq_true rfl⟩) (gc_S (hP.sub (ws' := ([] : va_W)) [] rfl) (hK.sub (tys' := []) [] rfl) (hD.sub (ws' := ([] : va_W)) [] (by decide) rfl) hN) rfl rfl hl.1 rfl (lv_room (Nat.le_of_ble_eq_true rfl)) dL_fitting_53 ⟨by show (0) + 0 ≤ 0; omega, by show (0) + 0 ≤ 0; omega⟩) (fun H locs hP hD hS => ?_)
          refine lv_if_eq (tgt := 80) hx hb dL_fitting_56 (by decide) (fun c_6 => ?_) (fun c_6 => ?_)
          · have hf := it_t c_6 hf
            exact J80 k6 hk6 (fun x6 x7 x8 x9 => fL_fitting_37 syt syw a1 a3 a4 a5 k6 n x6 x7 x8 x9) (fun x6 x7 x8 x9 H locs hP hD hS ls hl hf => ih x6 x7 x8 x9 H locs hP hD hS ls hl hf) x6 x7 x9 _ _ hP hD hS _ (lv_sub hl [0, 1, 2, 3, 4, 5, 6, 8] rfl) hf
          · have hf := it_f c_6 hf
            refine lv_aload_n hx hb dL_fitting_59 rfl (lv_at hl 0 rfl) ?_
            refine lv_bipush (v := 6) hx hb dL_fitting_60 (by decide) ?_
            refine lv_iload hx hb dL_fitting_62 (lv_at hl 6 rfl) ?_
            refine lv_iadd hx hb dL_fitting_64 ?_
            obtain ⟨hi_7, hf⟩ := ai_ok hf
            refine va_iald (n := 30) (f := syt) hx hb hK hP 0 0 rfl rfl hi_7 dL_fitting_65 ?_
            refine lv_aload_n hx hb dL_fitting_66 rfl (lv_at hl 1 rfl) ?_
            refine lv_iload hx hb dL_fitting_67 (lv_at hl 8 rfl) ?_
            obtain ⟨hi_8, hf⟩ := ai_ok hf
            refine va_iald (n := 24) (f := syw) hx hb hK hP 1 0 rfl rfl hi_8 dL_fitting_69 ?_
            refine lv_bipush (v := 20) hx hb dL_fitting_70 (by decide) ?_
            refine lv_isub hx hb dL_fitting_72 ?_
            refine lv_ishr hx hb dL_fitting_73 ?_
            refine lv_iconst (v := 1) hx hb dL_fitting_74 (by decide) ?_
            refine lv_iand hx hb dL_fitting_75 ?_
            refine lv_iconst (v := 1) hx hb dL_fitting_76 (by decide) ?_
            refine lv_icmp_ne (tgt := 84) hx hb dL_fitting_77 (by decide) (fun c_9 => ?_) (fun c_9 => ?_)
            · have hf := it_f c_9 hf
              exact J84 k6 hk6 (fun x6 x7 x8 x9 => fL_fitting_37 syt syw a1 a3 a4 a5 k6 n x6 x7 x8 x9) (fun x6 x7 x8 x9 H locs hP hD hS ls hl hf => ih x6 x7 x8 x9 H locs hP hD hS ls hl hf) x6 x7 x9 _ _ hP hD hS _ (lv_sub hl [0, 1, 2, 3, 4, 5, 6, 8] rfl) hf
            · have hf := it_t c_9 hf
              exact J80 k6 hk6 (fun x6 x7 x8 x9 => fL_fitting_37 syt syw a1 a3 a4 a5 k6 n x6 x7 x8 x9) (fun x6 x7 x8 x9 H locs hP hD hS ls hl hf => ih x6 x7 x8 x9 H locs hP hD hS ls hl hf) x6 x7 x9 _ _ hP hD hS _ (lv_sub hl [0, 1, 2, 3, 4, 5, 6, 8] rfl) hf
  have J32 : ∀ (k6 : Int32 → Int32 → Option (Int32)) (hk6 : ∀ (x6 : Int32) (x7 : Int32) (H : Heap) (locs : List Loc), va_P (dC, dI) vwCl (cf_ytyw cI hyt hyw syt syw) H → va_D A (cf_ytyw cI hyt hyw syt syw) → va_S A s.heap H locs → ∀ (ls : Array Slot), lv_has ls 10 [(0, .ref hyt), (2, .ref hyw), (3, .int a3), (4, .int a4), (5, .int a5), (6, .int x6), (7, .int x7)] → k6 x6 x7 = some r → W p l e rmL_fitting s m ([.ref hyt, .int a1, .ref hyw, .int a3, .int a4, .int a5] : List Value).toArray below meth c H locs (0) (0) QQ (F0 m 6 ls [])) (x6 : Int32) (x7 : Int32) (t0 : Int32) (H : Heap) (locs : List Loc), va_P (dC, dI) vwCl (cf_ytyw cI hyt hyw syt syw) H → va_D A (cf_ytyw cI hyt hyw syt syw) → va_S A s.heap H locs → ∀ (ls : Array Slot), lv_has ls 10 [(0, .ref hyt), (2, .ref hyw), (3, .int a3), (4, .int a4), (5, .int a5), (6, .int x6), (7, .int x7)] → fL_fitting_32 syt syw a1 a3 a4 a5 k6 x6 x7 t0 = some r → W p l e rmL_fitting s m ([.ref hyt, .int a1, .ref hyw, .int a3, .int a4, .int a5] : List Value).toArray below meth c H locs (0) (0) QQ (F0 m 32 ls [.int t0]) := by
    intro k6 hk6 x6 x7 t0 H locs hP hD hS ls hl hf
    unfold fL_fitting_32 at hf
    refine lv_istore (lv' := [(8, .int t0), (0, .ref hyt), (2, .ref hyw), (3, .int a3), (4, .int a4), (5, .int a5), (6, .int x6), (7, .int x7)]) hx hb dL_fitting_32 hl (by decide) rfl (fun ls hl => ?_)
    refine lv_iload_n hx hb dL_fitting_34 rfl (lv_at hl 3 rfl) ?_
    refine lv_istore (lv' := [(9, .int a3), (8, .int t0), (0, .ref hyt), (2, .ref hyw), (3, .int a3), (4, .int a4), (5, .int a5), (6, .int x6), (7, .int x7)]) hx hb dL_fitting_35 hl (by decide) rfl (fun ls hl => ?_)
    exact J37 k6 hk6 64 x6 x7 t0 a3 _ _ hP hD hS _ (lv_sub hl [2, 3, 4, 5, 6, 7, 8, 1, 0] rfl) hf
  have J27 : ∀ (k6 : Int32 → Int32 → Option (Int32)) (hk6 : ∀ (x6 : Int32) (x7 : Int32) (H : Heap) (locs : List Loc), va_P (dC, dI) vwCl (cf_ytyw cI hyt hyw syt syw) H → va_D A (cf_ytyw cI hyt hyw syt syw) → va_S A s.heap H locs → ∀ (ls : Array Slot), lv_has ls 10 [(0, .ref hyt), (2, .ref hyw), (3, .int a3), (4, .int a4), (5, .int a5), (6, .int x6), (7, .int x7)] → k6 x6 x7 = some r → W p l e rmL_fitting s m ([.ref hyt, .int a1, .ref hyw, .int a3, .int a4, .int a5] : List Value).toArray below meth c H locs (0) (0) QQ (F0 m 6 ls [])) (x6 : Int32) (x7 : Int32) (H : Heap) (locs : List Loc), va_P (dC, dI) vwCl (cf_ytyw cI hyt hyw syt syw) H → va_D A (cf_ytyw cI hyt hyw syt syw) → va_S A s.heap H locs → ∀ (ls : Array Slot), lv_has ls 10 [(0, .ref hyt), (2, .ref hyw), (3, .int a3), (4, .int a4), (5, .int a5), (6, .int x6), (7, .int x7)] → fL_fitting_27 syt syw a1 a3 a4 a5 k6 x6 x7 = some r → W p l e rmL_fitting s m ([.ref hyt, .int a1, .ref hyw, .int a3, .int a4, .int a5] : List Value).toArray below meth c H locs (0) (0) QQ (F0 m 27 ls []) := by
    intro k6 hk6 x6 x7 H locs hP hD hS ls hl hf
    unfold fL_fitting_27 at hf
    refine lv_iconst (v := 1) hx hb dL_fitting_27 (by decide) ?_
    refine lv_goto (tgt := 32) hx hb dL_fitting_28 (by decide) ?_
    exact J32 k6 hk6 x6 x7 1 _ _ hP hD hS _ (lv_sub hl [0, 1, 2, 3, 4, 5, 6] rfl) hf
  have J6 : ∀ (n : Nat) (x6 : Int32) (x7 : Int32) (H : Heap) (locs : List Loc), va_P (dC, dI) vwCl (cf_ytyw cI hyt hyw syt syw) H → va_D A (cf_ytyw cI hyt hyw syt syw) → va_S A s.heap H locs → ∀ (ls : Array Slot), lv_has ls 10 [(0, .ref hyt), (2, .ref hyw), (3, .int a3), (4, .int a4), (5, .int a5), (6, .int x6), (7, .int x7)] → fL_fitting_6 syt syw a1 a3 a4 a5 n x6 x7 = some r → W p l e rmL_fitting s m ([.ref hyt, .int a1, .ref hyw, .int a3, .int a4, .int a5] : List Value).toArray below meth c H locs (0) (0) QQ (F0 m 6 ls []) := by
    intro n
    induction n with
    | zero =>
      intro x6 x7 H locs hP hD hS ls hl hf
      cases hf
    | succ n ih =>
      intro x6 x7 H locs hP hD hS ls hl hf
      rw [fL_fitting_6] at hf
      refine lv_iload hx hb dL_fitting_6 (lv_at hl 6 rfl) ?_
      refine lv_bipush (v := 6) hx hb dL_fitting_8 (by decide) ?_
      refine lv_icmp_ge (tgt := 119) hx hb dL_fitting_10 (by decide) (fun c_1 => ?_) (fun c_1 => ?_)
      · have hf := it_t c_1 hf
        refine lv_iload hx hb dL_fitting_119 (lv_at hl 5 rfl) ?_
        have hf : (some x6 : Option (Int32)) = some r := hf
        have he := Option.some.inj hf
        have he0 : x6 = r := he
        exact hret _ _ _ _ _ _ rfl he0 rfl dL_fitting_121 hP hD hS
      · have hf := it_f c_1 hf
        refine lv_iload hx hb dL_fitting_13 (lv_at hl 4 rfl) ?_
        refine lv_if_lt (tgt := 27) hx hb dL_fitting_15 (by decide) (fun c_2 => ?_) (fun c_2 => ?_)
        · have hf := it_t c_2 hf
          exact J27 (fun x6 x7 => fL_fitting_6 syt syw a1 a3 a4 a5 n x6 x7) (fun x6 x7 H locs hP hD hS ls hl hf => ih x6 x7 H locs hP hD hS ls hl hf) x6 x7 _ _ hP hD hS _ (lv_sub hl [0, 1, 2, 3, 4, 5, 6] rfl) hf
        · have hf := it_f c_2 hf
          refine lv_aload_n hx hb dL_fitting_18 rfl (lv_at hl 0 rfl) ?_
          refine lv_iload hx hb dL_fitting_19 (lv_at hl 6 rfl) ?_
          obtain ⟨hi_3, hf⟩ := ai_ok hf
          refine va_iald (n := 30) (f := syt) hx hb hK hP 0 0 rfl rfl hi_3 dL_fitting_21 ?_
          refine lv_iload hx hb dL_fitting_22 (lv_at hl 4 rfl) ?_
          refine lv_icmp_ne (tgt := 31) hx hb dL_fitting_24 (by decide) (fun c_4 => ?_) (fun c_4 => ?_)
          · have hf := it_f c_4 hf
            refine lv_iconst (v := 0) hx hb dL_fitting_31 (by decide) ?_
            exact J32 (fun x6 x7 => fL_fitting_6 syt syw a1 a3 a4 a5 n x6 x7) (fun x6 x7 H locs hP hD hS ls hl hf => ih x6 x7 H locs hP hD hS ls hl hf) x6 x7 0 _ _ hP hD hS _ (lv_sub hl [0, 1, 2, 3, 4, 5, 6] rfl) hf
          · have hf := it_t c_4 hf
            exact J27 (fun x6 x7 => fL_fitting_6 syt syw a1 a3 a4 a5 n x6 x7) (fun x6 x7 H locs hP hD hS ls hl hf => ih x6 x7 H locs hP hD hS ls hl hf) x6 x7 _ _ hP hD hS _ (lv_sub hl [0, 1, 2, 3, 4, 5, 6] rfl) hf
  unfold fL_fitting at hf
  refine lv_iload_n hx hb dL_fitting_0 rfl (lv_at hl 1 rfl) ?_
  refine lv_istore (lv' := [(6, .int a1), (0, .ref hyt), (1, .int a1), (2, .ref hyw), (3, .int a3), (4, .int a4), (5, .int a5)]) hx hb dL_fitting_1 hl (by decide) rfl (fun ls hl => ?_)
  refine lv_iconst (v := 0) hx hb dL_fitting_3 (by decide) ?_
  refine lv_istore (lv' := [(7, .int 0), (6, .int a1), (0, .ref hyt), (1, .int a1), (2, .ref hyw), (3, .int a3), (4, .int a4), (5, .int a5)]) hx hb dL_fitting_4 hl (by decide) rfl (fun ls hl => ?_)
  exact J6 64 a1 0 _ _ hP hD hS _ (lv_sub hl [2, 4, 5, 6, 7, 1, 0] rfl) hf
