abbrev rmX5_contains : Room := { frames := 0, cells := 0, slots := 0, locals := 0 }
set_option maxHeartbeats 2000000 in
set_option maxRecDepth 100000 in
theorem ktX5_contains (l : Launch) (dC : Nat → ClassId) (dI : Nat → Nat → Nat) (sz : Nat) (a0 : Int32) (a1 : Int32) (r : Int32) (hf : fX5_contains a0 a1 = some r) : Met l yX5_contains wsX5_contains rmX5_contains (va_Pc [.int a0, .int a1] (pre_w (dC, dI) ([] : va_W) [] sz)) (va_Qi (fun (r' : Int32) (_ : Unit) => r' = r) (post_w (dC, dI) ([] : va_W) [] (va_A ([] : va_W) sz)) (va_A ([] : va_W) sz)) 0 0 (va_A ([] : va_W) sz) := by
  refine gm_z (cc := cX5_contains) (maxL := 2) (by decide) rfl (Nat.le_of_ble_eq_true rfl) ?_
  intro p e s m below meth c A QQ ls hx hb hml hown hts hK hN hA hP hD hS hl hret
  have hown : s.vm.findClass RX5 = some m.cls := hown
  have hl : lv_has ls 2 [(0, .int a0), (1, .int a1)] := hl
  have J23 : ∀ (t0 : Int32) (H : Heap) (locs : List Loc), va_P (dC, dI) vwCl ([] : va_W) H → va_D A ([] : va_W) → va_S A s.heap H locs → ∀ (ls : Array Slot), lv_has ls 2 [] → fX5_contains_23 a0 a1 t0 = some r → W p l e rmX5_contains s m ([.int a0, .int a1] : List Value).toArray below meth c H locs 0 0 QQ (F0 m 23 ls [.int t0]) := by
    intro  t0 H locs hP hD hS ls hl hf
    unfold fX5_contains_23 at hf
    obtain ⟨hz_1, hf⟩ := bo_ok hf
    have hf : (some t0 : Option (Int32)) = some r := hf
    have he := Option.some.inj hf
    have he0 : t0 = r := he
    exact hret _ _ _ _ _ _ hz_1 he0 rfl dX5_contains_23 hP hD hS
  have J22 : ∀ (H : Heap) (locs : List Loc), va_P (dC, dI) vwCl ([] : va_W) H → va_D A ([] : va_W) → va_S A s.heap H locs → ∀ (ls : Array Slot), lv_has ls 2 [] → fX5_contains_22 a0 a1 = some r → W p l e rmX5_contains s m ([.int a0, .int a1] : List Value).toArray below meth c H locs 0 0 QQ (F0 m 22 ls []) := by
    intro   H locs hP hD hS ls hl hf
    unfold fX5_contains_22 at hf
    refine lv_iconst (v := 0) hx hb dX5_contains_22 (by decide) ?_
    exact J23 0 _ _ hP hD hS _ (lv_sub hl [] rfl) hf
  unfold fX5_contains at hf
  refine lv_iload_n hx hb dX5_contains_0 rfl (lv_at hl 1 rfl) ?_
  refine lv_if_lt (tgt := 22) hx hb dX5_contains_1 (by decide) (fun c_1 => ?_) (fun c_1 => ?_)
  · have hf := it_t c_1 hf
    exact J22 _ _ hP hD hS _ (lv_sub hl [] rfl) hf
  · have hf := it_f c_1 hf
    refine lv_iload_n hx hb dX5_contains_4 rfl (lv_at hl 1 rfl) ?_
    refine lv_bipush (v := 12) hx hb dX5_contains_5 (by decide) ?_
    refine lv_icmp_ge (tgt := 22) hx hb dX5_contains_7 (by decide) (fun c_2 => ?_) (fun c_2 => ?_)
    · have hf := it_t c_2 hf
      exact J22 _ _ hP hD hS _ (lv_sub hl [] rfl) hf
    · have hf := it_f c_2 hf
      refine lv_iload_n hx hb dX5_contains_10 rfl (lv_at hl 0 rfl) ?_
      refine lv_iload_n hx hb dX5_contains_11 rfl (lv_at hl 1 rfl) ?_
      refine lv_ishr hx hb dX5_contains_12 ?_
      refine lv_iconst (v := 1) hx hb dX5_contains_13 (by decide) ?_
      refine lv_iand hx hb dX5_contains_14 ?_
      refine lv_if_eq (tgt := 22) hx hb dX5_contains_15 (by decide) (fun c_3 => ?_) (fun c_3 => ?_)
      · have hf := it_t c_3 hf
        exact J22 _ _ hP hD hS _ (lv_sub hl [] rfl) hf
      · have hf := it_f c_3 hf
        refine lv_iconst (v := 1) hx hb dX5_contains_18 (by decide) ?_
        refine lv_goto (tgt := 23) hx hb dX5_contains_19 (by decide) ?_
        exact J23 1 _ _ hP hD hS _ (lv_sub hl [] rfl) hf
abbrev rmJ6_bitCount : Room := { frames := 0, cells := 0, slots := 0, locals := 0 }
set_option maxHeartbeats 2000000 in
set_option maxRecDepth 100000 in
theorem ktJ6_bitCount (l : Launch) (dC : Nat → ClassId) (dI : Nat → Nat → Nat) (sz : Nat) (a0 : Int32) (r : Int32) (hf : fJ6_bitCount a0 = some r) : Met l yJ6_bitCount_0f7a4 wsJ6_bitCount_0f7a4 rmJ6_bitCount (va_Pc [.int a0] (pre_w (dC, dI) ([] : va_W) [] sz)) (va_Qi (fun (r' : Int32) (_ : Unit) => r' = r) (post_w (dC, dI) ([] : va_W) [] (va_A ([] : va_W) sz)) (va_A ([] : va_W) sz)) 0 0 (va_A ([] : va_W) sz) := by
  refine gm_i (cc := cJ6_bitCount_0f7a4) (maxL := 1) (by decide) rfl (Nat.le_of_ble_eq_true rfl) ?_
  intro p e s m below meth c A QQ ls hx hb hml hown hts hK hN hA hP hD hS hl hret
  have hown : s.vm.findClass RJ6 = some m.cls := hown
  have hl : lv_has ls 1 [(0, .int a0)] := hl
  unfold fJ6_bitCount at hf
  refine lv_iload_n hx hb dJ6_bitCount_0f7a4_0 rfl (lv_at hl 0 rfl) ?_
  refine lv_iload_n hx hb dJ6_bitCount_0f7a4_1 rfl (lv_at hl 0 rfl) ?_
  refine lv_iconst (v := 1) hx hb dJ6_bitCount_0f7a4_2 (by decide) ?_
  refine lv_iushr (v := (a0.toUInt32 >>> ((1 : Int32).toUInt32 &&& Int32.toUInt32 31)).toInt32) hx hb dJ6_bitCount_0f7a4_3 rfl ?_
  refine lv_ldcw (v := 1431655765) hx hb hown (hts (.constant RJ6 265 (1431655765)) (by decide +kernel)) dJ6_bitCount_0f7a4_4 ?_
  refine lv_iand hx hb dJ6_bitCount_0f7a4_7 ?_
  refine lv_isub hx hb dJ6_bitCount_0f7a4_8 ?_
  refine lv_istore_n (lv' := [(0, .int (a0 - (((a0.toUInt32 >>> ((1 : Int32).toUInt32 &&& Int32.toUInt32 31)).toInt32) &&& 1431655765)))]) hx hb dJ6_bitCount_0f7a4_9 rfl hl (by decide) rfl (fun ls hl => ?_)
  refine lv_iload_n hx hb dJ6_bitCount_0f7a4_10 rfl (lv_at hl 0 rfl) ?_
  refine lv_ldcw (v := 858993459) hx hb hown (hts (.constant RJ6 266 (858993459)) (by decide +kernel)) dJ6_bitCount_0f7a4_11 ?_
  refine lv_iand hx hb dJ6_bitCount_0f7a4_14 ?_
  refine lv_iload_n hx hb dJ6_bitCount_0f7a4_15 rfl (lv_at hl 0 rfl) ?_
  refine lv_iconst (v := 2) hx hb dJ6_bitCount_0f7a4_16 (by decide) ?_
  refine lv_iushr (v := ((a0 - (((a0.toUInt32 >>> ((1 : Int32).toUInt32 &&& Int32.toUInt32 31)).toInt32) &&& 1431655765)).toUInt32 >>> ((2 : Int32).toUInt32 &&& Int32.toUInt32 31)).toInt32) hx hb dJ6_bitCount_0f7a4_17 rfl ?_
  refine lv_ldcw (v := 858993459) hx hb hown (hts (.constant RJ6 266 (858993459)) (by decide +kernel)) dJ6_bitCount_0f7a4_18 ?_
  refine lv_iand hx hb dJ6_bitCount_0f7a4_21 ?_
  refine lv_iadd hx hb dJ6_bitCount_0f7a4_22 ?_
  refine lv_topi (fun y_1 ey_1 => ?_)
  have hf := bl_ok ey_1 hf
  refine lv_istore_n (lv' := [(0, .int y_1)]) hx hb dJ6_bitCount_0f7a4_23 rfl hl (by decide) rfl (fun ls hl => ?_)
  refine lv_iload_n hx hb dJ6_bitCount_0f7a4_24 rfl (lv_at hl 0 rfl) ?_
  refine lv_iload_n hx hb dJ6_bitCount_0f7a4_25 rfl (lv_at hl 0 rfl) ?_
  refine lv_iconst (v := 4) hx hb dJ6_bitCount_0f7a4_26 (by decide) ?_
  refine lv_iushr (v := (y_1.toUInt32 >>> ((4 : Int32).toUInt32 &&& Int32.toUInt32 31)).toInt32) hx hb dJ6_bitCount_0f7a4_27 rfl ?_
  refine lv_iadd hx hb dJ6_bitCount_0f7a4_28 ?_
  refine lv_ldcw (v := 252645135) hx hb hown (hts (.constant RJ6 267 (252645135)) (by decide +kernel)) dJ6_bitCount_0f7a4_29 ?_
  refine lv_iand hx hb dJ6_bitCount_0f7a4_32 ?_
  refine lv_istore_n (lv' := [(0, .int ((y_1 + ((y_1.toUInt32 >>> ((4 : Int32).toUInt32 &&& Int32.toUInt32 31)).toInt32)) &&& 252645135))]) hx hb dJ6_bitCount_0f7a4_33 rfl hl (by decide) rfl (fun ls hl => ?_)
  refine lv_iload_n hx hb dJ6_bitCount_0f7a4_34 rfl (lv_at hl 0 rfl) ?_
  refine lv_iload_n hx hb dJ6_bitCount_0f7a4_35 rfl (lv_at hl 0 rfl) ?_
  refine lv_bipush (v := 8) hx hb dJ6_bitCount_0f7a4_36 (by decide) ?_
  refine lv_iushr (v := (((y_1 + ((y_1.toUInt32 >>> ((4 : Int32).toUInt32 &&& Int32.toUInt32 31)).toInt32)) &&& 252645135).toUInt32 >>> ((8 : Int32).toUInt32 &&& Int32.toUInt32 31)).toInt32) hx hb dJ6_bitCount_0f7a4_38 rfl ?_
  refine lv_iadd hx hb dJ6_bitCount_0f7a4_39 ?_
  refine lv_topi (fun y_2 ey_2 => ?_)
  have hf := bl_ok ey_2 hf
  refine lv_istore_n (lv' := [(0, .int y_2)]) hx hb dJ6_bitCount_0f7a4_40 rfl hl (by decide) rfl (fun ls hl => ?_)
  refine lv_iload_n hx hb dJ6_bitCount_0f7a4_41 rfl (lv_at hl 0 rfl) ?_
  refine lv_iload_n hx hb dJ6_bitCount_0f7a4_42 rfl (lv_at hl 0 rfl) ?_
  refine lv_bipush (v := 16) hx hb dJ6_bitCount_0f7a4_43 (by decide) ?_
  refine lv_iushr (v := (y_2.toUInt32 >>> ((16 : Int32).toUInt32 &&& Int32.toUInt32 31)).toInt32) hx hb dJ6_bitCount_0f7a4_45 rfl ?_
  refine lv_iadd hx hb dJ6_bitCount_0f7a4_46 ?_
  refine lv_istore_n (lv' := [(0, .int (y_2 + ((y_2.toUInt32 >>> ((16 : Int32).toUInt32 &&& Int32.toUInt32 31)).toInt32)))]) hx hb dJ6_bitCount_0f7a4_47 rfl hl (by decide) rfl (fun ls hl => ?_)
  refine lv_iload_n hx hb dJ6_bitCount_0f7a4_48 rfl (lv_at hl 0 rfl) ?_
  refine lv_bipush (v := 63) hx hb dJ6_bitCount_0f7a4_49 (by decide) ?_
  refine lv_iand hx hb dJ6_bitCount_0f7a4_51 ?_
  have hf : (some ((y_2 + ((y_2.toUInt32 >>> ((16 : Int32).toUInt32 &&& Int32.toUInt32 31)).toInt32)) &&& 63) : Option (Int32)) = some r := hf
  have he := Option.some.inj hf
  have he0 : ((y_2 + ((y_2.toUInt32 >>> ((16 : Int32).toUInt32 &&& Int32.toUInt32 31)).toInt32)) &&& 63) = r := he
  exact hret _ _ _ _ _ _ he0 rfl dJ6_bitCount_0f7a4_52 hP hD hS
abbrev rmX5_isBetween : Room := { frames := 0, cells := 0, slots := 0, locals := 0 }
set_option maxHeartbeats 2000000 in
set_option maxRecDepth 100000 in
theorem ktX5_isBetween (l : Launch) (dC : Nat → ClassId) (dI : Nat → Nat → Nat) (sz : Nat) (a0 : Int32) (a1 : Int32) (a2 : Int32) (r : Int32) (hf : fX5_isBetween a0 a1 a2 = some r) : Met l yX5_isBetween wsX5_isBetween rmX5_isBetween (va_Pc [.int a0, .int a1, .int a2] (pre_w (dC, dI) ([] : va_W) [] sz)) (va_Qi (fun (r' : Int32) (_ : Unit) => r' = r) (post_w (dC, dI) ([] : va_W) [] (va_A ([] : va_W) sz)) (va_A ([] : va_W) sz)) 0 0 (va_A ([] : va_W) sz) := by
  refine gm_z (cc := cX5_isBetween) (maxL := 3) (by decide) rfl (Nat.le_of_ble_eq_true rfl) ?_
  intro p e s m below meth c A QQ ls hx hb hml hown hts hK hN hA hP hD hS hl hret
  have hown : s.vm.findClass RX5 = some m.cls := hown
  have hl : lv_has ls 3 [(0, .int a0), (1, .int a1), (2, .int a2)] := hl
  have J17 : ∀ (t0 : Int32) (H : Heap) (locs : List Loc), va_P (dC, dI) vwCl ([] : va_W) H → va_D A ([] : va_W) → va_S A s.heap H locs → ∀ (ls : Array Slot), lv_has ls 3 [] → fX5_isBetween_17 a0 a1 a2 t0 = some r → W p l e rmX5_isBetween s m ([.int a0, .int a1, .int a2] : List Value).toArray below meth c H locs 0 0 QQ (F0 m 17 ls [.int t0]) := by
    intro  t0 H locs hP hD hS ls hl hf
    unfold fX5_isBetween_17 at hf
    obtain ⟨hz_1, hf⟩ := bo_ok hf
    have hf : (some t0 : Option (Int32)) = some r := hf
    have he := Option.some.inj hf
    have he0 : t0 = r := he
    exact hret _ _ _ _ _ _ hz_1 he0 rfl dX5_isBetween_17 hP hD hS
  have J16 : ∀ (H : Heap) (locs : List Loc), va_P (dC, dI) vwCl ([] : va_W) H → va_D A ([] : va_W) → va_S A s.heap H locs → ∀ (ls : Array Slot), lv_has ls 3 [] → fX5_isBetween_16 a0 a1 a2 = some r → W p l e rmX5_isBetween s m ([.int a0, .int a1, .int a2] : List Value).toArray below meth c H locs 0 0 QQ (F0 m 16 ls []) := by
    intro   H locs hP hD hS ls hl hf
    unfold fX5_isBetween_16 at hf
    refine lv_iconst (v := 0) hx hb dX5_isBetween_16 (by decide) ?_
    exact J17 0 _ _ hP hD hS _ (lv_sub hl [] rfl) hf
  unfold fX5_isBetween at hf
  refine lv_iload_n hx hb dX5_isBetween_0 rfl (lv_at hl 0 rfl) ?_
  refine lv_iload_n hx hb dX5_isBetween_1 rfl (lv_at hl 1 rfl) ?_
  refine lv_icmp_lt (tgt := 16) hx hb dX5_isBetween_2 (by decide) (fun c_1 => ?_) (fun c_1 => ?_)
  · have hf := it_t c_1 hf
    exact J16 _ _ hP hD hS _ (lv_sub hl [] rfl) hf
  · have hf := it_f c_1 hf
    refine lv_iload_n hx hb dX5_isBetween_5 rfl (lv_at hl 0 rfl) ?_
    refine lv_iload_n hx hb dX5_isBetween_6 rfl (lv_at hl 1 rfl) ?_
    refine lv_iload_n hx hb dX5_isBetween_7 rfl (lv_at hl 2 rfl) ?_
    refine lv_iadd hx hb dX5_isBetween_8 ?_
    refine lv_icmp_ge (tgt := 16) hx hb dX5_isBetween_9 (by decide) (fun c_2 => ?_) (fun c_2 => ?_)
    · have hf := it_t c_2 hf
      exact J16 _ _ hP hD hS _ (lv_sub hl [] rfl) hf
    · have hf := it_f c_2 hf
      refine lv_iconst (v := 1) hx hb dX5_isBetween_12 (by decide) ?_
      refine lv_goto (tgt := 17) hx hb dX5_isBetween_13 (by decide) ?_
      exact J17 1 _ _ hP hD hS _ (lv_sub hl [] rfl) hf
abbrev rmX5_isVerb : Room := { frames := 0, cells := 0, slots := 0, locals := 0 }
set_option maxHeartbeats 2000000 in
set_option maxRecDepth 100000 in
theorem ktX5_isVerb (l : Launch) (dC : Nat → ClassId) (dI : Nat → Nat → Nat) (sz : Nat) (a0 : Int32) (r : Int32) (hf : fX5_isVerb a0 = some r) : Met l yX5_isVerb wsX5_isVerb rmX5_isVerb (va_Pc [.int a0] (pre_w (dC, dI) ([] : va_W) [] sz)) (va_Qi (fun (r' : Int32) (_ : Unit) => r' = r) (post_w (dC, dI) ([] : va_W) [] (va_A ([] : va_W) sz)) (va_A ([] : va_W) sz)) 0 0 (va_A ([] : va_W) sz) := by
  refine gm_z (cc := cX5_isVerb) (maxL := 1) (by decide) rfl (Nat.le_of_ble_eq_true rfl) ?_
  intro p e s m below meth c A QQ ls hx hb hml hown hts hK hN hA hP hD hS hl hret
  have hown : s.vm.findClass RX5 = some m.cls := hown
  have hl : lv_has ls 1 [(0, .int a0)] := hl
  have J14 : ∀ (t0 : Int32) (H : Heap) (locs : List Loc), va_P (dC, dI) vwCl ([] : va_W) H → va_D A ([] : va_W) → va_S A s.heap H locs → ∀ (ls : Array Slot), lv_has ls 1 [] → fX5_isVerb_14 a0 t0 = some r → W p l e rmX5_isVerb s m ([.int a0] : List Value).toArray below meth c H locs 0 0 QQ (F0 m 14 ls [.int t0]) := by
    intro  t0 H locs hP hD hS ls hl hf
    unfold fX5_isVerb_14 at hf
    obtain ⟨hz_1, hf⟩ := bo_ok hf
    have hf : (some t0 : Option (Int32)) = some r := hf
    have he := Option.some.inj hf
    have he0 : t0 = r := he
    exact hret _ _ _ _ _ _ hz_1 he0 rfl dX5_isVerb_14 hP hD hS
  have J13 : ∀ (H : Heap) (locs : List Loc), va_P (dC, dI) vwCl ([] : va_W) H → va_D A ([] : va_W) → va_S A s.heap H locs → ∀ (ls : Array Slot), lv_has ls 1 [] → fX5_isVerb_13 a0 = some r → W p l e rmX5_isVerb s m ([.int a0] : List Value).toArray below meth c H locs 0 0 QQ (F0 m 13 ls []) := by
    intro   H locs hP hD hS ls hl hf
    unfold fX5_isVerb_13 at hf
    refine lv_iconst (v := 0) hx hb dX5_isVerb_13 (by decide) ?_
    exact J14 0 _ _ hP hD hS _ (lv_sub hl [] rfl) hf
  unfold fX5_isVerb at hf
  refine lv_iload_n hx hb dX5_isVerb_0 rfl (lv_at hl 0 rfl) ?_
  refine lv_if_lt (tgt := 13) hx hb dX5_isVerb_1 (by decide) (fun c_1 => ?_) (fun c_1 => ?_)
  · have hf := it_t c_1 hf
    exact J13 _ _ hP hD hS _ (lv_sub hl [] rfl) hf
  · have hf := it_f c_1 hf
    refine lv_iload_n hx hb dX5_isVerb_4 rfl (lv_at hl 0 rfl) ?_
    refine lv_iconst (v := 4) hx hb dX5_isVerb_5 (by decide) ?_
    refine lv_icmp_gt (tgt := 13) hx hb dX5_isVerb_6 (by decide) (fun c_2 => ?_) (fun c_2 => ?_)
    · have hf := it_t c_2 hf
      exact J13 _ _ hP hD hS _ (lv_sub hl [] rfl) hf
    · have hf := it_f c_2 hf
      refine lv_iconst (v := 1) hx hb dX5_isVerb_9 (by decide) ?_
      refine lv_goto (tgt := 14) hx hb dX5_isVerb_10 (by decide) ?_
      exact J14 1 _ _ hP hD hS _ (lv_sub hl [] rfl) hf
abbrev rmX5_isWord : Room := { frames := 1, cells := 0, slots := 0, locals := 22 }
set_option maxHeartbeats 2000000 in
set_option maxRecDepth 100000 in
theorem ktX5_isWord (l : Launch) (dC : Nat → ClassId) (dI : Nat → Nat → Nat) (sz : Nat) (a0 : Int32) (r : Int32) (hf : fX5_isWord a0 = some r) : Met l yX5_isWord wsX5_isWord rmX5_isWord (va_Pc [.int a0] (pre_w (dC, dI) ([] : va_W) [] sz)) (va_Qi (fun (r' : Int32) (_ : Unit) => r' = r) (post_w (dC, dI) ([] : va_W) [] (va_A ([] : va_W) sz)) (va_A ([] : va_W) sz)) 0 0 (va_A ([] : va_W) sz) := by
  refine gm_z (cc := cX5_isWord) (maxL := 1) (by decide) rfl (Nat.le_of_ble_eq_true rfl) ?_
  intro p e s m below meth c A QQ ls hx hb hml hown hts hK hN hA hP hD hS hl hret
  have hown : s.vm.findClass RX5 = some m.cls := hown
  have hl : lv_has ls 1 [(0, .int a0)] := hl
  have J57 : ∀ (t0 : Int32) (H : Heap) (locs : List Loc), va_P (dC, dI) vwCl ([] : va_W) H → va_D A ([] : va_W) → va_S A s.heap H locs → ∀ (ls : Array Slot), lv_has ls 1 [] → fX5_isWord_57 a0 t0 = some r → W p l e rmX5_isWord s m ([.int a0] : List Value).toArray below meth c H locs 0 0 QQ (F0 m 57 ls [.int t0]) := by
    intro  t0 H locs hP hD hS ls hl hf
    unfold fX5_isWord_57 at hf
    obtain ⟨hz_1, hf⟩ := bo_ok hf
    have hf : (some t0 : Option (Int32)) = some r := hf
    have he := Option.some.inj hf
    have he0 : t0 = r := he
    exact hret _ _ _ _ _ _ hz_1 he0 rfl dX5_isWord_57 hP hD hS
  have J52 : ∀ (H : Heap) (locs : List Loc), va_P (dC, dI) vwCl ([] : va_W) H → va_D A ([] : va_W) → va_S A s.heap H locs → ∀ (ls : Array Slot), lv_has ls 1 [] → fX5_isWord_52 a0 = some r → W p l e rmX5_isWord s m ([.int a0] : List Value).toArray below meth c H locs 0 0 QQ (F0 m 52 ls []) := by
    intro   H locs hP hD hS ls hl hf
    unfold fX5_isWord_52 at hf
    refine lv_iconst (v := 1) hx hb dX5_isWord_52 (by decide) ?_
    refine lv_goto (tgt := 57) hx hb dX5_isWord_53 (by decide) ?_
    exact J57 1 _ _ hP hD hS _ (lv_sub hl [] rfl) hf
  have J19 : ∀ (H : Heap) (locs : List Loc), va_P (dC, dI) vwCl ([] : va_W) H → va_D A ([] : va_W) → va_S A s.heap H locs → ∀ (ls : Array Slot), lv_has ls 1 [(0, .int a0)] → fX5_isWord_19 a0 = some r → W p l e rmX5_isWord s m ([.int a0] : List Value).toArray below meth c H locs 0 0 QQ (F0 m 19 ls []) := by
    intro   H locs hP hD hS ls hl hf
    unfold fX5_isWord_19 at hf
    refine lv_iload_n hx hb dX5_isWord_19 rfl (lv_at hl 0 rfl) ?_
    refine lv_bipush (v := 20) hx hb dX5_isWord_20 (by decide) ?_
    refine lv_bipush (v := 6) hx hb dX5_isWord_22 (by decide) ?_
    obtain ⟨r_1, hc_1, hf⟩ := bn1_ok hf
    refine gc_i (wc := ([] : va_W)) (wr := ([] : va_W)) (w1 := ([] : va_W)) (ws' := ([] : va_W)) hP hD hS hA [] [] [] rfl rfl (by decide) (by decide) rfl (by decide) (va_runS (As := [.int a0, .int 20, .int 6]) (rest := []) ⟨hx, hb, hml, hown, hts⟩ (ktX5_isBetween l dC dI _ a0 20 6 r_1 hc_1) (va_cwS 3 hts gX5_isWord_X5_isBetween rfl rfl rfl (by decide +kernel) ⟨Nat.le_of_ble_eq_true rfl, Nat.le_of_ble_eq_true rfl⟩) (gc_S (hP.sub (ws' := ([] : va_W)) [] rfl) (hK.sub (tys' := []) [] rfl) (hD.sub (ws' := ([] : va_W)) [] (by decide) rfl) hN) rfl rfl hl.1 rfl (lv_room (Nat.le_of_ble_eq_true rfl)) dX5_isWord_24 ⟨Nat.zero_le _, Nat.zero_le _⟩) (fun H locs hP hD hS => ?_)
    refine lv_if_ne (tgt := 52) hx hb dX5_isWord_27 (by decide) (fun c_2 => ?_) (fun c_2 => ?_)
    · have hf := it_f c_2 hf
      exact J52 _ _ hP hD hS _ (lv_sub hl [] rfl) hf
    · have hf := it_t c_2 hf
      refine lv_iload_n hx hb dX5_isWord_30 rfl (lv_at hl 0 rfl) ?_
      refine lv_bipush (v := 30) hx hb dX5_isWord_31 (by decide) ?_
      refine lv_bipush (v := 8) hx hb dX5_isWord_33 (by decide) ?_
      obtain ⟨r_3, hc_3, hf⟩ := bn1_ok hf
      refine gc_i (wc := ([] : va_W)) (wr := ([] : va_W)) (w1 := ([] : va_W)) (ws' := ([] : va_W)) hP hD hS hA [] [] [] rfl rfl (by decide) (by decide) rfl (by decide) (va_runS (As := [.int a0, .int 30, .int 8]) (rest := []) ⟨hx, hb, hml, hown, hts⟩ (ktX5_isBetween l dC dI _ a0 30 8 r_3 hc_3) (va_cwS 3 hts gX5_isWord_X5_isBetween rfl rfl rfl (by decide +kernel) ⟨Nat.le_of_ble_eq_true rfl, Nat.le_of_ble_eq_true rfl⟩) (gc_S (hP.sub (ws' := ([] : va_W)) [] rfl) (hK.sub (tys' := []) [] rfl) (hD.sub (ws' := ([] : va_W)) [] (by decide) rfl) hN) rfl rfl hl.1 rfl (lv_room (Nat.le_of_ble_eq_true rfl)) dX5_isWord_35 ⟨Nat.zero_le _, Nat.zero_le _⟩) (fun H locs hP hD hS => ?_)
      refine lv_if_ne (tgt := 52) hx hb dX5_isWord_38 (by decide) (fun c_4 => ?_) (fun c_4 => ?_)
      · have hf := it_f c_4 hf
        exact J52 _ _ hP hD hS _ (lv_sub hl [] rfl) hf
      · have hf := it_t c_4 hf
        refine lv_iload_n hx hb dX5_isWord_41 rfl (lv_at hl 0 rfl) ?_
        refine lv_bipush (v := 40) hx hb dX5_isWord_42 (by decide) ?_
        refine lv_bipush (v := 8) hx hb dX5_isWord_44 (by decide) ?_
        obtain ⟨r_5, hc_5, hf⟩ := bn1_ok hf
        refine gc_i (wc := ([] : va_W)) (wr := ([] : va_W)) (w1 := ([] : va_W)) (ws' := ([] : va_W)) hP hD hS hA [] [] [] rfl rfl (by decide) (by decide) rfl (by decide) (va_runS (As := [.int a0, .int 40, .int 8]) (rest := []) ⟨hx, hb, hml, hown, hts⟩ (ktX5_isBetween l dC dI _ a0 40 8 r_5 hc_5) (va_cwS 3 hts gX5_isWord_X5_isBetween rfl rfl rfl (by decide +kernel) ⟨Nat.le_of_ble_eq_true rfl, Nat.le_of_ble_eq_true rfl⟩) (gc_S (hP.sub (ws' := ([] : va_W)) [] rfl) (hK.sub (tys' := []) [] rfl) (hD.sub (ws' := ([] : va_W)) [] (by decide) rfl) hN) rfl rfl hl.1 rfl (lv_room (Nat.le_of_ble_eq_true rfl)) dX5_isWord_46 ⟨Nat.zero_le _, Nat.zero_le _⟩) (fun H locs hP hD hS => ?_)
        refine lv_if_eq (tgt := 56) hx hb dX5_isWord_49 (by decide) (fun c_6 => ?_) (fun c_6 => ?_)
        · have hf := it_t c_6 hf
          refine lv_iconst (v := 0) hx hb dX5_isWord_56 (by decide) ?_
          exact J57 0 _ _ hP hD hS _ (lv_sub hl [] rfl) hf
        · have hf := it_f c_6 hf
          exact J52 _ _ hP hD hS _ (lv_sub hl [] rfl) hf
  unfold fX5_isWord at hf
  refine lv_iload_n hx hb dX5_isWord_0 rfl (lv_at hl 0 rfl) ?_
  obtain ⟨r_1, hc_1, hf⟩ := bn1_ok hf
  refine gc_i (wc := ([] : va_W)) (wr := ([] : va_W)) (w1 := ([] : va_W)) (ws' := ([] : va_W)) hP hD hS hA [] [] [] rfl rfl (by decide) (by decide) rfl (by decide) (va_runS (As := [.int a0]) (rest := []) ⟨hx, hb, hml, hown, hts⟩ (ktX5_isVerb l dC dI _ a0 r_1 hc_1) (va_cwS 1 hts gX5_isWord_X5_isVerb rfl rfl rfl (by decide +kernel) ⟨Nat.le_of_ble_eq_true rfl, Nat.le_of_ble_eq_true rfl⟩) (gc_S (hP.sub (ws' := ([] : va_W)) [] rfl) (hK.sub (tys' := []) [] rfl) (hD.sub (ws' := ([] : va_W)) [] (by decide) rfl) hN) rfl rfl hl.1 rfl (lv_room (Nat.le_of_ble_eq_true rfl)) dX5_isWord_1 ⟨Nat.zero_le _, Nat.zero_le _⟩) (fun H locs hP hD hS => ?_)
  refine lv_if_ne (tgt := 52) hx hb dX5_isWord_4 (by decide) (fun c_2 => ?_) (fun c_2 => ?_)
  · have hf := it_f c_2 hf
    exact J52 _ _ hP hD hS _ (lv_sub hl [] rfl) hf
  · have hf := it_t c_2 hf
    refine lv_iload_n hx hb dX5_isWord_7 rfl (lv_at hl 0 rfl) ?_
    refine lv_bipush (v := 10) hx hb dX5_isWord_8 (by decide) ?_
    refine lv_icmp_lt (tgt := 19) hx hb dX5_isWord_10 (by decide) (fun c_3 => ?_) (fun c_3 => ?_)
    · have hf := it_t c_3 hf
      exact J19 _ _ hP hD hS _ (lv_sub hl [0] rfl) hf
    · have hf := it_f c_3 hf
      refine lv_iload_n hx hb dX5_isWord_13 rfl (lv_at hl 0 rfl) ?_
      refine lv_bipush (v := 17) hx hb dX5_isWord_14 (by decide) ?_
      refine lv_icmp_le (tgt := 52) hx hb dX5_isWord_16 (by decide) (fun c_4 => ?_) (fun c_4 => ?_)
      · have hf := it_t c_4 hf
        exact J52 _ _ hP hD hS _ (lv_sub hl [] rfl) hf
      · have hf := it_f c_4 hf
        exact J19 _ _ hP hD hS _ (lv_sub hl [0] rfl) hf
