abbrev rmX5_contains : Room := { frames := 0, cells := 0, slots := 0, locals := 0 }
set_option maxHeartbeats 2000000 in
set_option maxRecDepth 100000 in
theorem ktX5_contains (l : Launch) (dC : Nat → ClassId) (dI : Nat → Nat → Nat) (sz : Nat) (a0 : Int32) (a1 : Int32) (r : Int32) (hf : fX5_contains a0 a1 = some r) : Met l yX5_contains wsX5_contains rmX5_contains (va_Pc [.int a0, .int a1] (pre_w (dC, dI) ([] : va_W) [] sz)) (va_Qi (fun (r' : Int32) (_ : Unit) => r' = r) (post_w (dC, dI) ([] : va_W) [] (va_A ([] : va_W) sz)) (va_A ([] : va_W) sz)) 0 0 (va_A ([] : va_W) sz) := by
  refine gm_z (cc := cX5_contains) (maxL := 2) (by decide) rfl (Nat.le_of_ble_eq_true rfl) ?_
  intro p e s m below meth c A QQ ls hx hb hml hown hts hK hN hA hP hD hS hl hret
  have hown : s.vm.findClass RX5 = some m.cls := hown
  have hl : lv_has ls 2 [(0, .int a0), (1, .int a1)] := hl
  have J23 : ∀ (t0 : Int32) (H : Heap) (locs : List Loc), va_P (dC, dI) vwCl ([] : va_W) H → va_D A ([] : va_W) → va_S A s.heap H locs → ∀ (ls : Array Slot), lv_has ls 2 [] → fX5_contains_23 a0 a1 t0 = some r → W p l e rmX5_contains s m ([.int a0, .int a1] : List Value).toArray below meth c H locs 0 0 QQ (F0 m 23 ls [.int t0]) := by
    intro  t0 H locs hP hD hS ls hl hf
    unfold fX5_contains_23 at hf
    obtain ⟨hz_1, hf⟩ := bo_ok hf
    have hf : (some t0 : Option (Int32)) = some r := hf
    have he := Option.some.inj hf
    have he0 : t0 = r := he
    exact hret _ _ _ _ _ _ hz_1 he0 rfl dX5_contains_23 hP hD hS
  have J22 : ∀ (H : Heap) (locs : List Loc), va_P (dC, dI) vwCl ([] : va_W) H → va_D A ([] : va_W) → va_S A s.heap H locs → ∀ (ls : Array Slot), lv_has ls 2 [] → fX5_contains_22 a0 a1 = some r → W p l e rmX5_contains s m ([.int a0, .int a1] : List Value).toArray below meth c H locs 0 0 QQ (F0 m 22 ls []) := by
    intro   H locs hP hD hS ls hl hf
    unfold fX5_contains_22 at hf
    refine lv_iconst (v := 0) hx hb dX5_contains_22 (by decide) ?_
    exact J23 0 _ _ hP hD hS _ (lv_sub hl [] rfl) hf
  unfold fX5_contains at hf
  refine lv_iload_n hx hb dX5_contains_0 rfl (lv_at hl 1 rfl) ?_
  refine lv_if_lt (tgt := 22) hx hb dX5_contains_1 (by decide) (fun c_1 => ?_) (fun c_1 => ?_)
  · have hf := it_t c_1 hf
    exact J22 _ _ hP hD hS _ (lv_sub hl [] rfl) hf
  · have hf := it_f c_1 hf
    refine lv_iload_n hx hb dX5_contains_4 rfl (lv_at hl 1 rfl) ?_
    refine lv_bipush (v := 12) hx hb dX5_contains_5 (by decide) ?_
    refine lv_icmp_ge (tgt := 22) hx hb dX5_contains_7 (by decide) (fun c_2 => ?_) (fun c_2 => ?_)
    · have hf := it_t c_2 hf
      exact J22 _ _ hP hD hS _ (lv_sub hl [] rfl) hf
    · have hf := it_f c_2 hf
      refine lv_iload_n hx hb dX5_contains_10 rfl (lv_at hl 0 rfl) ?_
      refine lv_iload_n hx hb dX5_contains_11 rfl (lv_at hl 1 rfl) ?_
      refine lv_ishr hx hb dX5_contains_12 ?_
      refine lv_iconst (v := 1) hx hb dX5_contains_13 (by decide) ?_
      refine lv_iand hx hb dX5_contains_14 ?_
      refine lv_if_eq (tgt := 22) hx hb dX5_contains_15 (by decide) (fun c_3 => ?_) (fun c_3 => ?_)
      · have hf := it_t c_3 hf
        exact J22 _ _ hP hD hS _ (lv_sub hl [] rfl) hf
      · have hf := it_f c_3 hf
        refine lv_iconst (v := 1) hx hb dX5_contains_18 (by decide) ?_
        refine lv_goto (tgt := 23) hx hb dX5_contains_19 (by decide) ?_
        exact J23 1 _ _ hP hD hS _ (lv_sub hl [] rfl) hf
abbrev rmJ6_bitCount : Room := { frames := 0, cells := 0, slots := 0, locals := 0 }
set_option maxHeartbeats 2000000 in
set_option maxRecDepth 100000 in
theorem ktJ6_bitCount (l : Launch) (dC : Nat → ClassId) (dI : Nat → Nat → Nat) (sz : Nat) (a0 : Int32) (r : Int32) (hf : fJ6_bitCount a0 = some r) : Met l yJ6_bitCount_0f7a4 wsJ6_bitCount_0f7a4 rmJ6_bitCount (va_Pc [.int a0] (pre_w (dC, dI) ([] : va_W) [] sz)) (va_Qi (fun (r' : Int32) (_ : Unit) => r' = r) (post_w (dC, dI) ([] : va_W) [] (va_A ([] : va_W) sz)) (va_A ([] : va_W) sz)) 0 0 (va_A ([] : va_W) sz) := by
  refine gm_i (cc := cJ6_bitCount_0f7a4) (maxL := 1) (by decide) rfl (Nat.le_of_ble_eq_true rfl) ?_
  intro p e s m below meth c A QQ ls hx hb hml hown hts hK hN hA hP hD hS hl hret
  have hown : s.vm.findClass RJ6 = some m.cls := hown
  have hl : lv_has ls 1 [(0, .int a0)] := hl
  unfold fJ6_bitCount at hf
  refine lv_iload_n hx hb dJ6_bitCount_0f7a4_0 rfl (lv_at hl 0 rfl) ?_
  refine lv_iload_n hx hb dJ6_bitCount_0f7a4_1 rfl (lv_at hl 0 rfl) ?_
  refine lv_iconst (v := 1) hx hb dJ6_bitCount_0f7a4_2 (by decide) ?_
  refine lv_iushr (v := (a0.toUInt32 >>> ((1 : Int32).toUInt32 &&& Int32.toUInt32 31)).toInt32) hx hb dJ6_bitCount_0f7a4_3 rfl ?_
  refine lv_ldcw (v := 1431655765) hx hb hown (hts (.constant RJ6 265 (1431655765)) (by decide +kernel)) dJ6_bitCount_0f7a4_4 ?_
  refine lv_iand hx hb dJ6_bitCount_0f7a4_7 ?_
  refine lv_isub hx hb dJ6_bitCount_0f7a4_8 ?_
  refine lv_istore_n (lv' := [(0, .int (a0 - (((a0.toUInt32 >>> ((1 : Int32).toUInt32 &&& Int32.toUInt32 31)).toInt32) &&& 1431655765)))]) hx hb dJ6_bitCount_0f7a4_9 rfl hl (by decide) rfl (fun ls hl => ?_)
  refine lv_iload_n hx hb dJ6_bitCount_0f7a4_10 rfl (lv_at hl 0 rfl) ?_
  refine lv_ldcw (v := 858993459) hx hb hown (hts (.constant RJ6 266 (858993459)) (by decide +kernel)) dJ6_bitCount_0f7a4_11 ?_
  refine lv_iand hx hb dJ6_bitCount_0f7a4_14 ?_
  refine lv_iload_n hx hb dJ6_bitCount_0f7a4_15 rfl (lv_at hl 0 rfl) ?_
  refine lv_iconst (v := 2) hx hb dJ6_bitCount_0f7a4_16 (by decide) ?_
  refine lv_iushr (v := ((a0 - (((a0.toUInt32 >>> ((1 : Int32).toUInt32 &&& Int32.toUInt32 31)).toInt32) &&& 1431655765)).toUInt32 >>> ((2 : Int32).toUInt32 &&& Int32.toUInt32 31)).toInt32) hx hb dJ6_bitCount_0f7a4_17 rfl ?_
  refine lv_ldcw (v := 858993459) hx hb hown (hts (.constant RJ6 266 (858993459)) (by decide +kernel)) dJ6_bitCount_0f7a4_18 ?_
  refine lv_iand hx hb dJ6_bitCount_0f7a4_21 ?_
  refine lv_iadd hx hb dJ6_bitCount_0f7a4_22 ?_
  refine lv_topi (fun y_1 ey_1 => ?_)
  have hf := bl_ok ey_1 hf
  refine lv_istore_n (lv' := [(0, .int y_1)]) hx hb dJ6_bitCount_0f7a4_23 rfl hl (by decide) rfl (fun ls hl => ?_)
  refine lv_iload_n hx hb dJ6_bitCount_0f7a4_24 rfl (lv_at hl 0 rfl) ?_
  refine lv_iload_n hx hb dJ6_bitCount_0f7a4_25 rfl (lv_at hl 0 rfl) ?_
  refine lv_iconst (v := 4) hx hb dJ6_bitCount_0f7a4_26 (by decide) ?_
  refine lv_iushr (v := (y_1.toUInt32 >>> ((4 : Int32).toUInt32 &&& Int32.toUInt32 31)).toInt32) hx hb dJ6_bitCount_0f7a4_27 rfl ?_
  refine lv_iadd hx hb dJ6_bitCount_0f7a4_28 ?_
  refine lv_ldcw (v := 252645135) hx hb hown (hts (.constant RJ6 267 (252645135)) (by decide +kernel)) dJ6_bitCount_0f7a4_29 ?_
  refine lv_iand hx hb dJ6_bitCount_0f7a4_32 ?_
  refine lv_istore_n (lv' := [(0, .int ((y_1 + ((y_1.toUInt32 >>> ((4 : Int32).toUInt32 &&& Int32.toUInt32 31)).toInt32)) &&& 252645135))]) hx hb dJ6_bitCount_0f7a4_33 rfl hl (by decide) rfl (fun ls hl => ?_)
  refine lv_iload_n hx hb dJ6_bitCount_0f7a4_34 rfl (lv_at hl 0 rfl) ?_
  refine lv_iload_n hx hb dJ6_bitCount_0f7a4_35 rfl (lv_at hl 0 rfl) ?_
  refine lv_bipush (v := 8) hx hb dJ6_bitCount_0f7a4_36 (by decide) ?_
  refine lv_iushr (v := (((y_1 + ((y_1.toUInt32 >>> ((4 : Int32).toUInt32 &&& Int32.toUInt32 31)).toInt32)) &&& 252645135).toUInt32 >>> ((8 : Int32).toUInt32 &&& Int32.toUInt32 31)).toInt32) hx hb dJ6_bitCount_0f7a4_38 rfl ?_
  refine lv_iadd hx hb dJ6_bitCount_0f7a4_39 ?_
  refine lv_topi (fun y_2 ey_2 => ?_)
  have hf := bl_ok ey_2 hf
  refine lv_istore_n (lv' := [(0, .int y_2)]) hx hb dJ6_bitCount_0f7a4_40 rfl hl (by decide) rfl (fun ls hl => ?_)
  refine lv_iload_n hx hb dJ6_bitCount_0f7a4_41 rfl (lv_at hl 0 rfl) ?_
  refine lv_iload_n hx hb dJ6_bitCount_0f7a4_42 rfl (lv_at hl 0 rfl) ?_
  refine lv_bipush (v := 16) hx hb dJ6_bitCount_0f7a4_43 (by decide) ?_
  refine lv_iushr (v := (y_2.toUInt32 >>> ((16 : Int32).toUInt32 &&& Int32.toUInt32 31)).toInt32) hx hb dJ6_bitCount_0f7a4_45 rfl ?_
  refine lv_iadd hx hb dJ6_bitCount_0f7a4_46 ?_
  refine lv_istore_n (lv' := [(0, .int (y_2 + ((y_2.toUInt32 >>> ((16 : Int32).toUInt32 &&& Int32.toUInt32 31)).toInt32)))]) hx hb dJ6_bitCount_0f7a4_47 rfl hl (by decide) rfl (fun ls hl => ?_)
  refine lv_iload_n hx hb dJ6_bitCount_0f7a4_48 rfl (lv_at hl 0 rfl) ?_
  refine lv_bipush (v := 63) hx hb dJ6_bitCount_0f7a4_49 (by decide) ?_
  refine lv_iand hx hb dJ6_bitCount_0f7a4_51 ?_
  have hf : (some ((y_2 + ((y_2.toUInt32 >>> ((16 : Int32).toUInt32 &&& Int32.toUInt32 31)).toInt32)) &&& 63) : Option (Int32)) = some r := hf
  have he := Option.some.inj hf
  have he0 : ((y_2 + ((y_2.toUInt32 >>> ((16 : Int32).toUInt32 &&& Int32.toUInt32 31)).toInt32)) &&& 63) = r := he
  exact hret _ _ _ _ _ _ he0 rfl dJ6_bitCount_0f7a4_52 hP hD hS
abbrev rmX5_isBetween : Room := { frames := 0, cells := 0, slots := 0, locals := 0 }
set_option maxHeartbeats 2000000 in
set_option maxRecDepth 100000 in
theorem ktX5_isBetween (l : Launch) (dC : Nat → ClassId) (dI : Nat → Nat → Nat) (sz : Nat) (a0 : Int32) (a1 : Int32) (a2 : Int32) (r : Int32) (hf : fX5_isBetween a0 a1 a2 = some r) : Met l yX5_isBetween wsX5_isBetween rmX5_isBetween (va_Pc [.int a0, .int a1, .int a2] (pre_w (dC, dI) ([] : va_W) [] sz)) (va_Qi (fun (r' : Int32) (_ : Unit) => r' = r) (post_w (dC, dI) ([] : va_W) [] (va_A ([] : va_W) sz)) (va_A ([] : va_W) sz)) 0 0 (va_A ([] : va_W) sz) := by
  refine gm_z (cc := cX5_isBetween) (maxL := 3) (by decide) rfl (Nat.le_of_ble_eq_true rfl) ?_
  intro p e s m below meth c A QQ ls hx hb hml hown hts hK hN hA hP hD hS hl hret
  have hown : s.vm.findClass RX5 = some m.cls := hown
  have hl : lv_has ls 3 [(0, .int a0), (1, .int a1), (2, .int a2)] := hl
  have J17 : ∀ (t0 : Int32) (H : Heap) (locs : List Loc), va_P (dC, dI) vwCl ([] : va_W) H → va_D A ([] : va_W) → va_S A s.heap H locs → ∀ (ls : Array Slot), lv_has ls 3 [] → fX5_isBetween_17 a0 a1 a2 t0 = some r → W p l e rmX5_isBetween s m ([.int a0, .int a1, .int a2] : List Value).toArray below meth c H locs 0 0 QQ (F0 m 17 ls [.int t0]) := by
    intro  t0 H locs hP hD hS ls hl hf
    unfold fX5_isBetween_17 at hf
    obtain ⟨hz_1, hf⟩ := bo_ok hf
    have hf : (some t0 : Option (Int32)) = some r := hf
    have he := Option.some.inj hf
    have he0 : t0 = r := he
    exact hret _ _ _ _ _ _ hz_1 he0 rfl dX5_isBetween_17 hP hD hS
  have J16 : ∀ (H : Heap) (locs : List Loc), va_P (dC, dI) vwCl ([] : va_W) H → va_D A ([] : va_W) → va_S A s.heap H locs → ∀ (ls : Array Slot), lv_has ls 3 [] → fX5_isBetween_16 a0 a1 a2 = some r → W p l e rmX5_isBetween s m ([.int a0, .int a1, .int a2] : List Value).toArray below meth c H locs 0 0 QQ (F0 m 16 ls []) := by
    intro   H locs hP hD hS ls hl hf
    unfold fX5_isBetween_16 at hf
    refine lv_iconst (v := 0) hx hb dX5_isBetween_16 (by decide) ?_
    exact J17 0 _ _ hP hD hS _ (lv_sub hl [] rfl) hf
  unfold fX5_isBetween at hf
  refine lv_iload_n hx hb dX5_isBetween_0 rfl (lv_at hl 0 rfl) ?_
  refine lv_iload_n hx hb dX5_isBetween_1 rfl (lv_at hl 1 rfl) ?_
  refine lv_icmp_lt (tgt := 16) hx hb dX5_isBetween_2 (by decide) (fun c_1 => ?_) (fun c_1 => ?_)
  · have hf := it_t c_1 hf
    exact J16 _ _ hP hD hS _ (lv_sub hl [] rfl) hf
  · have hf := it_f c_1 hf
    refine lv_iload_n hx hb dX5_isBetween_5 rfl (lv_at hl 0 rfl) ?_
    refine lv_iload_n hx hb dX5_isBetween_6 rfl (lv_at hl 1 rfl) ?_
    refine lv_iload_n hx hb dX5_isBetween_7 rfl (lv_at hl 2 rfl) ?_
    refine lv_iadd hx hb dX5_isBetween_8 ?_
    refine lv_icmp_ge (tgt := 16) hx hb dX5_isBetween_9 (by decide) (fun c_2 => ?_) (fun c_2 => ?_)
    · have hf := it_t c_2 hf
      exact J16 _ _ hP hD hS _ (lv_sub hl [] rfl) hf
    · have hf := it_f c_2 hf
      refine lv_iconst (v := 1) hx hb dX5_isBetween_12 (by decide) ?_
      refine lv_goto (tgt := 17) hx hb dX5_isBetween_13 (by decide) ?_
      exact J17 1 _ _ hP hD hS _ (lv_sub hl [] rfl) hf
abbrev rmX5_isVerb : Room := { frames := 0, cells := 0, slots := 0, locals := 0 }
set_option maxHeartbeats 2000000 in
set_option maxRecDepth 100000 in
theorem ktX5_isVerb (l : Launch) (dC : Nat → ClassId) (dI : Nat → Nat → Nat) (sz : Nat) (a0 : Int32) (r : Int32) (hf : fX5_isVerb a0 = some r) : Met l yX5_isVerb wsX5_isVerb rmX5_isVerb (va_Pc [.int a0] (pre_w (dC, dI) ([] : va_W) [] sz)) (va_Qi (fun (r' : Int32) (_ : Unit) => r' = r) (post_w (dC, dI) ([] : va_W) [] (va_A ([] : va_W) sz)) (va_A ([] : va_W) sz)) 0 0 (va_A ([] : va_W) sz) := by
  refine gm_z (cc := cX5_isVerb) (maxL := 1) (by decide) rfl (Nat.le_of_ble_eq_true rfl) ?_
  intro p e s m below meth c A QQ ls hx hb hml hown hts hK hN hA hP hD hS hl hret
  have hown : s.vm.findClass RX5 = some m.cls := hown
  have hl : lv_has ls 1 [(0, .int a0)] := hl
  have J14 : ∀ (t0 : Int32) (H : Heap) (locs : List Loc), va_P (dC, dI) vwCl ([] : va_W) H → va_D A ([] : va_W) → va_S A s.heap H locs → ∀ (ls : Array Slot), lv_has ls 1 [] → fX5_isVerb_14 a0 t0 = some r → W p l e rmX5_isVerb s m ([.int a0] : List Value).toArray below meth c H locs 0 0 QQ (F0 m 14 ls [.int t0]) := by
    intro  t0 H locs hP hD hS ls hl hf
    unfold fX5_isVerb_14 at hf
    obtain ⟨hz_1, hf⟩ := bo_ok hf
    have hf : (some t0 : Option (Int32)) = some r := hf
    have he := Option.some.inj hf
    have he0 : t0 = r := he
    exact hret _ _ _ _ _ _ hz_1 he0 rfl dX5_isVerb_14 hP hD hS
  have J13 : ∀ (H : Heap) (locs : List Loc), va_P (dC, dI) vwCl ([] : va_W) H → va_D A ([] : va_W) → va_S A s.heap H locs → ∀ (ls : Array Slot), lv_has ls 1 [] → fX5_isVerb_13 a0 = some r → W p l e rmX5_isVerb s m ([.int a0] : List Value).toArray below meth c H locs 0 0 QQ (F0 m 13 ls []) := by
    intro   H locs hP hD hS ls hl hf
    unfold fX5_isVerb_13 at hf
    refine lv_iconst (v := 0) hx hb dX5_isVerb_13 (by decide) ?_
    exact J14 0 _ _ hP hD hS _ (lv_sub hl [] rfl) hf
  unfold fX5_isVerb at hf
  refine lv_iload_n hx hb dX5_isVerb_0 rfl (lv_at hl 0 rfl) ?_
  refine lv_if_lt (tgt := 13) hx hb dX5_isVerb_1 (by decide) (fun c_1 => ?_) (fun c_1 => ?_)
  · have hf := it_t c_1 hf
    exact J13 _ _ hP hD hS _ (lv_sub hl [] rfl) hf
  · have hf := it_f c_1 hf
    refine lv_iload_n hx hb dX5_isVerb_4 rfl (lv_at hl 0 rfl) ?_
    refine lv_iconst (v := 4) hx hb dX5_isVerb_5 (by decide) ?_
    refine lv_icmp_gt (tgt := 13) hx hb dX5_isVerb_6 (by decide) (fun c_2 => ?_) (fun c_2 => ?_)
    · have hf := it_t c_2 hf
      exact J13 _ _ hP hD hS _ (lv_sub hl [] rfl) hf
    · have hf := it_f c_2 hf
      refine lv_iconst (v := 1) hx hb dX5_isVerb_9 (by decide) ?_
      refine lv_goto (tgt := 14) hx hb dX5_isVerb_10 (by decide) ?_
      exact J14 1 _ _ hP hD hS _ (lv_sub hl [] rfl) hf
abbrev rmX5_isWord : Room := { frames := 1, cells := 0, slots := 0, locals := 22 }
set_option maxHeartbeats 2000000 in
set_option maxRecDepth 100000 in
theorem ktX5_isWord (l : Launch) (dC : Nat → ClassId) (dI : Nat → Nat → Nat) (sz : Nat) (a0 : Int32) (r : Int32) (hf : fX5_isWord a0 = some r) : Met l yX5_isWord wsX5_isWord rmX5_isWord (va_Pc [.int a0] (pre_w (dC, dI) ([] : va_W) [] sz)) (va_Qi (fun (r' : Int32) (_ : Unit) => r' = r) (post_w (dC, dI) ([] : va_W) [] (va_A ([] : va_W) sz)) (va_A ([] : va_W) sz)) 0 0 (va_A ([] : va_W) sz) := by
  refine gm_z (cc := cX5_isWord) (maxL := 1) (by decide) rfl (Nat.le_of_ble_eq_true rfl) ?_
  intro p e s m below meth c A QQ ls hx hb hml hown hts hK hN hA hP hD hS hl hret
  have hown : s.vm.findClass RX5 = some m.cls := hown
  have hl : lv_has ls 1 [(0, .int a0)] := hl
  have J57 : ∀ (t0 : Int32) (H : Heap) (locs : List Loc), va_P (dC, dI) vwCl ([] : va_W) H → va_D A ([] : va_W) → va_S A s.heap H locs → ∀ (ls : Array Slot), lv_has ls 1 [] → fX5_isWord_57 a0 t0 = some r → W p l e rmX5_isWord s m ([.int a0] : List Value).toArray below meth c H locs 0 0 QQ (F0 m 57 ls [.int t0]) := by
    intro  t0 H locs hP hD hS ls hl hf
    unfold fX5_isWord_57 at hf
    obtain ⟨hz_1, hf⟩ := bo_ok hf
    have hf : (some t0 : Option (Int32)) = some r := hf
    have he := Option.some.inj hf
    have he0 : t0 = r := he
    exact hret _ _ _ _ _ _ hz_1 he0 rfl dX5_isWord_57 hP hD hS
  have J52 : ∀ (H : Heap) (locs : List Loc), va_P (dC, dI) vwCl ([] : va_W) H → va_D A ([] : va_W) → va_S A s.heap H locs → ∀ (ls : Array Slot), lv_has ls 1 [] → fX5_isWord_52 a0 = some r → W p l e rmX5_isWord s m ([.int a0] : List Value).toArray below meth c H locs 0 0 QQ (F0 m 52 ls []) := by
    intro   H locs hP hD hS ls hl hf
    unfold fX5_isWord_52 at hf
    refine lv_iconst (v := 1) hx hb dX5_isWord_52 (by decide) ?_
    refine lv_goto (tgt := 57) hx hb dX5_isWord_53 (by decide) ?_
    exact J57 1 _ _ hP hD hS _ (lv_sub hl [] rfl) hf
  have J19 : ∀ (H : Heap) (locs : List Loc), va_P (dC, dI) vwCl ([] : va_W) H → va_D A ([] : va_W) → va_S A s.heap H locs → ∀ (ls : Array Slot), lv_has ls 1 [(0, .int a0)] → fX5_isWord_19 a0 = some r → W p l e rmX5_isWord s m ([.int a0] : List Value).toArray below meth c H locs 0 0 QQ (F0 m 19 ls []) := by
    intro   H locs hP hD hS ls hl hf
    unfold fX5_isWord_19 at hf
    refine lv_iload_n hx hb dX5_isWord_19 rfl (lv_at hl 0 rfl) ?_
    refine lv_bipush (v := 20) hx hb dX5_isWord_20 (by decide) ?_
    refine lv_bipush (v := 6) hx hb dX5_isWord_22 (by decide) ?_
    obtain ⟨r_1, hc_1, hf⟩ := bn1_ok hf
    refine gc_i (wc := ([] : va_W)) (wr := ([] : va_W)) (w1 := ([] : va_W)) (ws' := ([] : va_W)) hP hD hS hA [] [] [] rfl rfl (by decide) (by decide) rfl (by decide) (va_runS (As := [.int a0, .int 20, .int 6]) (rest := []) ⟨hx, hb, hml, hown, hts⟩ (ktX5_isBetween l dC dI _ a0 20 6 r_1 hc_1) (va_cwS 3 hts gX5_isWord_X5_isBetween rfl rfl rfl (by decide +kernel) ⟨Nat.le_of_ble_eq_true rfl, Nat.le_of_ble_eq_true rfl⟩) (gc_S (hP.sub (ws' := ([] : va_W)) [] rfl) (hK.sub (tys' := []) [] rfl) (hD.sub (ws' := ([] : va_W)) [] (by decide) rfl) hN) rfl rfl hl.1 rfl (lv_room (Nat.le_of_ble_eq_true rfl)) dX5_isWord_24 ⟨Nat.zero_le _, Nat.zero_le _⟩) (fun H locs hP hD hS => ?_)
    refine lv_if_ne (tgt := 52) hx hb dX5_isWord_27 (by decide) (fun c_2 => ?_) (fun c_2 => ?_)
    · have hf := it_f c_2 hf
      exact J52 _ _ hP hD hS _ (lv_sub hl [] rfl) hf
    · have hf := it_t c_2 hf
      refine lv_iload_n hx hb dX5_isWord_30 rfl (lv_at hl 0 rfl) ?_
      refine lv_bipush (v := 30) hx hb dX5_isWord_31 (by decide) ?_
      refine lv_bipush (v := 8) hx hb dX5_isWord_33 (by decide) ?_
      obtain ⟨r_3, hc_3, hf⟩ := bn1_ok hf
      refine gc_i (wc := ([] : va_W)) (wr := ([] : va_W)) (w1 := ([] : va_W)) (ws' := ([] : va_W)) hP hD hS hA [] [] [] rfl rfl (by decide) (by decide) rfl (by decide) (va_runS (As := [.int a0, .int 30, .int 8]) (rest := []) ⟨hx, hb, hml, hown, hts⟩ (ktX5_isBetween l dC dI _ a0 30 8 r_3 hc_3) (va_cwS 3 hts gX5_isWord_X5_isBetween rfl rfl rfl (by decide +kernel) ⟨Nat.le_of_ble_eq_true rfl, Nat.le_of_ble_eq_true rfl⟩) (gc_S (hP.sub (ws' := ([] : va_W)) [] rfl) (hK.sub (tys' := []) [] rfl) (hD.sub (ws' := ([] : va_W)) [] (by decide) rfl) hN) rfl rfl hl.1 rfl (lv_room (Nat.le_of_ble_eq_true rfl)) dX5_isWord_35 ⟨Nat.zero_le _, Nat.zero_le _⟩) (fun H locs hP hD hS => ?_)
      refine lv_if_ne (tgt := 52) hx hb dX5_isWord_38 (by decide) (fun c_4 => ?_) (fun c_4 => ?_)
      · have hf := it_f c_4 hf
        exact J52 _ _ hP hD hS _ (lv_sub hl [] rfl) hf
      · have hf := it_t c_4 hf
        refine lv_iload_n hx hb dX5_isWord_41 rfl (lv_at hl 0 rfl) ?_
        refine lv_bipush (v := 40) hx hb dX5_isWord_42 (by decide) ?_
        refine lv_bipush (v := 8) hx hb dX5_isWord_44 (by decide) ?_
        obtain ⟨r_5, hc_5, hf⟩ := bn1_ok hf
        refine gc_i (wc := ([] : va_W)) (wr := ([] : va_W)) (w1 := ([] : va_W)) (ws' := ([] : va_W)) hP hD hS hA [] [] [] rfl rfl (by decide) (by decide) rfl (by decide) (va_runS (As := [.int a0, .int 40, .int 8]) (rest := []) ⟨hx, hb, hml, hown, hts⟩ (ktX5_isBetween l dC dI _ a0 40 8 r_5 hc_5) (va_cwS 3 hts gX5_isWord_X5_isBetween rfl rfl rfl (by decide +kernel) ⟨Nat.le_of_ble_eq_true rfl, Nat.le_of_ble_eq_true rfl⟩) (gc_S (hP.sub (ws' := ([] : va_W)) [] rfl) (hK.sub (tys' := []) [] rfl) (hD.sub (ws' := ([] : va_W)) [] (by decide) rfl) hN) rfl rfl hl.1 rfl (lv_room (Nat.le_of_ble_eq_true rfl)) dX5_isWord_46 ⟨Nat.zero_le _, Nat.zero_le _⟩) (fun H locs hP hD hS => ?_)
        refine lv_if_eq (tgt := 56) hx hb dX5_isWord_49 (by decide) (fun c_6 => ?_) (fun c_6 => ?_)
        · have hf := it_t c_6 hf
          refine lv_iconst (v := 0) hx hb dX5_isWord_56 (by decide) ?_
          exact J57 0 _ _ hP hD hS _ (lv_sub hl [] rfl) hf
        · have hf := it_f c_6 hf
          exact J52 _ _ hP hD hS _ (lv_sub hl [] rfl) hf
  unfold fX5_isWord at hf
  refine lv_iload_n hx hb dX5_isWord_0 rfl (lv_at hl 0 rfl) ?_
  obtain ⟨r_1, hc_1, hf⟩ := bn1_ok hf
  refine gc_i (wc := ([] : va_W)) (wr := ([] : va_W)) (w1 := ([] : va_W)) (ws' := ([] : va_W)) hP hD hS hA [] [] [] rfl rfl (by decide) (by decide) rfl (by decide) (va_runS (As := [.int a0]) (rest := []) ⟨hx, hb, hml, hown, hts⟩ (ktX5_isVerb l dC dI _ a0 r_1 hc_1) (va_cwS 1 hts gX5_isWord_X5_isVerb rfl rfl rfl (by decide +kernel) ⟨Nat.le_of_ble_eq_true rfl, Nat.le_of_ble_eq_true rfl⟩) (gc_S (hP.sub (ws' := ([] : va_W)) [] rfl) (hK.sub (tys' := []) [] rfl) (hD.sub (ws' := ([] : va_W)) [] (by decide) rfl) hN) rfl rfl hl.1 rfl (lv_room (Nat.le_of_ble_eq_true rfl)) dX5_isWord_1 ⟨Nat.zero_le _, Nat.zero_le _⟩) (fun H locs hP hD hS => ?_)
  refine lv_if_ne (tgt := 52) hx hb dX5_isWord_4 (by decide) (fun c_2 => ?_) (fun c_2 => ?_)
  · have hf := it_f c_2 hf
    exact J52 _ _ hP hD hS _ (lv_sub hl [] rfl) hf
  · have hf := it_t c_2 hf
    refine lv_iload_n hx hb dX5_isWord_7 rfl (lv_at hl 0 rfl) ?_
    refine lv_bipush (v := 10) hx hb dX5_isWord_8 (by decide) ?_
    refine lv_icmp_lt (tgt := 19) hx hb dX5_isWord_10 (by decide) (fun c_3 => ?_) (fun c_3 => ?_)
    · have hf := it_t c_3 hf
      exact J19 _ _ hP hD hS _ (lv_sub hl [0] rfl) hf
    · have hf := it_f c_3 hf
      refine lv_iload_n hx hb dX5_isWord_13 rfl (lv_at hl 0 rfl) ?_
      refine lv_bipush (v := 17) hx hb dX5_isWord_14 (by decide) ?_
      refine lv_icmp_le (tgt := 52) hx hb dX5_isWord_16 (by decide) (fun c_4 => ?_) (fun c_4 => ?_)
      · have hf := it_t c_4 hf
        exact J52 _ _ hP hD hS _ (lv_sub hl [] rfl) hf
      · have hf := it_f c_4 hf
        exact J19 _ _ hP hD hS _ (lv_sub hl [0] rfl) hf
abbrev rmX6_bits : Room := { frames := 0, cells := 0, slots := 0, locals := 0 }
set_option maxHeartbeats 2000000 in
set_option maxRecDepth 100000 in
theorem ktX6_bits (l : Launch) (dC : Nat → ClassId) (dI : Nat → Nat → Nat) (sz : Nat) (a0 : Int32) (r : Int32) (hf : fX6_bits a0 = some r) : Met l yX6_bits wsX6_bits rmX6_bits (va_Pc [.int a0] (pre_w (dC, dI) ([] : va_W) [] sz)) (va_Qi (fun (r' : Int32) (_ : Unit) => r' = r) (post_w (dC, dI) ([] : va_W) [] (va_A ([] : va_W) sz)) (va_A ([] : va_W) sz)) 0 0 (va_A ([] : va_W) sz) := by
  refine gm_i (cc := cX6_bits) (maxL := 3) (by decide) rfl (Nat.le_of_ble_eq_true rfl) ?_
  intro p e s m below meth c A QQ ls hx hb hml hown hts hK hN hA hP hD hS hl hret
  have hown : s.vm.findClass RX6 = some m.cls := hown
  have hl : lv_has ls 3 [(0, .int a0)] := hl
  have J4 : ∀ (n : Nat) (x1 : Int32) (x2 : Int32) (H : Heap) (locs : List Loc), va_P (dC, dI) vwCl ([] : va_W) H → va_D A ([] : va_W) → va_S A s.heap H locs → ∀ (ls : Array Slot), lv_has ls 3 [(1, .int x1), (2, .int x2)] → fX6_bits_4 a0 n x1 x2 = some r → W p l e rmX6_bits s m ([.int a0] : List Value).toArray below meth c H locs 0 0 QQ (F0 m 4 ls []) := by
    intro n
    induction n with
    | zero =>
      intro x1 x2 H locs hP hD hS ls hl hf
      cases hf
    | succ n ih =>
      intro x1 x2 H locs hP hD hS ls hl hf
      rw [fX6_bits_4] at hf
      refine lv_iload_n hx hb dX6_bits_4 rfl (lv_at hl 1 rfl) ?_
      refine lv_if_le (tgt := 21) hx hb dX6_bits_5 (by decide) (fun c_1 => ?_) (fun c_1 => ?_)
      · have hf := it_t c_1 hf
        refine lv_iload_n hx hb dX6_bits_21 rfl (lv_at hl 0 rfl) ?_
        have hf : (some x1 : Option (Int32)) = some r := hf
        have he := Option.some.inj hf
        have he0 : x1 = r := he
        exact hret _ _ _ _ _ _ he0 rfl dX6_bits_22 hP hD hS
      · have hf := it_f c_1 hf
        refine lv_iload_n hx hb dX6_bits_8 rfl (lv_at hl 0 rfl) ?_
        refine lv_iload_n hx hb dX6_bits_9 rfl (lv_at hl 1 rfl) ?_
        refine lv_iconst (v := 1) hx hb dX6_bits_10 (by decide) ?_
        refine lv_iand hx hb dX6_bits_11 ?_
        refine lv_iadd hx hb dX6_bits_12 ?_
        refine lv_istore_n (lv' := [(1, .int (x1 + (x2 &&& 1))), (2, .int x2)]) hx hb dX6_bits_13 rfl hl (by decide) rfl (fun ls hl => ?_)
        refine lv_iload_n hx hb dX6_bits_14 rfl (lv_at hl 1 rfl) ?_
        refine lv_iconst (v := 1) hx hb dX6_bits_15 (by decide) ?_
        refine lv_ishr hx hb dX6_bits_16 ?_
        refine lv_istore_n (lv' := [(2, .int (x2 >>> (1 &&& 31))), (1, .int (x1 + (x2 &&& 1)))]) hx hb dX6_bits_17 rfl hl (by decide) rfl (fun ls hl => ?_)
        refine lv_goto (tgt := 4) hx hb dX6_bits_18 (by decide) ?_
        exact ih (x1 + (x2 &&& 1)) (x2 >>> (1 &&& 31)) _ _ hP hD hS _ (lv_sub hl [1, 0] rfl) hf
  unfold fX6_bits at hf
  refine lv_iconst (v := 0) hx hb dX6_bits_0 (by decide) ?_
  refine lv_istore_n (lv' := [(1, .int 0), (0, .int a0)]) hx hb dX6_bits_1 rfl hl (by decide) rfl (fun ls hl => ?_)
  refine lv_iload_n hx hb dX6_bits_2 rfl (lv_at hl 1 rfl) ?_
  refine lv_istore_n (lv' := [(2, .int a0), (1, .int 0), (0, .int a0)]) hx hb dX6_bits_3 rfl hl (by decide) rfl (fun ls hl => ?_)
  exact J4 64 0 a0 _ _ hP hD hS _ (lv_sub hl [1, 0] rfl) hf
abbrev rmX6_lowest : Room := { frames := 0, cells := 0, slots := 0, locals := 0 }
set_option maxHeartbeats 2000000 in
set_option maxRecDepth 100000 in
theorem ktX6_lowest (l : Launch) (dC : Nat → ClassId) (dI : Nat → Nat → Nat) (sz : Nat) (a0 : Int32) (r : Int32) (hf : fX6_lowest a0 = some r) : Met l yX6_lowest wsX6_lowest rmX6_lowest (va_Pc [.int a0] (pre_w (dC, dI) ([] : va_W) [] sz)) (va_Qi (fun (r' : Int32) (_ : Unit) => r' = r) (post_w (dC, dI) ([] : va_W) [] (va_A ([] : va_W) sz)) (va_A ([] : va_W) sz)) 0 0 (va_A ([] : va_W) sz) := by
  refine gm_i (cc := cX6_lowest) (maxL := 2) (by decide) rfl (Nat.le_of_ble_eq_true rfl) ?_
  intro p e s m below meth c A QQ ls hx hb hml hown hts hK hN hA hP hD hS hl hret
  have hown : s.vm.findClass RX6 = some m.cls := hown
  have hl : lv_has ls 2 [(0, .int a0)] := hl
  have J2 : ∀ (n : Nat) (x1 : Int32) (H : Heap) (locs : List Loc), va_P (dC, dI) vwCl ([] : va_W) H → va_D A ([] : va_W) → va_S A s.heap H locs → ∀ (ls : Array Slot), lv_has ls 2 [(0, .int a0), (1, .int x1)] → fX6_lowest_2 a0 n x1 = some r → W p l e rmX6_lowest s m ([.int a0] : List Value).toArray below meth c H locs 0 0 QQ (F0 m 2 ls []) := by
    intro n
    induction n with
    | zero =>
      intro x1 H locs hP hD hS ls hl hf
      cases hf
    | succ n ih =>
      intro x1 H locs hP hD hS ls hl hf
      rw [fX6_lowest_2] at hf
      refine lv_iload_n hx hb dX6_lowest_2 rfl (lv_at hl 0 rfl) ?_
      refine lv_iload_n hx hb dX6_lowest_3 rfl (lv_at hl 1 rfl) ?_
      refine lv_ishr hx hb dX6_lowest_4 ?_
      refine lv_iconst (v := 1) hx hb dX6_lowest_5 (by decide) ?_
      refine lv_iand hx hb dX6_lowest_6 ?_
      refine lv_if_ne (tgt := 16) hx hb dX6_lowest_7 (by decide) (fun c_1 => ?_) (fun c_1 => ?_)
      · have hf := it_f c_1 hf
        refine lv_iload_n hx hb dX6_lowest_16 rfl (lv_at hl 1 rfl) ?_
        have hf : (some x1 : Option (Int32)) = some r := hf
        have he := Option.some.inj hf
        have he0 : x1 = r := he
        exact hret _ _ _ _ _ _ he0 rfl dX6_lowest_17 hP hD hS
      · have hf := it_t c_1 hf
        refine lv_iinc (v := (x1 + 1)) (lv' := [(1, .int (x1 + 1)), (0, .int a0)]) hx hb dX6_lowest_10 hl (k := 1) rfl rfl (by decide) rfl (fun ls hl => ?_)
        refine lv_goto (tgt := 2) hx hb dX6_lowest_13 (by decide) ?_
        exact ih (x1 + 1) _ _ hP hD hS _ (lv_sub hl [1, 0] rfl) hf
  unfold fX6_lowest at hf
  refine lv_iconst (v := 0) hx hb dX6_lowest_0 (by decide) ?_
  refine lv_istore_n (lv' := [(1, .int 0), (0, .int a0)]) hx hb dX6_lowest_1 rfl hl (by decide) rfl (fun ls hl => ?_)
  exact J2 64 0 _ _ hP hD hS _ (lv_sub hl [1, 0] rfl) hf
abbrev rmX6_isVerb : Room := { frames := 0, cells := 0, slots := 0, locals := 0 }
set_option maxHeartbeats 2000000 in
set_option maxRecDepth 100000 in
theorem ktX6_isVerb (l : Launch) (dC : Nat → ClassId) (dI : Nat → Nat → Nat) (sz : Nat) (a0 : Int32) (r : Int32) (hf : fX6_isVerb a0 = some r) : Met l yX6_isVerb wsX6_isVerb rmX6_isVerb (va_Pc [.int a0] (pre_w (dC, dI) ([] : va_W) [] sz)) (va_Qi (fun (r' : Int32) (_ : Unit) => r' = r) (post_w (dC, dI) ([] : va_W) [] (va_A ([] : va_W) sz)) (va_A ([] : va_W) sz)) 0 0 (va_A ([] : va_W) sz) := by
  refine gm_z (cc := cX6_isVerb) (maxL := 1) (by decide) rfl (Nat.le_of_ble_eq_true rfl) ?_
  intro p e s m below meth c A QQ ls hx hb hml hown hts hK hN hA hP hD hS hl hret
  have hown : s.vm.findClass RX6 = some m.cls := hown
  have hl : lv_has ls 1 [(0, .int a0)] := hl
  have J14 : ∀ (t0 : Int32) (H : Heap) (locs : List Loc), va_P (dC, dI) vwCl ([] : va_W) H → va_D A ([] : va_W) → va_S A s.heap H locs → ∀ (ls : Array Slot), lv_has ls 1 [] → fX6_isVerb_14 a0 t0 = some r → W p l e rmX6_isVerb s m ([.int a0] : List Value).toArray below meth c H locs 0 0 QQ (F0 m 14 ls [.int t0]) := by
    intro  t0 H locs hP hD hS ls hl hf
    unfold fX6_isVerb_14 at hf
    obtain ⟨hz_1, hf⟩ := bo_ok hf
    have hf : (some t0 : Option (Int32)) = some r := hf
    have he := Option.some.inj hf
    have he0 : t0 = r := he
    exact hret _ _ _ _ _ _ hz_1 he0 rfl dX6_isVerb_14 hP hD hS
  have J13 : ∀ (H : Heap) (locs : List Loc), va_P (dC, dI) vwCl ([] : va_W) H → va_D A ([] : va_W) → va_S A s.heap H locs → ∀ (ls : Array Slot), lv_has ls 1 [] → fX6_isVerb_13 a0 = some r → W p l e rmX6_isVerb s m ([.int a0] : List Value).toArray below meth c H locs 0 0 QQ (F0 m 13 ls []) := by
    intro   H locs hP hD hS ls hl hf
    unfold fX6_isVerb_13 at hf
    refine lv_iconst (v := 0) hx hb dX6_isVerb_13 (by decide) ?_
    exact J14 0 _ _ hP hD hS _ (lv_sub hl [] rfl) hf
  unfold fX6_isVerb at hf
  refine lv_iload_n hx hb dX6_isVerb_0 rfl (lv_at hl 0 rfl) ?_
  refine lv_if_lt (tgt := 13) hx hb dX6_isVerb_1 (by decide) (fun c_1 => ?_) (fun c_1 => ?_)
  · have hf := it_t c_1 hf
    exact J13 _ _ hP hD hS _ (lv_sub hl [] rfl) hf
  · have hf := it_f c_1 hf
    refine lv_iload_n hx hb dX6_isVerb_4 rfl (lv_at hl 0 rfl) ?_
    refine lv_iconst (v := 4) hx hb dX6_isVerb_5 (by decide) ?_
    refine lv_icmp_gt (tgt := 13) hx hb dX6_isVerb_6 (by decide) (fun c_2 => ?_) (fun c_2 => ?_)
    · have hf := it_t c_2 hf
      exact J13 _ _ hP hD hS _ (lv_sub hl [] rfl) hf
    · have hf := it_f c_2 hf
      refine lv_iconst (v := 1) hx hb dX6_isVerb_9 (by decide) ?_
      refine lv_goto (tgt := 14) hx hb dX6_isVerb_10 (by decide) ?_
      exact J14 1 _ _ hP hD hS _ (lv_sub hl [] rfl) hf
abbrev rmX6_isAdjective : Room := { frames := 0, cells := 0, slots := 0, locals := 0 }
set_option maxHeartbeats 2000000 in
set_option maxRecDepth 100000 in
theorem ktX6_isAdjective (l : Launch) (dC : Nat → ClassId) (dI : Nat → Nat → Nat) (sz : Nat) (a0 : Int32) (r : Int32) (hf : fX6_isAdjective a0 = some r) : Met l yX6_isAdjective wsX6_isAdjective rmX6_isAdjective (va_Pc [.int a0] (pre_w (dC, dI) ([] : va_W) [] sz)) (va_Qi (fun (r' : Int32) (_ : Unit) => r' = r) (post_w (dC, dI) ([] : va_W) [] (va_A ([] : va_W) sz)) (va_A ([] : va_W) sz)) 0 0 (va_A ([] : va_W) sz) := by
  refine gm_z (cc := cX6_isAdjective) (maxL := 1) (by decide) rfl (Nat.le_of_ble_eq_true rfl) ?_
  intro p e s m below meth c A QQ ls hx hb hml hown hts hK hN hA hP hD hS hl hret
  have hown : s.vm.findClass RX6 = some m.cls := hown
  have hl : lv_has ls 1 [(0, .int a0)] := hl
  have J17 : ∀ (t0 : Int32) (H : Heap) (locs : List Loc), va_P (dC, dI) vwCl ([] : va_W) H → va_D A ([] : va_W) → va_S A s.heap H locs → ∀ (ls : Array Slot), lv_has ls 1 [] → fX6_isAdjective_17 a0 t0 = some r → W p l e rmX6_isAdjective s m ([.int a0] : List Value).toArray below meth c H locs 0 0 QQ (F0 m 17 ls [.int t0]) := by
    intro  t0 H locs hP hD hS ls hl hf
    unfold fX6_isAdjective_17 at hf
    obtain ⟨hz_1, hf⟩ := bo_ok hf
    have hf : (some t0 : Option (Int32)) = some r := hf
    have he := Option.some.inj hf
    have he0 : t0 = r := he
    exact hret _ _ _ _ _ _ hz_1 he0 rfl dX6_isAdjective_17 hP hD hS
  have J16 : ∀ (H : Heap) (locs : List Loc), va_P (dC, dI) vwCl ([] : va_W) H → va_D A ([] : va_W) → va_S A s.heap H locs → ∀ (ls : Array Slot), lv_has ls 1 [] → fX6_isAdjective_16 a0 = some r → W p l e rmX6_isAdjective s m ([.int a0] : List Value).toArray below meth c H locs 0 0 QQ (F0 m 16 ls []) := by
    intro   H locs hP hD hS ls hl hf
    unfold fX6_isAdjective_16 at hf
    refine lv_iconst (v := 0) hx hb dX6_isAdjective_16 (by decide) ?_
    exact J17 0 _ _ hP hD hS _ (lv_sub hl [] rfl) hf
  unfold fX6_isAdjective at hf
  refine lv_iload_n hx hb dX6_isAdjective_0 rfl (lv_at hl 0 rfl) ?_
  refine lv_bipush (v := 20) hx hb dX6_isAdjective_1 (by decide) ?_
  refine lv_icmp_lt (tgt := 16) hx hb dX6_isAdjective_3 (by decide) (fun c_1 => ?_) (fun c_1 => ?_)
  · have hf := it_t c_1 hf
    exact J16 _ _ hP hD hS _ (lv_sub hl [] rfl) hf
  · have hf := it_f c_1 hf
    refine lv_iload_n hx hb dX6_isAdjective_6 rfl (lv_at hl 0 rfl) ?_
    refine lv_bipush (v := 26) hx hb dX6_isAdjective_7 (by decide) ?_
    refine lv_icmp_ge (tgt := 16) hx hb dX6_isAdjective_9 (by decide) (fun c_2 => ?_) (fun c_2 => ?_)
    · have hf := it_t c_2 hf
      exact J16 _ _ hP hD hS _ (lv_sub hl [] rfl) hf
    · have hf := it_f c_2 hf
      refine lv_iconst (v := 1) hx hb dX6_isAdjective_12 (by decide) ?_
      refine lv_goto (tgt := 17) hx hb dX6_isAdjective_13 (by decide) ?_
      exact J17 1 _ _ hP hD hS _ (lv_sub hl [] rfl) hf
abbrev rmX6_isNoun : Room := { frames := 0, cells := 0, slots := 0, locals := 0 }
set_option maxHeartbeats 2000000 in
set_option maxRecDepth 100000 in
theorem ktX6_isNoun (l : Launch) (dC : Nat → ClassId) (dI : Nat → Nat → Nat) (sz : Nat) (a0 : Int32) (r : Int32) (hf : fX6_isNoun a0 = some r) : Met l yX6_isNoun wsX6_isNoun rmX6_isNoun (va_Pc [.int a0] (pre_w (dC, dI) ([] : va_W) [] sz)) (va_Qi (fun (r' : Int32) (_ : Unit) => r' = r) (post_w (dC, dI) ([] : va_W) [] (va_A ([] : va_W) sz)) (va_A ([] : va_W) sz)) 0 0 (va_A ([] : va_W) sz) := by
  refine gm_z (cc := cX6_isNoun) (maxL := 1) (by decide) rfl (Nat.le_of_ble_eq_true rfl) ?_
  intro p e s m below meth c A QQ ls hx hb hml hown hts hK hN hA hP hD hS hl hret
  have hown : s.vm.findClass RX6 = some m.cls := hown
  have hl : lv_has ls 1 [(0, .int a0)] := hl
  have J17 : ∀ (t0 : Int32) (H : Heap) (locs : List Loc), va_P (dC, dI) vwCl ([] : va_W) H → va_D A ([] : va_W) → va_S A s.heap H locs → ∀ (ls : Array Slot), lv_has ls 1 [] → fX6_isNoun_17 a0 t0 = some r → W p l e rmX6_isNoun s m ([.int a0] : List Value).toArray below meth c H locs 0 0 QQ (F0 m 17 ls [.int t0]) := by
    intro  t0 H locs hP hD hS ls hl hf
    unfold fX6_isNoun_17 at hf
    obtain ⟨hz_1, hf⟩ := bo_ok hf
    have hf : (some t0 : Option (Int32)) = some r := hf
    have he := Option.some.inj hf
    have he0 : t0 = r := he
    exact hret _ _ _ _ _ _ hz_1 he0 rfl dX6_isNoun_17 hP hD hS
  have J16 : ∀ (H : Heap) (locs : List Loc), va_P (dC, dI) vwCl ([] : va_W) H → va_D A ([] : va_W) → va_S A s.heap H locs → ∀ (ls : Array Slot), lv_has ls 1 [] → fX6_isNoun_16 a0 = some r → W p l e rmX6_isNoun s m ([.int a0] : List Value).toArray below meth c H locs 0 0 QQ (F0 m 16 ls []) := by
    intro   H locs hP hD hS ls hl hf
    unfold fX6_isNoun_16 at hf
    refine lv_iconst (v := 0) hx hb dX6_isNoun_16 (by decide) ?_
    exact J17 0 _ _ hP hD hS _ (lv_sub hl [] rfl) hf
  unfold fX6_isNoun at hf
  refine lv_iload_n hx hb dX6_isNoun_0 rfl (lv_at hl 0 rfl) ?_
  refine lv_bipush (v := 30) hx hb dX6_isNoun_1 (by decide) ?_
  refine lv_icmp_lt (tgt := 16) hx hb dX6_isNoun_3 (by decide) (fun c_1 => ?_) (fun c_1 => ?_)
  · have hf := it_t c_1 hf
    exact J16 _ _ hP hD hS _ (lv_sub hl [] rfl) hf
  · have hf := it_f c_1 hf
    refine lv_iload_n hx hb dX6_isNoun_6 rfl (lv_at hl 0 rfl) ?_
    refine lv_bipush (v := 38) hx hb dX6_isNoun_7 (by decide) ?_
    refine lv_icmp_ge (tgt := 16) hx hb dX6_isNoun_9 (by decide) (fun c_2 => ?_) (fun c_2 => ?_)
    · have hf := it_t c_2 hf
      exact J16 _ _ hP hD hS _ (lv_sub hl [] rfl) hf
    · have hf := it_f c_2 hf
      refine lv_iconst (v := 1) hx hb dX6_isNoun_12 (by decide) ?_
      refine lv_goto (tgt := 17) hx hb dX6_isNoun_13 (by decide) ?_
      exact J17 1 _ _ hP hD hS _ (lv_sub hl [] rfl) hf
abbrev rmX6_isPlural : Room := { frames := 0, cells := 0, slots := 0, locals := 0 }
set_option maxHeartbeats 2000000 in
set_option maxRecDepth 100000 in
theorem ktX6_isPlural (l : Launch) (dC : Nat → ClassId) (dI : Nat → Nat → Nat) (sz : Nat) (a0 : Int32) (r : Int32) (hf : fX6_isPlural a0 = some r) : Met l yX6_isPlural wsX6_isPlural rmX6_isPlural (va_Pc [.int a0] (pre_w (dC, dI) ([] : va_W) [] sz)) (va_Qi (fun (r' : Int32) (_ : Unit) => r' = r) (post_w (dC, dI) ([] : va_W) [] (va_A ([] : va_W) sz)) (va_A ([] : va_W) sz)) 0 0 (va_A ([] : va_W) sz) := by
  refine gm_z (cc := cX6_isPlural) (maxL := 1) (by decide) rfl (Nat.le_of_ble_eq_true rfl) ?_
  intro p e s m below meth c A QQ ls hx hb hml hown hts hK hN hA hP hD hS hl hret
  have hown : s.vm.findClass RX6 = some m.cls := hown
  have hl : lv_has ls 1 [(0, .int a0)] := hl
  have J17 : ∀ (t0 : Int32) (H : Heap) (locs : List Loc), va_P (dC, dI) vwCl ([] : va_W) H → va_D A ([] : va_W) → va_S A s.heap H locs → ∀ (ls : Array Slot), lv_has ls 1 [] → fX6_isPlural_17 a0 t0 = some r → W p l e rmX6_isPlural s m ([.int a0] : List Value).toArray below meth c H locs 0 0 QQ (F0 m 17 ls [.int t0]) := by
    intro  t0 H locs hP hD hS ls hl hf
    unfold fX6_isPlural_17 at hf
    obtain ⟨hz_1, hf⟩ := bo_ok hf
    have hf : (some t0 : Option (Int32)) = some r := hf
    have he := Option.some.inj hf
    have he0 : t0 = r := he
    exact hret _ _ _ _ _ _ hz_1 he0 rfl dX6_isPlural_17 hP hD hS
  have J16 : ∀ (H : Heap) (locs : List Loc), va_P (dC, dI) vwCl ([] : va_W) H → va_D A ([] : va_W) → va_S A s.heap H locs → ∀ (ls : Array Slot), lv_has ls 1 [] → fX6_isPlural_16 a0 = some r → W p l e rmX6_isPlural s m ([.int a0] : List Value).toArray below meth c H locs 0 0 QQ (F0 m 16 ls []) := by
    intro   H locs hP hD hS ls hl hf
    unfold fX6_isPlural_16 at hf
    refine lv_iconst (v := 0) hx hb dX6_isPlural_16 (by decide) ?_
    exact J17 0 _ _ hP hD hS _ (lv_sub hl [] rfl) hf
  unfold fX6_isPlural at hf
  refine lv_iload_n hx hb dX6_isPlural_0 rfl (lv_at hl 0 rfl) ?_
  refine lv_bipush (v := 40) hx hb dX6_isPlural_1 (by decide) ?_
  refine lv_icmp_lt (tgt := 16) hx hb dX6_isPlural_3 (by decide) (fun c_1 => ?_) (fun c_1 => ?_)
  · have hf := it_t c_1 hf
    exact J16 _ _ hP hD hS _ (lv_sub hl [] rfl) hf
  · have hf := it_f c_1 hf
    refine lv_iload_n hx hb dX6_isPlural_6 rfl (lv_at hl 0 rfl) ?_
    refine lv_bipush (v := 48) hx hb dX6_isPlural_7 (by decide) ?_
    refine lv_icmp_ge (tgt := 16) hx hb dX6_isPlural_9 (by decide) (fun c_2 => ?_) (fun c_2 => ?_)
    · have hf := it_t c_2 hf
      exact J16 _ _ hP hD hS _ (lv_sub hl [] rfl) hf
    · have hf := it_f c_2 hf
      refine lv_iconst (v := 1) hx hb dX6_isPlural_12 (by decide) ?_
      refine lv_goto (tgt := 17) hx hb dX6_isPlural_13 (by decide) ?_
      exact J17 1 _ _ hP hD hS _ (lv_sub hl [] rfl) hf
abbrev rmX6_phrase : Room := { frames := 1, cells := 0, slots := 0, locals := 20 }
set_option maxHeartbeats 2000000 in
set_option maxRecDepth 100000 in
theorem ktX6_phrase (l : Launch) (dC : Nat → ClassId) (dI : Nat → Nat → Nat) (sz : Nat) (a0 : Int32) (a1 : Int32) (a2 : Int32) (r : Int32) (hf : fX6_phrase a0 a1 a2 = some r) : Met l yX6_phrase wsX6_phrase rmX6_phrase (va_Pc [.int a0, .int a1, .int a2] (pre_w (dC, dI) ([] : va_W) [] sz)) (va_Qi (fun (r' : Int32) (_ : Unit) => r' = r) (post_w (dC, dI) ([] : va_W) [] (va_A ([] : va_W) sz)) (va_A ([] : va_W) sz)) 0 0 (va_A ([] : va_W) sz) := by
  refine gm_i (cc := cX6_phrase) (maxL := 6) (by decide) rfl (Nat.le_of_ble_eq_true rfl) ?_
  intro p e s m below meth c A QQ ls hx hb hml hown hts hK hN hA hP hD hS hl hret
  have hown : s.vm.findClass RX6 = some m.cls := hown
  have hl : lv_has ls 6 [(0, .int a0), (1, .int a1), (2, .int a2)] := hl
  have J99 : ∀ (t0 : Int32) (H : Heap) (locs : List Loc), va_P (dC, dI) vwCl ([] : va_W) H → va_D A ([] : va_W) → va_S A s.heap H locs → ∀ (ls : Array Slot), lv_has ls 6 [] → fX6_phrase_99 a0 a1 a2 t0 = some r → W p l e rmX6_phrase s m ([.int a0, .int a1, .int a2] : List Value).toArray below meth c H locs 0 0 QQ (F0 m 99 ls [.int t0]) := by
    intro  t0 H locs hP hD hS ls hl hf
    unfold fX6_phrase_99 at hf
    have hf : (some t0 : Option (Int32)) = some r := hf
    have he := Option.some.inj hf
    have he0 : t0 = r := he
    exact hret _ _ _ _ _ _ he0 rfl dX6_phrase_99 hP hD hS
  have J129 : ∀ (H : Heap) (locs : List Loc), va_P (dC, dI) vwCl ([] : va_W) H → va_D A ([] : va_W) → va_S A s.heap H locs → ∀ (ls : Array Slot), lv_has ls 6 [(2, .int a2)] → fX6_phrase_129 a0 a1 a2 = some r → W p l e rmX6_phrase s m ([.int a0, .int a1, .int a2] : List Value).toArray below meth c H locs 0 0 QQ (F0 m 129 ls []) := by
    intro   H locs hP hD hS ls hl hf
    unfold fX6_phrase_129 at hf
    refine lv_iload_n hx hb dX6_phrase_129 rfl (lv_at hl 0 rfl) ?_
    have hf : (some a2 : Option (Int32)) = some r := hf
    have he := Option.some.inj hf
    have he0 : a2 = r := he
    exact hret _ _ _ _ _ _ he0 rfl dX6_phrase_130 hP hD hS
  have J183 : ∀ (t0 : Int32) (H : Heap) (locs : List Loc), va_P (dC, dI) vwCl ([] : va_W) H → va_D A ([] : va_W) → va_S A s.heap H locs → ∀ (ls : Array Slot), lv_has ls 6 [] → fX6_phrase_183 a0 a1 a2 t0 = some r → W p l e rmX6_phrase s m ([.int a0, .int a1, .int a2] : List Value).toArray below meth c H locs 0 0 QQ (F0 m 183 ls [.int t0]) := by
    intro  t0 H locs hP hD hS ls hl hf
    unfold fX6_phrase_183 at hf
    have hf : (some t0 : Option (Int32)) = some r := hf
    have he := Option.some.inj hf
    have he0 : t0 = r := he
    exact hret _ _ _ _ _ _ he0 rfl dX6_phrase_183 hP hD hS
  have J181 : ∀ (H : Heap) (locs : List Loc), va_P (dC, dI) vwCl ([] : va_W) H → va_D A ([] : va_W) → va_S A s.heap H locs → ∀ (ls : Array Slot), lv_has ls 6 [] → fX6_phrase_181 a0 a1 a2 = some r → W p l e rmX6_phrase s m ([.int a0, .int a1, .int a2] : List Value).toArray below meth c H locs 0 0 QQ (F0 m 181 ls []) := by
    intro   H locs hP hD hS ls hl hf
    unfold fX6_phrase_181 at hf
    refine lv_bipush (v := 13) hx hb dX6_phrase_181 (by decide) ?_
    exact J183 13 _ _ hP hD hS _ (lv_sub hl [] rfl) hf
  have J165 : ∀ (H : Heap) (locs : List Loc), va_P (dC, dI) vwCl ([] : va_W) H → va_D A ([] : va_W) → va_S A s.heap H locs → ∀ (ls : Array Slot), lv_has ls 6 [(0, .int a0), (1, .int a1)] → fX6_phrase_165 a0 a1 a2 = some r → W p l e rmX6_phrase s m ([.int a0, .int a1, .int a2] : List Value).toArray below meth c H locs 0 0 QQ (F0 m 165 ls []) := by
    intro   H locs hP hD hS ls hl hf
    unfold fX6_phrase_165 at hf
    refine lv_iload_n hx hb dX6_phrase_165 rfl (lv_at hl 0 rfl) ?_
    refine lv_iconst (v := 1) hx hb dX6_phrase_166 (by decide) ?_
    refine lv_icmp_ne (tgt := 181) hx hb dX6_phrase_167 (by decide) (fun c_1 => ?_) (fun c_1 => ?_)
    · have hf := it_f c_1 hf
      exact J181 _ _ hP hD hS _ (lv_sub hl [] rfl) hf
    · have hf := it_t c_1 hf
      refine lv_iload_n hx hb dX6_phrase_170 rfl (lv_at hl 1 rfl) ?_
      refine lv_bipush (v := 15) hx hb dX6_phrase_171 (by decide) ?_
      refine lv_icmp_ne (tgt := 181) hx hb dX6_phrase_173 (by decide) (fun c_2 => ?_) (fun c_2 => ?_)
      · have hf := it_f c_2 hf
        exact J181 _ _ hP hD hS _ (lv_sub hl [] rfl) hf
      · have hf := it_t c_2 hf
        refine lv_bipush (v := 7) hx hb dX6_phrase_176 (by decide) ?_
        refine lv_goto (tgt := 183) hx hb dX6_phrase_178 (by decide) ?_
        exact J183 7 _ _ hP hD hS _ (lv_sub hl [] rfl) hf
  have J131 : ∀ (x3 : Int32) (H : Heap) (locs : List Loc), va_P (dC, dI) vwCl ([] : va_W) H → va_D A ([] : va_W) → va_S A s.heap H locs → ∀ (ls : Array Slot), lv_has ls 6 [(0, .int a0), (1, .int a1), (3, .int x3)] → fX6_phrase_131 a0 a1 a2 x3 = some r → W p l e rmX6_phrase s m ([.int a0, .int a1, .int a2] : List Value).toArray below meth c H locs 0 0 QQ (F0 m 131 ls []) := by
    intro  x3 H locs hP hD hS ls hl hf
    unfold fX6_phrase_131 at hf
    refine lv_iload_n hx hb dX6_phrase_131 rfl (lv_at hl 2 rfl) ?_
    refine lv_if_eq (tgt := 138) hx hb dX6_phrase_132 (by decide) (fun c_1 => ?_) (fun c_1 => ?_)
    · have hf := it_t c_1 hf
      refine lv_iload_n hx hb dX6_phrase_138 rfl (lv_at hl 1 rfl) ?_
      obtain ⟨r_2, hc_2, hf⟩ := bn1_ok hf
      refine gc_i (wc := ([] : va_W)) (wr := ([] : va_W)) (w1 := ([] : va_W)) (ws' := ([] : va_W)) hP hD hS hA [] [] [] rfl rfl (by decide) (by decide) rfl (by decide) (va_runS (As := [.int a1]) (rest := []) ⟨hx, hb, hml, hown, hts⟩ (ktX6_isPlural l dC dI _ a1 r_2 hc_2) (va_cwS 1 hts gX6_phrase_X6_isPlural rfl rfl rfl (by decide +kernel) ⟨Nat.le_of_ble_eq_true rfl, Nat.le_of_ble_eq_true rfl⟩) (gc_S (hP.sub (ws' := ([] : va_W)) [] rfl) (hK.sub (tys' := []) [] rfl) (hD.sub (ws' := ([] : va_W)) [] (by decide) rfl) hN) rfl rfl hl.1 rfl (lv_room (Nat.le_of_ble_eq_true rfl)) dX6_phrase_139 ⟨Nat.zero_le _, Nat.zero_le _⟩) (fun H locs hP hD hS => ?_)
      refine lv_if_eq (tgt := 150) hx hb dX6_phrase_142 (by decide) (fun c_3 => ?_) (fun c_3 => ?_)
      · have hf := it_t c_3 hf
        refine lv_iload_n hx hb dX6_phrase_150 rfl (lv_at hl 0 rfl) ?_
        refine lv_iconst (v := 1) hx hb dX6_phrase_151 (by decide) ?_
        refine lv_icmp_ne (tgt := 165) hx hb dX6_phrase_152 (by decide) (fun c_4 => ?_) (fun c_4 => ?_)
        · have hf := it_f c_4 hf
          exact J165 _ _ hP hD hS _ (lv_sub hl [0, 1] rfl) hf
        · have hf := it_t c_4 hf
          refine lv_iload_n hx hb dX6_phrase_155 rfl (lv_at hl 1 rfl) ?_
          refine lv_bipush (v := 11) hx hb dX6_phrase_156 (by decide) ?_
          refine lv_icmp_ne (tgt := 165) hx hb dX6_phrase_158 (by decide) (fun c_5 => ?_) (fun c_5 => ?_)
          · have hf := it_f c_5 hf
            exact J165 _ _ hP hD hS _ (lv_sub hl [0, 1] rfl) hf
          · have hf := it_t c_5 hf
            refine lv_iconst (v := 4) hx hb dX6_phrase_161 (by decide) ?_
            refine lv_goto (tgt := 183) hx hb dX6_phrase_162 (by decide) ?_
            exact J183 4 _ _ hP hD hS _ (lv_sub hl [] rfl) hf
      · have hf := it_f c_3 hf
        refine lv_bipush (v := 6) hx hb dX6_phrase_145 (by decide) ?_
        refine lv_goto (tgt := 183) hx hb dX6_phrase_147 (by decide) ?_
        exact J183 6 _ _ hP hD hS _ (lv_sub hl [] rfl) hf
    · have hf := it_f c_1 hf
      refine lv_bipush (v := 13) hx hb dX6_phrase_135 (by decide) ?_
      have hf : (some 13 : Option (Int32)) = some r := hf
      have he := Option.some.inj hf
      have he0 : 13 = r := he
      exact hret _ _ _ _ _ _ he0 rfl dX6_phrase_137 hP hD hS
  have J118 : ∀ (x3 : Int32) (x5 : Int32) (H : Heap) (locs : List Loc), va_P (dC, dI) vwCl ([] : va_W) H → va_D A ([] : va_W) → va_S A s.heap H locs → ∀ (ls : Array Slot), lv_has ls 6 [(0, .int a0), (1, .int a1), (2, .int a2), (3, .int x3), (5, .int x5)] → fX6_phrase_118 a0 a1 a2 x3 x5 = some r → W p l e rmX6_phrase s m ([.int a0, .int a1, .int a2] : List Value).toArray below meth c H locs 0 0 QQ (F0 m 118 ls []) := by
    intro  x3 x5 H locs hP hD hS ls hl hf
    unfold fX6_phrase_118 at hf
    refine lv_iload hx hb dX6_phrase_118 (lv_at hl 4 rfl) ?_
    refine lv_if_eq (tgt := 131) hx hb dX6_phrase_120 (by decide) (fun c_1 => ?_) (fun c_1 => ?_)
    · have hf := it_t c_1 hf
      exact J131 x3 _ _ hP hD hS _ (lv_sub hl [0, 1, 3] rfl) hf
    · have hf := it_f c_1 hf
      refine lv_iload_n hx hb dX6_phrase_123 rfl (lv_at hl 1 rfl) ?_
      refine lv_bipush (v := 17) hx hb dX6_phrase_124 (by decide) ?_
      refine lv_icmp_ne (tgt := 131) hx hb dX6_phrase_126 (by decide) (fun c_2 => ?_) (fun c_2 => ?_)
      · have hf := it_f c_2 hf
        exact J131 x3 _ _ hP hD hS _ (lv_sub hl [0, 1, 3] rfl) hf
      · have hf := it_t c_2 hf
        exact J129 _ _ hP hD hS _ (lv_sub hl [2] rfl) hf
  have J82 : ∀ (x3 : Int32) (x4 : Int32) (x5 : Int32) (H : Heap) (locs : List Loc), va_P (dC, dI) vwCl ([] : va_W) H → va_D A ([] : va_W) → va_S A s.heap H locs → ∀ (ls : Array Slot), lv_has ls 6 [(0, .int a0), (1, .int a1), (2, .int a2), (3, .int x3), (4, .int x4), (5, .int x5)] → fX6_phrase_82 a0 a1 a2 x3 x4 x5 = some r → W p l e rmX6_phrase s m ([.int a0, .int a1, .int a2] : List Value).toArray below meth c H locs 0 0 QQ (F0 m 82 ls []) := by
    intro  x3 x4 x5 H locs hP hD hS ls hl hf
    unfold fX6_phrase_82 at hf
    refine lv_iload_n hx hb dX6_phrase_82 rfl (lv_at hl 1 rfl) ?_
    obtain ⟨r_1, hc_1, hf⟩ := bn1_ok hf
    refine gc_i (wc := ([] : va_W)) (wr := ([] : va_W)) (w1 := ([] : va_W)) (ws' := ([] : va_W)) hP hD hS hA [] [] [] rfl rfl (by decide) (by decide) rfl (by decide) (va_runS (As := [.int a1]) (rest := []) ⟨hx, hb, hml, hown, hts⟩ (ktX6_isAdjective l dC dI _ a1 r_1 hc_1) (va_cwS 1 hts gX6_phrase_X6_isAdjective rfl rfl rfl (by decide +kernel) ⟨Nat.le_of_ble_eq_true rfl, Nat.le_of_ble_eq_true rfl⟩) (gc_S (hP.sub (ws' := ([] : va_W)) [] rfl) (hK.sub (tys' := []) [] rfl) (hD.sub (ws' := ([] : va_W)) [] (by decide) rfl) hN) rfl rfl hl.1 rfl (lv_room (Nat.le_of_ble_eq_true rfl)) dX6_phrase_83 ⟨Nat.zero_le _, Nat.zero_le _⟩) (fun H locs hP hD hS => ?_)
    refine lv_if_eq (tgt := 100) hx hb dX6_phrase_86 (by decide) (fun c_2 => ?_) (fun c_2 => ?_)
    · have hf := it_t c_2 hf
      refine lv_iload_n hx hb dX6_phrase_100 rfl (lv_at hl 1 rfl) ?_
      obtain ⟨r_3, hc_3, hf⟩ := bn1_ok hf
      refine gc_i (wc := ([] : va_W)) (wr := ([] : va_W)) (w1 := ([] : va_W)) (ws' := ([] : va_W)) hP hD hS hA [] [] [] rfl rfl (by decide) (by decide) rfl (by decide) (va_runS (As := [.int a1]) (rest := []) ⟨hx, hb, hml, hown, hts⟩ (ktX6_isNoun l dC dI _ a1 r_3 hc_3) (va_cwS 1 hts gX6_phrase_X6_isNoun rfl rfl rfl (by decide +kernel) ⟨Nat.le_of_ble_eq_true rfl, Nat.le_of_ble_eq_true rfl⟩) (gc_S (hP.sub (ws' := ([] : va_W)) [] rfl) (hK.sub (tys' := []) [] rfl) (hD.sub (ws' := ([] : va_W)) [] (by decide) rfl) hN) rfl rfl hl.1 rfl (lv_room (Nat.le_of_ble_eq_true rfl)) dX6_phrase_101 ⟨Nat.zero_le _, Nat.zero_le _⟩) (fun H locs hP hD hS => ?_)
      refine lv_if_ne (tgt := 129) hx hb dX6_phrase_104 (by decide) (fun c_4 => ?_) (fun c_4 => ?_)
      · have hf := it_f c_4 hf
        exact J129 _ _ hP hD hS _ (lv_sub hl [2] rfl) hf
      · have hf := it_t c_4 hf
        refine lv_iload hx hb dX6_phrase_107 (lv_at hl 4 rfl) ?_
        refine lv_if_eq (tgt := 118) hx hb dX6_phrase_109 (by decide) (fun c_5 => ?_) (fun c_5 => ?_)
        · have hf := it_t c_5 hf
          exact J118 x3 x5 _ _ hP hD hS _ (lv_sub hl [0, 1, 2, 3, 5] rfl) hf
        · have hf := it_f c_5 hf
          refine lv_iload_n hx hb dX6_phrase_112 rfl (lv_at hl 1 rfl) ?_
          refine lv_bipush (v := 14) hx hb dX6_phrase_113 (by decide) ?_
          refine lv_icmp_eq (tgt := 129) hx hb dX6_phrase_115 (by decide) (fun c_6 => ?_) (fun c_6 => ?_)
          · have hf := it_t c_6 hf
            exact J129 _ _ hP hD hS _ (lv_sub hl [2] rfl) hf
          · have hf := it_f c_6 hf
            exact J118 x3 x5 _ _ hP hD hS _ (lv_sub hl [0, 1, 2, 3, 5] rfl) hf
    · have hf := it_f c_2 hf
      refine lv_iload_n hx hb dX6_phrase_89 rfl (lv_at hl 3 rfl) ?_
      refine lv_if_eq (tgt := 98) hx hb dX6_phrase_90 (by decide) (fun c_7 => ?_) (fun c_7 => ?_)
      · have hf := it_t c_7 hf
        refine lv_iconst (v := 3) hx hb dX6_phrase_98 (by decide) ?_
        exact J99 3 _ _ hP hD hS _ (lv_sub hl [] rfl) hf
      · have hf := it_f c_7 hf
        refine lv_bipush (v := 10) hx hb dX6_phrase_93 (by decide) ?_
        refine lv_goto (tgt := 99) hx hb dX6_phrase_95 (by decide) ?_
        exact J99 10 _ _ hP hD hS _ (lv_sub hl [] rfl) hf
  have J81 : ∀ (t0 : Int32) (H : Heap) (locs : List Loc), va_P (dC, dI) vwCl ([] : va_W) H → va_D A ([] : va_W) → va_S A s.heap H locs → ∀ (ls : Array Slot), lv_has ls 6 [] → fX6_phrase_81 a0 a1 a2 t0 = some r → W p l e rmX6_phrase s m ([.int a0, .int a1, .int a2] : List Value).toArray below meth c H locs 0 0 QQ (F0 m 81 ls [.int t0]) := by
    intro  t0 H locs hP hD hS ls hl hf
    unfold fX6_phrase_81 at hf
    have hf : (some t0 : Option (Int32)) = some r := hf
    have he := Option.some.inj hf
    have he0 : t0 = r := he
    exact hret _ _ _ _ _ _ he0 rfl dX6_phrase_81 hP hD hS
  have J58 : ∀ (x3 : Int32) (x4 : Int32) (t0 : Int32) (H : Heap) (locs : List Loc), va_P (dC, dI) vwCl ([] : va_W) H → va_D A ([] : va_W) → va_S A s.heap H locs → ∀ (ls : Array Slot), lv_has ls 6 [(0, .int a0), (1, .int a1), (2, .int a2), (3, .int x3), (4, .int x4)] → fX6_phrase_58 a0 a1 a2 x3 x4 t0 = some r → W p l e rmX6_phrase s m ([.int a0, .int a1, .int a2] : List Value).toArray below meth c H locs 0 0 QQ (F0 m 58 ls [.int t0]) := by
    intro  x3 x4 t0 H locs hP hD hS ls hl hf
    unfold fX6_phrase_58 at hf
    refine lv_istore (lv' := [(5, .int t0), (0, .int a0), (1, .int a1), (2, .int a2), (3, .int x3), (4, .int x4)]) hx hb dX6_phrase_58 hl (by decide) rfl (fun ls hl => ?_)
    refine lv_iload hx hb dX6_phrase_60 (lv_at hl 5 rfl) ?_
    refine lv_if_eq (tgt := 82) hx hb dX6_phrase_62 (by decide) (fun c_1 => ?_) (fun c_1 => ?_)
    · have hf := it_t c_1 hf
      exact J82 x3 x4 t0 _ _ hP hD hS _ (lv_sub hl [1, 2, 3, 4, 5, 0] rfl) hf
    · have hf := it_f c_1 hf
      refine lv_iload_n hx hb dX6_phrase_65 rfl (lv_at hl 2 rfl) ?_
      refine lv_bipush (v := 10) hx hb dX6_phrase_66 (by decide) ?_
      refine lv_icmp_ne (tgt := 82) hx hb dX6_phrase_68 (by decide) (fun c_2 => ?_) (fun c_2 => ?_)
      · have hf := it_f c_2 hf
        exact J82 x3 x4 t0 _ _ hP hD hS _ (lv_sub hl [1, 2, 3, 4, 5, 0] rfl) hf
      · have hf := it_t c_2 hf
        refine lv_iload_n hx hb dX6_phrase_71 rfl (lv_at hl 4 rfl) ?_
        refine lv_if_eq (tgt := 80) hx hb dX6_phrase_72 (by decide) (fun c_3 => ?_) (fun c_3 => ?_)
        · have hf := it_t c_3 hf
          refine lv_iconst (v := 2) hx hb dX6_phrase_80 (by decide) ?_
          exact J81 2 _ _ hP hD hS _ (lv_sub hl [] rfl) hf
        · have hf := it_f c_3 hf
          refine lv_bipush (v := 9) hx hb dX6_phrase_75 (by decide) ?_
          refine lv_goto (tgt := 81) hx hb dX6_phrase_77 (by decide) ?_
          exact J81 9 _ _ hP hD hS _ (lv_sub hl [] rfl) hf
  have J53 : ∀ (x3 : Int32) (x4 : Int32) (H : Heap) (locs : List Loc), va_P (dC, dI) vwCl ([] : va_W) H → va_D A ([] : va_W) → va_S A s.heap H locs → ∀ (ls : Array Slot), lv_has ls 6 [(0, .int a0), (1, .int a1), (2, .int a2), (3, .int x3), (4, .int x4)] → fX6_phrase_53 a0 a1 a2 x3 x4 = some r → W p l e rmX6_phrase s m ([.int a0, .int a1, .int a2] : List Value).toArray below meth c H locs 0 0 QQ (F0 m 53 ls []) := by
    intro  x3 x4 H locs hP hD hS ls hl hf
    unfold fX6_phrase_53 at hf
    refine lv_iconst (v := 1) hx hb dX6_phrase_53 (by decide) ?_
    refine lv_goto (tgt := 58) hx hb dX6_phrase_54 (by decide) ?_
    exact J58 x3 x4 1 _ _ hP hD hS _ (lv_sub hl [0, 1, 2, 3, 4] rfl) hf
  have J40 : ∀ (x3 : Int32) (t0 : Int32) (H : Heap) (locs : List Loc), va_P (dC, dI) vwCl ([] : va_W) H → va_D A ([] : va_W) → va_S A s.heap H locs → ∀ (ls : Array Slot), lv_has ls 6 [(0, .int a0), (1, .int a1), (2, .int a2), (3, .int x3)] → fX6_phrase_40 a0 a1 a2 x3 t0 = some r → W p l e rmX6_phrase s m ([.int a0, .int a1, .int a2] : List Value).toArray below meth c H locs 0 0 QQ (F0 m 40 ls [.int t0]) := by
    intro  x3 t0 H locs hP hD hS ls hl hf
    unfold fX6_phrase_40 at hf
    refine lv_istore (lv' := [(4, .int t0), (0, .int a0), (1, .int a1), (2, .int a2), (3, .int x3)]) hx hb dX6_phrase_40 hl (by decide) rfl (fun ls hl => ?_)
    refine lv_iload_n hx hb dX6_phrase_42 rfl (lv_at hl 1 rfl) ?_
    refine lv_iconst (v := 3) hx hb dX6_phrase_43 (by decide) ?_
    refine lv_icmp_eq (tgt := 53) hx hb dX6_phrase_44 (by decide) (fun c_1 => ?_) (fun c_1 => ?_)
    · have hf := it_t c_1 hf
      exact J53 x3 t0 _ _ hP hD hS _ (lv_sub hl [1, 2, 3, 4, 0] rfl) hf
    · have hf := it_f c_1 hf
      refine lv_iload_n hx hb dX6_phrase_47 rfl (lv_at hl 1 rfl) ?_
      refine lv_bipush (v := 10) hx hb dX6_phrase_48 (by decide) ?_
      refine lv_icmp_ne (tgt := 57) hx hb dX6_phrase_50 (by decide) (fun c_2 => ?_) (fun c_2 => ?_)
      · have hf := it_f c_2 hf
        refine lv_iconst (v := 0) hx hb dX6_phrase_57 (by decide) ?_
        exact J58 x3 t0 0 _ _ hP hD hS _ (lv_sub hl [1, 2, 3, 4, 0] rfl) hf
      · have hf := it_t c_2 hf
        exact J53 x3 t0 _ _ hP hD hS _ (lv_sub hl [1, 2, 3, 4, 0] rfl) hf
  have J35 : ∀ (x3 : Int32) (H : Heap) (locs : List Loc), va_P (dC, dI) vwCl ([] : va_W) H → va_D A ([] : va_W) → va_S A s.heap H locs → ∀ (ls : Array Slot), lv_has ls 6 [(0, .int a0), (1, .int a1), (2, .int a2), (3, .int x3)] → fX6_phrase_35 a0 a1 a2 x3 = some r → W p l e rmX6_phrase s m ([.int a0, .int a1, .int a2] : List Value).toArray below meth c H locs 0 0 QQ (F0 m 35 ls []) := by
    intro  x3 H locs hP hD hS ls hl hf
    unfold fX6_phrase_35 at hf
    refine lv_iconst (v := 1) hx hb dX6_phrase_35 (by decide) ?_
    refine lv_goto (tgt := 40) hx hb dX6_phrase_36 (by decide) ?_
    exact J40 x3 1 _ _ hP hD hS _ (lv_sub hl [0, 1, 2, 3] rfl) hf
  have J23 : ∀ (t0 : Int32) (H : Heap) (locs : List Loc), va_P (dC, dI) vwCl ([] : va_W) H → va_D A ([] : va_W) → va_S A s.heap H locs → ∀ (ls : Array Slot), lv_has ls 6 [(0, .int a0), (1, .int a1), (2, .int a2)] → fX6_phrase_23 a0 a1 a2 t0 = some r → W p l e rmX6_phrase s m ([.int a0, .int a1, .int a2] : List Value).toArray below meth c H locs 0 0 QQ (F0 m 23 ls [.int t0]) := by
    intro  t0 H locs hP hD hS ls hl hf
    unfold fX6_phrase_23 at hf
    refine lv_istore_n (lv' := [(3, .int t0), (0, .int a0), (1, .int a1), (2, .int a2)]) hx hb dX6_phrase_23 rfl hl (by decide) rfl (fun ls hl => ?_)
    refine lv_iload_n hx hb dX6_phrase_24 rfl (lv_at hl 1 rfl) ?_
    refine lv_iconst (v := 1) hx hb dX6_phrase_25 (by decide) ?_
    refine lv_icmp_eq (tgt := 35) hx hb dX6_phrase_26 (by decide) (fun c_1 => ?_) (fun c_1 => ?_)
    · have hf := it_t c_1 hf
      exact J35 t0 _ _ hP hD hS _ (lv_sub hl [1, 2, 3, 0] rfl) hf
    · have hf := it_f c_1 hf
      refine lv_iload_n hx hb dX6_phrase_29 rfl (lv_at hl 1 rfl) ?_
      refine lv_bipush (v := 8) hx hb dX6_phrase_30 (by decide) ?_
      refine lv_icmp_ne (tgt := 39) hx hb dX6_phrase_32 (by decide) (fun c_2 => ?_) (fun c_2 => ?_)
      · have hf := it_f c_2 hf
        refine lv_iconst (v := 0) hx hb dX6_phrase_39 (by decide) ?_
        exact J40 t0 0 _ _ hP hD hS _ (lv_sub hl [1, 2, 3, 0] rfl) hf
      · have hf := it_t c_2 hf
        exact J35 t0 _ _ hP hD hS _ (lv_sub hl [1, 2, 3, 0] rfl) hf
  have J18 : ∀ (H : Heap) (locs : List Loc), va_P (dC, dI) vwCl ([] : va_W) H → va_D A ([] : va_W) → va_S A s.heap H locs → ∀ (ls : Array Slot), lv_has ls 6 [(0, .int a0), (1, .int a1), (2, .int a2)] → fX6_phrase_18 a0 a1 a2 = some r → W p l e rmX6_phrase s m ([.int a0, .int a1, .int a2] : List Value).toArray below meth c H locs 0 0 QQ (F0 m 18 ls []) := by
    intro   H locs hP hD hS ls hl hf
    unfold fX6_phrase_18 at hf
    refine lv_iconst (v := 1) hx hb dX6_phrase_18 (by decide) ?_
    refine lv_goto (tgt := 23) hx hb dX6_phrase_19 (by decide) ?_
    exact J23 1 _ _ hP hD hS _ (lv_sub hl [0, 1, 2] rfl) hf
  unfold fX6_phrase at hf
  refine lv_iload_n hx hb dX6_phrase_0 rfl (lv_at hl 0 rfl) ?_
  refine lv_bipush (v := 8) hx hb dX6_phrase_1 (by decide) ?_
  refine lv_icmp_eq (tgt := 18) hx hb dX6_phrase_3 (by decide) (fun c_1 => ?_) (fun c_1 => ?_)
  · have hf := it_t c_1 hf
    exact J18 _ _ hP hD hS _ (lv_sub hl [0, 1, 2] rfl) hf
  · have hf := it_f c_1 hf
    refine lv_iload_n hx hb dX6_phrase_6 rfl (lv_at hl 0 rfl) ?_
    refine lv_bipush (v := 9) hx hb dX6_phrase_7 (by decide) ?_
    refine lv_icmp_eq (tgt := 18) hx hb dX6_phrase_9 (by decide) (fun c_2 => ?_) (fun c_2 => ?_)
    · have hf := it_t c_2 hf
      exact J18 _ _ hP hD hS _ (lv_sub hl [0, 1, 2] rfl) hf
    · have hf := it_f c_2 hf
      refine lv_iload_n hx hb dX6_phrase_12 rfl (lv_at hl 0 rfl) ?_
      refine lv_bipush (v := 10) hx hb dX6_phrase_13 (by decide) ?_
      refine lv_icmp_ne (tgt := 22) hx hb dX6_phrase_15 (by decide) (fun c_3 => ?_) (fun c_3 => ?_)
      · have hf := it_f c_3 hf
        refine lv_iconst (v := 0) hx hb dX6_phrase_22 (by decide) ?_
        exact J23 0 _ _ hP hD hS _ (lv_sub hl [0, 1, 2] rfl) hf
      · have hf := it_t c_3 hf
        exact J18 _ _ hP hD hS _ (lv_sub hl [0, 1, 2] rfl) hf
