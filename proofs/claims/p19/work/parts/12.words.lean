abbrev rmX3_clear : Room := { frames := 0, cells := 0, slots := 0, locals := 0 }
set_option maxHeartbeats 2000000 in
set_option maxRecDepth 100000 in
theorem ktX3_clear (l : Launch) (dC : Nat → ClassId) (dI : Nat → Nat → Nat) (cI : ClassId) (h3 h3a0 : Nat) (sz : Nat) (s3 : S3) (s3f : S3) (hf : fX3_clear s3 = some s3f) : Met l yX3_clear wsX3_clear rmX3_clear (va_Pc [.ref h3] (pre_w (dC, dI) (cf_3 cI h3 h3a0 s3) [(cI, .int)] sz)) (va_Qv (fun (_ : Unit) => True) (post_w (dC, dI) (cf_3 cI h3 h3a0 s3f) [(cI, .int)] (va_A (cf_3 cI h3 h3a0 s3) sz)) (va_A (cf_3 cI h3 h3a0 s3) sz)) 0 0 (va_A (cf_3 cI h3 h3a0 s3) sz) := by
  refine gm_v (cc := cX3_clear) (maxL := 1) (by decide) rfl (Nat.le_of_ble_eq_true rfl) ?_
  intro p e s m below meth c A QQ ls hx hb hml hown hts hK hN hA hP hD hS hl hret
  have hown : s.vm.findClass RX3 = some m.cls := hown
  have hl : lv_has ls 1 [(0, .ref h3)] := hl
  have in3 : ∀ w ∈ u_ws RX3 TX3 5, w ∈ wsX3_clear := by decide +kernel
  have fl15 := hts (.fieldLink RX3 15 "ParserParlour$Words" "count" "I") (by decide +kernel)
  have fl19 := hts (.fieldLink RX3 19 "ParserParlour$Words" "place" "I") (by decide +kernel)
  unfold fX3_clear at hf
  refine lv_aload_n hx hb dX3_clear_0 rfl (lv_at hl 0 rfl) ?_
  refine lv_iconst (v := 0) hx hb dX3_clear_1 (by decide) ?_
  refine va_put (D := (dC, dI)) (ci := 3) (v := .int 0) (ty := .int) (C := RX3) (T := TX3) (N := 5) hx hb hts in3 tyX3 tyX3_ok nmX3 hown hK hP hD hS 0 rfl rfl 1 (by decide) fl15 (fun _ h9 => h9) rfl (by decide +kernel) rfl rfl (Nat.le_of_ble_eq_true rfl) dX3_clear_2 (fun H locs hP hD hS => ?_)
  have hP : va_P (dC, dI) vwCl (cf_3 cI h3 h3a0 (S3_set_count s3 0)) H := hP
  have hD : va_D A (cf_3 cI h3 h3a0 (S3_set_count s3 0)) := hD
  refine lv_aload_n hx hb dX3_clear_5 rfl (lv_at hl 0 rfl) ?_
  refine lv_iconst (v := 0) hx hb dX3_clear_6 (by decide) ?_
  refine va_put (D := (dC, dI)) (ci := 3) (v := .int 0) (ty := .int) (C := RX3) (T := TX3) (N := 5) hx hb hts in3 tyX3 tyX3_ok nmX3 hown hK hP hD hS 0 rfl rfl 2 (by decide) fl19 (fun _ h9 => h9) rfl (by decide +kernel) rfl rfl (Nat.le_of_ble_eq_true rfl) dX3_clear_7 (fun H locs hP hD hS => ?_)
  have hP : va_P (dC, dI) vwCl (cf_3 cI h3 h3a0 (S3_set_place (S3_set_count s3 0) 0)) H := hP
  have hD : va_D A (cf_3 cI h3 h3a0 (S3_set_place (S3_set_count s3 0) 0)) := hD
  have hf : (some (S3_set_place (S3_set_count s3 0) 0) : Option (S3)) = some s3f := hf
  have he := Option.some.inj hf
  have he0 : (S3_set_place (S3_set_count s3 0) 0) = s3f := he
  exact hret _ _ _ _ _ (by rw [← he0]) dX3_clear_10 hP hD hS
abbrev rmX3_peek : Room := { frames := 0, cells := 0, slots := 0, locals := 0 }
set_option maxHeartbeats 2000000 in
set_option maxRecDepth 100000 in
theorem ktX3_peek (l : Launch) (dC : Nat → ClassId) (dI : Nat → Nat → Nat) (cI : ClassId) (h3 h3a0 : Nat) (sz : Nat) (s3 : S3) (r : Int32) (hf : fX3_peek s3 = some r) : Met l yX3_peek wsX3_peek rmX3_peek (va_Pc [.ref h3] (pre_w (dC, dI) (cf_3 cI h3 h3a0 s3) [(cI, .int)] sz)) (va_Qi (fun (r' : Int32) (_ : Unit) => r' = r) (post_w (dC, dI) (cf_3 cI h3 h3a0 s3) [(cI, .int)] (va_A (cf_3 cI h3 h3a0 s3) sz)) (va_A (cf_3 cI h3 h3a0 s3) sz)) 0 0 (va_A (cf_3 cI h3 h3a0 s3) sz) := by
  refine gm_i (cc := cX3_peek) (maxL := 1) (by decide) rfl (Nat.le_of_ble_eq_true rfl) ?_
  intro p e s m below meth c A QQ ls hx hb hml hown hts hK hN hA hP hD hS hl hret
  have hown : s.vm.findClass RX3 = some m.cls := hown
  have hl : lv_has ls 1 [(0, .ref h3)] := hl
  have in3 : ∀ w ∈ u_ws RX3 TX3 5, w ∈ wsX3_peek := by decide +kernel
  have fl19 := hts (.fieldLink RX3 19 "ParserParlour$Words" "place" "I") (by decide +kernel)
  have fl15 := hts (.fieldLink RX3 15 "ParserParlour$Words" "count" "I") (by decide +kernel)
  have fl9 := hts (.fieldLink RX3 9 "ParserParlour$Words" "given" "[I") (by decide +kernel)
  have J40 : ∀ (t0 : Int32) (H : Heap) (locs : List Loc), va_P (dC, dI) vwCl (cf_3 cI h3 h3a0 s3) H → va_D A (cf_3 cI h3 h3a0 s3) → va_S A s.heap H locs → ∀ (ls : Array Slot), lv_has ls 1 [] → fX3_peek_40 s3 t0 = some r → W p l e rmX3_peek s m ([.ref h3] : List Value).toArray below meth c H locs 0 0 QQ (F0 m 40 ls [.int t0]) := by
    intro  t0 H locs hP hD hS ls hl hf
    unfold fX3_peek_40 at hf
    have hf : (some t0 : Option (Int32)) = some r := hf
    have he := Option.some.inj hf
    have he0 : t0 = r := he
    exact hret _ _ _ _ _ _ he0 rfl dX3_peek_40 hP hD hS
  have J39 : ∀ (H : Heap) (locs : List Loc), va_P (dC, dI) vwCl (cf_3 cI h3 h3a0 s3) H → va_D A (cf_3 cI h3 h3a0 s3) → va_S A s.heap H locs → ∀ (ls : Array Slot), lv_has ls 1 [] → fX3_peek_39 s3 = some r → W p l e rmX3_peek s m ([.ref h3] : List Value).toArray below meth c H locs 0 0 QQ (F0 m 39 ls []) := by
    intro   H locs hP hD hS ls hl hf
    unfold fX3_peek_39 at hf
    refine lv_iconst (v := (-1)) hx hb dX3_peek_39 (by decide) ?_
    exact J40 (-1) _ _ hP hD hS _ (lv_sub hl [] rfl) hf
  unfold fX3_peek at hf
  refine lv_aload_n hx hb dX3_peek_0 rfl (lv_at hl 0 rfl) ?_
  refine va_get (D := (dC, dI)) (ci := 3) (v := .int (S3_place s3)) (C := RX3) (T := TX3) (N := 5) hx hb hts in3 hown hK hP 0 rfl rfl 2 (by decide) fl19 (fun _ h9 => h9) rfl dX3_peek_1 ?_
  refine lv_if_lt (tgt := 39) hx hb dX3_peek_4 (by decide) (fun c_1 => ?_) (fun c_1 => ?_)
  · have hf := it_t c_1 hf
    exact J39 _ _ hP hD hS _ (lv_sub hl [] rfl) hf
  · have hf := it_f c_1 hf
    refine lv_aload_n hx hb dX3_peek_7 rfl (lv_at hl 0 rfl) ?_
    refine va_get (D := (dC, dI)) (ci := 3) (v := .int (S3_place s3)) (C := RX3) (T := TX3) (N := 5) hx hb hts in3 hown hK hP 0 rfl rfl 2 (by decide) fl19 (fun _ h9 => h9) rfl dX3_peek_8 ?_
    refine lv_aload_n hx hb dX3_peek_11 rfl (lv_at hl 0 rfl) ?_
    refine va_get (D := (dC, dI)) (ci := 3) (v := .int (S3_count s3)) (C := RX3) (T := TX3) (N := 5) hx hb hts in3 hown hK hP 0 rfl rfl 1 (by decide) fl15 (fun _ h9 => h9) rfl dX3_peek_12 ?_
    refine lv_icmp_ge (tgt := 39) hx hb dX3_peek_15 (by decide) (fun c_2 => ?_) (fun c_2 => ?_)
    · have hf := it_t c_2 hf
      exact J39 _ _ hP hD hS _ (lv_sub hl [] rfl) hf
    · have hf := it_f c_2 hf
      refine lv_aload_n hx hb dX3_peek_18 rfl (lv_at hl 0 rfl) ?_
      refine va_get (D := (dC, dI)) (ci := 3) (v := .int (S3_place s3)) (C := RX3) (T := TX3) (N := 5) hx hb hts in3 hown hK hP 0 rfl rfl 2 (by decide) fl19 (fun _ h9 => h9) rfl dX3_peek_19 ?_
      refine lv_bipush (v := 24) hx hb dX3_peek_22 (by decide) ?_
      refine lv_icmp_ge (tgt := 39) hx hb dX3_peek_24 (by decide) (fun c_3 => ?_) (fun c_3 => ?_)
      · have hf := it_t c_3 hf
        exact J39 _ _ hP hD hS _ (lv_sub hl [] rfl) hf
      · have hf := it_f c_3 hf
        refine lv_aload_n hx hb dX3_peek_27 rfl (lv_at hl 0 rfl) ?_
        refine va_get (D := (dC, dI)) (ci := 3) (v := .ref h3a0) (C := RX3) (T := TX3) (N := 5) hx hb hts in3 hown hK hP 0 rfl rfl 0 (by decide) fl9 (fun _ h9 => h9) rfl dX3_peek_28 ?_
        refine lv_aload_n hx hb dX3_peek_31 rfl (lv_at hl 0 rfl) ?_
        refine va_get (D := (dC, dI)) (ci := 3) (v := .int (S3_place s3)) (C := RX3) (T := TX3) (N := 5) hx hb hts in3 hown hK hP 0 rfl rfl 2 (by decide) fl19 (fun _ h9 => h9) rfl dX3_peek_32 ?_
        obtain ⟨hi_4, hf⟩ := ai_ok hf
        refine va_iald (n := 24) (f := (S3_given s3)) hx hb hK hP 1 0 rfl rfl hi_4 dX3_peek_35 ?_
        refine lv_goto (tgt := 40) hx hb dX3_peek_36 (by decide) ?_
        exact J40 ((S3_given s3) (S3_place s3).toNatClampNeg) _ _ hP hD hS _ (lv_sub hl [] rfl) hf
abbrev rmX3_accept : Room := { frames := 1, cells := 0, slots := 0, locals := 20 }
set_option maxHeartbeats 2000000 in
set_option maxRecDepth 100000 in
theorem ktX3_accept (l : Launch) (dC : Nat → ClassId) (dI : Nat → Nat → Nat) (cI : ClassId) (h3 h3a0 : Nat) (sz : Nat) (s3 : S3) (a1 : Int32) (r : Int32) (s3f : S3) (hf : fX3_accept s3 a1 = some (r, s3f)) : Met l yX3_accept wsX3_accept rmX3_accept (va_Pc [.ref h3, .int a1] (pre_w (dC, dI) (cf_3 cI h3 h3a0 s3) [(cI, .int)] sz)) (va_Qi (fun (r' : Int32) (_ : Unit) => r' = r) (post_w (dC, dI) (cf_3 cI h3 h3a0 s3f) [(cI, .int)] (va_A (cf_3 cI h3 h3a0 s3) sz)) (va_A (cf_3 cI h3 h3a0 s3) sz)) 0 0 (va_A (cf_3 cI h3 h3a0 s3) sz) := by
  refine gm_z (cc := cX3_accept) (maxL := 2) (by decide) rfl (Nat.le_of_ble_eq_true rfl) ?_
  intro p e s m below meth c A QQ ls hx hb hml hown hts hK hN hA hP hD hS hl hret
  have hown : s.vm.findClass RX3 = some m.cls := hown
  have hl : lv_has ls 2 [(0, .ref h3), (1, .int a1)] := hl
  have in3 : ∀ w ∈ u_ws RX3 TX3 5, w ∈ wsX3_accept := by decide +kernel
  have fl19 := hts (.fieldLink RX3 19 "ParserParlour$Words" "place" "I") (by decide +kernel)
  unfold fX3_accept at hf
  refine lv_aload_n hx hb dX3_accept_0 rfl (lv_at hl 0 rfl) ?_
  obtain ⟨r_1, hc_1, hf⟩ := bn1_ok hf
  refine gc_i (wc := (cf_3 cI h3 h3a0 s3)) (wr := ([] : va_W)) (w1 := (cf_3 cI h3 h3a0 s3)) (ws' := (cf_3 cI h3 h3a0 s3)) hP hD hS hA [0, 1] [] [0, 1] rfl rfl (by decide) (by decide) rfl (by decide) (va_runV (As := []) (rest := []) ⟨hx, hb, hml, hown, hts⟩ (ktX3_peek l dC dI cI h3 h3a0 _ s3 r_1 hc_1) (cwV 0 hts gX3_accept_X3_peek rfl rfl rfl (by decide +kernel) ⟨Nat.le_of_ble_eq_true rfl, Nat.le_of_ble_eq_true rfl⟩) (gc_V (ci := 3) (q0 := 0) (C := RX3) (T := TX3) (N := 5) (hP.sub (ws' := (cf_3 cI h3 h3a0 s3)) [0, 1] rfl) (hK.sub (tys' := [(cI, .int)]) [0] rfl) (hD.sub (ws' := (cf_3 cI h3 h3a0 s3)) [0, 1] (by decide) rfl) hN rfl rfl) rfl rfl hl.1 rfl (lv_room (Nat.le_of_ble_eq_true rfl)) dX3_accept_1 ⟨Nat.zero_le _, Nat.zero_le _⟩) (fun H locs hP hD hS => ?_)
  refine lv_iload_n hx hb dX3_accept_4 rfl (lv_at hl 1 rfl) ?_
  refine lv_icmp_eq (tgt := 10) hx hb dX3_accept_5 (by decide) (fun c_2 => ?_) (fun c_2 => ?_)
  · have hf := it_t c_2 hf
    refine lv_aload_n hx hb dX3_accept_10 rfl (lv_at hl 0 rfl) ?_
    refine lv_dup hx hb dX3_accept_11 rfl ?_
    refine va_get (D := (dC, dI)) (ci := 3) (v := .int (S3_place s3)) (C := RX3) (T := TX3) (N := 5) hx hb hts in3 hown hK hP 0 rfl rfl 2 (by decide) fl19 (fun _ h9 => h9) rfl dX3_accept_12 ?_
    refine lv_iconst (v := 1) hx hb dX3_accept_15 (by decide) ?_
    refine lv_iadd hx hb dX3_accept_16 ?_
    refine va_put (D := (dC, dI)) (ci := 3) (v := .int ((S3_place s3) + 1)) (ty := .int) (C := RX3) (T := TX3) (N := 5) hx hb hts in3 tyX3 tyX3_ok nmX3 hown hK hP hD hS 0 rfl rfl 2 (by decide) fl19 (fun _ h9 => h9) rfl (by decide +kernel) rfl rfl (Nat.le_of_ble_eq_true rfl) dX3_accept_17 (fun H locs hP hD hS => ?_)
    have hP : va_P (dC, dI) vwCl (cf_3 cI h3 h3a0 (S3_set_place s3 ((S3_place s3) + 1))) H := hP
    have hD : va_D A (cf_3 cI h3 h3a0 (S3_set_place s3 ((S3_place s3) + 1))) := hD
    refine lv_iconst (v := 1) hx hb dX3_accept_20 (by decide) ?_
    have hf : (some (1, (S3_set_place s3 ((S3_place s3) + 1))) : Option (Int32 × S3)) = some (r, s3f) := hf
    have he := Option.some.inj hf
    have he0 : 1 = r := congrArg (fun q => q.1) he
    have he1 : (S3_set_place s3 ((S3_place s3) + 1)) = s3f := congrArg (fun q => q.2) he
    exact hret _ _ _ _ _ _ rfl he0 (by rw [← he1]) dX3_accept_21 hP hD hS
  · have hf := it_f c_2 hf
    refine lv_iconst (v := 0) hx hb dX3_accept_8 (by decide) ?_
    have hf : (some (0, s3) : Option (Int32 × S3)) = some (r, s3f) := hf
    have he := Option.some.inj hf
    have he0 : 0 = r := congrArg (fun q => q.1) he
    have he1 : s3 = s3f := congrArg (fun q => q.2) he
    exact hret _ _ _ _ _ _ rfl he0 (by rw [← he1]) dX3_accept_9 hP hD hS
abbrev rmX3_acceptNoun : Room := { frames := 1, cells := 0, slots := 0, locals := 22 }
set_option maxHeartbeats 2000000 in
set_option maxRecDepth 100000 in
theorem ktX3_acceptNoun (l : Launch) (dC : Nat → ClassId) (dI : Nat → Nat → Nat) (cI : ClassId) (h3 h3a0 : Nat) (sz : Nat) (s3 : S3) (a1 : Int32) (r : Int32) (s3f : S3) (hf : fX3_acceptNoun s3 a1 = some (r, s3f)) : Met l yX3_acceptNoun wsX3_acceptNoun rmX3_acceptNoun (va_Pc [.ref h3, .int a1] (pre_w (dC, dI) (cf_3 cI h3 h3a0 s3) [(cI, .int)] sz)) (va_Qi (fun (r' : Int32) (_ : Unit) => r' = r) (post_w (dC, dI) (cf_3 cI h3 h3a0 s3f) [(cI, .int)] (va_A (cf_3 cI h3 h3a0 s3) sz)) (va_A (cf_3 cI h3 h3a0 s3) sz)) 0 0 (va_A (cf_3 cI h3 h3a0 s3) sz) := by
  refine gm_z (cc := cX3_acceptNoun) (maxL := 2) (by decide) rfl (Nat.le_of_ble_eq_true rfl) ?_
  intro p e s m below meth c A QQ ls hx hb hml hown hts hK hN hA hP hD hS hl hret
  have hown : s.vm.findClass RX3 = some m.cls := hown
  have hl : lv_has ls 2 [(0, .ref h3), (1, .int a1)] := hl
  have in3 : ∀ w ∈ u_ws RX3 TX3 5, w ∈ wsX3_acceptNoun := by decide +kernel
  have fl25 := hts (.fieldLink RX3 25 "ParserParlour$Words" "noun" "I") (by decide +kernel)
  have fl19 := hts (.fieldLink RX3 19 "ParserParlour$Words" "place" "I") (by decide +kernel)
  unfold fX3_acceptNoun at hf
  refine lv_aload_n hx hb dX3_acceptNoun_0 rfl (lv_at hl 0 rfl) ?_
  obtain ⟨r_1, hc_1, hf⟩ := bn1_ok hf
  refine gc_i (wc := (cf_3 cI h3 h3a0 s3)) (wr := ([] : va_W)) (w1 := (cf_3 cI h3 h3a0 s3)) (ws' := (cf_3 cI h3 h3a0 s3)) hP hD hS hA [0, 1] [] [0, 1] rfl rfl (by decide) (by decide) rfl (by decide) (va_runV (As := []) (rest := []) ⟨hx, hb, hml, hown, hts⟩ (ktX3_peek l dC dI cI h3 h3a0 _ s3 r_1 hc_1) (cwV 0 hts gX3_acceptNoun_X3_peek rfl rfl rfl (by decide +kernel) ⟨Nat.le_of_ble_eq_true rfl, Nat.le_of_ble_eq_true rfl⟩) (gc_V (ci := 3) (q0 := 0) (C := RX3) (T := TX3) (N := 5) (hP.sub (ws' := (cf_3 cI h3 h3a0 s3)) [0, 1] rfl) (hK.sub (tys' := [(cI, .int)]) [0] rfl) (hD.sub (ws' := (cf_3 cI h3 h3a0 s3)) [0, 1] (by decide) rfl) hN rfl rfl) rfl rfl hl.1 rfl (lv_room (Nat.le_of_ble_eq_true rfl)) dX3_acceptNoun_1 ⟨Nat.zero_le _, Nat.zero_le _⟩) (fun H locs hP hD hS => ?_)
  refine lv_iload_n hx hb dX3_acceptNoun_4 rfl (lv_at hl 1 rfl) ?_
  refine lv_bipush (v := 8) hx hb dX3_acceptNoun_5 (by decide) ?_
  obtain ⟨r_2, hc_2, hf⟩ := bn1_ok hf
  refine gc_i (wc := ([] : va_W)) (wr := (cf_3 cI h3 h3a0 s3)) (w1 := ([] : va_W)) (ws' := (cf_3 cI h3 h3a0 s3)) hP hD hS hA [] [0, 1] [0, 1] rfl rfl (by decide) (by decide) rfl (by decide) (va_runSN (As := [.int r_1, .int a1, .int 8]) (rest := []) ⟨hx, hb, hml, hown, hts⟩ (ktX5_isBetween l dC dI _ r_1 a1 8 r_2 hc_2) ⟨va_cnB (host := RX5) 3 hts ggX3_acceptNoun_X5_isBetween rfl rfl rfl (hN _ (List.mem_of_getElem? (i := 26) rfl)) (hts (.initialized RX5) (by decide +kernel)) (by decide +kernel) ⟨Nat.le_of_ble_eq_true rfl, Nat.le_of_ble_eq_true rfl⟩, hts (.static yX5_isBetween) (by decide +kernel), trivial⟩ (gc_S (hP.sub (ws' := ([] : va_W)) [] rfl) (hK.sub (tys' := []) [] rfl) (hD.sub (ws' := ([] : va_W)) [] (by decide) rfl) hN) rfl rfl hl.1 rfl (lv_room (Nat.le_of_ble_eq_true rfl)) dX3_acceptNoun_7 ⟨Nat.zero_le _, Nat.zero_le _⟩) (fun H locs hP hD hS => ?_)
  refine lv_if_ne (tgt := 15) hx hb dX3_acceptNoun_10 (by decide) (fun c_3 => ?_) (fun c_3 => ?_)
  · have hf := it_f c_3 hf
    refine lv_aload_n hx hb dX3_acceptNoun_15 rfl (lv_at hl 0 rfl) ?_
    refine lv_aload_n hx hb dX3_acceptNoun_16 rfl (lv_at hl 0 rfl) ?_
    obtain ⟨r_4, hc_4, hf⟩ := bn1_ok hf
    refine gc_i (wc := (cf_3 cI h3 h3a0 s3)) (wr := ([] : va_W)) (w1 := (cf_3 cI h3 h3a0 s3)) (ws' := (cf_3 cI h3 h3a0 s3)) hP hD hS hA [0, 1] [] [0, 1] rfl rfl (by decide) (by decide) rfl (by decide) (va_runV (As := []) (rest := [.ref h3]) ⟨hx, hb, hml, hown, hts⟩ (ktX3_peek l dC dI cI h3 h3a0 _ s3 r_4 hc_4) (cwV 0 hts gX3_acceptNoun_X3_peek rfl rfl rfl (by decide +kernel) ⟨Nat.le_of_ble_eq_true rfl, Nat.le_of_ble_eq_true rfl⟩) (gc_V (ci := 3) (q0 := 0) (C := RX3) (T := TX3) (N := 5) (hP.sub (ws' := (cf_3 cI h3 h3a0 s3)) [0, 1] rfl) (hK.sub (tys' := [(cI, .int)]) [0] rfl) (hD.sub (ws' := (cf_3 cI h3 h3a0 s3)) [0, 1] (by decide) rfl) hN rfl rfl) rfl rfl hl.1 rfl (lv_room (Nat.le_of_ble_eq_true rfl)) dX3_acceptNoun_17 ⟨Nat.zero_le _, Nat.zero_le _⟩) (fun H locs hP hD hS => ?_)
    refine lv_iload_n hx hb dX3_acceptNoun_20 rfl (lv_at hl 1 rfl) ?_
    refine lv_isub hx hb dX3_acceptNoun_21 ?_
    refine va_put (D := (dC, dI)) (ci := 3) (v := .int (r_4 - a1)) (ty := .int) (C := RX3) (T := TX3) (N := 5) hx hb hts in3 tyX3 tyX3_ok nmX3 hown hK hP hD hS 0 rfl rfl 4 (by decide) fl25 (fun _ h9 => h9) rfl (by decide +kernel) rfl rfl (Nat.le_of_ble_eq_true rfl) dX3_acceptNoun_22 (fun H locs hP hD hS => ?_)
    have hP : va_P (dC, dI) vwCl (cf_3 cI h3 h3a0 (S3_set_noun s3 (r_4 - a1))) H := hP
    have hD : va_D A (cf_3 cI h3 h3a0 (S3_set_noun s3 (r_4 - a1))) := hD
    refine lv_aload_n hx hb dX3_acceptNoun_25 rfl (lv_at hl 0 rfl) ?_
    refine lv_dup hx hb dX3_acceptNoun_26 rfl ?_
    refine va_get (D := (dC, dI)) (ci := 3) (v := .int (S3_place s3)) (C := RX3) (T := TX3) (N := 5) hx hb hts in3 hown hK hP 0 rfl rfl 2 (by decide) fl19 (fun _ h9 => h9) rfl dX3_acceptNoun_27 ?_
    refine lv_iconst (v := 1) hx hb dX3_acceptNoun_30 (by decide) ?_
    refine lv_iadd hx hb dX3_acceptNoun_31 ?_
    refine va_put (D := (dC, dI)) (ci := 3) (v := .int ((S3_place s3) + 1)) (ty := .int) (C := RX3) (T := TX3) (N := 5) hx hb hts in3 tyX3 tyX3_ok nmX3 hown hK hP hD hS 0 rfl rfl 2 (by decide) fl19 (fun _ h9 => h9) rfl (by decide +kernel) rfl rfl (Nat.le_of_ble_eq_true rfl) dX3_acceptNoun_32 (fun H locs hP hD hS => ?_)
    have hP : va_P (dC, dI) vwCl (cf_3 cI h3 h3a0 (S3_set_place (S3_set_noun s3 (r_4 - a1)) ((S3_place s3) + 1))) H := hP
    have hD : va_D A (cf_3 cI h3 h3a0 (S3_set_place (S3_set_noun s3 (r_4 - a1)) ((S3_place s3) + 1))) := hD
    refine lv_iconst (v := 1) hx hb dX3_acceptNoun_35 (by decide) ?_
    have hf : (some (1, (S3_set_place (S3_set_noun s3 (r_4 - a1)) ((S3_place s3) + 1))) : Option (Int32 × S3)) = some (r, s3f) := hf
    have he := Option.some.inj hf
    have he0 : 1 = r := congrArg (fun q => q.1) he
    have he1 : (S3_set_place (S3_set_noun s3 (r_4 - a1)) ((S3_place s3) + 1)) = s3f := congrArg (fun q => q.2) he
    exact hret _ _ _ _ _ _ rfl he0 (by rw [← he1]) dX3_acceptNoun_36 hP hD hS
  · have hf := it_t c_3 hf
    refine lv_iconst (v := 0) hx hb dX3_acceptNoun_13 (by decide) ?_
    have hf : (some (0, s3) : Option (Int32 × S3)) = some (r, s3f) := hf
    have he := Option.some.inj hf
    have he0 : 0 = r := congrArg (fun q => q.1) he
    have he1 : s3 = s3f := congrArg (fun q => q.2) he
    exact hret _ _ _ _ _ _ rfl he0 (by rw [← he1]) dX3_acceptNoun_14 hP hD hS
abbrev rmX3_atEnd : Room := { frames := 0, cells := 0, slots := 0, locals := 0 }
set_option maxHeartbeats 2000000 in
set_option maxRecDepth 100000 in
theorem ktX3_atEnd (l : Launch) (dC : Nat → ClassId) (dI : Nat → Nat → Nat) (cI : ClassId) (h3 h3a0 : Nat) (sz : Nat) (s3 : S3) (r : Int32) (hf : fX3_atEnd s3 = some r) : Met l yX3_atEnd wsX3_atEnd rmX3_atEnd (va_Pc [.ref h3] (pre_w (dC, dI) (cf_3 cI h3 h3a0 s3) [(cI, .int)] sz)) (va_Qi (fun (r' : Int32) (_ : Unit) => r' = r) (post_w (dC, dI) (cf_3 cI h3 h3a0 s3) [(cI, .int)] (va_A (cf_3 cI h3 h3a0 s3) sz)) (va_A (cf_3 cI h3 h3a0 s3) sz)) 0 0 (va_A (cf_3 cI h3 h3a0 s3) sz) := by
  refine gm_z (cc := cX3_atEnd) (maxL := 1) (by decide) rfl (Nat.le_of_ble_eq_true rfl) ?_
  intro p e s m below meth c A QQ ls hx hb hml hown hts hK hN hA hP hD hS hl hret
  have hown : s.vm.findClass RX3 = some m.cls := hown
  have hl : lv_has ls 1 [(0, .ref h3)] := hl
  have in3 : ∀ w ∈ u_ws RX3 TX3 5, w ∈ wsX3_atEnd := by decide +kernel
  have fl19 := hts (.fieldLink RX3 19 "ParserParlour$Words" "place" "I") (by decide +kernel)
  have fl15 := hts (.fieldLink RX3 15 "ParserParlour$Words" "count" "I") (by decide +kernel)
  have J16 : ∀ (t0 : Int32) (H : Heap) (locs : List Loc), va_P (dC, dI) vwCl (cf_3 cI h3 h3a0 s3) H → va_D A (cf_3 cI h3 h3a0 s3) → va_S A s.heap H locs → ∀ (ls : Array Slot), lv_has ls 1 [] → fX3_atEnd_16 s3 t0 = some r → W p l e rmX3_atEnd s m ([.ref h3] : List Value).toArray below meth c H locs 0 0 QQ (F0 m 16 ls [.int t0]) := by
    intro  t0 H locs hP hD hS ls hl hf
    unfold fX3_atEnd_16 at hf
    obtain ⟨hz_1, hf⟩ := bo_ok hf
    have hf : (some t0 : Option (Int32)) = some r := hf
    have he := Option.some.inj hf
    have he0 : t0 = r := he
    exact hret _ _ _ _ _ _ hz_1 he0 rfl dX3_atEnd_16 hP hD hS
  unfold fX3_atEnd at hf
  refine lv_aload_n hx hb dX3_atEnd_0 rfl (lv_at hl 0 rfl) ?_
  refine va_get (D := (dC, dI)) (ci := 3) (v := .int (S3_place s3)) (C := RX3) (T := TX3) (N := 5) hx hb hts in3 hown hK hP 0 rfl rfl 2 (by decide) fl19 (fun _ h9 => h9) rfl dX3_atEnd_1 ?_
  refine lv_aload_n hx hb dX3_atEnd_4 rfl (lv_at hl 0 rfl) ?_
  refine va_get (D := (dC, dI)) (ci := 3) (v := .int (S3_count s3)) (C := RX3) (T := TX3) (N := 5) hx hb hts in3 hown hK hP 0 rfl rfl 1 (by decide) fl15 (fun _ h9 => h9) rfl dX3_atEnd_5 ?_
  refine lv_icmp_ne (tgt := 15) hx hb dX3_atEnd_8 (by decide) (fun c_1 => ?_) (fun c_1 => ?_)
  · have hf := it_f c_1 hf
    refine lv_iconst (v := 0) hx hb dX3_atEnd_15 (by decide) ?_
    exact J16 0 _ _ hP hD hS _ (lv_sub hl [] rfl) hf
  · have hf := it_t c_1 hf
    refine lv_iconst (v := 1) hx hb dX3_atEnd_11 (by decide) ?_
    refine lv_goto (tgt := 16) hx hb dX3_atEnd_12 (by decide) ?_
    exact J16 1 _ _ hP hD hS _ (lv_sub hl [] rfl) hf
abbrev rmX3_readAdjectives : Room := { frames := 1, cells := 0, slots := 0, locals := 22 }
set_option maxHeartbeats 2000000 in
set_option maxRecDepth 100000 in
theorem ktX3_readAdjectives (l : Launch) (dC : Nat → ClassId) (dI : Nat → Nat → Nat) (cI : ClassId) (h3 h3a0 : Nat) (sz : Nat) (s3 : S3) (s3f : S3) (hf : fX3_readAdjectives s3 = some s3f) : Met l yX3_readAdjectives wsX3_readAdjectives rmX3_readAdjectives (va_Pc [.ref h3] (pre_w (dC, dI) (cf_3 cI h3 h3a0 s3) [(cI, .int)] sz)) (va_Qv (fun (_ : Unit) => True) (post_w (dC, dI) (cf_3 cI h3 h3a0 s3f) [(cI, .int)] (va_A (cf_3 cI h3 h3a0 s3) sz)) (va_A (cf_3 cI h3 h3a0 s3) sz)) 0 0 (va_A (cf_3 cI h3 h3a0 s3) sz) := by
  refine gm_v (cc := cX3_readAdjectives) (maxL := 2) (by decide) rfl (Nat.le_of_ble_eq_true rfl) ?_
  intro p e s m below meth c A QQ ls hx hb hml hown hts hK hN hA hP hD hS hl hret
  have hown : s.vm.findClass RX3 = some m.cls := hown
  have hl : lv_has ls 2 [(0, .ref h3)] := hl
  have in3 : ∀ w ∈ u_ws RX3 TX3 5, w ∈ wsX3_readAdjectives := by decide +kernel
  have fl22 := hts (.fieldLink RX3 22 "ParserParlour$Words" "adjectives" "I") (by decide +kernel)
  have fl25 := hts (.fieldLink RX3 25 "ParserParlour$Words" "noun" "I") (by decide +kernel)
  have fl19 := hts (.fieldLink RX3 19 "ParserParlour$Words" "place" "I") (by decide +kernel)
  have J66 : ∀ (s3 : S3) (H : Heap) (locs : List Loc), va_P (dC, dI) vwCl (cf_3 cI h3 h3a0 s3) H → va_D A (cf_3 cI h3 h3a0 s3) → va_S A s.heap H locs → ∀ (ls : Array Slot), lv_has ls 2 [] → fX3_readAdjectives_66 s3 = some s3f → W p l e rmX3_readAdjectives s m ([.ref h3] : List Value).toArray below meth c H locs 0 0 QQ (F0 m 66 ls []) := by
    intro  s3 H locs hP hD hS ls hl hf
    unfold fX3_readAdjectives_66 at hf
    have hf : (some s3 : Option (S3)) = some s3f := hf
    have he := Option.some.inj hf
    have he0 : s3 = s3f := he
    exact hret _ _ _ _ _ (by rw [← he0]) dX3_readAdjectives_66 hP hD hS
  have J12 : ∀ (n : Nat) (s3 : S3) (x1 : Int32) (H : Heap) (locs : List Loc), va_P (dC, dI) vwCl (cf_3 cI h3 h3a0 s3) H → va_D A (cf_3 cI h3 h3a0 s3) → va_S A s.heap H locs → ∀ (ls : Array Slot), lv_has ls 2 [(0, .ref h3), (1, .int x1)] → fX3_readAdjectives_12 n s3 x1 = some s3f → W p l e rmX3_readAdjectives s m ([.ref h3] : List Value).toArray below meth c H locs 0 0 QQ (F0 m 12 ls []) := by
    intro n
    induction n with
    | zero =>
      intro s3 x1 H locs hP hD hS ls hl hf
      cases hf
    | succ n ih =>
      intro s3 x1 H locs hP hD hS ls hl hf
      rw [fX3_readAdjectives_12] at hf
      refine lv_iload_n hx hb dX3_readAdjectives_12 rfl (lv_at hl 1 rfl) ?_
      refine lv_bipush (v := 24) hx hb dX3_readAdjectives_13 (by decide) ?_
      refine lv_icmp_ge (tgt := 66) hx hb dX3_readAdjectives_15 (by decide) (fun c_1 => ?_) (fun c_1 => ?_)
      · have hf := it_t c_1 hf
        exact J66 s3 _ _ hP hD hS _ (lv_sub hl [] rfl) hf
      · have hf := it_f c_1 hf
        refine lv_aload_n hx hb dX3_readAdjectives_18 rfl (lv_at hl 0 rfl) ?_
        obtain ⟨r_2, hc_2, hf⟩ := bn1_ok hf
        refine gc_i (wc := (cf_3 cI h3 h3a0 s3)) (wr := ([] : va_W)) (w1 := (cf_3 cI h3 h3a0 s3)) (ws' := (cf_3 cI h3 h3a0 s3)) hP hD hS hA [0, 1] [] [0, 1] rfl rfl (by decide) (by decide) rfl (by decide) (va_runV (As := []) (rest := []) ⟨hx, hb, hml, hown, hts⟩ (ktX3_peek l dC dI cI h3 h3a0 _ s3 r_2 hc_2) (cwV 0 hts gX3_readAdjectives_X3_peek rfl rfl rfl (by decide +kernel) ⟨Nat.le_of_ble_eq_true rfl, Nat.le_of_ble_eq_true rfl⟩) (gc_V (ci := 3) (q0 := 0) (C := RX3) (T := TX3) (N := 5) (hP.sub (ws' := (cf_3 cI h3 h3a0 s3)) [0, 1] rfl) (hK.sub (tys' := [(cI, .int)]) [0] rfl) (hD.sub (ws' := (cf_3 cI h3 h3a0 s3)) [0, 1] (by decide) rfl) hN rfl rfl) rfl rfl hl.1 rfl (lv_room (Nat.le_of_ble_eq_true rfl)) dX3_readAdjectives_19 ⟨Nat.zero_le _, Nat.zero_le _⟩) (fun H locs hP hD hS => ?_)
        refine lv_bipush (v := 20) hx hb dX3_readAdjectives_22 (by decide) ?_
        refine lv_bipush (v := 6) hx hb dX3_readAdjectives_24 (by decide) ?_
        obtain ⟨r_3, hc_3, hf⟩ := bn1_ok hf
        refine gc_i (wc := ([] : va_W)) (wr := (cf_3 cI h3 h3a0 s3)) (w1 := ([] : va_W)) (ws' := (cf_3 cI h3 h3a0 s3)) hP hD hS hA [] [0, 1] [0, 1] rfl rfl (by decide) (by decide) rfl (by decide) (va_runSN (As := [.int r_2, .int 20, .int 6]) (rest := []) ⟨hx, hb, hml, hown, hts⟩ (ktX5_isBetween l dC dI _ r_2 20 6 r_3 hc_3) ⟨va_cnB (host := RX5) 3 hts ggX3_readAdjectives_X5_isBetween rfl rfl rfl (hN _ (List.mem_of_getElem? (i := 26) rfl)) (hts (.initialized RX5) (by decide +kernel)) (by decide +kernel) ⟨Nat.le_of_ble_eq_true rfl, Nat.le_of_ble_eq_true rfl⟩, hts (.static yX5_isBetween) (by decide +kernel), trivial⟩ (gc_S (hP.sub (ws' := ([] : va_W)) [] rfl) (hK.sub (tys' := []) [] rfl) (hD.sub (ws' := ([] : va_W)) [] (by decide) rfl) hN) rfl rfl hl.1 rfl (lv_room (Nat.le_of_ble_eq_true rfl)) dX3_readAdjectives_26 ⟨Nat.zero_le _, Nat.zero_le _⟩) (fun H locs hP hD hS => ?_)
        refine lv_if_eq (tgt := 66) hx hb dX3_readAdjectives_29 (by decide) (fun c_4 => ?_) (fun c_4 => ?_)
        · have hf := it_t c_4 hf
          exact J66 s3 _ _ hP hD hS _ (lv_sub hl [] rfl) hf
        · have hf := it_f c_4 hf
          refine lv_aload_n hx hb dX3_readAdjectives_32 rfl (lv_at hl 0 rfl) ?_
          refine lv_dup hx hb dX3_readAdjectives_33 rfl ?_
          refine va_get (D := (dC, dI)) (ci := 3) (v := .int (S3_adjectives s3)) (C := RX3) (T := TX3) (N := 5) hx hb hts in3 hown hK hP 0 rfl rfl 3 (by decide) fl22 (fun _ h9 => h9) rfl dX3_readAdjectives_34 ?_
          refine lv_iconst (v := 1) hx hb dX3_readAdjectives_37 (by decide) ?_
          refine lv_aload_n hx hb dX3_readAdjectives_38 rfl (lv_at hl 0 rfl) ?_
          obtain ⟨r_5, hc_5, hf⟩ := bn1_ok hf
          refine gc_i (wc := (cf_3 cI h3 h3a0 s3)) (wr := ([] : va_W)) (w1 := (cf_3 cI h3 h3a0 s3)) (ws' := (cf_3 cI h3 h3a0 s3)) hP hD hS hA [0, 1] [] [0, 1] rfl rfl (by decide) (by decide) rfl (by decide) (va_runV (As := []) (rest := [.int 1, .int (S3_adjectives s3), .ref h3]) ⟨hx, hb, hml, hown, hts⟩ (ktX3_peek l dC dI cI h3 h3a0 _ s3 r_5 hc_5) (cwV 0 hts gX3_readAdjectives_X3_peek rfl rfl rfl (by decide +kernel) ⟨Nat.le_of_ble_eq_true rfl, Nat.le_of_ble_eq_true rfl⟩) (gc_V (ci := 3) (q0 := 0) (C := RX3) (T := TX3) (N := 5) (hP.sub (ws' := (cf_3 cI h3 h3a0 s3)) [0, 1] rfl) (hK.sub (tys' := [(cI, .int)]) [0] rfl) (hD.sub (ws' := (cf_3 cI h3 h3a0 s3)) [0, 1] (by decide) rfl) hN rfl rfl) rfl rfl hl.1 rfl (lv_room (Nat.le_of_ble_eq_true rfl)) dX3_readAdjectives_39 ⟨Nat.zero_le _, Nat.zero_le _⟩) (fun H locs hP hD hS => ?_)
          refine lv_bipush (v := 20) hx hb dX3_readAdjectives_42 (by decide) ?_
          refine lv_isub hx hb dX3_readAdjectives_44 ?_
          refine lv_ishl hx hb dX3_readAdjectives_45 ?_
          refine lv_ior hx hb dX3_readAdjectives_46 ?_
          refine va_put (D := (dC, dI)) (ci := 3) (v := .int ((S3_adjectives s3) ||| ((1 : Int32) <<< ((r_5 - 20) &&& 31)))) (ty := .int) (C := RX3) (T := TX3) (N := 5) hx hb hts in3 tyX3 tyX3_ok nmX3 hown hK hP hD hS 0 rfl rfl 3 (by decide) fl22 (fun _ h9 => h9) rfl (by decide +kernel) rfl rfl (Nat.le_of_ble_eq_true rfl) dX3_readAdjectives_47 (fun H locs hP hD hS => ?_)
          have hP : va_P (dC, dI) vwCl (cf_3 cI h3 h3a0 (S3_set_adjectives s3 ((S3_adjectives s3) ||| ((1 : Int32) <<< ((r_5 - 20) &&& 31))))) H := hP
          have hD : va_D A (cf_3 cI h3 h3a0 (S3_set_adjectives s3 ((S3_adjectives s3) ||| ((1 : Int32) <<< ((r_5 - 20) &&& 31))))) := hD
          refine lv_aload_n hx hb dX3_readAdjectives_50 rfl (lv_at hl 0 rfl) ?_
          refine lv_dup hx hb dX3_readAdjectives_51 rfl ?_
          refine va_get (D := (dC, dI)) (ci := 3) (v := .int (S3_place s3)) (C := RX3) (T := TX3) (N := 5) hx hb hts in3 hown hK hP 0 rfl rfl 2 (by decide) fl19 (fun _ h9 => h9) rfl dX3_readAdjectives_52 ?_
          refine lv_iconst (v := 1) hx hb dX3_readAdjectives_55 (by decide) ?_
          refine lv_iadd hx hb dX3_readAdjectives_56 ?_
          refine va_put (D := (dC, dI)) (ci := 3) (v := .int ((S3_place s3) + 1)) (ty := .int) (C := RX3) (T := TX3) (N := 5) hx hb hts in3 tyX3 tyX3_ok nmX3 hown hK hP hD hS 0 rfl rfl 2 (by decide) fl19 (fun _ h9 => h9) rfl (by decide +kernel) rfl rfl (Nat.le_of_ble_eq_true rfl) dX3_readAdjectives_57 (fun H locs hP hD hS => ?_)
          have hP : va_P (dC, dI) vwCl (cf_3 cI h3 h3a0 (S3_set_place (S3_set_adjectives s3 ((S3_adjectives s3) ||| ((1 : Int32) <<< ((r_5 - 20) &&& 31)))) ((S3_place s3) + 1))) H := hP
          have hD : va_D A (cf_3 cI h3 h3a0 (S3_set_place (S3_set_adjectives s3 ((S3_adjectives s3) ||| ((1 : Int32) <<< ((r_5 - 20) &&& 31)))) ((S3_place s3) + 1))) := hD
          refine lv_iinc (v := (x1 + 1)) (lv' := [(1, .int (x1 + 1)), (0, .ref h3)]) hx hb dX3_readAdjectives_60 hl (k := 1) rfl rfl (by decide) rfl (fun ls hl => ?_)
          refine lv_goto (tgt := 12) hx hb dX3_readAdjectives_63 (by decide) ?_
          exact ih (S3_set_place (S3_set_adjectives s3 ((S3_adjectives s3) ||| ((1 : Int32) <<< ((r_5 - 20) &&& 31)))) ((S3_place s3) + 1)) (x1 + 1) _ _ hP hD hS _ (lv_sub hl [1, 0] rfl) hf
  unfold fX3_readAdjectives at hf
  refine lv_aload_n hx hb dX3_readAdjectives_0 rfl (lv_at hl 0 rfl) ?_
  refine lv_iconst (v := 0) hx hb dX3_readAdjectives_1 (by decide) ?_
  refine va_put (D := (dC, dI)) (ci := 3) (v := .int 0) (ty := .int) (C := RX3) (T := TX3) (N := 5) hx hb hts in3 tyX3 tyX3_ok nmX3 hown hK hP hD hS 0 rfl rfl 3 (by decide) fl22 (fun _ h9 => h9) rfl (by decide +kernel) rfl rfl (Nat.le_of_ble_eq_true rfl) dX3_readAdjectives_2 (fun H locs hP hD hS => ?_)
  have hP : va_P (dC, dI) vwCl (cf_3 cI h3 h3a0 (S3_set_adjectives s3 0)) H := hP
  have hD : va_D A (cf_3 cI h3 h3a0 (S3_set_adjectives s3 0)) := hD
  refine lv_aload_n hx hb dX3_readAdjectives_5 rfl (lv_at hl 0 rfl) ?_
  refine lv_iconst (v := (-1)) hx hb dX3_readAdjectives_6 (by decide) ?_
  refine va_put (D := (dC, dI)) (ci := 3) (v := .int (-1)) (ty := .int) (C := RX3) (T := TX3) (N := 5) hx hb hts in3 tyX3 tyX3_ok nmX3 hown hK hP hD hS 0 rfl rfl 4 (by decide) fl25 (fun _ h9 => h9) rfl (by decide +kernel) rfl rfl (Nat.le_of_ble_eq_true rfl) dX3_readAdjectives_7 (fun H locs hP hD hS => ?_)
  have hP : va_P (dC, dI) vwCl (cf_3 cI h3 h3a0 (S3_set_noun (S3_set_adjectives s3 0) (-1))) H := hP
  have hD : va_D A (cf_3 cI h3 h3a0 (S3_set_noun (S3_set_adjectives s3 0) (-1))) := hD
  refine lv_iconst (v := 0) hx hb dX3_readAdjectives_10 (by decide) ?_
  refine lv_istore_n (lv' := [(1, .int 0), (0, .ref h3)]) hx hb dX3_readAdjectives_11 rfl hl (by decide) rfl (fun ls hl => ?_)
  exact J12 64 (S3_set_noun (S3_set_adjectives s3 0) (-1)) 0 _ _ hP hD hS _ (lv_sub hl [1, 0] rfl) hf
abbrev rmX3_readAnswer : Room := { frames := 2, cells := 0, slots := 0, locals := 43 }
set_option maxHeartbeats 2000000 in
set_option maxRecDepth 100000 in
theorem ktX3_readAnswer (l : Launch) (dC : Nat → ClassId) (dI : Nat → Nat → Nat) (cI : ClassId) (h3 h3a0 : Nat) (sz : Nat) (s3 : S3) (r : Int32) (s3f : S3) (hf : fX3_readAnswer s3 = some (r, s3f)) : Met l yX3_readAnswer wsX3_readAnswer rmX3_readAnswer (va_Pc [.ref h3] (pre_w (dC, dI) (cf_3 cI h3 h3a0 s3) [(cI, .int)] sz)) (va_Qi (fun (r' : Int32) (_ : Unit) => r' = r) (post_w (dC, dI) (cf_3 cI h3 h3a0 s3f) [(cI, .int)] (va_A (cf_3 cI h3 h3a0 s3) sz)) (va_A (cf_3 cI h3 h3a0 s3) sz)) 0 0 (va_A (cf_3 cI h3 h3a0 s3) sz) := by
  refine gm_z (cc := cX3_readAnswer) (maxL := 2) (by decide) rfl (Nat.le_of_ble_eq_true rfl) ?_
  intro p e s m below meth c A QQ ls hx hb hml hown hts hK hN hA hP hD hS hl hret
  have hown : s.vm.findClass RX3 = some m.cls := hown
  have hl : lv_has ls 2 [(0, .ref h3)] := hl
  have in3 : ∀ w ∈ u_ws RX3 TX3 5, w ∈ wsX3_readAnswer := by decide +kernel
  have fl22 := hts (.fieldLink RX3 22 "ParserParlour$Words" "adjectives" "I") (by decide +kernel)
  have J58 : ∀ (s3 : S3) (t0 : Int32) (H : Heap) (locs : List Loc), va_P (dC, dI) vwCl (cf_3 cI h3 h3a0 s3) H → va_D A (cf_3 cI h3 h3a0 s3) → va_S A s.heap H locs → ∀ (ls : Array Slot), lv_has ls 2 [] → fX3_readAnswer_58 s3 t0 = some (r, s3f) → W p l e rmX3_readAnswer s m ([.ref h3] : List Value).toArray below meth c H locs 0 0 QQ (F0 m 58 ls [.int t0]) := by
    intro  s3 t0 H locs hP hD hS ls hl hf
    unfold fX3_readAnswer_58 at hf
    obtain ⟨hz_1, hf⟩ := bo_ok hf
    have hf : (some (t0, s3) : Option (Int32 × S3)) = some (r, s3f) := hf
    have he := Option.some.inj hf
    have he0 : t0 = r := congrArg (fun q => q.1) he
    have he1 : s3 = s3f := congrArg (fun q => q.2) he
    exact hret _ _ _ _ _ _ hz_1 he0 (by rw [← he1]) dX3_readAnswer_58 hP hD hS
  have J57 : ∀ (s3 : S3) (H : Heap) (locs : List Loc), va_P (dC, dI) vwCl (cf_3 cI h3 h3a0 s3) H → va_D A (cf_3 cI h3 h3a0 s3) → va_S A s.heap H locs → ∀ (ls : Array Slot), lv_has ls 2 [] → fX3_readAnswer_57 s3 = some (r, s3f) → W p l e rmX3_readAnswer s m ([.ref h3] : List Value).toArray below meth c H locs 0 0 QQ (F0 m 57 ls []) := by
    intro  s3 H locs hP hD hS ls hl hf
    unfold fX3_readAnswer_57 at hf
    refine lv_iconst (v := 0) hx hb dX3_readAnswer_57 (by decide) ?_
    exact J58 s3 0 _ _ hP hD hS _ (lv_sub hl [] rfl) hf
  have J53 : ∀ (s3 : S3) (H : Heap) (locs : List Loc), va_P (dC, dI) vwCl (cf_3 cI h3 h3a0 s3) H → va_D A (cf_3 cI h3 h3a0 s3) → va_S A s.heap H locs → ∀ (ls : Array Slot), lv_has ls 2 [] → fX3_readAnswer_53 s3 = some (r, s3f) → W p l e rmX3_readAnswer s m ([.ref h3] : List Value).toArray below meth c H locs 0 0 QQ (F0 m 53 ls []) := by
    intro  s3 H locs hP hD hS ls hl hf
    unfold fX3_readAnswer_53 at hf
    refine lv_iconst (v := 1) hx hb dX3_readAnswer_53 (by decide) ?_
    refine lv_goto (tgt := 58) hx hb dX3_readAnswer_54 (by decide) ?_
    exact J58 s3 1 _ _ hP hD hS _ (lv_sub hl [] rfl) hf
  have J34 : ∀ (s3 : S3) (t0 : Int32) (H : Heap) (locs : List Loc), va_P (dC, dI) vwCl (cf_3 cI h3 h3a0 s3) H → va_D A (cf_3 cI h3 h3a0 s3) → va_S A s.heap H locs → ∀ (ls : Array Slot), lv_has ls 2 [(0, .ref h3)] → fX3_readAnswer_34 s3 t0 = some (r, s3f) → W p l e rmX3_readAnswer s m ([.ref h3] : List Value).toArray below meth c H locs 0 0 QQ (F0 m 34 ls [.int t0]) := by
    intro  s3 t0 H locs hP hD hS ls hl hf
    unfold fX3_readAnswer_34 at hf
    refine lv_istore_n (lv' := [(1, .int t0), (0, .ref h3)]) hx hb dX3_readAnswer_34 rfl hl (by decide) rfl (fun ls hl => ?_)
    refine lv_aload_n hx hb dX3_readAnswer_35 rfl (lv_at hl 1 rfl) ?_
    obtain ⟨r_1, hc_1, hf⟩ := bn1_ok hf
    refine gc_i (wc := (cf_3 cI h3 h3a0 s3)) (wr := ([] : va_W)) (w1 := (cf_3 cI h3 h3a0 s3)) (ws' := (cf_3 cI h3 h3a0 s3)) hP hD hS hA [0, 1] [] [0, 1] rfl rfl (by decide) (by decide) rfl (by decide) (va_runV (As := []) (rest := []) ⟨hx, hb, hml, hown, hts⟩ (ktX3_atEnd l dC dI cI h3 h3a0 _ s3 r_1 hc_1) (cwV 0 hts gX3_readAnswer_X3_atEnd rfl rfl rfl (by decide +kernel) ⟨Nat.le_of_ble_eq_true rfl, Nat.le_of_ble_eq_true rfl⟩) (gc_V (ci := 3) (q0 := 0) (C := RX3) (T := TX3) (N := 5) (hP.sub (ws' := (cf_3 cI h3 h3a0 s3)) [0, 1] rfl) (hK.sub (tys' := [(cI, .int)]) [0] rfl) (hD.sub (ws' := (cf_3 cI h3 h3a0 s3)) [0, 1] (by decide) rfl) hN rfl rfl) rfl rfl hl.1 rfl (lv_room (Nat.le_of_ble_eq_true rfl)) dX3_readAnswer_36 ⟨Nat.zero_le _, Nat.zero_le _⟩) (fun H locs hP hD hS => ?_)
    refine lv_if_eq (tgt := 57) hx hb dX3_readAnswer_39 (by decide) (fun c_2 => ?_) (fun c_2 => ?_)
    · have hf := it_t c_2 hf
      exact J57 s3 _ _ hP hD hS _ (lv_sub hl [] rfl) hf
    · have hf := it_f c_2 hf
      refine lv_iload_n hx hb dX3_readAnswer_42 rfl (lv_at hl 0 rfl) ?_
      refine lv_if_ne (tgt := 53) hx hb dX3_readAnswer_43 (by decide) (fun c_3 => ?_) (fun c_3 => ?_)
      · have hf := it_f c_3 hf
        exact J53 s3 _ _ hP hD hS _ (lv_sub hl [] rfl) hf
      · have hf := it_t c_3 hf
        refine lv_aload_n hx hb dX3_readAnswer_46 rfl (lv_at hl 1 rfl) ?_
        refine va_get (D := (dC, dI)) (ci := 3) (v := .int (S3_adjectives s3)) (C := RX3) (T := TX3) (N := 5) hx hb hts in3 hown hK hP 0 rfl rfl 3 (by decide) fl22 (fun _ h9 => h9) rfl dX3_readAnswer_47 ?_
        refine lv_if_eq (tgt := 57) hx hb dX3_readAnswer_50 (by decide) (fun c_4 => ?_) (fun c_4 => ?_)
        · have hf := it_t c_4 hf
          exact J57 s3 _ _ hP hD hS _ (lv_sub hl [] rfl) hf
        · have hf := it_f c_4 hf
          exact J53 s3 _ _ hP hD hS _ (lv_sub hl [] rfl) hf
  have J29 : ∀ (s3 : S3) (H : Heap) (locs : List Loc), va_P (dC, dI) vwCl (cf_3 cI h3 h3a0 s3) H → va_D A (cf_3 cI h3 h3a0 s3) → va_S A s.heap H locs → ∀ (ls : Array Slot), lv_has ls 2 [(0, .ref h3)] → fX3_readAnswer_29 s3 = some (r, s3f) → W p l e rmX3_readAnswer s m ([.ref h3] : List Value).toArray below meth c H locs 0 0 QQ (F0 m 29 ls []) := by
    intro  s3 H locs hP hD hS ls hl hf
    unfold fX3_readAnswer_29 at hf
    refine lv_iconst (v := 1) hx hb dX3_readAnswer_29 (by decide) ?_
    refine lv_goto (tgt := 34) hx hb dX3_readAnswer_30 (by decide) ?_
    exact J34 s3 1 _ _ hP hD hS _ (lv_sub hl [0] rfl) hf
  unfold fX3_readAnswer at hf
  refine lv_aload_n hx hb dX3_readAnswer_0 rfl (lv_at hl 0 rfl) ?_
  refine lv_bipush (v := 10) hx hb dX3_readAnswer_1 (by decide) ?_
  obtain ⟨r_1, s3_1, hc_1, hf⟩ := bn2_ok hf
  refine gc_i (wc := (cf_3 cI h3 h3a0 s3)) (wr := ([] : va_W)) (w1 := (cf_3 cI h3 h3a0 s3_1)) (ws' := (cf_3 cI h3 h3a0 s3_1)) hP hD hS hA [0, 1] [] [0, 1] rfl rfl (by decide) (by decide) rfl (by decide) (va_runV (As := [.int 10]) (rest := []) ⟨hx, hb, hml, hown, hts⟩ (ktX3_accept l dC dI cI h3 h3a0 _ s3 10 r_1 s3_1 hc_1) (cwV 1 hts gX3_readAnswer_X3_accept rfl rfl rfl (by decide +kernel) ⟨Nat.le_of_ble_eq_true rfl, Nat.le_of_ble_eq_true rfl⟩) (gc_V (ci := 3) (q0 := 0) (C := RX3) (T := TX3) (N := 5) (hP.sub (ws' := (cf_3 cI h3 h3a0 s3)) [0, 1] rfl) (hK.sub (tys' := [(cI, .int)]) [0] rfl) (hD.sub (ws' := (cf_3 cI h3 h3a0 s3)) [0, 1] (by decide) rfl) hN rfl rfl) rfl rfl hl.1 rfl (lv_room (Nat.le_of_ble_eq_true rfl)) dX3_readAnswer_3 ⟨Nat.zero_le _, Nat.zero_le _⟩) (fun H locs hP hD hS => ?_)
  refine lv_pop hx hb dX3_readAnswer_6 rfl ?_
  refine lv_aload_n hx hb dX3_readAnswer_7 rfl (lv_at hl 0 rfl) ?_
  obtain ⟨s3_2, hc_2, hf⟩ := bn1_ok hf
  refine gc_v (wc := (cf_3 cI h3 h3a0 s3_1)) (wr := ([] : va_W)) (w1 := (cf_3 cI h3 h3a0 s3_2)) (ws' := (cf_3 cI h3 h3a0 s3_2)) hP hD hS hA [0, 1] [] [0, 1] rfl rfl (by decide) (by decide) rfl (by decide) (va_runV (As := []) (rest := []) ⟨hx, hb, hml, hown, hts⟩ (ktX3_readAdjectives l dC dI cI h3 h3a0 _ s3_1 s3_2 hc_2) (cwV 0 hts gX3_readAnswer_X3_readAdjectives rfl rfl rfl (by decide +kernel) ⟨Nat.le_of_ble_eq_true rfl, Nat.le_of_ble_eq_true rfl⟩) (gc_V (ci := 3) (q0 := 0) (C := RX3) (T := TX3) (N := 5) (hP.sub (ws' := (cf_3 cI h3 h3a0 s3_1)) [0, 1] rfl) (hK.sub (tys' := [(cI, .int)]) [0] rfl) (hD.sub (ws' := (cf_3 cI h3 h3a0 s3_1)) [0, 1] (by decide) rfl) hN rfl rfl) rfl rfl hl.1 rfl (lv_room (Nat.le_of_ble_eq_true rfl)) dX3_readAnswer_8 ⟨Nat.zero_le _, Nat.zero_le _⟩) (fun H locs hP hD hS => ?_)
  refine lv_aload_n hx hb dX3_readAnswer_11 rfl (lv_at hl 0 rfl) ?_
  refine lv_bipush (v := 30) hx hb dX3_readAnswer_12 (by decide) ?_
  obtain ⟨r_3, s3_3, hc_3, hf⟩ := bn2_ok hf
  refine gc_i (wc := (cf_3 cI h3 h3a0 s3_2)) (wr := ([] : va_W)) (w1 := (cf_3 cI h3 h3a0 s3_3)) (ws' := (cf_3 cI h3 h3a0 s3_3)) hP hD hS hA [0, 1] [] [0, 1] rfl rfl (by decide) (by decide) rfl (by decide) (va_runV (As := [.int 30]) (rest := []) ⟨hx, hb, hml, hown, hts⟩ (ktX3_acceptNoun l dC dI cI h3 h3a0 _ s3_2 30 r_3 s3_3 hc_3) (cwV 1 hts gX3_readAnswer_X3_acceptNoun rfl rfl rfl (by decide +kernel) ⟨Nat.le_of_ble_eq_true rfl, Nat.le_of_ble_eq_true rfl⟩) (gc_V (ci := 3) (q0 := 0) (C := RX3) (T := TX3) (N := 5) (hP.sub (ws' := (cf_3 cI h3 h3a0 s3_2)) [0, 1] rfl) (hK.sub (tys' := [(cI, .int)]) [0] rfl) (hD.sub (ws' := (cf_3 cI h3 h3a0 s3_2)) [0, 1] (by decide) rfl) hN rfl rfl) rfl rfl hl.1 rfl (lv_room (Nat.le_of_ble_eq_true rfl)) dX3_readAnswer_14 ⟨Nat.zero_le _, Nat.zero_le _⟩) (fun H locs hP hD hS => ?_)
  refine lv_if_ne (tgt := 29) hx hb dX3_readAnswer_17 (by decide) (fun c_4 => ?_) (fun c_4 => ?_)
  · have hf := it_f c_4 hf
    exact J29 s3_3 _ _ hP hD hS _ (lv_sub hl [0] rfl) hf
  · have hf := it_t c_4 hf
    refine lv_aload_n hx hb dX3_readAnswer_20 rfl (lv_at hl 0 rfl) ?_
    refine lv_bipush (v := 17) hx hb dX3_readAnswer_21 (by decide) ?_
    obtain ⟨r_5, s3_5, hc_5, hf⟩ := bn2_ok hf
    refine gc_i (wc := (cf_3 cI h3 h3a0 s3_3)) (wr := ([] : va_W)) (w1 := (cf_3 cI h3 h3a0 s3_5)) (ws' := (cf_3 cI h3 h3a0 s3_5)) hP hD hS hA [0, 1] [] [0, 1] rfl rfl (by decide) (by decide) rfl (by decide) (va_runV (As := [.int 17]) (rest := []) ⟨hx, hb, hml, hown, hts⟩ (ktX3_accept l dC dI cI h3 h3a0 _ s3_3 17 r_5 s3_5 hc_5) (cwV 1 hts gX3_readAnswer_X3_accept rfl rfl rfl (by decide +kernel) ⟨Nat.le_of_ble_eq_true rfl, Nat.le_of_ble_eq_true rfl⟩) (gc_V (ci := 3) (q0 := 0) (C := RX3) (T := TX3) (N := 5) (hP.sub (ws' := (cf_3 cI h3 h3a0 s3_3)) [0, 1] rfl) (hK.sub (tys' := [(cI, .int)]) [0] rfl) (hD.sub (ws' := (cf_3 cI h3 h3a0 s3_3)) [0, 1] (by decide) rfl) hN rfl rfl) rfl rfl hl.1 rfl (lv_room (Nat.le_of_ble_eq_true rfl)) dX3_readAnswer_23 ⟨Nat.zero_le _, Nat.zero_le _⟩) (fun H locs hP hD hS => ?_)
    refine lv_if_eq (tgt := 33) hx hb dX3_readAnswer_26 (by decide) (fun c_6 => ?_) (fun c_6 => ?_)
    · have hf := it_t c_6 hf
      refine lv_iconst (v := 0) hx hb dX3_readAnswer_33 (by decide) ?_
      exact J34 s3_5 0 _ _ hP hD hS _ (lv_sub hl [0] rfl) hf
    · have hf := it_f c_6 hf
      exact J29 s3_5 _ _ hP hD hS _ (lv_sub hl [0] rfl) hf
abbrev rmX3_add : Room := { frames := 0, cells := 0, slots := 0, locals := 0 }
set_option maxHeartbeats 2000000 in
set_option maxRecDepth 100000 in
theorem ktX3_add (l : Launch) (dC : Nat → ClassId) (dI : Nat → Nat → Nat) (cI : ClassId) (h3 h3a0 : Nat) (sz : Nat) (s3 : S3) (a1 : Int32) (s3f : S3) (hf : fX3_add s3 a1 = some s3f) : Met l yX3_add wsX3_add rmX3_add (va_Pc [.ref h3, .int a1] (pre_w (dC, dI) (cf_3 cI h3 h3a0 s3) [(cI, .int)] sz)) (va_Qv (fun (_ : Unit) => True) (post_w (dC, dI) (cf_3 cI h3 h3a0 s3f) [(cI, .int)] (va_A (cf_3 cI h3 h3a0 s3) sz)) (va_A (cf_3 cI h3 h3a0 s3) sz)) 0 0 (va_A (cf_3 cI h3 h3a0 s3) sz) := by
  refine gm_v (cc := cX3_add) (maxL := 2) (by decide) rfl (Nat.le_of_ble_eq_true rfl) ?_
  intro p e s m below meth c A QQ ls hx hb hml hown hts hK hN hA hP hD hS hl hret
  have hown : s.vm.findClass RX3 = some m.cls := hown
  have hl : lv_has ls 2 [(0, .ref h3), (1, .int a1)] := hl
  have in3 : ∀ w ∈ u_ws RX3 TX3 5, w ∈ wsX3_add := by decide +kernel
  have fl15 := hts (.fieldLink RX3 15 "ParserParlour$Words" "count" "I") (by decide +kernel)
  have fl9 := hts (.fieldLink RX3 9 "ParserParlour$Words" "given" "[I") (by decide +kernel)
  have J36 : ∀ (s3 : S3) (H : Heap) (locs : List Loc), va_P (dC, dI) vwCl (cf_3 cI h3 h3a0 s3) H → va_D A (cf_3 cI h3 h3a0 s3) → va_S A s.heap H locs → ∀ (ls : Array Slot), lv_has ls 2 [] → fX3_add_36 a1 s3 = some s3f → W p l e rmX3_add s m ([.ref h3, .int a1] : List Value).toArray below meth c H locs 0 0 QQ (F0 m 36 ls []) := by
    intro  s3 H locs hP hD hS ls hl hf
    unfold fX3_add_36 at hf
    have hf : (some s3 : Option (S3)) = some s3f := hf
    have he := Option.some.inj hf
    have he0 : s3 = s3f := he
    exact hret _ _ _ _ _ (by rw [← he0]) dX3_add_36 hP hD hS
  unfold fX3_add at hf
  refine lv_aload_n hx hb dX3_add_0 rfl (lv_at hl 0 rfl) ?_
  refine va_get (D := (dC, dI)) (ci := 3) (v := .int (S3_count s3)) (C := RX3) (T := TX3) (N := 5) hx hb hts in3 hown hK hP 0 rfl rfl 1 (by decide) fl15 (fun _ h9 => h9) rfl dX3_add_1 ?_
  refine lv_if_lt (tgt := 36) hx hb dX3_add_4 (by decide) (fun c_1 => ?_) (fun c_1 => ?_)
  · have hf := it_t c_1 hf
    exact J36 s3 _ _ hP hD hS _ (lv_sub hl [] rfl) hf
  · have hf := it_f c_1 hf
    refine lv_aload_n hx hb dX3_add_7 rfl (lv_at hl 0 rfl) ?_
    refine va_get (D := (dC, dI)) (ci := 3) (v := .int (S3_count s3)) (C := RX3) (T := TX3) (N := 5) hx hb hts in3 hown hK hP 0 rfl rfl 1 (by decide) fl15 (fun _ h9 => h9) rfl dX3_add_8 ?_
    refine lv_bipush (v := 24) hx hb dX3_add_11 (by decide) ?_
    refine lv_icmp_ge (tgt := 36) hx hb dX3_add_13 (by decide) (fun c_2 => ?_) (fun c_2 => ?_)
    · have hf := it_t c_2 hf
      exact J36 s3 _ _ hP hD hS _ (lv_sub hl [] rfl) hf
    · have hf := it_f c_2 hf
      refine lv_aload_n hx hb dX3_add_16 rfl (lv_at hl 0 rfl) ?_
      refine va_get (D := (dC, dI)) (ci := 3) (v := .ref h3a0) (C := RX3) (T := TX3) (N := 5) hx hb hts in3 hown hK hP 0 rfl rfl 0 (by decide) fl9 (fun _ h9 => h9) rfl dX3_add_17 ?_
      refine lv_aload_n hx hb dX3_add_20 rfl (lv_at hl 0 rfl) ?_
      refine va_get (D := (dC, dI)) (ci := 3) (v := .int (S3_count s3)) (C := RX3) (T := TX3) (N := 5) hx hb hts in3 hown hK hP 0 rfl rfl 1 (by decide) fl15 (fun _ h9 => h9) rfl dX3_add_21 ?_
      refine lv_iload_n hx hb dX3_add_24 rfl (lv_at hl 1 rfl) ?_
      obtain ⟨hi_3, hf⟩ := ai_ok hf
      refine va_iast (n := 24) (f := (S3_given s3)) hx hb hK hP hD hS 1 0 rfl rfl hi_3 dX3_add_25 (fun H locs hP hD hS => ?_)
      have hP : va_P (dC, dI) vwCl (cf_3 cI h3 h3a0 (S3_set_given s3 (upd (S3_given s3) (S3_count s3).toNatClampNeg a1))) H := hP
      have hD : va_D A (cf_3 cI h3 h3a0 (S3_set_given s3 (upd (S3_given s3) (S3_count s3).toNatClampNeg a1))) := hD
      refine lv_aload_n hx hb dX3_add_26 rfl (lv_at hl 0 rfl) ?_
      refine lv_dup hx hb dX3_add_27 rfl ?_
      refine va_get (D := (dC, dI)) (ci := 3) (v := .int (S3_count s3)) (C := RX3) (T := TX3) (N := 5) hx hb hts in3 hown hK hP 0 rfl rfl 1 (by decide) fl15 (fun _ h9 => h9) rfl dX3_add_28 ?_
      refine lv_iconst (v := 1) hx hb dX3_add_31 (by decide) ?_
      refine lv_iadd hx hb dX3_add_32 ?_
      refine va_put (D := (dC, dI)) (ci := 3) (v := .int ((S3_count s3) + 1)) (ty := .int) (C := RX3) (T := TX3) (N := 5) hx hb hts in3 tyX3 tyX3_ok nmX3 hown hK hP hD hS 0 rfl rfl 1 (by decide) fl15 (fun _ h9 => h9) rfl (by decide +kernel) rfl rfl (Nat.le_of_ble_eq_true rfl) dX3_add_33 (fun H locs hP hD hS => ?_)
      have hP : va_P (dC, dI) vwCl (cf_3 cI h3 h3a0 (S3_set_count (S3_set_given s3 (upd (S3_given s3) (S3_count s3).toNatClampNeg a1)) ((S3_count s3) + 1))) H := hP
      have hD : va_D A (cf_3 cI h3 h3a0 (S3_set_count (S3_set_given s3 (upd (S3_given s3) (S3_count s3).toNatClampNeg a1)) ((S3_count s3) + 1))) := hD
      exact J36 (S3_set_count (S3_set_given s3 (upd (S3_given s3) (S3_count s3).toNatClampNeg a1)) ((S3_count s3) + 1)) _ _ hP hD hS _ (lv_sub hl [] rfl) hf
abbrev rmX3_removeLast : Room := { frames := 0, cells := 0, slots := 0, locals := 0 }
set_option maxHeartbeats 2000000 in
set_option maxRecDepth 100000 in
theorem ktX3_removeLast (l : Launch) (dC : Nat → ClassId) (dI : Nat → Nat → Nat) (cI : ClassId) (h3 h3a0 : Nat) (sz : Nat) (s3 : S3) (r : Int32) (s3f : S3) (hf : fX3_removeLast s3 = some (r, s3f)) : Met l yX3_removeLast wsX3_removeLast rmX3_removeLast (va_Pc [.ref h3] (pre_w (dC, dI) (cf_3 cI h3 h3a0 s3) [(cI, .int)] sz)) (va_Qi (fun (r' : Int32) (_ : Unit) => r' = r) (post_w (dC, dI) (cf_3 cI h3 h3a0 s3f) [(cI, .int)] (va_A (cf_3 cI h3 h3a0 s3) sz)) (va_A (cf_3 cI h3 h3a0 s3) sz)) 0 0 (va_A (cf_3 cI h3 h3a0 s3) sz) := by
  refine gm_i (cc := cX3_removeLast) (maxL := 1) (by decide) rfl (Nat.le_of_ble_eq_true rfl) ?_
  intro p e s m below meth c A QQ ls hx hb hml hown hts hK hN hA hP hD hS hl hret
  have hown : s.vm.findClass RX3 = some m.cls := hown
  have hl : lv_has ls 1 [(0, .ref h3)] := hl
  have in3 : ∀ w ∈ u_ws RX3 TX3 5, w ∈ wsX3_removeLast := by decide +kernel
  have fl15 := hts (.fieldLink RX3 15 "ParserParlour$Words" "count" "I") (by decide +kernel)
  have fl9 := hts (.fieldLink RX3 9 "ParserParlour$Words" "given" "[I") (by decide +kernel)
  have J16 : ∀ (s3 : S3) (H : Heap) (locs : List Loc), va_P (dC, dI) vwCl (cf_3 cI h3 h3a0 s3) H → va_D A (cf_3 cI h3 h3a0 s3) → va_S A s.heap H locs → ∀ (ls : Array Slot), lv_has ls 1 [] → fX3_removeLast_16 s3 = some (r, s3f) → W p l e rmX3_removeLast s m ([.ref h3] : List Value).toArray below meth c H locs 0 0 QQ (F0 m 16 ls []) := by
    intro  s3 H locs hP hD hS ls hl hf
    unfold fX3_removeLast_16 at hf
    refine lv_iconst (v := (-1)) hx hb dX3_removeLast_16 (by decide) ?_
    have hf : (some ((-1), s3) : Option (Int32 × S3)) = some (r, s3f) := hf
    have he := Option.some.inj hf
    have he0 : (-1) = r := congrArg (fun q => q.1) he
    have he1 : s3 = s3f := congrArg (fun q => q.2) he
    exact hret _ _ _ _ _ _ he0 (by rw [← he1]) dX3_removeLast_17 hP hD hS
  unfold fX3_removeLast at hf
  refine lv_aload_n hx hb dX3_removeLast_0 rfl (lv_at hl 0 rfl) ?_
  refine va_get (D := (dC, dI)) (ci := 3) (v := .int (S3_count s3)) (C := RX3) (T := TX3) (N := 5) hx hb hts in3 hown hK hP 0 rfl rfl 1 (by decide) fl15 (fun _ h9 => h9) rfl dX3_removeLast_1 ?_
  refine lv_if_le (tgt := 16) hx hb dX3_removeLast_4 (by decide) (fun c_1 => ?_) (fun c_1 => ?_)
  · have hf := it_t c_1 hf
    exact J16 s3 _ _ hP hD hS _ (lv_sub hl [] rfl) hf
  · have hf := it_f c_1 hf
    refine lv_aload_n hx hb dX3_removeLast_7 rfl (lv_at hl 0 rfl) ?_
    refine va_get (D := (dC, dI)) (ci := 3) (v := .int (S3_count s3)) (C := RX3) (T := TX3) (N := 5) hx hb hts in3 hown hK hP 0 rfl rfl 1 (by decide) fl15 (fun _ h9 => h9) rfl dX3_removeLast_8 ?_
    refine lv_bipush (v := 24) hx hb dX3_removeLast_11 (by decide) ?_
    refine lv_icmp_le (tgt := 18) hx hb dX3_removeLast_13 (by decide) (fun c_2 => ?_) (fun c_2 => ?_)
    · have hf := it_t c_2 hf
      refine lv_aload_n hx hb dX3_removeLast_18 rfl (lv_at hl 0 rfl) ?_
      refine lv_dup hx hb dX3_removeLast_19 rfl ?_
      refine va_get (D := (dC, dI)) (ci := 3) (v := .int (S3_count s3)) (C := RX3) (T := TX3) (N := 5) hx hb hts in3 hown hK hP 0 rfl rfl 1 (by decide) fl15 (fun _ h9 => h9) rfl dX3_removeLast_20 ?_
      refine lv_iconst (v := 1) hx hb dX3_removeLast_23 (by decide) ?_
      refine lv_isub hx hb dX3_removeLast_24 ?_
      refine va_put (D := (dC, dI)) (ci := 3) (v := .int ((S3_count s3) - 1)) (ty := .int) (C := RX3) (T := TX3) (N := 5) hx hb hts in3 tyX3 tyX3_ok nmX3 hown hK hP hD hS 0 rfl rfl 1 (by decide) fl15 (fun _ h9 => h9) rfl (by decide +kernel) rfl rfl (Nat.le_of_ble_eq_true rfl) dX3_removeLast_25 (fun H locs hP hD hS => ?_)
      have hP : va_P (dC, dI) vwCl (cf_3 cI h3 h3a0 (S3_set_count s3 ((S3_count s3) - 1))) H := hP
      have hD : va_D A (cf_3 cI h3 h3a0 (S3_set_count s3 ((S3_count s3) - 1))) := hD
      refine lv_aload_n hx hb dX3_removeLast_28 rfl (lv_at hl 0 rfl) ?_
      refine va_get (D := (dC, dI)) (ci := 3) (v := .ref h3a0) (C := RX3) (T := TX3) (N := 5) hx hb hts in3 hown hK hP 0 rfl rfl 0 (by decide) fl9 (fun _ h9 => h9) rfl dX3_removeLast_29 ?_
      refine lv_aload_n hx hb dX3_removeLast_32 rfl (lv_at hl 0 rfl) ?_
      refine va_get (D := (dC, dI)) (ci := 3) (v := .int ((S3_count s3) - 1)) (C := RX3) (T := TX3) (N := 5) hx hb hts in3 hown hK hP 0 rfl rfl 1 (by decide) fl15 (fun _ h9 => h9) rfl dX3_removeLast_33 ?_
      obtain ⟨hi_3, hf⟩ := ai_ok hf
      refine va_iald (n := 24) (f := (S3_given s3)) hx hb hK hP 1 0 rfl rfl hi_3 dX3_removeLast_36 ?_
      have hf : (some (((S3_given s3) ((S3_count s3) - 1).toNatClampNeg), (S3_set_count s3 ((S3_count s3) - 1))) : Option (Int32 × S3)) = some (r, s3f) := hf
      have he := Option.some.inj hf
      have he0 : ((S3_given s3) ((S3_count s3) - 1).toNatClampNeg) = r := congrArg (fun q => q.1) he
      have he1 : (S3_set_count s3 ((S3_count s3) - 1)) = s3f := congrArg (fun q => q.2) he
      exact hret _ _ _ _ _ _ he0 (by rw [← he1]) dX3_removeLast_37 hP hD hS
    · have hf := it_f c_2 hf
      exact J16 s3 _ _ hP hD hS _ (lv_sub hl [] rfl) hf
