abbrev rmX0_ask : Room := { frames := 0, cells := 0, slots := 0, locals := 0 }
set_option maxHeartbeats 2000000 in
set_option maxRecDepth 100000 in
theorem ktX0_ask (l : Launch) (dC : Nat → ClassId) (dI : Nat → Nat → Nat) (cI : ClassId) (h0 h4 h2 h1 : Nat) (sz : Nat) (s0 : S0) (a1 : Int32) (a2 : Int32) (r : Int32) (s0f : S0) (hf : fX0_ask s0 a1 a2 = some (r, s0f)) : Met l yX0_ask wsX0_ask rmX0_ask (va_Pc [.ref h0, .int a1, .int a2] (pre_w (dC, dI) (cf_0 cI h0 h4 h2 h1 s0) [(cI, .int)] sz)) (va_Qi (fun (r' : Int32) (_ : Unit) => r' = r) (post_w (dC, dI) (cf_0 cI h0 h4 h2 h1 s0f) [(cI, .int)] (va_A (cf_0 cI h0 h4 h2 h1 s0) sz)) (va_A (cf_0 cI h0 h4 h2 h1 s0) sz)) 0 0 (va_A (cf_0 cI h0 h4 h2 h1 s0) sz) := by
  refine gm_i (cc := cX0_ask) (maxL := 3) (by decide) rfl (Nat.le_of_ble_eq_true rfl) ?_
  intro p e s m below meth c A QQ ls hx hb hml hown hts hK hN hA hP hD hS hl hret
  have hown : s.vm.findClass RX0 = some m.cls := hown
  have hl : lv_has ls 3 [(0, .ref h0), (1, .int a1), (2, .int a2)] := hl
  have in0 : ∀ w ∈ u_ws RX0 TX0 9, w ∈ wsX0_ask := by decide +kernel
  have fl31 := hts (.fieldLink RX0 31 "ParserParlour$Meaning" "result" "I") (by decide +kernel)
  have fl40 := hts (.fieldLink RX0 40 "ParserParlour$Meaning" "openPhrase" "I") (by decide +kernel)
  have fl43 := hts (.fieldLink RX0 43 "ParserParlour$Meaning" "choice" "I") (by decide +kernel)
  unfold fX0_ask at hf
  refine lv_aload_n hx hb dX0_ask_0 rfl (lv_at hl 0 rfl) ?_
  refine lv_iconst (v := 1) hx hb dX0_ask_1 (by decide) ?_
  refine va_put (D := (dC, dI)) (ci := 0) (v := .int 1) (ty := .int) (C := RX0) (T := TX0) (N := 9) hx hb hts in0 tyX0 tyX0_ok nmX0 hown hK hP hD hS 0 rfl rfl 4 (by decide) fl31 (fun _ h9 => h9) rfl (by decide +kernel) rfl rfl (Nat.le_of_ble_eq_true rfl) dX0_ask_2 (fun H locs hP hD hS => ?_)
  have hP : va_P (dC, dI) vwCl (cf_0 cI h0 h4 h2 h1 (S0_set_result s0 1)) H := hP
  have hD : va_D A (cf_0 cI h0 h4 h2 h1 (S0_set_result s0 1)) := hD
  refine lv_aload_n hx hb dX0_ask_5 rfl (lv_at hl 0 rfl) ?_
  refine lv_iload_n hx hb dX0_ask_6 rfl (lv_at hl 2 rfl) ?_
  refine va_put (D := (dC, dI)) (ci := 0) (v := .int a2) (ty := .int) (C := RX0) (T := TX0) (N := 9) hx hb hts in0 tyX0 tyX0_ok nmX0 hown hK hP hD hS 0 rfl rfl 7 (by decide) fl40 (fun _ h9 => h9) rfl (by decide +kernel) rfl rfl (Nat.le_of_ble_eq_true rfl) dX0_ask_7 (fun H locs hP hD hS => ?_)
  have hP : va_P (dC, dI) vwCl (cf_0 cI h0 h4 h2 h1 (S0_set_openPhrase (S0_set_result s0 1) a2)) H := hP
  have hD : va_D A (cf_0 cI h0 h4 h2 h1 (S0_set_openPhrase (S0_set_result s0 1) a2)) := hD
  refine lv_aload_n hx hb dX0_ask_10 rfl (lv_at hl 0 rfl) ?_
  refine lv_iload_n hx hb dX0_ask_11 rfl (lv_at hl 1 rfl) ?_
  refine va_put (D := (dC, dI)) (ci := 0) (v := .int a1) (ty := .int) (C := RX0) (T := TX0) (N := 9) hx hb hts in0 tyX0 tyX0_ok nmX0 hown hK hP hD hS 0 rfl rfl 8 (by decide) fl43 (fun _ h9 => h9) rfl (by decide +kernel) rfl rfl (Nat.le_of_ble_eq_true rfl) dX0_ask_12 (fun H locs hP hD hS => ?_)
  have hP : va_P (dC, dI) vwCl (cf_0 cI h0 h4 h2 h1 (S0_set_choice (S0_set_openPhrase (S0_set_result s0 1) a2) a1)) H := hP
  have hD : va_D A (cf_0 cI h0 h4 h2 h1 (S0_set_choice (S0_set_openPhrase (S0_set_result s0 1) a2) a1)) := hD
  refine lv_iconst (v := 0) hx hb dX0_ask_15 (by decide) ?_
  have hf : (some (0, (S0_set_choice (S0_set_openPhrase (S0_set_result s0 1) a2) a1)) : Option (Int32 × S0)) = some (r, s0f) := hf
  have he := Option.some.inj hf
  have he0 : 0 = r := congrArg (fun q => q.1) he
  have he1 : (S0_set_choice (S0_set_openPhrase (S0_set_result s0 1) a2) a1) = s0f := congrArg (fun q => q.2) he
  exact hret _ _ _ _ _ _ he0 (by rw [← he1]) dX0_ask_16 hP hD hS
abbrev rmX0_fitting : Room := { frames := 1, cells := 0, slots := 0, locals := 26 }
set_option maxHeartbeats 2000000 in
set_option maxRecDepth 100000 in
theorem ktX0_fitting (l : Launch) (dC : Nat → ClassId) (dI : Nat → Nat → Nat) (cI : ClassId) (h0 h2 h2a2 h2a3 h2a4 h2a5 h2a6 h2a7 h4 h4a0 h4a1 h4a2 h1 : Nat) (sz : Nat) (s0 : S0) (s2 : S2) (s4 : S4) (a1 : Int32) (r : Int32) (hf : fX0_fitting s0 s2 s4 a1 = some r) : Met l yX0_fitting wsX0_fitting rmX0_fitting (va_Pc [.ref h0, .int a1] (pre_w (dC, dI) (cf_024 cI h0 h2 h2a2 h2a3 h2a4 h2a5 h2a6 h2a7 h4 h4a0 h4a1 h4a2 h1 s0 s2 s4) [(cI, .int)] sz)) (va_Qi (fun (r' : Int32) (_ : Unit) => r' = r) (post_w (dC, dI) (cf_024 cI h0 h2 h2a2 h2a3 h2a4 h2a5 h2a6 h2a7 h4 h4a0 h4a1 h4a2 h1 s0 s2 s4) [(cI, .int)] (va_A (cf_024 cI h0 h2 h2a2 h2a3 h2a4 h2a5 h2a6 h2a7 h4 h4a0 h4a1 h4a2 h1 s0 s2 s4) sz)) (va_A (cf_024 cI h0 h2 h2a2 h2a3 h2a4 h2a5 h2a6 h2a7 h4 h4a0 h4a1 h4a2 h1 s0 s2 s4) sz)) 0 0 (va_A (cf_024 cI h0 h2 h2a2 h2a3 h2a4 h2a5 h2a6 h2a7 h4 h4a0 h4a1 h4a2 h1 s0 s2 s4) sz) := by
  refine gm_i (cc := cX0_fitting) (maxL := 2) (by decide) rfl (Nat.le_of_ble_eq_true rfl) ?_
  intro p e s m below meth c A QQ ls hx hb hml hown hts hK hN hA hP hD hS hl hret
  have hown : s.vm.findClass RX0 = some m.cls := hown
  have hl : lv_has ls 2 [(0, .ref h0), (1, .int a1)] := hl
  have in0 : ∀ w ∈ u_ws RX0 TX0 9, w ∈ wsX0_fitting := by decide +kernel
  have fl15 := hts (.fieldLink RX0 15 "ParserParlour$Meaning" "order" "LParserParlour$Order;") (by decide +kernel)
  have fl9 := hts (.fieldLink RX0 9 "ParserParlour$Meaning" "world" "LParserParlour$World;") (by decide +kernel)
  have fl27 := hts (.fieldLink RX0 27 "ParserParlour$Meaning" "reach" "I") (by decide +kernel)
  have in2 : ∀ w ∈ u_ws RX2 TX2 8, w ∈ wsX0_fitting := by decide +kernel
  have fl114 := va_Nw.use (A := ([.ref h0, .int a1] : List Value).toArray) (by rfl) (hN _ (List.mem_of_getElem? (i := 13) rfl))
  have fl117 := va_Nw.use (A := ([.ref h0, .int a1] : List Value).toArray) (by rfl) (hN _ (List.mem_of_getElem? (i := 14) rfl))
  unfold fX0_fitting at hf
  refine lv_aload_n hx hb dX0_fitting_0 rfl (lv_at hl 0 rfl) ?_
  refine va_get (D := (dC, dI)) (ci := 0) (v := .ref h2) (C := RX0) (T := TX0) (N := 9) hx hb hts in0 hown hK hP 0 rfl rfl 1 (by decide) fl15 (fun _ h9 => h9) rfl dX0_fitting_1 ?_
  refine lv_iload_n hx hb dX0_fitting_4 rfl (lv_at hl 1 rfl) ?_
  obtain ⟨r_1, hc_1, hf⟩ := bn1_ok hf
  refine gc_i (wc := (cf_2 cI h2 h2a2 h2a3 h2a4 h2a5 h2a6 h2a7 s2)) (wr := (cf_04 cI h0 h4 h4a0 h4a1 h4a2 h2 h1 s0 s4)) (w1 := (cf_2 cI h2 h2a2 h2a3 h2a4 h2a5 h2a6 h2a7 s2)) (ws' := (cf_024 cI h0 h2 h2a2 h2a3 h2a4 h2a5 h2a6 h2a7 h4 h4a0 h4a1 h4a2 h1 s0 s2 s4)) hP hD hS hA [1, 2, 3, 4, 5, 6, 7] [0, 8, 9, 10, 11] [0, 5, 6, 7, 8, 9, 10, 11, 1, 2, 3, 4] rfl rfl (by decide) (by decide) rfl (by decide) (va_runV (As := [.int a1]) (rest := []) ⟨hx, hb, hml, hown, hts⟩ (ktX2_hasPhrase l dC dI cI h2 h2a2 h2a3 h2a4 h2a5 h2a6 h2a7 _ s2 a1 r_1 hc_1) (cwV 1 hts gX0_fitting_X2_hasPhrase rfl rfl rfl (by decide +kernel) ⟨Nat.le_of_ble_eq_true rfl, Nat.le_of_ble_eq_true rfl⟩) (gc_V (ci := 2) (q0 := 0) (C := RX2) (T := TX2) (N := 8) (hP.sub (ws' := (cf_2 cI h2 h2a2 h2a3 h2a4 h2a5 h2a6 h2a7 s2)) [1, 2, 3, 4, 5, 6, 7] rfl) (hK.sub (tys' := [(cI, .int)]) [0] rfl) (hD.sub (ws' := (cf_2 cI h2 h2a2 h2a3 h2a4 h2a5 h2a6 h2a7 s2)) [1, 2, 3, 4, 5, 6, 7] (by decide) rfl) hN rfl rfl) rfl rfl hl.1 rfl (lv_room (Nat.le_of_ble_eq_true rfl)) dX0_fitting_5 ⟨Nat.zero_le _, Nat.zero_le _⟩) (fun H locs hP hD hS => ?_)
  refine lv_if_ne (tgt := 13) hx hb dX0_fitting_8 (by decide) (fun c_2 => ?_) (fun c_2 => ?_)
  · have hf := it_f c_2 hf
    refine lv_aload_n hx hb dX0_fitting_13 rfl (lv_at hl 0 rfl) ?_
    refine va_get (D := (dC, dI)) (ci := 0) (v := .ref h4) (C := RX0) (T := TX0) (N := 9) hx hb hts in0 hown hK hP 0 rfl rfl 0 (by decide) fl9 (fun _ h9 => h9) rfl dX0_fitting_14 ?_
    refine lv_aload_n hx hb dX0_fitting_17 rfl (lv_at hl 0 rfl) ?_
    refine va_get (D := (dC, dI)) (ci := 0) (v := .int (S0_reach s0)) (C := RX0) (T := TX0) (N := 9) hx hb hts in0 hown hK hP 0 rfl rfl 3 (by decide) fl27 (fun _ h9 => h9) rfl dX0_fitting_18 ?_
    refine lv_aload_n hx hb dX0_fitting_21 rfl (lv_at hl 0 rfl) ?_
    refine va_get (D := (dC, dI)) (ci := 0) (v := .ref h2) (C := RX0) (T := TX0) (N := 9) hx hb hts in0 hown hK hP 0 rfl rfl 1 (by decide) fl15 (fun _ h9 => h9) rfl dX0_fitting_22 ?_
    refine va_getN (D := (dC, dI)) (ci := 2) (v := .ref h2a4) (C := RX2) (T := TX2) (N := 8) hx hb hts in2 hown hK hP 1 rfl rfl 4 (by decide) fl114 (fun _ h9 => h9) rfl dX0_fitting_25 ?_
    refine lv_iload_n hx hb dX0_fitting_28 rfl (lv_at hl 1 rfl) ?_
    obtain ⟨hi_3, hf⟩ := ai_ok hf
    refine va_iald (n := 24) (f := (S2_adjectiveSets s2)) hx hb hK hP 4 0 rfl rfl hi_3 dX0_fitting_29 ?_
    refine lv_aload_n hx hb dX0_fitting_30 rfl (lv_at hl 0 rfl) ?_
    refine va_get (D := (dC, dI)) (ci := 0) (v := .ref h2) (C := RX0) (T := TX0) (N := 9) hx hb hts in0 hown hK hP 0 rfl rfl 1 (by decide) fl15 (fun _ h9 => h9) rfl dX0_fitting_31 ?_
    refine va_getN (D := (dC, dI)) (ci := 2) (v := .ref h2a5) (C := RX2) (T := TX2) (N := 8) hx hb hts in2 hown hK hP 1 rfl rfl 5 (by decide) fl117 (fun _ h9 => h9) rfl dX0_fitting_34 ?_
    refine lv_iload_n hx hb dX0_fitting_37 rfl (lv_at hl 1 rfl) ?_
    obtain ⟨hi_4, hf⟩ := ai_ok hf
    refine va_iald (n := 24) (f := (S2_nouns s2)) hx hb hK hP 5 0 rfl rfl hi_4 dX0_fitting_38 ?_
    obtain ⟨r_5, hc_5, hf⟩ := bn1_ok hf
    refine gc_i (wc := (cf_4 cI h4 h4a0 h4a1 h4a2 s4)) (wr := (cf_02 cI h0 h2 h2a2 h2a3 h2a4 h2a5 h2a6 h2a7 h4 h1 s0 s2)) (w1 := (cf_4 cI h4 h4a0 h4a1 h4a2 s4)) (ws' := (cf_024 cI h0 h2 h2a2 h2a3 h2a4 h2a5 h2a6 h2a7 h4 h4a0 h4a1 h4a2 h1 s0 s2 s4)) hP hD hS hA [8, 9, 10, 11] [0, 1, 2, 3, 4, 5, 6, 7] [0, 1, 2, 3, 4, 5, 6, 7, 8, 9, 10, 11] rfl rfl (by decide) (by decide) rfl (by decide) (va_runV (As := [.int (S0_reach s0), .int ((S2_adjectiveSets s2) a1.toNatClampNeg), .int ((S2_nouns s2) a1.toNatClampNeg)]) (rest := []) ⟨hx, hb, hml, hown, hts⟩ (ktX4_described l dC dI cI h4 h4a0 h4a1 h4a2 _ s4 (S0_reach s0) ((S2_adjectiveSets s2) a1.toNatClampNeg) ((S2_nouns s2) a1.toNatClampNeg) r_5 hc_5) (cwV 3 hts gX0_fitting_X4_described rfl rfl rfl (by decide +kernel) ⟨Nat.le_of_ble_eq_true rfl, Nat.le_of_ble_eq_true rfl⟩) (gc_V (ci := 4) (q0 := 0) (C := RX4) (T := TX4) (N := 6) (hP.sub (ws' := (cf_4 cI h4 h4a0 h4a1 h4a2 s4)) [8, 9, 10, 11] rfl) (hK.sub (tys' := [(cI, .int)]) [0] rfl) (hD.sub (ws' := (cf_4 cI h4 h4a0 h4a1 h4a2 s4)) [8, 9, 10, 11] (by decide) rfl) hN rfl rfl) rfl rfl hl.1 rfl (lv_room (Nat.le_of_ble_eq_true rfl)) dX0_fitting_39 ⟨Nat.zero_le _, Nat.zero_le _⟩) (fun H locs hP hD hS => ?_)
    have hf : (some r_5 : Option (Int32)) = some r := hf
    have he := Option.some.inj hf
    have he0 : r_5 = r := he
    exact hret _ _ _ _ _ _ he0 rfl dX0_fitting_42 hP hD hS
  · have hf := it_t c_2 hf
    refine lv_iconst (v := 0) hx hb dX0_fitting_11 (by decide) ?_
    have hf : (some 0 : Option (Int32)) = some r := hf
    have he := Option.some.inj hf
    have he0 : 0 = r := he
    exact hret _ _ _ _ _ _ he0 rfl dX0_fitting_12 hP hD hS
abbrev rmX0_orNothing : Room := { frames := 0, cells := 0, slots := 0, locals := 0 }
set_option maxHeartbeats 2000000 in
set_option maxRecDepth 100000 in
theorem ktX0_orNothing (l : Launch) (dC : Nat → ClassId) (dI : Nat → Nat → Nat) (cI : ClassId) (h0 h4 h2 h1 : Nat) (sz : Nat) (s0 : S0) (a1 : Int32) (a2 : Int32) (r : Int32) (s0f : S0) (hf : fX0_orNothing s0 a1 a2 = some (r, s0f)) : Met l yX0_orNothing wsX0_orNothing rmX0_orNothing (va_Pc [.ref h0, .int a1, .int a2] (pre_w (dC, dI) (cf_0 cI h0 h4 h2 h1 s0) [(cI, .int)] sz)) (va_Qi (fun (r' : Int32) (_ : Unit) => r' = r) (post_w (dC, dI) (cf_0 cI h0 h4 h2 h1 s0f) [(cI, .int)] (va_A (cf_0 cI h0 h4 h2 h1 s0) sz)) (va_A (cf_0 cI h0 h4 h2 h1 s0) sz)) 0 0 (va_A (cf_0 cI h0 h4 h2 h1 s0) sz) := by
  refine gm_i (cc := cX0_orNothing) (maxL := 3) (by decide) rfl (Nat.le_of_ble_eq_true rfl) ?_
  intro p e s m below meth c A QQ ls hx hb hml hown hts hK hN hA hP hD hS hl hret
  have hown : s.vm.findClass RX0 = some m.cls := hown
  have hl : lv_has ls 3 [(0, .ref h0), (1, .int a1), (2, .int a2)] := hl
  have in0 : ∀ w ∈ u_ws RX0 TX0 9, w ∈ wsX0_orNothing := by decide +kernel
  have fl31 := hts (.fieldLink RX0 31 "ParserParlour$Meaning" "result" "I") (by decide +kernel)
  have fl40 := hts (.fieldLink RX0 40 "ParserParlour$Meaning" "openPhrase" "I") (by decide +kernel)
  have J14 : ∀ (s0 : S0) (H : Heap) (locs : List Loc), va_P (dC, dI) vwCl (cf_0 cI h0 h4 h2 h1 s0) H → va_D A (cf_0 cI h0 h4 h2 h1 s0) → va_S A s.heap H locs → ∀ (ls : Array Slot), lv_has ls 3 [(1, .int a1)] → fX0_orNothing_14 a1 a2 s0 = some (r, s0f) → W p l e rmX0_orNothing s m ([.ref h0, .int a1, .int a2] : List Value).toArray below meth c H locs 0 0 QQ (F0 m 14 ls []) := by
    intro  s0 H locs hP hD hS ls hl hf
    unfold fX0_orNothing_14 at hf
    refine lv_iload_n hx hb dX0_orNothing_14 rfl (lv_at hl 0 rfl) ?_
    have hf : (some (a1, s0) : Option (Int32 × S0)) = some (r, s0f) := hf
    have he := Option.some.inj hf
    have he0 : a1 = r := congrArg (fun q => q.1) he
    have he1 : s0 = s0f := congrArg (fun q => q.2) he
    exact hret _ _ _ _ _ _ he0 (by rw [← he1]) dX0_orNothing_15 hP hD hS
  unfold fX0_orNothing at hf
  refine lv_iload_n hx hb dX0_orNothing_0 rfl (lv_at hl 1 rfl) ?_
  refine lv_if_ne (tgt := 14) hx hb dX0_orNothing_1 (by decide) (fun c_1 => ?_) (fun c_1 => ?_)
  · have hf := it_f c_1 hf
    exact J14 s0 _ _ hP hD hS _ (lv_sub hl [1] rfl) hf
  · have hf := it_t c_1 hf
    refine lv_aload_n hx hb dX0_orNothing_4 rfl (lv_at hl 0 rfl) ?_
    refine lv_iconst (v := 5) hx hb dX0_orNothing_5 (by decide) ?_
    refine va_put (D := (dC, dI)) (ci := 0) (v := .int 5) (ty := .int) (C := RX0) (T := TX0) (N := 9) hx hb hts in0 tyX0 tyX0_ok nmX0 hown hK hP hD hS 0 rfl rfl 4 (by decide) fl31 (fun _ h9 => h9) rfl (by decide +kernel) rfl rfl (Nat.le_of_ble_eq_true rfl) dX0_orNothing_6 (fun H locs hP hD hS => ?_)
    have hP : va_P (dC, dI) vwCl (cf_0 cI h0 h4 h2 h1 (S0_set_result s0 5)) H := hP
    have hD : va_D A (cf_0 cI h0 h4 h2 h1 (S0_set_result s0 5)) := hD
    refine lv_aload_n hx hb dX0_orNothing_9 rfl (lv_at hl 0 rfl) ?_
    refine lv_iload_n hx hb dX0_orNothing_10 rfl (lv_at hl 2 rfl) ?_
    refine va_put (D := (dC, dI)) (ci := 0) (v := .int a2) (ty := .int) (C := RX0) (T := TX0) (N := 9) hx hb hts in0 tyX0 tyX0_ok nmX0 hown hK hP hD hS 0 rfl rfl 7 (by decide) fl40 (fun _ h9 => h9) rfl (by decide +kernel) rfl rfl (Nat.le_of_ble_eq_true rfl) dX0_orNothing_11 (fun H locs hP hD hS => ?_)
    have hP : va_P (dC, dI) vwCl (cf_0 cI h0 h4 h2 h1 (S0_set_openPhrase (S0_set_result s0 5) a2)) H := hP
    have hD : va_D A (cf_0 cI h0 h4 h2 h1 (S0_set_openPhrase (S0_set_result s0 5) a2)) := hD
    exact J14 (S0_set_openPhrase (S0_set_result s0 5) a2) _ _ hP hD hS _ (lv_sub hl [1] rfl) hf
abbrev rmX0_findSingle : Room := { frames := 2, cells := 0, slots := 0, locals := 47 }
set_option maxHeartbeats 2000000 in
set_option maxRecDepth 100000 in
theorem ktX0_findSingle (l : Launch) (dC : Nat → ClassId) (dI : Nat → Nat → Nat) (cI : ClassId) (h0 h1 h2 h2a2 h2a3 h2a4 h2a5 h2a6 h2a7 h4 h4a0 h4a1 h4a2 : Nat) (sz : Nat) (s0 : S0) (s1 : S1) (s2 : S2) (s4 : S4) (a1 : Int32) (a2 : Int32) (r : Int32) (s0f : S0) (hf : fX0_findSingle s0 s1 s2 s4 a1 a2 = some (r, s0f)) : Met l yX0_findSingle wsX0_findSingle rmX0_findSingle (va_Pc [.ref h0, .int a1, .int a2] (pre_w (dC, dI) (cf_0124 cI h0 h1 h2 h2a2 h2a3 h2a4 h2a5 h2a6 h2a7 h4 h4a0 h4a1 h4a2 s0 s1 s2 s4) [(cI, .int)] sz)) (va_Qi (fun (r' : Int32) (_ : Unit) => r' = r) (post_w (dC, dI) (cf_0124 cI h0 h1 h2 h2a2 h2a3 h2a4 h2a5 h2a6 h2a7 h4 h4a0 h4a1 h4a2 s0f s1 s2 s4) [(cI, .int)] (va_A (cf_0124 cI h0 h1 h2 h2a2 h2a3 h2a4 h2a5 h2a6 h2a7 h4 h4a0 h4a1 h4a2 s0 s1 s2 s4) sz)) (va_A (cf_0124 cI h0 h1 h2 h2a2 h2a3 h2a4 h2a5 h2a6 h2a7 h4 h4a0 h4a1 h4a2 s0 s1 s2 s4) sz)) 0 0 (va_A (cf_0124 cI h0 h1 h2 h2a2 h2a3 h2a4 h2a5 h2a6 h2a7 h4 h4a0 h4a1 h4a2 s0 s1 s2 s4) sz) := by
  refine gm_i (cc := cX0_findSingle) (maxL := 5) (by decide) rfl (Nat.le_of_ble_eq_true rfl) ?_
  intro p e s m below meth c A QQ ls hx hb hml hown hts hK hN hA hP hD hS hl hret
  have hown : s.vm.findClass RX0 = some m.cls := hown
  have hl : lv_has ls 5 [(0, .ref h0), (1, .int a1), (2, .int a2)] := hl
  have in0 : ∀ w ∈ u_ws RX0 TX0 9, w ∈ wsX0_findSingle := by decide +kernel
  have fl15 := hts (.fieldLink RX0 15 "ParserParlour$Meaning" "order" "LParserParlour$Order;") (by decide +kernel)
  have in2 : ∀ w ∈ u_ws RX2 TX2 8, w ∈ wsX0_findSingle := by decide +kernel
  have fl100 := va_Nw.use (A := ([.ref h0, .int a1, .int a2] : List Value).toArray) (by rfl) (hN _ (List.mem_of_getElem? (i := 15) rfl))
  have fl85 := va_Nw.use (A := ([.ref h0, .int a1, .int a2] : List Value).toArray) (by rfl) (hN _ (List.mem_of_getElem? (i := 12) rfl))
  have fl19 := hts (.fieldLink RX0 19 "ParserParlour$Meaning" "memory" "LParserParlour$Memory;") (by decide +kernel)
  have in1 : ∀ w ∈ u_ws RX1 TX1 5, w ∈ wsX0_findSingle := by decide +kernel
  have fl103 := va_Nw.use (A := ([.ref h0, .int a1, .int a2] : List Value).toArray) (by rfl) (hN _ (List.mem_of_getElem? (i := 21) rfl))
  have fl27 := hts (.fieldLink RX0 27 "ParserParlour$Meaning" "reach" "I") (by decide +kernel)
  have J123 : ∀ (s0 : S0) (t0 : Int32) (H : Heap) (locs : List Loc), va_P (dC, dI) vwCl (cf_0124 cI h0 h1 h2 h2a2 h2a3 h2a4 h2a5 h2a6 h2a7 h4 h4a0 h4a1 h4a2 s0 s1 s2 s4) H → va_D A (cf_0124 cI h0 h1 h2 h2a2 h2a3 h2a4 h2a5 h2a6 h2a7 h4 h4a0 h4a1 h4a2 s0 s1 s2 s4) → va_S A s.heap H locs → ∀ (ls : Array Slot), lv_has ls 5 [] → fX0_findSingle_123 s1 s2 s4 a1 a2 s0 t0 = some (r, s0f) → W p l e rmX0_findSingle s m ([.ref h0, .int a1, .int a2] : List Value).toArray below meth c H locs 0 0 QQ (F0 m 123 ls [.int t0]) := by
    intro  s0 t0 H locs hP hD hS ls hl hf
    unfold fX0_findSingle_123 at hf
    have hf : (some (t0, s0) : Option (Int32 × S0)) = some (r, s0f) := hf
    have he := Option.some.inj hf
    have he0 : t0 = r := congrArg (fun q => q.1) he
    have he1 : s0 = s0f := congrArg (fun q => q.2) he
    exact hret _ _ _ _ _ _ he0 (by rw [← he1]) dX0_findSingle_123 hP hD hS
  have J119 : ∀ (s0 : S0) (t1 : Int32) (H : Heap) (locs : List Loc), va_P (dC, dI) vwCl (cf_0124 cI h0 h1 h2 h2a2 h2a3 h2a4 h2a5 h2a6 h2a7 h4 h4a0 h4a1 h4a2 s0 s1 s2 s4) H → va_D A (cf_0124 cI h0 h1 h2 h2a2 h2a3 h2a4 h2a5 h2a6 h2a7 h4 h4a0 h4a1 h4a2 s0 s1 s2 s4) → va_S A s.heap H locs → ∀ (ls : Array Slot), lv_has ls 5 [(1, .int a1)] → fX0_findSingle_119 s1 s2 s4 a1 a2 s0 t1 = some (r, s0f) → W p l e rmX0_findSingle s m ([.ref h0, .int a1, .int a2] : List Value).toArray below meth c H locs 0 0 QQ (F0 m 119 ls [.int t1, .ref h0]) := by
    intro  s0 t1 H locs hP hD hS ls hl hf
    unfold fX0_findSingle_119 at hf
    refine lv_iload_n hx hb dX0_findSingle_119 rfl (lv_at hl 0 rfl) ?_
    obtain ⟨r_1, s0_1, hc_1, hf⟩ := bn2_ok hf
    refine gc_i (wc := (cf_0 cI h0 h4 h2 h1 s0)) (wr := (cf_124 cI h1 h2 h2a2 h2a3 h2a4 h2a5 h2a6 h2a7 h4 h4a0 h4a1 h4a2 s1 s2 s4)) (w1 := (cf_0 cI h0 h4 h2 h1 s0_1)) (ws' := (cf_0124 cI h0 h1 h2 h2a2 h2a3 h2a4 h2a5 h2a6 h2a7 h4 h4a0 h4a1 h4a2 s0_1 s1 s2 s4)) hP hD hS hA [0] [1, 2, 3, 4, 5, 6, 7, 8, 9, 10, 11, 12] [12, 0, 1, 2, 3, 4, 5, 6, 7, 8, 9, 10, 11] rfl rfl (by decide) (by decide) rfl (by decide) (va_runV (As := [.int t1, .int a1]) (rest := []) ⟨hx, hb, hml, hown, hts⟩ (ktX0_ask l dC dI cI h0 h4 h2 h1 _ s0 t1 a1 r_1 s0_1 hc_1) (cwV 2 hts gX0_findSingle_X0_ask rfl rfl rfl (by decide +kernel) ⟨Nat.le_of_ble_eq_true rfl, Nat.le_of_ble_eq_true rfl⟩) (gc_V (ci := 0) (q0 := 0) (C := RX0) (T := TX0) (N := 9) (hP.sub (ws' := (cf_0 cI h0 h4 h2 h1 s0)) [0] rfl) (hK.sub (tys' := [(cI, .int)]) [0] rfl) (hD.sub (ws' := (cf_0 cI h0 h4 h2 h1 s0)) [0] (by decide) rfl) hN rfl rfl) rfl rfl hl.1 rfl (lv_room (Nat.le_of_ble_eq_true rfl)) dX0_findSingle_120 ⟨Nat.zero_le _, Nat.zero_le _⟩) (fun H locs hP hD hS => ?_)
    exact J123 s0_1 r_1 _ _ hP hD hS _ (lv_sub hl [] rfl) hf
  unfold fX0_findSingle at hf
  refine lv_aload_n hx hb dX0_findSingle_0 rfl (lv_at hl 0 rfl) ?_
  refine va_get (D := (dC, dI)) (ci := 0) (v := .ref h2) (C := RX0) (T := TX0) (N := 9) hx hb hts in0 hown hK hP 0 rfl rfl 1 (by decide) fl15 (fun _ h9 => h9) rfl dX0_findSingle_1 ?_
  refine lv_iload_n hx hb dX0_findSingle_4 rfl (lv_at hl 1 rfl) ?_
  obtain ⟨r_1, hc_1, hf⟩ := bn1_ok hf
  refine gc_i (wc := (cf_2 cI h2 h2a2 h2a3 h2a4 h2a5 h2a6 h2a7 s2)) (wr := (cf_014 cI h0 h1 h4 h4a0 h4a1 h4a2 h2 s0 s1 s4)) (w1 := (cf_2 cI h2 h2a2 h2a3 h2a4 h2a5 h2a6 h2a7 s2)) (ws' := (cf_0124 cI h0 h1 h2 h2a2 h2a3 h2a4 h2a5 h2a6 h2a7 h4 h4a0 h4a1 h4a2 s0 s1 s2 s4)) hP hD hS hA [2, 3, 4, 5, 6, 7, 8] [0, 1, 9, 10, 11, 12] [0, 1, 6, 7, 8, 9, 10, 11, 12, 2, 3, 4, 5] rfl rfl (by decide) (by decide) rfl (by decide) (va_runV (As := [.int a1]) (rest := []) ⟨hx, hb, hml, hown, hts⟩ (ktX2_hasPhrase l dC dI cI h2 h2a2 h2a3 h2a4 h2a5 h2a6 h2a7 _ s2 a1 r_1 hc_1) (cwV 1 hts gX0_findSingle_X2_hasPhrase rfl rfl rfl (by decide +kernel) ⟨Nat.le_of_ble_eq_true rfl, Nat.le_of_ble_eq_true rfl⟩) (gc_V (ci := 2) (q0 := 0) (C := RX2) (T := TX2) (N := 8) (hP.sub (ws' := (cf_2 cI h2 h2a2 h2a3 h2a4 h2a5 h2a6 h2a7 s2)) [2, 3, 4, 5, 6, 7, 8] rfl) (hK.sub (tys' := [(cI, .int)]) [0] rfl) (hD.sub (ws' := (cf_2 cI h2 h2a2 h2a3 h2a4 h2a5 h2a6 h2a7 s2)) [2, 3, 4, 5, 6, 7, 8] (by decide) rfl) hN rfl rfl) rfl rfl hl.1 rfl (lv_room (Nat.le_of_ble_eq_true rfl)) dX0_findSingle_5 ⟨Nat.zero_le _, Nat.zero_le _⟩) (fun H locs hP hD hS => ?_)
  refine lv_if_ne (tgt := 13) hx hb dX0_findSingle_8 (by decide) (fun c_2 => ?_) (fun c_2 => ?_)
  · have hf := it_f c_2 hf
    refine lv_aload_n hx hb dX0_findSingle_13 rfl (lv_at hl 0 rfl) ?_
    refine va_get (D := (dC, dI)) (ci := 0) (v := .ref h2) (C := RX0) (T := TX0) (N := 9) hx hb hts in0 hown hK hP 0 rfl rfl 1 (by decide) fl15 (fun _ h9 => h9) rfl dX0_findSingle_14 ?_
    refine va_getN (D := (dC, dI)) (ci := 2) (v := .ref h2a7) (C := RX2) (T := TX2) (N := 8) hx hb hts in2 hown hK hP 2 rfl rfl 7 (by decide) fl100 (fun _ h9 => h9) rfl dX0_findSingle_17 ?_
    refine lv_iload_n hx hb dX0_findSingle_20 rfl (lv_at hl 1 rfl) ?_
    obtain ⟨hi_3, hf⟩ := ai_ok hf
    refine va_iald (n := 24) (f := (S2_answers s2)) hx hb hK hP 8 0 rfl rfl hi_3 dX0_findSingle_21 ?_
    refine lv_if_eq (tgt := 35) hx hb dX0_findSingle_22 (by decide) (fun c_4 => ?_) (fun c_4 => ?_)
    · have hf := it_t c_4 hf
      refine lv_aload_n hx hb dX0_findSingle_35 rfl (lv_at hl 0 rfl) ?_
      refine va_get (D := (dC, dI)) (ci := 0) (v := .ref h2) (C := RX0) (T := TX0) (N := 9) hx hb hts in0 hown hK hP 0 rfl rfl 1 (by decide) fl15 (fun _ h9 => h9) rfl dX0_findSingle_36 ?_
      refine va_getN (D := (dC, dI)) (ci := 2) (v := .ref h2a3) (C := RX2) (T := TX2) (N := 8) hx hb hts in2 hown hK hP 2 rfl rfl 3 (by decide) fl85 (fun _ h9 => h9) rfl dX0_findSingle_39 ?_
      refine lv_iload_n hx hb dX0_findSingle_42 rfl (lv_at hl 1 rfl) ?_
      obtain ⟨hi_5, hf⟩ := ai_ok hf
      refine va_iald (n := 24) (f := (S2_kinds s2)) hx hb hK hP 4 0 rfl rfl hi_5 dX0_findSingle_43 ?_
      refine lv_bipush (v := 14) hx hb dX0_findSingle_44 (by decide) ?_
      refine lv_icmp_ne (tgt := 67) hx hb dX0_findSingle_46 (by decide) (fun c_6 => ?_) (fun c_6 => ?_)
      · have hf := it_f c_6 hf
        refine lv_aload_n hx hb dX0_findSingle_67 rfl (lv_at hl 0 rfl) ?_
        refine lv_iload_n hx hb dX0_findSingle_68 rfl (lv_at hl 1 rfl) ?_
        obtain ⟨r_7, hc_7, hf⟩ := bn1_ok hf
        refine gc_i (wc := (cf_024 cI h0 h2 h2a2 h2a3 h2a4 h2a5 h2a6 h2a7 h4 h4a0 h4a1 h4a2 h1 s0 s2 s4)) (wr := (cf_1 cI h1 s1)) (w1 := (cf_024 cI h0 h2 h2a2 h2a3 h2a4 h2a5 h2a6 h2a7 h4 h4a0 h4a1 h4a2 h1 s0 s2 s4)) (ws' := (cf_0124 cI h0 h1 h2 h2a2 h2a3 h2a4 h2a5 h2a6 h2a7 h4 h4a0 h4a1 h4a2 s0 s1 s2 s4)) hP hD hS hA [0, 2, 3, 4, 5, 6, 7, 8, 9, 10, 11, 12] [1] [1, 0, 2, 3, 4, 5, 6, 7, 8, 9, 10, 11, 12] rfl rfl (by decide) (by decide) rfl (by decide) (va_runV (As := [.int a1]) (rest := []) ⟨hx, hb, hml, hown, hts⟩ (ktX0_fitting l dC dI cI h0 h2 h2a2 h2a3 h2a4 h2a5 h2a6 h2a7 h4 h4a0 h4a1 h4a2 h1 _ s0 s2 s4 a1 r_7 hc_7) (cwV 1 hts gX0_findSingle_X0_fitting rfl rfl rfl (by decide +kernel) ⟨Nat.le_of_ble_eq_true rfl, Nat.le_of_ble_eq_true rfl⟩) (gc_V (ci := 0) (q0 := 0) (C := RX0) (T := TX0) (N := 9) (hP.sub (ws' := (cf_024 cI h0 h2 h2a2 h2a3 h2a4 h2a5 h2a6 h2a7 h4 h4a0 h4a1 h4a2 h1 s0 s2 s4)) [0, 2, 3, 4, 5, 6, 7, 8, 9, 10, 11, 12] rfl) (hK.sub (tys' := [(cI, .int)]) [0] rfl) (hD.sub (ws' := (cf_024 cI h0 h2 h2a2 h2a3 h2a4 h2a5 h2a6 h2a7 h4 h4a0 h4a1 h4a2 h1 s0 s2 s4)) [0, 2, 3, 4, 5, 6, 7, 8, 9, 10, 11, 12] (by decide) rfl) hN rfl rfl) rfl rfl hl.1 rfl (lv_room (Nat.le_of_ble_eq_true rfl)) dX0_findSingle_69 ⟨Nat.zero_le _, Nat.zero_le _⟩) (fun H locs hP hD hS => ?_)
        refine lv_istore_n (lv' := [(3, .int r_7), (0, .ref h0), (1, .int a1), (2, .int a2)]) hx hb dX0_findSingle_72 rfl hl (by decide) rfl (fun ls hl => ?_)
        refine lv_iload_n hx hb dX0_findSingle_73 rfl (lv_at hl 0 rfl) ?_
        obtain ⟨r_8, hc_8, hf⟩ := bn1_ok hf
        refine gc_i (wc := ([] : va_W)) (wr := (cf_0124 cI h0 h1 h2 h2a2 h2a3 h2a4 h2a5 h2a6 h2a7 h4 h4a0 h4a1 h4a2 s0 s1 s2 s4)) (w1 := ([] : va_W)) (ws' := (cf_0124 cI h0 h1 h2 h2a2 h2a3 h2a4 h2a5 h2a6 h2a7 h4 h4a0 h4a1 h4a2 s0 s1 s2 s4)) hP hD hS hA [] [0, 1, 2, 3, 4, 5, 6, 7, 8, 9, 10, 11, 12] [0, 1, 2, 3, 4, 5, 6, 7, 8, 9, 10, 11, 12] rfl rfl (by decide) (by decide) rfl (by decide) (va_runS (As := [.int r_7]) (rest := []) ⟨hx, hb, hml, hown, hts⟩ (ktJ6_bitCount l dC dI _ r_7 r_8 hc_8) (va_cwS 1 hts gX0_findSingle_J6_bitCount_0f7a4 rfl rfl rfl (by decide +kernel) ⟨Nat.le_of_ble_eq_true rfl, Nat.le_of_ble_eq_true rfl⟩) (gc_S (hP.sub (ws' := ([] : va_W)) [] rfl) (hK.sub (tys' := []) [] rfl) (hD.sub (ws' := ([] : va_W)) [] (by decide) rfl) hN) rfl rfl hl.1 rfl (lv_room (Nat.le_of_ble_eq_true rfl)) dX0_findSingle_74 ⟨Nat.zero_le _, Nat.zero_le _⟩) (fun H locs hP hD hS => ?_)
        refine lv_iconst (v := 1) hx hb dX0_findSingle_77 (by decide) ?_
        refine lv_icmp_gt (tgt := 88) hx hb dX0_findSingle_78 (by decide) (fun c_9 => ?_) (fun c_9 => ?_)
        · have hf := it_t c_9 hf
          refine lv_iload_n hx hb dX0_findSingle_88 rfl (lv_at hl 0 rfl) ?_
          refine lv_iload_n hx hb dX0_findSingle_89 rfl (lv_at hl 3 rfl) ?_
          refine lv_iand hx hb dX0_findSingle_90 ?_
          refine lv_istore (lv' := [(4, .int (r_7 &&& a2)), (3, .int r_7), (0, .ref h0), (1, .int a1), (2, .int a2)]) hx hb dX0_findSingle_91 hl (by decide) rfl (fun ls hl => ?_)
          refine lv_iload hx hb dX0_findSingle_93 (lv_at hl 0 rfl) ?_
          obtain ⟨r_10, hc_10, hf⟩ := bn1_ok hf
          refine gc_i (wc := ([] : va_W)) (wr := (cf_0124 cI h0 h1 h2 h2a2 h2a3 h2a4 h2a5 h2a6 h2a7 h4 h4a0 h4a1 h4a2 s0 s1 s2 s4)) (w1 := ([] : va_W)) (ws' := (cf_0124 cI h0 h1 h2 h2a2 h2a3 h2a4 h2a5 h2a6 h2a7 h4 h4a0 h4a1 h4a2 s0 s1 s2 s4)) hP hD hS hA [] [0, 1, 2, 3, 4, 5, 6, 7, 8, 9, 10, 11, 12] [0, 1, 2, 3, 4, 5, 6, 7, 8, 9, 10, 11, 12] rfl rfl (by decide) (by decide) rfl (by decide) (va_runS (As := [.int (r_7 &&& a2)]) (rest := []) ⟨hx, hb, hml, hown, hts⟩ (ktJ6_bitCount l dC dI _ (r_7 &&& a2) r_10 hc_10) (va_cwS 1 hts gX0_findSingle_J6_bitCount_0f7a4 rfl rfl rfl (by decide +kernel) ⟨Nat.le_of_ble_eq_true rfl, Nat.le_of_ble_eq_true rfl⟩) (gc_S (hP.sub (ws' := ([] : va_W)) [] rfl) (hK.sub (tys' := []) [] rfl) (hD.sub (ws' := ([] : va_W)) [] (by decide) rfl) hN) rfl rfl hl.1 rfl (lv_room (Nat.le_of_ble_eq_true rfl)) dX0_findSingle_95 ⟨Nat.zero_le _, Nat.zero_le _⟩) (fun H locs hP hD hS => ?_)
          refine lv_iconst (v := 1) hx hb dX0_findSingle_98 (by decide) ?_
          refine lv_icmp_ne (tgt := 107) hx hb dX0_findSingle_99 (by decide) (fun c_11 => ?_) (fun c_11 => ?_)
          · have hf := it_f c_11 hf
            refine lv_aload_n hx hb dX0_findSingle_107 rfl (lv_at hl 2 rfl) ?_
            refine lv_iload hx hb dX0_findSingle_108 (lv_at hl 0 rfl) ?_
            refine lv_if_ne (tgt := 117) hx hb dX0_findSingle_110 (by decide) (fun c_12 => ?_) (fun c_12 => ?_)
            · have hf := it_f c_12 hf
              refine lv_iload hx hb dX0_findSingle_117 (lv_at hl 0 rfl) ?_
              exact J119 s0 (r_7 &&& a2) _ _ hP hD hS _ (lv_sub hl [3] rfl) hf
            · have hf := it_t c_12 hf
              refine lv_iload_n hx hb dX0_findSingle_113 rfl (lv_at hl 1 rfl) ?_
              refine lv_goto (tgt := 119) hx hb dX0_findSingle_114 (by decide) ?_
              exact J119 s0 r_7 _ _ hP hD hS _ (lv_sub hl [3] rfl) hf
          · have hf := it_t c_11 hf
            refine lv_iload hx hb dX0_findSingle_102 (lv_at hl 0 rfl) ?_
            refine lv_goto (tgt := 123) hx hb dX0_findSingle_104 (by decide) ?_
            exact J123 s0 (r_7 &&& a2) _ _ hP hD hS _ (lv_sub hl [] rfl) hf
        · have hf := it_f c_9 hf
          refine lv_aload_n hx hb dX0_findSingle_81 rfl (lv_at hl 1 rfl) ?_
          refine lv_iload_n hx hb dX0_findSingle_82 rfl (lv_at hl 0 rfl) ?_
          refine lv_iload_n hx hb dX0_findSingle_83 rfl (lv_at hl 2 rfl) ?_
          obtain ⟨r_13, s0_13, hc_13, hf⟩ := bn2_ok hf
          refine gc_i (wc := (cf_0 cI h0 h4 h2 h1 s0)) (wr := (cf_124 cI h1 h2 h2a2 h2a3 h2a4 h2a5 h2a6 h2a7 h4 h4a0 h4a1 h4a2 s1 s2 s4)) (w1 := (cf_0 cI h0 h4 h2 h1 s0_13)) (ws' := (cf_0124 cI h0 h1 h2 h2a2 h2a3 h2a4 h2a5 h2a6 h2a7 h4 h4a0 h4a1 h4a2 s0_13 s1 s2 s4)) hP hD hS hA [0] [1, 2, 3, 4, 5, 6, 7, 8, 9, 10, 11, 12] [12, 0, 1, 2, 3, 4, 5, 6, 7, 8, 9, 10, 11] rfl rfl (by decide) (by decide) rfl (by decide) (va_runV (As := [.int r_7, .int a1]) (rest := []) ⟨hx, hb, hml, hown, hts⟩ (ktX0_orNothing l dC dI cI h0 h4 h2 h1 _ s0 r_7 a1 r_13 s0_13 hc_13) (cwV 2 hts gX0_findSingle_X0_orNothing rfl rfl rfl (by decide +kernel) ⟨Nat.le_of_ble_eq_true rfl, Nat.le_of_ble_eq_true rfl⟩) (gc_V (ci := 0) (q0 := 0) (C := RX0) (T := TX0) (N := 9) (hP.sub (ws' := (cf_0 cI h0 h4 h2 h1 s0)) [0] rfl) (hK.sub (tys' := [(cI, .int)]) [0] rfl) (hD.sub (ws' := (cf_0 cI h0 h4 h2 h1 s0)) [0] (by decide) rfl) hN rfl rfl) rfl rfl hl.1 rfl (lv_room (Nat.le_of_ble_eq_true rfl)) dX0_findSingle_84 ⟨Nat.zero_le _, Nat.zero_le _⟩) (fun H locs hP hD hS => ?_)
          have hf : (some (r_13, s0_13) : Option (Int32 × S0)) = some (r, s0f) := hf
          have he := Option.some.inj hf
          have he0 : r_13 = r := congrArg (fun q => q.1) he
          have he1 : s0_13 = s0f := congrArg (fun q => q.2) he
          exact hret _ _ _ _ _ _ he0 (by rw [← he1]) dX0_findSingle_87 hP hD hS
      · have hf := it_t c_6 hf
        refine lv_aload_n hx hb dX0_findSingle_49 rfl (lv_at hl 0 rfl) ?_
        refine lv_aload_n hx hb dX0_findSingle_50 rfl (lv_at hl 0 rfl) ?_
        refine va_get (D := (dC, dI)) (ci := 0) (v := .ref h1) (C := RX0) (T := TX0) (N := 9) hx hb hts in0 hown hK hP 0 rfl rfl 2 (by decide) fl19 (fun _ h9 => h9) rfl dX0_findSingle_51 ?_
        refine va_getN (D := (dC, dI)) (ci := 1) (v := .int (S1_lastAlone s1)) (C := RX1) (T := TX1) (N := 5) hx hb hts in1 hown hK hP 1 rfl rfl 4 (by decide) fl103 (fun _ h9 => h9) rfl dX0_findSingle_54 ?_
        refine lv_aload_n hx hb dX0_findSingle_57 rfl (lv_at hl 0 rfl) ?_
        refine va_get (D := (dC, dI)) (ci := 0) (v := .int (S0_reach s0)) (C := RX0) (T := TX0) (N := 9) hx hb hts in0 hown hK hP 0 rfl rfl 3 (by decide) fl27 (fun _ h9 => h9) rfl dX0_findSingle_58 ?_
        refine lv_iand hx hb dX0_findSingle_61 ?_
        refine lv_iload_n hx hb dX0_findSingle_62 rfl (lv_at hl 1 rfl) ?_
        obtain ⟨r_14, s0_14, hc_14, hf⟩ := bn2_ok hf
        refine gc_i (wc := (cf_0 cI h0 h4 h2 h1 s0)) (wr := (cf_124 cI h1 h2 h2a2 h2a3 h2a4 h2a5 h2a6 h2a7 h4 h4a0 h4a1 h4a2 s1 s2 s4)) (w1 := (cf_0 cI h0 h4 h2 h1 s0_14)) (ws' := (cf_0124 cI h0 h1 h2 h2a2 h2a3 h2a4 h2a5 h2a6 h2a7 h4 h4a0 h4a1 h4a2 s0_14 s1 s2 s4)) hP hD hS hA [0] [1, 2, 3, 4, 5, 6, 7, 8, 9, 10, 11, 12] [12, 0, 1, 2, 3, 4, 5, 6, 7, 8, 9, 10, 11] rfl rfl (by decide) (by decide) rfl (by decide) (va_runV (As := [.int ((S1_lastAlone s1) &&& (S0_reach s0)), .int a1]) (rest := []) ⟨hx, hb, hml, hown, hts⟩ (ktX0_orNothing l dC dI cI h0 h4 h2 h1 _ s0 ((S1_lastAlone s1) &&& (S0_reach s0)) a1 r_14 s0_14 hc_14) (cwV 2 hts gX0_findSingle_X0_orNothing rfl rfl rfl (by decide +kernel) ⟨Nat.le_of_ble_eq_true rfl, Nat.le_of_ble_eq_true rfl⟩) (gc_V (ci := 0) (q0 := 0) (C := RX0) (T := TX0) (N := 9) (hP.sub (ws' := (cf_0 cI h0 h4 h2 h1 s0)) [0] rfl) (hK.sub (tys' := [(cI, .int)]) [0] rfl) (hD.sub (ws' := (cf_0 cI h0 h4 h2 h1 s0)) [0] (by decide) rfl) hN rfl rfl) rfl rfl hl.1 rfl (lv_room (Nat.le_of_ble_eq_true rfl)) dX0_findSingle_63 ⟨Nat.zero_le _, Nat.zero_le _⟩) (fun H locs hP hD hS => ?_)
        have hf : (some (r_14, s0_14) : Option (Int32 × S0)) = some (r, s0f) := hf
        have he := Option.some.inj hf
        have he0 : r_14 = r := congrArg (fun q => q.1) he
        have he1 : s0_14 = s0f := congrArg (fun q => q.2) he
        exact hret _ _ _ _ _ _ he0 (by rw [← he1]) dX0_findSingle_66 hP hD hS
    · have hf := it_f c_4 hf
      refine lv_aload_n hx hb dX0_findSingle_25 rfl (lv_at hl 0 rfl) ?_
      refine va_get (D := (dC, dI)) (ci := 0) (v := .ref h2) (C := RX0) (T := TX0) (N := 9) hx hb hts in0 hown hK hP 0 rfl rfl 1 (by decide) fl15 (fun _ h9 => h9) rfl dX0_findSingle_26 ?_
      refine va_getN (D := (dC, dI)) (ci := 2) (v := .ref h2a7) (C := RX2) (T := TX2) (N := 8) hx hb hts in2 hown hK hP 2 rfl rfl 7 (by decide) fl100 (fun _ h9 => h9) rfl dX0_findSingle_29 ?_
      refine lv_iload_n hx hb dX0_findSingle_32 rfl (lv_at hl 1 rfl) ?_
      obtain ⟨hi_15, hf⟩ := ai_ok hf
      refine va_iald (n := 24) (f := (S2_answers s2)) hx hb hK hP 8 0 rfl rfl hi_15 dX0_findSingle_33 ?_
      have hf : (some (((S2_answers s2) a1.toNatClampNeg), s0) : Option (Int32 × S0)) = some (r, s0f) := hf
      have he := Option.some.inj hf
      have he0 : ((S2_answers s2) a1.toNatClampNeg) = r := congrArg (fun q => q.1) he
      have he1 : s0 = s0f := congrArg (fun q => q.2) he
      exact hret _ _ _ _ _ _ he0 (by rw [← he1]) dX0_findSingle_34 hP hD hS
  · have hf := it_t c_2 hf
    refine lv_iconst (v := 0) hx hb dX0_findSingle_11 (by decide) ?_
    have hf : (some (0, s0) : Option (Int32 × S0)) = some (r, s0f) := hf
    have he := Option.some.inj hf
    have he0 : 0 = r := congrArg (fun q => q.1) he
    have he1 : s0 = s0f := congrArg (fun q => q.2) he
    exact hret _ _ _ _ _ _ he0 (by rw [← he1]) dX0_findSingle_12 hP hD hS
abbrev rmX0_findPart : Room := { frames := 3, cells := 0, slots := 0, locals := 71 }
set_option maxHeartbeats 2000000 in
set_option maxRecDepth 100000 in
theorem ktX0_findPart (l : Launch) (dC : Nat → ClassId) (dI : Nat → Nat → Nat) (cI : ClassId) (h0 h1 h2 h2a2 h2a3 h2a4 h2a5 h2a6 h2a7 h4 h4a0 h4a1 h4a2 : Nat) (sz : Nat) (s0 : S0) (s1 : S1) (s2 : S2) (s4 : S4) (a1 : Int32) (a2 : Int32) (r : Int32) (s0f : S0) (hf : fX0_findPart s0 s1 s2 s4 a1 a2 = some (r, s0f)) : Met l yX0_findPart wsX0_findPart rmX0_findPart (va_Pc [.ref h0, .int a1, .int a2] (pre_w (dC, dI) (cf_0124 cI h0 h1 h2 h2a2 h2a3 h2a4 h2a5 h2a6 h2a7 h4 h4a0 h4a1 h4a2 s0 s1 s2 s4) [(cI, .int)] sz)) (va_Qi (fun (r' : Int32) (_ : Unit) => r' = r) (post_w (dC, dI) (cf_0124 cI h0 h1 h2 h2a2 h2a3 h2a4 h2a5 h2a6 h2a7 h4 h4a0 h4a1 h4a2 s0f s1 s2 s4) [(cI, .int)] (va_A (cf_0124 cI h0 h1 h2 h2a2 h2a3 h2a4 h2a5 h2a6 h2a7 h4 h4a0 h4a1 h4a2 s0 s1 s2 s4) sz)) (va_A (cf_0124 cI h0 h1 h2 h2a2 h2a3 h2a4 h2a5 h2a6 h2a7 h4 h4a0 h4a1 h4a2 s0 s1 s2 s4) sz)) 0 0 (va_A (cf_0124 cI h0 h1 h2 h2a2 h2a3 h2a4 h2a5 h2a6 h2a7 h4 h4a0 h4a1 h4a2 s0 s1 s2 s4) sz) := by
  refine gm_i (cc := cX0_findPart) (maxL := 5) (by decide) rfl (Nat.le_of_ble_eq_true rfl) ?_
  intro p e s m below meth c A QQ ls hx hb hml hown hts hK hN hA hP hD hS hl hret
  have hown : s.vm.findClass RX0 = some m.cls := hown
  have hl : lv_has ls 5 [(0, .ref h0), (1, .int a1), (2, .int a2)] := hl
  have in0 : ∀ w ∈ u_ws RX0 TX0 9, w ∈ wsX0_findPart := by decide +kernel
  have fl15 := hts (.fieldLink RX0 15 "ParserParlour$Meaning" "order" "LParserParlour$Order;") (by decide +kernel)
  have in2 : ∀ w ∈ u_ws RX2 TX2 8, w ∈ wsX0_findPart := by decide +kernel
  have fl61 := va_Nw.use (A := ([.ref h0, .int a1, .int a2] : List Value).toArray) (by rfl) (hN _ (List.mem_of_getElem? (i := 11) rfl))
  have fl31 := hts (.fieldLink RX0 31 "ParserParlour$Meaning" "result" "I") (by decide +kernel)
  have fl85 := va_Nw.use (A := ([.ref h0, .int a1, .int a2] : List Value).toArray) (by rfl) (hN _ (List.mem_of_getElem? (i := 12) rfl))
  have fl19 := hts (.fieldLink RX0 19 "ParserParlour$Meaning" "memory" "LParserParlour$Memory;") (by decide +kernel)
  have in1 : ∀ w ∈ u_ws RX1 TX1 5, w ∈ wsX0_findPart := by decide +kernel
  have fl89 := va_Nw.use (A := ([.ref h0, .int a1, .int a2] : List Value).toArray) (by rfl) (hN _ (List.mem_of_getElem? (i := 17) rfl))
  have fl27 := hts (.fieldLink RX0 27 "ParserParlour$Meaning" "reach" "I") (by decide +kernel)
  have J76 : ∀ (s0 : S0) (H : Heap) (locs : List Loc), va_P (dC, dI) vwCl (cf_0124 cI h0 h1 h2 h2a2 h2a3 h2a4 h2a5 h2a6 h2a7 h4 h4a0 h4a1 h4a2 s0 s1 s2 s4) H → va_D A (cf_0124 cI h0 h1 h2 h2a2 h2a3 h2a4 h2a5 h2a6 h2a7 h4 h4a0 h4a1 h4a2 s0 s1 s2 s4) → va_S A s.heap H locs → ∀ (ls : Array Slot), lv_has ls 5 [] → fX0_findPart_76 s1 s2 s4 a1 a2 s0 = some (r, s0f) → W p l e rmX0_findPart s m ([.ref h0, .int a1, .int a2] : List Value).toArray below meth c H locs 0 0 QQ (F0 m 76 ls []) := by
    intro  s0 H locs hP hD hS ls hl hf
    unfold fX0_findPart_76 at hf
    refine lv_iconst (v := 0) hx hb dX0_findPart_76 (by decide) ?_
    have hf : (some (0, s0) : Option (Int32 × S0)) = some (r, s0f) := hf
    have he := Option.some.inj hf
    have he0 : 0 = r := congrArg (fun q => q.1) he
    have he1 : s0 = s0f := congrArg (fun q => q.2) he
    exact hret _ _ _ _ _ _ he0 (by rw [← he1]) dX0_findPart_77 hP hD hS
  have J58 : ∀ (s0 : S0) (x3 : Int32) (H : Heap) (locs : List Loc), va_P (dC, dI) vwCl (cf_0124 cI h0 h1 h2 h2a2 h2a3 h2a4 h2a5 h2a6 h2a7 h4 h4a0 h4a1 h4a2 s0 s1 s2 s4) H → va_D A (cf_0124 cI h0 h1 h2 h2a2 h2a3 h2a4 h2a5 h2a6 h2a7 h4 h4a0 h4a1 h4a2 s0 s1 s2 s4) → va_S A s.heap H locs → ∀ (ls : Array Slot), lv_has ls 5 [(0, .ref h0), (1, .int a1), (2, .int a2), (3, .int x3)] → fX0_findPart_58 s1 s2 s4 a1 a2 s0 x3 = some (r, s0f) → W p l e rmX0_findPart s m ([.ref h0, .int a1, .int a2] : List Value).toArray below meth c H locs 0 0 QQ (F0 m 58 ls []) := by
    intro  s0 x3 H locs hP hD hS ls hl hf
    unfold fX0_findPart_58 at hf
    refine lv_aload_n hx hb dX0_findPart_58 rfl (lv_at hl 0 rfl) ?_
    refine va_get (D := (dC, dI)) (ci := 0) (v := .int (S0_result s0)) (C := RX0) (T := TX0) (N := 9) hx hb hts in0 hown hK hP 0 rfl rfl 4 (by decide) fl31 (fun _ h9 => h9) rfl dX0_findPart_59 ?_
    refine lv_if_ne (tgt := 76) hx hb dX0_findPart_62 (by decide) (fun c_1 => ?_) (fun c_1 => ?_)
    · have hf := it_f c_1 hf
      exact J76 s0 _ _ hP hD hS _ (lv_sub hl [] rfl) hf
    · have hf := it_t c_1 hf
      refine lv_aload_n hx hb dX0_findPart_65 rfl (lv_at hl 0 rfl) ?_
      refine va_get (D := (dC, dI)) (ci := 0) (v := .ref h2) (C := RX0) (T := TX0) (N := 9) hx hb hts in0 hown hK hP 0 rfl rfl 1 (by decide) fl15 (fun _ h9 => h9) rfl dX0_findPart_66 ?_
      refine lv_iload_n hx hb dX0_findPart_69 rfl (lv_at hl 1 rfl) ?_
      obtain ⟨r_2, hc_2, hf⟩ := bn1_ok hf
      refine gc_i (wc := (cf_2 cI h2 h2a2 h2a3 h2a4 h2a5 h2a6 h2a7 s2)) (wr := (cf_014 cI h0 h1 h4 h4a0 h4a1 h4a2 h2 s0 s1 s4)) (w1 := (cf_2 cI h2 h2a2 h2a3 h2a4 h2a5 h2a6 h2a7 s2)) (ws' := (cf_0124 cI h0 h1 h2 h2a2 h2a3 h2a4 h2a5 h2a6 h2a7 h4 h4a0 h4a1 h4a2 s0 s1 s2 s4)) hP hD hS hA [2, 3, 4, 5, 6, 7, 8] [0, 1, 9, 10, 11, 12] [0, 1, 6, 7, 8, 9, 10, 11, 12, 2, 3, 4, 5] rfl rfl (by decide) (by decide) rfl (by decide) (va_runV (As := [.int a1]) (rest := []) ⟨hx, hb, hml, hown, hts⟩ (ktX2_hasPhrase l dC dI cI h2 h2a2 h2a3 h2a4 h2a5 h2a6 h2a7 _ s2 a1 r_2 hc_2) (cwV 1 hts gX0_findPart_X2_hasPhrase rfl rfl rfl (by decide +kernel) ⟨Nat.le_of_ble_eq_true rfl, Nat.le_of_ble_eq_true rfl⟩) (gc_V (ci := 2) (q0 := 0) (C := RX2) (T := TX2) (N := 8) (hP.sub (ws' := (cf_2 cI h2 h2a2 h2a3 h2a4 h2a5 h2a6 h2a7 s2)) [2, 3, 4, 5, 6, 7, 8] rfl) (hK.sub (tys' := [(cI, .int)]) [0] rfl) (hD.sub (ws' := (cf_2 cI h2 h2a2 h2a3 h2a4 h2a5 h2a6 h2a7 s2)) [2, 3, 4, 5, 6, 7, 8] (by decide) rfl) hN rfl rfl) rfl rfl hl.1 rfl (lv_room (Nat.le_of_ble_eq_true rfl)) dX0_findPart_70 ⟨Nat.zero_le _, Nat.zero_le _⟩) (fun H locs hP hD hS => ?_)
      refine lv_if_ne (tgt := 78) hx hb dX0_findPart_73 (by decide) (fun c_3 => ?_) (fun c_3 => ?_)
      · have hf := it_f c_3 hf
        refine lv_aload_n hx hb dX0_findPart_78 rfl (lv_at hl 0 rfl) ?_
        refine va_get (D := (dC, dI)) (ci := 0) (v := .ref h2) (C := RX0) (T := TX0) (N := 9) hx hb hts in0 hown hK hP 0 rfl rfl 1 (by decide) fl15 (fun _ h9 => h9) rfl dX0_findPart_79 ?_
        refine va_getN (D := (dC, dI)) (ci := 2) (v := .ref h2a3) (C := RX2) (T := TX2) (N := 8) hx hb hts in2 hown hK hP 2 rfl rfl 3 (by decide) fl85 (fun _ h9 => h9) rfl dX0_findPart_82 ?_
        refine lv_iload_n hx hb dX0_findPart_85 rfl (lv_at hl 1 rfl) ?_
        obtain ⟨hi_4, hf⟩ := ai_ok hf
        refine va_iald (n := 24) (f := (S2_kinds s2)) hx hb hK hP 4 0 rfl rfl hi_4 dX0_findPart_86 ?_
        by_cases c_5 : ((S2_kinds s2) a1.toNatClampNeg) = 11
        · have hf := it_t c_5 hf
          refine lv_lookup (off := 43) (tgt := 130) hx hb dX0_findPart_87 (by decide) (by rw [c_5]; rfl) (by decide) ?_
          refine lv_aload_n hx hb dX0_findPart_130 rfl (lv_at hl 0 rfl) ?_
          refine lv_aload_n hx hb dX0_findPart_131 rfl (lv_at hl 0 rfl) ?_
          refine lv_iload_n hx hb dX0_findPart_132 rfl (lv_at hl 1 rfl) ?_
          obtain ⟨r_6, hc_6, hf⟩ := bn1_ok hf
          refine gc_i (wc := (cf_024 cI h0 h2 h2a2 h2a3 h2a4 h2a5 h2a6 h2a7 h4 h4a0 h4a1 h4a2 h1 s0 s2 s4)) (wr := (cf_1 cI h1 s1)) (w1 := (cf_024 cI h0 h2 h2a2 h2a3 h2a4 h2a5 h2a6 h2a7 h4 h4a0 h4a1 h4a2 h1 s0 s2 s4)) (ws' := (cf_0124 cI h0 h1 h2 h2a2 h2a3 h2a4 h2a5 h2a6 h2a7 h4 h4a0 h4a1 h4a2 s0 s1 s2 s4)) hP hD hS hA [0, 2, 3, 4, 5, 6, 7, 8, 9, 10, 11, 12] [1] [1, 0, 2, 3, 4, 5, 6, 7, 8, 9, 10, 11, 12] rfl rfl (by decide) (by decide) rfl (by decide) (va_runV (As := [.int a1]) (rest := [.ref h0]) ⟨hx, hb, hml, hown, hts⟩ (ktX0_fitting l dC dI cI h0 h2 h2a2 h2a3 h2a4 h2a5 h2a6 h2a7 h4 h4a0 h4a1 h4a2 h1 _ s0 s2 s4 a1 r_6 hc_6) (cwV 1 hts gX0_findPart_X0_fitting rfl rfl rfl (by decide +kernel) ⟨Nat.le_of_ble_eq_true rfl, Nat.le_of_ble_eq_true rfl⟩) (gc_V (ci := 0) (q0 := 0) (C := RX0) (T := TX0) (N := 9) (hP.sub (ws' := (cf_024 cI h0 h2 h2a2 h2a3 h2a4 h2a5 h2a6 h2a7 h4 h4a0 h4a1 h4a2 h1 s0 s2 s4)) [0, 2, 3, 4, 5, 6, 7, 8, 9, 10, 11, 12] rfl) (hK.sub (tys' := [(cI, .int)]) [0] rfl) (hD.sub (ws' := (cf_024 cI h0 h2 h2a2 h2a3 h2a4 h2a5 h2a6 h2a7 h4 h4a0 h4a1 h4a2 h1 s0 s2 s4)) [0, 2, 3, 4, 5, 6, 7, 8, 9, 10, 11, 12] (by decide) rfl) hN rfl rfl) rfl rfl hl.1 rfl (lv_room (Nat.le_of_ble_eq_true rfl)) dX0_findPart_133 ⟨Nat.zero_le _, Nat.zero_le _⟩) (fun H locs hP hD hS => ?_)
          refine lv_iload_n hx hb dX0_findPart_136 rfl (lv_at hl 2 rfl) ?_
          refine lv_iand hx hb dX0_findPart_137 ?_
          refine lv_iload_n hx hb dX0_findPart_138 rfl (lv_at hl 3 rfl) ?_
          refine lv_iconst (v := (-1)) hx hb dX0_findPart_139 (by decide) ?_
          refine lv_ixor hx hb dX0_findPart_140 ?_
          refine lv_iand hx hb dX0_findPart_141 ?_
          refine lv_iload_n hx hb dX0_findPart_142 rfl (lv_at hl 1 rfl) ?_
          obtain ⟨r_7, s0_7, hc_7, hf⟩ := bn2_ok hf
          refine gc_i (wc := (cf_0 cI h0 h4 h2 h1 s0)) (wr := (cf_124 cI h1 h2 h2a2 h2a3 h2a4 h2a5 h2a6 h2a7 h4 h4a0 h4a1 h4a2 s1 s2 s4)) (w1 := (cf_0 cI h0 h4 h2 h1 s0_7)) (ws' := (cf_0124 cI h0 h1 h2 h2a2 h2a3 h2a4 h2a5 h2a6 h2a7 h4 h4a0 h4a1 h4a2 s0_7 s1 s2 s4)) hP hD hS hA [0] [1, 2, 3, 4, 5, 6, 7, 8, 9, 10, 11, 12] [12, 0, 1, 2, 3, 4, 5, 6, 7, 8, 9, 10, 11] rfl rfl (by decide) (by decide) rfl (by decide) (va_runV (As := [.int ((r_6 &&& a2) &&& (x3 ^^^ (-1))), .int a1]) (rest := []) ⟨hx, hb, hml, hown, hts⟩ (ktX0_orNothing l dC dI cI h0 h4 h2 h1 _ s0 ((r_6 &&& a2) &&& (x3 ^^^ (-1))) a1 r_7 s0_7 hc_7) (cwV 2 hts gX0_findPart_X0_orNothing rfl rfl rfl (by decide +kernel) ⟨Nat.le_of_ble_eq_true rfl, Nat.le_of_ble_eq_true rfl⟩) (gc_V (ci := 0) (q0 := 0) (C := RX0) (T := TX0) (N := 9) (hP.sub (ws' := (cf_0 cI h0 h4 h2 h1 s0)) [0] rfl) (hK.sub (tys' := [(cI, .int)]) [0] rfl) (hD.sub (ws' := (cf_0 cI h0 h4 h2 h1 s0)) [0] (by decide) rfl) hN rfl rfl) rfl rfl hl.1 rfl (lv_room (Nat.le_of_ble_eq_true rfl)) dX0_findPart_143 ⟨Nat.zero_le _, Nat.zero_le _⟩) (fun H locs hP hD hS => ?_)
          have hf : (some (r_7, s0_7) : Option (Int32 × S0)) = some (r, s0f) := hf
          have he := Option.some.inj hf
          have he0 : r_7 = r := congrArg (fun q => q.1) he
          have he1 : s0_7 = s0f := congrArg (fun q => q.2) he
          exact hret _ _ _ _ _ _ he0 (by rw [← he1]) dX0_findPart_146 hP hD hS
        have hf := it_f c_5 hf
        by_cases c_8 : ((S2_kinds s2) a1.toNatClampNeg) = 15
        · have hf := it_t c_8 hf
          refine lv_lookup (off := 25) (tgt := 112) hx hb dX0_findPart_87 (by decide) (by rw [c_8]; rfl) (by decide) ?_
          refine lv_aload_n hx hb dX0_findPart_112 rfl (lv_at hl 0 rfl) ?_
          refine lv_aload_n hx hb dX0_findPart_113 rfl (lv_at hl 0 rfl) ?_
          refine va_get (D := (dC, dI)) (ci := 0) (v := .ref h1) (C := RX0) (T := TX0) (N := 9) hx hb hts in0 hown hK hP 0 rfl rfl 2 (by decide) fl19 (fun _ h9 => h9) rfl dX0_findPart_114 ?_
          refine va_getN (D := (dC, dI)) (ci := 1) (v := .int (S1_lastMeant s1)) (C := RX1) (T := TX1) (N := 5) hx hb hts in1 hown hK hP 1 rfl rfl 1 (by decide) fl89 (fun _ h9 => h9) rfl dX0_findPart_117 ?_
          refine lv_aload_n hx hb dX0_findPart_120 rfl (lv_at hl 0 rfl) ?_
          refine va_get (D := (dC, dI)) (ci := 0) (v := .int (S0_reach s0)) (C := RX0) (T := TX0) (N := 9) hx hb hts in0 hown hK hP 0 rfl rfl 3 (by decide) fl27 (fun _ h9 => h9) rfl dX0_findPart_121 ?_
          refine lv_iand hx hb dX0_findPart_124 ?_
          refine lv_iload_n hx hb dX0_findPart_125 rfl (lv_at hl 1 rfl) ?_
          obtain ⟨r_9, s0_9, hc_9, hf⟩ := bn2_ok hf
          refine gc_i (wc := (cf_0 cI h0 h4 h2 h1 s0)) (wr := (cf_124 cI h1 h2 h2a2 h2a3 h2a4 h2a5 h2a6 h2a7 h4 h4a0 h4a1 h4a2 s1 s2 s4)) (w1 := (cf_0 cI h0 h4 h2 h1 s0_9)) (ws' := (cf_0124 cI h0 h1 h2 h2a2 h2a3 h2a4 h2a5 h2a6 h2a7 h4 h4a0 h4a1 h4a2 s0_9 s1 s2 s4)) hP hD hS hA [0] [1, 2, 3, 4, 5, 6, 7, 8, 9, 10, 11, 12] [12, 0, 1, 2, 3, 4, 5, 6, 7, 8, 9, 10, 11] rfl rfl (by decide) (by decide) rfl (by decide) (va_runV (As := [.int ((S1_lastMeant s1) &&& (S0_reach s0)), .int a1]) (rest := []) ⟨hx, hb, hml, hown, hts⟩ (ktX0_orNothing l dC dI cI h0 h4 h2 h1 _ s0 ((S1_lastMeant s1) &&& (S0_reach s0)) a1 r_9 s0_9 hc_9) (cwV 2 hts gX0_findPart_X0_orNothing rfl rfl rfl (by decide +kernel) ⟨Nat.le_of_ble_eq_true rfl, Nat.le_of_ble_eq_true rfl⟩) (gc_V (ci := 0) (q0 := 0) (C := RX0) (T := TX0) (N := 9) (hP.sub (ws' := (cf_0 cI h0 h4 h2 h1 s0)) [0] rfl) (hK.sub (tys' := [(cI, .int)]) [0] rfl) (hD.sub (ws' := (cf_0 cI h0 h4 h2 h1 s0)) [0] (by decide) rfl) hN rfl rfl) rfl rfl hl.1 rfl (lv_room (Nat.le_of_ble_eq_true rfl)) dX0_findPart_126 ⟨Nat.zero_le _, Nat.zero_le _⟩) (fun H locs hP hD hS => ?_)
          have hf : (some (r_9, s0_9) : Option (Int32 × S0)) = some (r, s0f) := hf
          have he := Option.some.inj hf
          have he0 : r_9 = r := congrArg (fun q => q.1) he
          have he1 : s0_9 = s0f := congrArg (fun q => q.2) he
          exact hret _ _ _ _ _ _ he0 (by rw [← he1]) dX0_findPart_129 hP hD hS
        have hf := it_f c_8 hf
        have KD : W p l e rmX0_findPart s m ([.ref h0, .int a1, .int a2] : List Value).toArray below meth c H locs 0 0 QQ (F0 m 147 ls []) := by
          refine lv_aload_n hx hb dX0_findPart_147 rfl (lv_at hl 0 rfl) ?_
          refine lv_iload_n hx hb dX0_findPart_148 rfl (lv_at hl 1 rfl) ?_
          refine lv_iload_n hx hb dX0_findPart_149 rfl (lv_at hl 2 rfl) ?_
          obtain ⟨r_10, s0_10, hc_10, hf⟩ := bn2_ok hf
          refine gc_i (wc := (cf_0124 cI h0 h1 h2 h2a2 h2a3 h2a4 h2a5 h2a6 h2a7 h4 h4a0 h4a1 h4a2 s0 s1 s2 s4)) (wr := ([] : va_W)) (w1 := (cf_0124 cI h0 h1 h2 h2a2 h2a3 h2a4 h2a5 h2a6 h2a7 h4 h4a0 h4a1 h4a2 s0_10 s1 s2 s4)) (ws' := (cf_0124 cI h0 h1 h2 h2a2 h2a3 h2a4 h2a5 h2a6 h2a7 h4 h4a0 h4a1 h4a2 s0_10 s1 s2 s4)) hP hD hS hA [0, 1, 2, 3, 4, 5, 6, 7, 8, 9, 10, 11, 12] [] [0, 1, 2, 3, 4, 5, 6, 7, 8, 9, 10, 11, 12] rfl rfl (by decide) (by decide) rfl (by decide) (va_runV (As := [.int a1, .int a2]) (rest := []) ⟨hx, hb, hml, hown, hts⟩ (ktX0_findSingle l dC dI cI h0 h1 h2 h2a2 h2a3 h2a4 h2a5 h2a6 h2a7 h4 h4a0 h4a1 h4a2 _ s0 s1 s2 s4 a1 a2 r_10 s0_10 hc_10) (cwV 2 hts gX0_findPart_X0_findSingle rfl rfl rfl (by decide +kernel) ⟨Nat.le_of_ble_eq_true rfl, Nat.le_of_ble_eq_true rfl⟩) (gc_V (ci := 0) (q0 := 0) (C := RX0) (T := TX0) (N := 9) (hP.sub (ws' := (cf_0124 cI h0 h1 h2 h2a2 h2a3 h2a4 h2a5 h2a6 h2a7 h4 h4a0 h4a1 h4a2 s0 s1 s2 s4)) [0, 1, 2, 3, 4, 5, 6, 7, 8, 9, 10, 11, 12] rfl) (hK.sub (tys' := [(cI, .int)]) [0] rfl) (hD.sub (ws' := (cf_0124 cI h0 h1 h2 h2a2 h2a3 h2a4 h2a5 h2a6 h2a7 h4 h4a0 h4a1 h4a2 s0 s1 s2 s4)) [0, 1, 2, 3, 4, 5, 6, 7, 8, 9, 10, 11, 12] (by decide) rfl) hN rfl rfl) rfl rfl hl.1 rfl (lv_room (Nat.le_of_ble_eq_true rfl)) dX0_findPart_150 ⟨Nat.zero_le _, Nat.zero_le _⟩) (fun H locs hP hD hS => ?_)
          have hf : (some (r_10, s0_10) : Option (Int32 × S0)) = some (r, s0f) := hf
          have he := Option.some.inj hf
          have he0 : r_10 = r := congrArg (fun q => q.1) he
          have he1 : s0_10 = s0f := congrArg (fun q => q.2) he
          exact hret _ _ _ _ _ _ he0 (by rw [← he1]) dX0_findPart_153 hP hD hS
        exact lv_lookup (off := 60) (tgt := 147) hx hb dX0_findPart_87 (by decide) (show Op.lookupswitch.offset [(11, 43), (15, 25)] (60) (((S2_kinds s2) a1.toNatClampNeg)).toInt = _ from (lv_osw c_5 (show (11 : Int32).toInt = 11 from rfl)).trans ((lv_osw c_8 (show (15 : Int32).toInt = 15 from rfl)).trans (rfl))) (by decide) KD
      · have hf := it_t c_3 hf
        exact J76 s0 _ _ hP hD hS _ (lv_sub hl [] rfl) hf
  have J7 : ∀ (n : Nat) (s0 : S0) (x3 : Int32) (x4 : Int32) (H : Heap) (locs : List Loc), va_P (dC, dI) vwCl (cf_0124 cI h0 h1 h2 h2a2 h2a3 h2a4 h2a5 h2a6 h2a7 h4 h4a0 h4a1 h4a2 s0 s1 s2 s4) H → va_D A (cf_0124 cI h0 h1 h2 h2a2 h2a3 h2a4 h2a5 h2a6 h2a7 h4 h4a0 h4a1 h4a2 s0 s1 s2 s4) → va_S A s.heap H locs → ∀ (ls : Array Slot), lv_has ls 5 [(0, .ref h0), (1, .int a1), (2, .int a2), (3, .int x3), (4, .int x4)] → fX0_findPart_7 s1 s2 s4 a1 a2 n s0 x3 x4 = some (r, s0f) → W p l e rmX0_findPart s m ([.ref h0, .int a1, .int a2] : List Value).toArray below meth c H locs 0 0 QQ (F0 m 7 ls []) := by
    intro n
    induction n with
    | zero =>
      intro s0 x3 x4 H locs hP hD hS ls hl hf
      cases hf
    | succ n ih =>
      intro s0 x3 x4 H locs hP hD hS ls hl hf
      rw [fX0_findPart_7] at hf
      refine lv_iload hx hb dX0_findPart_7 (lv_at hl 4 rfl) ?_
      refine lv_aload_n hx hb dX0_findPart_9 rfl (lv_at hl 0 rfl) ?_
      refine va_get (D := (dC, dI)) (ci := 0) (v := .ref h2) (C := RX0) (T := TX0) (N := 9) hx hb hts in0 hown hK hP 0 rfl rfl 1 (by decide) fl15 (fun _ h9 => h9) rfl dX0_findPart_10 ?_
      refine va_getN (D := (dC, dI)) (ci := 2) (v := .int (S2_count s2)) (C := RX2) (T := TX2) (N := 8) hx hb hts in2 hown hK hP 2 rfl rfl 1 (by decide) fl61 (fun _ h9 => h9) rfl dX0_findPart_13 ?_
      refine lv_icmp_ge (tgt := 58) hx hb dX0_findPart_16 (by decide) (fun c_1 => ?_) (fun c_1 => ?_)
      · have hf := it_t c_1 hf
        exact J58 s0 x3 _ _ hP hD hS _ (lv_sub hl [0, 1, 2, 3] rfl) hf
      · have hf := it_f c_1 hf
        refine lv_aload_n hx hb dX0_findPart_19 rfl (lv_at hl 0 rfl) ?_
        refine va_get (D := (dC, dI)) (ci := 0) (v := .int (S0_result s0)) (C := RX0) (T := TX0) (N := 9) hx hb hts in0 hown hK hP 0 rfl rfl 4 (by decide) fl31 (fun _ h9 => h9) rfl dX0_findPart_20 ?_
        refine lv_if_ne (tgt := 58) hx hb dX0_findPart_23 (by decide) (fun c_2 => ?_) (fun c_2 => ?_)
        · have hf := it_f c_2 hf
          exact J58 s0 x3 _ _ hP hD hS _ (lv_sub hl [0, 1, 2, 3] rfl) hf
        · have hf := it_t c_2 hf
          refine lv_aload_n hx hb dX0_findPart_26 rfl (lv_at hl 0 rfl) ?_
          refine va_get (D := (dC, dI)) (ci := 0) (v := .ref h2) (C := RX0) (T := TX0) (N := 9) hx hb hts in0 hown hK hP 0 rfl rfl 1 (by decide) fl15 (fun _ h9 => h9) rfl dX0_findPart_27 ?_
          refine lv_iload hx hb dX0_findPart_30 (lv_at hl 4 rfl) ?_
          obtain ⟨r_3, hc_3, hf⟩ := bn1_ok hf
          refine gc_i (wc := (cf_2 cI h2 h2a2 h2a3 h2a4 h2a5 h2a6 h2a7 s2)) (wr := (cf_014 cI h0 h1 h4 h4a0 h4a1 h4a2 h2 s0 s1 s4)) (w1 := (cf_2 cI h2 h2a2 h2a3 h2a4 h2a5 h2a6 h2a7 s2)) (ws' := (cf_0124 cI h0 h1 h2 h2a2 h2a3 h2a4 h2a5 h2a6 h2a7 h4 h4a0 h4a1 h4a2 s0 s1 s2 s4)) hP hD hS hA [2, 3, 4, 5, 6, 7, 8] [0, 1, 9, 10, 11, 12] [0, 1, 6, 7, 8, 9, 10, 11, 12, 2, 3, 4, 5] rfl rfl (by decide) (by decide) rfl (by decide) (va_runV (As := [.int x4]) (rest := []) ⟨hx, hb, hml, hown, hts⟩ (ktX2_roleOf l dC dI cI h2 h2a2 h2a3 h2a4 h2a5 h2a6 h2a7 _ s2 x4 r_3 hc_3) (cwV 1 hts gX0_findPart_X2_roleOf rfl rfl rfl (by decide +kernel) ⟨Nat.le_of_ble_eq_true rfl, Nat.le_of_ble_eq_true rfl⟩) (gc_V (ci := 2) (q0 := 0) (C := RX2) (T := TX2) (N := 8) (hP.sub (ws' := (cf_2 cI h2 h2a2 h2a3 h2a4 h2a5 h2a6 h2a7 s2)) [2, 3, 4, 5, 6, 7, 8] rfl) (hK.sub (tys' := [(cI, .int)]) [0] rfl) (hD.sub (ws' := (cf_2 cI h2 h2a2 h2a3 h2a4 h2a5 h2a6 h2a7 s2)) [2, 3, 4, 5, 6, 7, 8] (by decide) rfl) hN rfl rfl) rfl rfl hl.1 rfl (lv_room (Nat.le_of_ble_eq_true rfl)) dX0_findPart_32 ⟨Nat.zero_le _, Nat.zero_le _⟩) (fun H locs hP hD hS => ?_)
          refine lv_iconst (v := 1) hx hb dX0_findPart_35 (by decide) ?_
          refine lv_icmp_eq (tgt := 42) hx hb dX0_findPart_36 (by decide) (fun c_4 => ?_) (fun c_4 => ?_)
          · have hf := it_t c_4 hf
            refine lv_iload_n hx hb dX0_findPart_42 rfl (lv_at hl 3 rfl) ?_
            refine lv_aload_n hx hb dX0_findPart_43 rfl (lv_at hl 0 rfl) ?_
            refine lv_iload hx hb dX0_findPart_44 (lv_at hl 4 rfl) ?_
            refine lv_iload_n hx hb dX0_findPart_46 rfl (lv_at hl 2 rfl) ?_
            obtain ⟨r_5, s0_5, hc_5, hf⟩ := bn2_ok hf
            refine gc_i (wc := (cf_0124 cI h0 h1 h2 h2a2 h2a3 h2a4 h2a5 h2a6 h2a7 h4 h4a0 h4a1 h4a2 s0 s1 s2 s4)) (wr := ([] : va_W)) (w1 := (cf_0124 cI h0 h1 h2 h2a2 h2a3 h2a4 h2a5 h2a6 h2a7 h4 h4a0 h4a1 h4a2 s0_5 s1 s2 s4)) (ws' := (cf_0124 cI h0 h1 h2 h2a2 h2a3 h2a4 h2a5 h2a6 h2a7 h4 h4a0 h4a1 h4a2 s0_5 s1 s2 s4)) hP hD hS hA [0, 1, 2, 3, 4, 5, 6, 7, 8, 9, 10, 11, 12] [] [0, 1, 2, 3, 4, 5, 6, 7, 8, 9, 10, 11, 12] rfl rfl (by decide) (by decide) rfl (by decide) (va_runV (As := [.int x4, .int a2]) (rest := [.int x3]) ⟨hx, hb, hml, hown, hts⟩ (ktX0_findSingle l dC dI cI h0 h1 h2 h2a2 h2a3 h2a4 h2a5 h2a6 h2a7 h4 h4a0 h4a1 h4a2 _ s0 s1 s2 s4 x4 a2 r_5 s0_5 hc_5) (cwV 2 hts gX0_findPart_X0_findSingle rfl rfl rfl (by decide +kernel) ⟨Nat.le_of_ble_eq_true rfl, Nat.le_of_ble_eq_true rfl⟩) (gc_V (ci := 0) (q0 := 0) (C := RX0) (T := TX0) (N := 9) (hP.sub (ws' := (cf_0124 cI h0 h1 h2 h2a2 h2a3 h2a4 h2a5 h2a6 h2a7 h4 h4a0 h4a1 h4a2 s0 s1 s2 s4)) [0, 1, 2, 3, 4, 5, 6, 7, 8, 9, 10, 11, 12] rfl) (hK.sub (tys' := [(cI, .int)]) [0] rfl) (hD.sub (ws' := (cf_0124 cI h0 h1 h2 h2a2 h2a3 h2a4 h2a5 h2a6 h2a7 h4 h4a0 h4a1 h4a2 s0 s1 s2 s4)) [0, 1, 2, 3, 4, 5, 6, 7, 8, 9, 10, 11, 12] (by decide) rfl) hN rfl rfl) rfl rfl hl.1 rfl (lv_room (Nat.le_of_ble_eq_true rfl)) dX0_findPart_47 ⟨Nat.zero_le _, Nat.zero_le _⟩) (fun H locs hP hD hS => ?_)
            refine lv_ior hx hb dX0_findPart_50 ?_
            refine lv_istore_n (lv' := [(3, .int (x3 ||| r_5)), (0, .ref h0), (1, .int a1), (2, .int a2), (4, .int x4)]) hx hb dX0_findPart_51 rfl hl (by decide) rfl (fun ls hl => ?_)
            refine lv_iinc (v := (x4 + 1)) (lv' := [(4, .int (x4 + 1)), (3, .int (x3 ||| r_5)), (0, .ref h0), (1, .int a1), (2, .int a2)]) hx hb dX0_findPart_52 hl (k := 4) rfl rfl (by decide) rfl (fun ls hl => ?_)
            refine lv_goto (tgt := 7) hx hb dX0_findPart_55 (by decide) ?_
            exact ih s0_5 (x3 ||| r_5) (x4 + 1) _ _ hP hD hS _ (lv_sub hl [2, 3, 4, 1, 0] rfl) hf
          · have hf := it_f c_4 hf
            refine lv_goto (tgt := 58) hx hb dX0_findPart_39 (by decide) ?_
            exact J58 s0 x3 _ _ hP hD hS _ (lv_sub hl [0, 1, 2, 3] rfl) hf
  unfold fX0_findPart at hf
  refine lv_iconst (v := 0) hx hb dX0_findPart_0 (by decide) ?_
  refine lv_istore_n (lv' := [(3, .int 0), (0, .ref h0), (1, .int a1), (2, .int a2)]) hx hb dX0_findPart_1 rfl hl (by decide) rfl (fun ls hl => ?_)
  refine lv_iload_n hx hb dX0_findPart_2 rfl (lv_at hl 2 rfl) ?_
  refine lv_iconst (v := 1) hx hb dX0_findPart_3 (by decide) ?_
  refine lv_iadd hx hb dX0_findPart_4 ?_
  refine lv_istore (lv' := [(4, .int (a1 + 1)), (3, .int 0), (0, .ref h0), (1, .int a1), (2, .int a2)]) hx hb dX0_findPart_5 hl (by decide) rfl (fun ls hl => ?_)
  exact J7 64 s0 0 (a1 + 1) _ _ hP hD hS _ (lv_sub hl [2, 3, 4, 1, 0] rfl) hf
abbrev rmX0_onlyOf : Room := { frames := 1, cells := 0, slots := 0, locals := 21 }
set_option maxHeartbeats 2000000 in
set_option maxRecDepth 100000 in
theorem ktX0_onlyOf (l : Launch) (dC : Nat → ClassId) (dI : Nat → Nat → Nat) (cI : ClassId) (h0 h4 h2 h1 : Nat) (sz : Nat) (s0 : S0) (a1 : Int32) (r : Int32) (hf : fX0_onlyOf s0 a1 = some r) : Met l yX0_onlyOf wsX0_onlyOf rmX0_onlyOf (va_Pc [.ref h0, .int a1] (pre_w (dC, dI) (cf_0 cI h0 h4 h2 h1 s0) [(cI, .int)] sz)) (va_Qi (fun (r' : Int32) (_ : Unit) => r' = r) (post_w (dC, dI) (cf_0 cI h0 h4 h2 h1 s0) [(cI, .int)] (va_A (cf_0 cI h0 h4 h2 h1 s0) sz)) (va_A (cf_0 cI h0 h4 h2 h1 s0) sz)) 0 0 (va_A (cf_0 cI h0 h4 h2 h1 s0) sz) := by
  refine gm_i (cc := cX0_onlyOf) (maxL := 3) (by decide) rfl (Nat.le_of_ble_eq_true rfl) ?_
  intro p e s m below meth c A QQ ls hx hb hml hown hts hK hN hA hP hD hS hl hret
  have hown : s.vm.findClass RX0 = some m.cls := hown
  have hl : lv_has ls 3 [(0, .ref h0), (1, .int a1)] := hl
  have J2 : ∀ (n : Nat) (x2 : Int32) (H : Heap) (locs : List Loc), va_P (dC, dI) vwCl (cf_0 cI h0 h4 h2 h1 s0) H → va_D A (cf_0 cI h0 h4 h2 h1 s0) → va_S A s.heap H locs → ∀ (ls : Array Slot), lv_has ls 3 [(1, .int a1), (2, .int x2)] → fX0_onlyOf_2 s0 a1 n x2 = some r → W p l e rmX0_onlyOf s m ([.ref h0, .int a1] : List Value).toArray below meth c H locs 0 0 QQ (F0 m 2 ls []) := by
    intro n
    induction n with
    | zero =>
      intro x2 H locs hP hD hS ls hl hf
      cases hf
    | succ n ih =>
      intro x2 H locs hP hD hS ls hl hf
      rw [fX0_onlyOf_2] at hf
      refine lv_iload_n hx hb dX0_onlyOf_2 rfl (lv_at hl 1 rfl) ?_
      refine lv_bipush (v := 12) hx hb dX0_onlyOf_3 (by decide) ?_
      refine lv_icmp_ge (tgt := 24) hx hb dX0_onlyOf_5 (by decide) (fun c_1 => ?_) (fun c_1 => ?_)
      · have hf := it_t c_1 hf
        refine lv_iconst (v := (-1)) hx hb dX0_onlyOf_24 (by decide) ?_
        have hf : (some (-1) : Option (Int32)) = some r := hf
        have he := Option.some.inj hf
        have he0 : (-1) = r := he
        exact hret _ _ _ _ _ _ he0 rfl dX0_onlyOf_25 hP hD hS
      · have hf := it_f c_1 hf
        refine lv_iload_n hx hb dX0_onlyOf_8 rfl (lv_at hl 0 rfl) ?_
        refine lv_iload_n hx hb dX0_onlyOf_9 rfl (lv_at hl 1 rfl) ?_
        obtain ⟨r_2, hc_2, hf⟩ := bn1_ok hf
        refine gc_i (wc := ([] : va_W)) (wr := (cf_0 cI h0 h4 h2 h1 s0)) (w1 := ([] : va_W)) (ws' := (cf_0 cI h0 h4 h2 h1 s0)) hP hD hS hA [] [0] [0] rfl rfl (by decide) (by decide) rfl (by decide) (va_runSN (As := [.int a1, .int x2]) (rest := []) ⟨hx, hb, hml, hown, hts⟩ (ktX5_contains l dC dI _ a1 x2 r_2 hc_2) ⟨va_cnB (host := RX5) 2 hts ggX0_onlyOf_X5_contains rfl rfl rfl (hN _ (List.mem_of_getElem? (i := 28) rfl)) (hts (.initialized RX5) (by decide +kernel)) (by decide +kernel) ⟨Nat.le_of_ble_eq_true rfl, Nat.le_of_ble_eq_true rfl⟩, hts (.static yX5_contains) (by decide +kernel), trivial⟩ (gc_S (hP.sub (ws' := ([] : va_W)) [] rfl) (hK.sub (tys' := []) [] rfl) (hD.sub (ws' := ([] : va_W)) [] (by decide) rfl) hN) rfl rfl hl.1 rfl (lv_room (Nat.le_of_ble_eq_true rfl)) dX0_onlyOf_10 ⟨Nat.zero_le _, Nat.zero_le _⟩) (fun H locs hP hD hS => ?_)
        refine lv_if_eq (tgt := 18) hx hb dX0_onlyOf_13 (by decide) (fun c_3 => ?_) (fun c_3 => ?_)
        · have hf := it_t c_3 hf
          refine lv_iinc (v := (x2 + 1)) (lv' := [(2, .int (x2 + 1)), (1, .int a1)]) hx hb dX0_onlyOf_18 hl (k := 1) rfl rfl (by decide) rfl (fun ls hl => ?_)
          refine lv_goto (tgt := 2) hx hb dX0_onlyOf_21 (by decide) ?_
          exact ih (x2 + 1) _ _ hP hD hS _ (lv_sub hl [1, 0] rfl) hf
        · have hf := it_f c_3 hf
          refine lv_iload_n hx hb dX0_onlyOf_16 rfl (lv_at hl 1 rfl) ?_
          have hf : (some x2 : Option (Int32)) = some r := hf
          have he := Option.some.inj hf
          have he0 : x2 = r := he
          exact hret _ _ _ _ _ _ he0 rfl dX0_onlyOf_17 hP hD hS
  unfold fX0_onlyOf at hf
  refine lv_iconst (v := 0) hx hb dX0_onlyOf_0 (by decide) ?_
  refine lv_istore_n (lv' := [(2, .int 0), (0, .ref h0), (1, .int a1)]) hx hb dX0_onlyOf_1 rfl hl (by decide) rfl (fun ls hl => ?_)
  exact J2 64 0 _ _ hP hD hS _ (lv_sub hl [2, 0] rfl) hf
abbrev rmX0_start : Room := { frames := 0, cells := 0, slots := 0, locals := 0 }
set_option maxHeartbeats 2000000 in
set_option maxRecDepth 100000 in
theorem ktX0_start (l : Launch) (dC : Nat → ClassId) (dI : Nat → Nat → Nat) (cI : ClassId) (h0 h4 h2 h1 : Nat) (sz : Nat) (s0 : S0) (a1 : Int32) (s0f : S0) (hf : fX0_start s0 a1 = some s0f) : Met l yX0_start wsX0_start rmX0_start (va_Pc [.ref h0, .int a1] (pre_w (dC, dI) (cf_0 cI h0 h4 h2 h1 s0) [(cI, .int)] sz)) (va_Qv (fun (_ : Unit) => True) (post_w (dC, dI) (cf_0 cI h0 h4 h2 h1 s0f) [(cI, .int)] (va_A (cf_0 cI h0 h4 h2 h1 s0) sz)) (va_A (cf_0 cI h0 h4 h2 h1 s0) sz)) 0 0 (va_A (cf_0 cI h0 h4 h2 h1 s0) sz) := by
  refine gm_v (cc := cX0_start) (maxL := 2) (by decide) rfl (Nat.le_of_ble_eq_true rfl) ?_
  intro p e s m below meth c A QQ ls hx hb hml hown hts hK hN hA hP hD hS hl hret
  have hown : s.vm.findClass RX0 = some m.cls := hown
  have hl : lv_has ls 2 [(0, .ref h0), (1, .int a1)] := hl
  have in0 : ∀ w ∈ u_ws RX0 TX0 9, w ∈ wsX0_start := by decide +kernel
  have fl27 := hts (.fieldLink RX0 27 "ParserParlour$Meaning" "reach" "I") (by decide +kernel)
  have fl31 := hts (.fieldLink RX0 31 "ParserParlour$Meaning" "result" "I") (by decide +kernel)
  have fl34 := hts (.fieldLink RX0 34 "ParserParlour$Meaning" "group" "I") (by decide +kernel)
  have fl37 := hts (.fieldLink RX0 37 "ParserParlour$Meaning" "target" "I") (by decide +kernel)
  have fl40 := hts (.fieldLink RX0 40 "ParserParlour$Meaning" "openPhrase" "I") (by decide +kernel)
  have fl43 := hts (.fieldLink RX0 43 "ParserParlour$Meaning" "choice" "I") (by decide +kernel)
  unfold fX0_start at hf
  refine lv_aload_n hx hb dX0_start_0 rfl (lv_at hl 0 rfl) ?_
  refine lv_iload_n hx hb dX0_start_1 rfl (lv_at hl 1 rfl) ?_
  refine va_put (D := (dC, dI)) (ci := 0) (v := .int a1) (ty := .int) (C := RX0) (T := TX0) (N := 9) hx hb hts in0 tyX0 tyX0_ok nmX0 hown hK hP hD hS 0 rfl rfl 3 (by decide) fl27 (fun _ h9 => h9) rfl (by decide +kernel) rfl rfl (Nat.le_of_ble_eq_true rfl) dX0_start_2 (fun H locs hP hD hS => ?_)
  have hP : va_P (dC, dI) vwCl (cf_0 cI h0 h4 h2 h1 (S0_set_reach s0 a1)) H := hP
  have hD : va_D A (cf_0 cI h0 h4 h2 h1 (S0_set_reach s0 a1)) := hD
  refine lv_aload_n hx hb dX0_start_5 rfl (lv_at hl 0 rfl) ?_
  refine lv_iconst (v := 0) hx hb dX0_start_6 (by decide) ?_
  refine va_put (D := (dC, dI)) (ci := 0) (v := .int 0) (ty := .int) (C := RX0) (T := TX0) (N := 9) hx hb hts in0 tyX0 tyX0_ok nmX0 hown hK hP hD hS 0 rfl rfl 4 (by decide) fl31 (fun _ h9 => h9) rfl (by decide +kernel) rfl rfl (Nat.le_of_ble_eq_true rfl) dX0_start_7 (fun H locs hP hD hS => ?_)
  have hP : va_P (dC, dI) vwCl (cf_0 cI h0 h4 h2 h1 (S0_set_result (S0_set_reach s0 a1) 0)) H := hP
  have hD : va_D A (cf_0 cI h0 h4 h2 h1 (S0_set_result (S0_set_reach s0 a1) 0)) := hD
  refine lv_aload_n hx hb dX0_start_10 rfl (lv_at hl 0 rfl) ?_
  refine lv_iconst (v := 0) hx hb dX0_start_11 (by decide) ?_
  refine va_put (D := (dC, dI)) (ci := 0) (v := .int 0) (ty := .int) (C := RX0) (T := TX0) (N := 9) hx hb hts in0 tyX0 tyX0_ok nmX0 hown hK hP hD hS 0 rfl rfl 5 (by decide) fl34 (fun _ h9 => h9) rfl (by decide +kernel) rfl rfl (Nat.le_of_ble_eq_true rfl) dX0_start_12 (fun H locs hP hD hS => ?_)
  have hP : va_P (dC, dI) vwCl (cf_0 cI h0 h4 h2 h1 (S0_set_group (S0_set_result (S0_set_reach s0 a1) 0) 0)) H := hP
  have hD : va_D A (cf_0 cI h0 h4 h2 h1 (S0_set_group (S0_set_result (S0_set_reach s0 a1) 0) 0)) := hD
  refine lv_aload_n hx hb dX0_start_15 rfl (lv_at hl 0 rfl) ?_
  refine lv_iconst (v := (-1)) hx hb dX0_start_16 (by decide) ?_
  refine va_put (D := (dC, dI)) (ci := 0) (v := .int (-1)) (ty := .int) (C := RX0) (T := TX0) (N := 9) hx hb hts in0 tyX0 tyX0_ok nmX0 hown hK hP hD hS 0 rfl rfl 6 (by decide) fl37 (fun _ h9 => h9) rfl (by decide +kernel) rfl rfl (Nat.le_of_ble_eq_true rfl) dX0_start_17 (fun H locs hP hD hS => ?_)
  have hP : va_P (dC, dI) vwCl (cf_0 cI h0 h4 h2 h1 (S0_set_target (S0_set_group (S0_set_result (S0_set_reach s0 a1) 0) 0) (-1))) H := hP
  have hD : va_D A (cf_0 cI h0 h4 h2 h1 (S0_set_target (S0_set_group (S0_set_result (S0_set_reach s0 a1) 0) 0) (-1))) := hD
  refine lv_aload_n hx hb dX0_start_20 rfl (lv_at hl 0 rfl) ?_
  refine lv_iconst (v := (-1)) hx hb dX0_start_21 (by decide) ?_
  refine va_put (D := (dC, dI)) (ci := 0) (v := .int (-1)) (ty := .int) (C := RX0) (T := TX0) (N := 9) hx hb hts in0 tyX0 tyX0_ok nmX0 hown hK hP hD hS 0 rfl rfl 7 (by decide) fl40 (fun _ h9 => h9) rfl (by decide +kernel) rfl rfl (Nat.le_of_ble_eq_true rfl) dX0_start_22 (fun H locs hP hD hS => ?_)
  have hP : va_P (dC, dI) vwCl (cf_0 cI h0 h4 h2 h1 (S0_set_openPhrase (S0_set_target (S0_set_group (S0_set_result (S0_set_reach s0 a1) 0) 0) (-1)) (-1))) H := hP
  have hD : va_D A (cf_0 cI h0 h4 h2 h1 (S0_set_openPhrase (S0_set_target (S0_set_group (S0_set_result (S0_set_reach s0 a1) 0) 0) (-1)) (-1))) := hD
  refine lv_aload_n hx hb dX0_start_25 rfl (lv_at hl 0 rfl) ?_
  refine lv_iconst (v := 0) hx hb dX0_start_26 (by decide) ?_
  refine va_put (D := (dC, dI)) (ci := 0) (v := .int 0) (ty := .int) (C := RX0) (T := TX0) (N := 9) hx hb hts in0 tyX0 tyX0_ok nmX0 hown hK hP hD hS 0 rfl rfl 8 (by decide) fl43 (fun _ h9 => h9) rfl (by decide +kernel) rfl rfl (Nat.le_of_ble_eq_true rfl) dX0_start_27 (fun H locs hP hD hS => ?_)
  have hP : va_P (dC, dI) vwCl (cf_0 cI h0 h4 h2 h1 (S0_set_choice (S0_set_openPhrase (S0_set_target (S0_set_group (S0_set_result (S0_set_reach s0 a1) 0) 0) (-1)) (-1)) 0)) H := hP
  have hD : va_D A (cf_0 cI h0 h4 h2 h1 (S0_set_choice (S0_set_openPhrase (S0_set_target (S0_set_group (S0_set_result (S0_set_reach s0 a1) 0) 0) (-1)) (-1)) 0)) := hD
  have hf : (some (S0_set_choice (S0_set_openPhrase (S0_set_target (S0_set_group (S0_set_result (S0_set_reach s0 a1) 0) 0) (-1)) (-1)) 0) : Option (S0)) = some s0f := hf
  have he := Option.some.inj hf
  have he0 : (S0_set_choice (S0_set_openPhrase (S0_set_target (S0_set_group (S0_set_result (S0_set_reach s0 a1) 0) 0) (-1)) (-1)) 0) = s0f := he
  exact hret _ _ _ _ _ (by rw [← he0]) dX0_start_30 hP hD hS
abbrev rmX0_find : Room := { frames := 4, cells := 0, slots := 0, locals := 95 }
set_option maxHeartbeats 2000000 in
set_option maxRecDepth 100000 in
theorem ktX0_find (l : Launch) (dC : Nat → ClassId) (dI : Nat → Nat → Nat) (cI : ClassId) (h0 h1 h2 h2a2 h2a3 h2a4 h2a5 h2a6 h2a7 h4 h4a0 h4a1 h4a2 : Nat) (sz : Nat) (s0 : S0) (s1 : S1) (s2 : S2) (s4 : S4) (r : Int32) (s0f : S0) (hf : fX0_find s0 s1 s2 s4 = some (r, s0f)) : Met l yX0_find wsX0_find rmX0_find (va_Pc [.ref h0] (pre_w (dC, dI) (cf_0124 cI h0 h1 h2 h2a2 h2a3 h2a4 h2a5 h2a6 h2a7 h4 h4a0 h4a1 h4a2 s0 s1 s2 s4) [(cI, .int)] sz)) (va_Qi (fun (r' : Int32) (_ : Unit) => r' = r) (post_w (dC, dI) (cf_0124 cI h0 h1 h2 h2a2 h2a3 h2a4 h2a5 h2a6 h2a7 h4 h4a0 h4a1 h4a2 s0f s1 s2 s4) [(cI, .int)] (va_A (cf_0124 cI h0 h1 h2 h2a2 h2a3 h2a4 h2a5 h2a6 h2a7 h4 h4a0 h4a1 h4a2 s0 s1 s2 s4) sz)) (va_A (cf_0124 cI h0 h1 h2 h2a2 h2a3 h2a4 h2a5 h2a6 h2a7 h4 h4a0 h4a1 h4a2 s0 s1 s2 s4) sz)) 0 0 (va_A (cf_0124 cI h0 h1 h2 h2a2 h2a3 h2a4 h2a5 h2a6 h2a7 h4 h4a0 h4a1 h4a2 s0 s1 s2 s4) sz) := by
  refine gm_i (cc := cX0_find) (maxL := 4) (by decide) rfl (Nat.le_of_ble_eq_true rfl) ?_
  intro p e s m below meth c A QQ ls hx hb hml hown hts hK hN hA hP hD hS hl hret
  have hown : s.vm.findClass RX0 = some m.cls := hown
  have hl : lv_has ls 4 [(0, .ref h0)] := hl
  have in0 : ∀ w ∈ u_ws RX0 TX0 9, w ∈ wsX0_find := by decide +kernel
  have fl9 := hts (.fieldLink RX0 9 "ParserParlour$Meaning" "world" "LParserParlour$World;") (by decide +kernel)
  have fl15 := hts (.fieldLink RX0 15 "ParserParlour$Meaning" "order" "LParserParlour$Order;") (by decide +kernel)
  have in2 : ∀ w ∈ u_ws RX2 TX2 8, w ∈ wsX0_find := by decide +kernel
  have fl52 := va_Nw.use (A := ([.ref h0] : List Value).toArray) (by rfl) (hN _ (List.mem_of_getElem? (i := 9) rfl))
  have fl61 := va_Nw.use (A := ([.ref h0] : List Value).toArray) (by rfl) (hN _ (List.mem_of_getElem? (i := 11) rfl))
  have fl31 := hts (.fieldLink RX0 31 "ParserParlour$Meaning" "result" "I") (by decide +kernel)
  have fl34 := hts (.fieldLink RX0 34 "ParserParlour$Meaning" "group" "I") (by decide +kernel)
  have fl37 := hts (.fieldLink RX0 37 "ParserParlour$Meaning" "target" "I") (by decide +kernel)
  have J110 : ∀ (s0 : S0) (H : Heap) (locs : List Loc), va_P (dC, dI) vwCl (cf_0124 cI h0 h1 h2 h2a2 h2a3 h2a4 h2a5 h2a6 h2a7 h4 h4a0 h4a1 h4a2 s0 s1 s2 s4) H → va_D A (cf_0124 cI h0 h1 h2 h2a2 h2a3 h2a4 h2a5 h2a6 h2a7 h4 h4a0 h4a1 h4a2 s0 s1 s2 s4) → va_S A s.heap H locs → ∀ (ls : Array Slot), lv_has ls 4 [(0, .ref h0)] → fX0_find_110 s1 s2 s4 s0 = some (r, s0f) → W p l e rmX0_find s m ([.ref h0] : List Value).toArray below meth c H locs 0 0 QQ (F0 m 110 ls []) := by
    intro  s0 H locs hP hD hS ls hl hf
    unfold fX0_find_110 at hf
    refine lv_aload_n hx hb dX0_find_110 rfl (lv_at hl 0 rfl) ?_
    refine va_get (D := (dC, dI)) (ci := 0) (v := .int (S0_result s0)) (C := RX0) (T := TX0) (N := 9) hx hb hts in0 hown hK hP 0 rfl rfl 4 (by decide) fl31 (fun _ h9 => h9) rfl dX0_find_111 ?_
    have hf : (some ((S0_result s0), s0) : Option (Int32 × S0)) = some (r, s0f) := hf
    have he := Option.some.inj hf
    have he0 : (S0_result s0) = r := congrArg (fun q => q.1) he
    have he1 : s0 = s0f := congrArg (fun q => q.2) he
    exact hret _ _ _ _ _ _ he0 (by rw [← he1]) dX0_find_114 hP hD hS
  have J104 : ∀ (k28 : S0 → Int32 → Int32 → Option (Int32 × S0)) (hk28 : ∀ (s0 : S0) (x1 : Int32) (x2 : Int32) (H : Heap) (locs : List Loc), va_P (dC, dI) vwCl (cf_0124 cI h0 h1 h2 h2a2 h2a3 h2a4 h2a5 h2a6 h2a7 h4 h4a0 h4a1 h4a2 s0 s1 s2 s4) H → va_D A (cf_0124 cI h0 h1 h2 h2a2 h2a3 h2a4 h2a5 h2a6 h2a7 h4 h4a0 h4a1 h4a2 s0 s1 s2 s4) → va_S A s.heap H locs → ∀ (ls : Array Slot), lv_has ls 4 [(0, .ref h0), (1, .int x1), (2, .int x2)] → k28 s0 x1 x2 = some (r, s0f) → W p l e rmX0_find s m ([.ref h0] : List Value).toArray below meth c H locs 0 0 QQ (F0 m 28 ls [])) (s0 : S0) (x1 : Int32) (x2 : Int32) (H : Heap) (locs : List Loc), va_P (dC, dI) vwCl (cf_0124 cI h0 h1 h2 h2a2 h2a3 h2a4 h2a5 h2a6 h2a7 h4 h4a0 h4a1 h4a2 s0 s1 s2 s4) H → va_D A (cf_0124 cI h0 h1 h2 h2a2 h2a3 h2a4 h2a5 h2a6 h2a7 h4 h4a0 h4a1 h4a2 s0 s1 s2 s4) → va_S A s.heap H locs → ∀ (ls : Array Slot), lv_has ls 4 [(0, .ref h0), (1, .int x1), (2, .int x2)] → fX0_find_104 s1 s2 s4 k28 s0 x1 x2 = some (r, s0f) → W p l e rmX0_find s m ([.ref h0] : List Value).toArray below meth c H locs 0 0 QQ (F0 m 104 ls []) := by
    intro k28 hk28 s0 x1 x2 H locs hP hD hS ls hl hf
    unfold fX0_find_104 at hf
    refine lv_iinc (v := (x2 + 1)) (lv' := [(2, .int (x2 + 1)), (0, .ref h0), (1, .int x1)]) hx hb dX0_find_104 hl (k := 2) rfl rfl (by decide) rfl (fun ls hl => ?_)
    refine lv_goto (tgt := 28) hx hb dX0_find_107 (by decide) ?_
    exact hk28 s0 x1 (x2 + 1) _ _ hP hD hS _ (lv_sub hl [1, 2, 0] rfl) hf
  have J28 : ∀ (n : Nat) (s0 : S0) (x1 : Int32) (x2 : Int32) (H : Heap) (locs : List Loc), va_P (dC, dI) vwCl (cf_0124 cI h0 h1 h2 h2a2 h2a3 h2a4 h2a5 h2a6 h2a7 h4 h4a0 h4a1 h4a2 s0 s1 s2 s4) H → va_D A (cf_0124 cI h0 h1 h2 h2a2 h2a3 h2a4 h2a5 h2a6 h2a7 h4 h4a0 h4a1 h4a2 s0 s1 s2 s4) → va_S A s.heap H locs → ∀ (ls : Array Slot), lv_has ls 4 [(0, .ref h0), (1, .int x1), (2, .int x2)] → fX0_find_28 s1 s2 s4 n s0 x1 x2 = some (r, s0f) → W p l e rmX0_find s m ([.ref h0] : List Value).toArray below meth c H locs 0 0 QQ (F0 m 28 ls []) := by
    intro n
    induction n with
    | zero =>
      intro s0 x1 x2 H locs hP hD hS ls hl hf
      cases hf
    | succ n ih =>
      intro s0 x1 x2 H locs hP hD hS ls hl hf
      rw [fX0_find_28] at hf
      refine lv_iload_n hx hb dX0_find_28 rfl (lv_at hl 2 rfl) ?_
      refine lv_aload_n hx hb dX0_find_29 rfl (lv_at hl 0 rfl) ?_
      refine va_get (D := (dC, dI)) (ci := 0) (v := .ref h2) (C := RX0) (T := TX0) (N := 9) hx hb hts in0 hown hK hP 0 rfl rfl 1 (by decide) fl15 (fun _ h9 => h9) rfl dX0_find_30 ?_
      refine va_getN (D := (dC, dI)) (ci := 2) (v := .int (S2_count s2)) (C := RX2) (T := TX2) (N := 8) hx hb hts in2 hown hK hP 2 rfl rfl 1 (by decide) fl61 (fun _ h9 => h9) rfl dX0_find_33 ?_
      refine lv_icmp_ge (tgt := 110) hx hb dX0_find_36 (by decide) (fun c_1 => ?_) (fun c_1 => ?_)
      · have hf := it_t c_1 hf
        exact J110 s0 _ _ hP hD hS _ (lv_sub hl [0] rfl) hf
      · have hf := it_f c_1 hf
        refine lv_aload_n hx hb dX0_find_39 rfl (lv_at hl 0 rfl) ?_
        refine va_get (D := (dC, dI)) (ci := 0) (v := .int (S0_result s0)) (C := RX0) (T := TX0) (N := 9) hx hb hts in0 hown hK hP 0 rfl rfl 4 (by decide) fl31 (fun _ h9 => h9) rfl dX0_find_40 ?_
        refine lv_if_ne (tgt := 110) hx hb dX0_find_43 (by decide) (fun c_2 => ?_) (fun c_2 => ?_)
        · have hf := it_f c_2 hf
          exact J110 s0 _ _ hP hD hS _ (lv_sub hl [0] rfl) hf
        · have hf := it_t c_2 hf
          refine lv_aload_n hx hb dX0_find_46 rfl (lv_at hl 0 rfl) ?_
          refine va_get (D := (dC, dI)) (ci := 0) (v := .ref h2) (C := RX0) (T := TX0) (N := 9) hx hb hts in0 hown hK hP 0 rfl rfl 1 (by decide) fl15 (fun _ h9 => h9) rfl dX0_find_47 ?_
          refine lv_iload_n hx hb dX0_find_50 rfl (lv_at hl 2 rfl) ?_
          obtain ⟨r_3, hc_3, hf⟩ := bn1_ok hf
          refine gc_i (wc := (cf_2 cI h2 h2a2 h2a3 h2a4 h2a5 h2a6 h2a7 s2)) (wr := (cf_014 cI h0 h1 h4 h4a0 h4a1 h4a2 h2 s0 s1 s4)) (w1 := (cf_2 cI h2 h2a2 h2a3 h2a4 h2a5 h2a6 h2a7 s2)) (ws' := (cf_0124 cI h0 h1 h2 h2a2 h2a3 h2a4 h2a5 h2a6 h2a7 h4 h4a0 h4a1 h4a2 s0 s1 s2 s4)) hP hD hS hA [2, 3, 4, 5, 6, 7, 8] [0, 1, 9, 10, 11, 12] [0, 1, 6, 7, 8, 9, 10, 11, 12, 2, 3, 4, 5] rfl rfl (by decide) (by decide) rfl (by decide) (va_runV (As := [.int x2]) (rest := []) ⟨hx, hb, hml, hown, hts⟩ (ktX2_roleOf l dC dI cI h2 h2a2 h2a3 h2a4 h2a5 h2a6 h2a7 _ s2 x2 r_3 hc_3) (cwV 1 hts gX0_find_X2_roleOf rfl rfl rfl (by decide +kernel) ⟨Nat.le_of_ble_eq_true rfl, Nat.le_of_ble_eq_true rfl⟩) (gc_V (ci := 2) (q0 := 0) (C := RX2) (T := TX2) (N := 8) (hP.sub (ws' := (cf_2 cI h2 h2a2 h2a3 h2a4 h2a5 h2a6 h2a7 s2)) [2, 3, 4, 5, 6, 7, 8] rfl) (hK.sub (tys' := [(cI, .int)]) [0] rfl) (hD.sub (ws' := (cf_2 cI h2 h2a2 h2a3 h2a4 h2a5 h2a6 h2a7 s2)) [2, 3, 4, 5, 6, 7, 8] (by decide) rfl) hN rfl rfl) rfl rfl hl.1 rfl (lv_room (Nat.le_of_ble_eq_true rfl)) dX0_find_51 ⟨Nat.zero_le _, Nat.zero_le _⟩) (fun H locs hP hD hS => ?_)
          refine lv_istore_n (lv' := [(3, .int r_3), (0, .ref h0), (1, .int x1), (2, .int x2)]) hx hb dX0_find_54 rfl hl (by decide) rfl (fun ls hl => ?_)
          refine lv_iload_n hx hb dX0_find_55 rfl (lv_at hl 0 rfl) ?_
          refine lv_if_ne (tgt := 77) hx hb dX0_find_56 (by decide) (fun c_4 => ?_) (fun c_4 => ?_)
          · have hf := it_f c_4 hf
            refine lv_iload_n hx hb dX0_find_77 rfl (lv_at hl 0 rfl) ?_
            refine lv_iconst (v := 2) hx hb dX0_find_78 (by decide) ?_
            refine lv_icmp_ne (tgt := 104) hx hb dX0_find_79 (by decide) (fun c_5 => ?_) (fun c_5 => ?_)
            · have hf := it_f c_5 hf
              exact J104 (fun s0 x1 x2 => fX0_find_28 s1 s2 s4 n s0 x1 x2) (fun s0 x1 x2 H locs hP hD hS ls hl hf => ih s0 x1 x2 H locs hP hD hS ls hl hf) s0 x1 x2 _ _ hP hD hS _ (lv_sub hl [1, 2, 3] rfl) hf
            · have hf := it_t c_5 hf
              refine lv_aload_n hx hb dX0_find_82 rfl (lv_at hl 1 rfl) ?_
              refine lv_aload_n hx hb dX0_find_83 rfl (lv_at hl 1 rfl) ?_
              refine lv_aload_n hx hb dX0_find_84 rfl (lv_at hl 1 rfl) ?_
              refine lv_iload_n hx hb dX0_find_85 rfl (lv_at hl 3 rfl) ?_
              refine lv_aload_n hx hb dX0_find_86 rfl (lv_at hl 1 rfl) ?_
              refine va_get (D := (dC, dI)) (ci := 0) (v := .ref h4) (C := RX0) (T := TX0) (N := 9) hx hb hts in0 hown hK hP 0 rfl rfl 0 (by decide) fl9 (fun _ h9 => h9) rfl dX0_find_87 ?_
              refine lv_bipush (v := 16) hx hb dX0_find_90 (by decide) ?_
              obtain ⟨r_6, hc_6, hf⟩ := bn1_ok hf
              refine gc_i (wc := (cf_4 cI h4 h4a0 h4a1 h4a2 s4)) (wr := (cf_012 cI h0 h1 h2 h2a2 h2a3 h2a4 h2a5 h2a6 h2a7 h4 s0 s1 s2)) (w1 := (cf_4 cI h4 h4a0 h4a1 h4a2 s4)) (ws' := (cf_0124 cI h0 h1 h2 h2a2 h2a3 h2a4 h2a5 h2a6 h2a7 h4 h4a0 h4a1 h4a2 s0 s1 s2 s4)) hP hD hS hA [9, 10, 11, 12] [0, 1, 2, 3, 4, 5, 6, 7, 8] [0, 1, 2, 3, 4, 5, 6, 7, 8, 9, 10, 11, 12] rfl rfl (by decide) (by decide) rfl (by decide) (va_runV (As := [.int 16]) (rest := [.int x2, .ref h0, .ref h0, .ref h0]) ⟨hx, hb, hml, hown, hts⟩ (ktX4_suited l dC dI cI h4 h4a0 h4a1 h4a2 _ s4 16 r_6 hc_6) (cwV 1 hts gX0_find_X4_suited rfl rfl rfl (by decide +kernel) ⟨Nat.le_of_ble_eq_true rfl, Nat.le_of_ble_eq_true rfl⟩) (gc_V (ci := 4) (q0 := 0) (C := RX4) (T := TX4) (N := 6) (hP.sub (ws' := (cf_4 cI h4 h4a0 h4a1 h4a2 s4)) [9, 10, 11, 12] rfl) (hK.sub (tys' := [(cI, .int)]) [0] rfl) (hD.sub (ws' := (cf_4 cI h4 h4a0 h4a1 h4a2 s4)) [9, 10, 11, 12] (by decide) rfl) hN rfl rfl) rfl rfl hl.1 rfl (lv_room (Nat.le_of_ble_eq_true rfl)) dX0_find_92 ⟨Nat.zero_le _, Nat.zero_le _⟩) (fun H locs hP hD hS => ?_)
              obtain ⟨r_7, s0_7, hc_7, hf⟩ := bn2_ok hf
              refine gc_i (wc := (cf_0124 cI h0 h1 h2 h2a2 h2a3 h2a4 h2a5 h2a6 h2a7 h4 h4a0 h4a1 h4a2 s0 s1 s2 s4)) (wr := ([] : va_W)) (w1 := (cf_0124 cI h0 h1 h2 h2a2 h2a3 h2a4 h2a5 h2a6 h2a7 h4 h4a0 h4a1 h4a2 s0_7 s1 s2 s4)) (ws' := (cf_0124 cI h0 h1 h2 h2a2 h2a3 h2a4 h2a5 h2a6 h2a7 h4 h4a0 h4a1 h4a2 s0_7 s1 s2 s4)) hP hD hS hA [0, 1, 2, 3, 4, 5, 6, 7, 8, 9, 10, 11, 12] [] [0, 1, 2, 3, 4, 5, 6, 7, 8, 9, 10, 11, 12] rfl rfl (by decide) (by decide) rfl (by decide) (va_runV (As := [.int x2, .int r_6]) (rest := [.ref h0, .ref h0]) ⟨hx, hb, hml, hown, hts⟩ (ktX0_findSingle l dC dI cI h0 h1 h2 h2a2 h2a3 h2a4 h2a5 h2a6 h2a7 h4 h4a0 h4a1 h4a2 _ s0 s1 s2 s4 x2 r_6 r_7 s0_7 hc_7) (cwV 2 hts gX0_find_X0_findSingle rfl rfl rfl (by decide +kernel) ⟨Nat.le_of_ble_eq_true rfl, Nat.le_of_ble_eq_true rfl⟩) (gc_V (ci := 0) (q0 := 0) (C := RX0) (T := TX0) (N := 9) (hP.sub (ws' := (cf_0124 cI h0 h1 h2 h2a2 h2a3 h2a4 h2a5 h2a6 h2a7 h4 h4a0 h4a1 h4a2 s0 s1 s2 s4)) [0, 1, 2, 3, 4, 5, 6, 7, 8, 9, 10, 11, 12] rfl) (hK.sub (tys' := [(cI, .int)]) [0] rfl) (hD.sub (ws' := (cf_0124 cI h0 h1 h2 h2a2 h2a3 h2a4 h2a5 h2a6 h2a7 h4 h4a0 h4a1 h4a2 s0 s1 s2 s4)) [0, 1, 2, 3, 4, 5, 6, 7, 8, 9, 10, 11, 12] (by decide) rfl) hN rfl rfl) rfl rfl hl.1 rfl (lv_room (Nat.le_of_ble_eq_true rfl)) dX0_find_95 ⟨Nat.zero_le _, Nat.zero_le _⟩) (fun H locs hP hD hS => ?_)
              obtain ⟨r_8, hc_8, hf⟩ := bn1_ok hf
              refine gc_i (wc := (cf_0 cI h0 h4 h2 h1 s0_7)) (wr := (cf_124 cI h1 h2 h2a2 h2a3 h2a4 h2a5 h2a6 h2a7 h4 h4a0 h4a1 h4a2 s1 s2 s4)) (w1 := (cf_0 cI h0 h4 h2 h1 s0_7)) (ws' := (cf_0124 cI h0 h1 h2 h2a2 h2a3 h2a4 h2a5 h2a6 h2a7 h4 h4a0 h4a1 h4a2 s0_7 s1 s2 s4)) hP hD hS hA [0] [1, 2, 3, 4, 5, 6, 7, 8, 9, 10, 11, 12] [12, 0, 1, 2, 3, 4, 5, 6, 7, 8, 9, 10, 11] rfl rfl (by decide) (by decide) rfl (by decide) (va_runV (As := [.int r_7]) (rest := [.ref h0]) ⟨hx, hb, hml, hown, hts⟩ (ktX0_onlyOf l dC dI cI h0 h4 h2 h1 _ s0_7 r_7 r_8 hc_8) (cwV 1 hts gX0_find_X0_onlyOf rfl rfl rfl (by decide +kernel) ⟨Nat.le_of_ble_eq_true rfl, Nat.le_of_ble_eq_true rfl⟩) (gc_V (ci := 0) (q0 := 0) (C := RX0) (T := TX0) (N := 9) (hP.sub (ws' := (cf_0 cI h0 h4 h2 h1 s0_7)) [0] rfl) (hK.sub (tys' := [(cI, .int)]) [0] rfl) (hD.sub (ws' := (cf_0 cI h0 h4 h2 h1 s0_7)) [0] (by decide) rfl) hN rfl rfl) rfl rfl hl.1 rfl (lv_room (Nat.le_of_ble_eq_true rfl)) dX0_find_98 ⟨Nat.zero_le _, Nat.zero_le _⟩) (fun H locs hP hD hS => ?_)
              refine va_put (D := (dC, dI)) (ci := 0) (v := .int r_8) (ty := .int) (C := RX0) (T := TX0) (N := 9) hx hb hts in0 tyX0 tyX0_ok nmX0 hown hK hP hD hS 0 rfl rfl 6 (by decide) fl37 (fun _ h9 => h9) rfl (by decide +kernel) rfl rfl (Nat.le_of_ble_eq_true rfl) dX0_find_101 (fun H locs hP hD hS => ?_)
              have hP : va_P (dC, dI) vwCl (cf_0124 cI h0 h1 h2 h2a2 h2a3 h2a4 h2a5 h2a6 h2a7 h4 h4a0 h4a1 h4a2 (S0_set_target s0_7 r_8) s1 s2 s4) H := hP
              have hD : va_D A (cf_0124 cI h0 h1 h2 h2a2 h2a3 h2a4 h2a5 h2a6 h2a7 h4 h4a0 h4a1 h4a2 (S0_set_target s0_7 r_8) s1 s2 s4) := hD
              exact J104 (fun s0 x1 x2 => fX0_find_28 s1 s2 s4 n s0 x1 x2) (fun s0 x1 x2 H locs hP hD hS ls hl hf => ih s0 x1 x2 H locs hP hD hS ls hl hf) (S0_set_target s0_7 r_8) x1 x2 _ _ hP hD hS _ (lv_sub hl [1, 2, 3] rfl) hf
          · have hf := it_t c_4 hf
            refine lv_aload_n hx hb dX0_find_59 rfl (lv_at hl 1 rfl) ?_
            refine lv_dup hx hb dX0_find_60 rfl ?_
            refine va_get (D := (dC, dI)) (ci := 0) (v := .int (S0_group s0)) (C := RX0) (T := TX0) (N := 9) hx hb hts in0 hown hK hP 0 rfl rfl 5 (by decide) fl34 (fun _ h9 => h9) rfl dX0_find_61 ?_
            refine lv_aload_n hx hb dX0_find_64 rfl (lv_at hl 1 rfl) ?_
            refine lv_iload_n hx hb dX0_find_65 rfl (lv_at hl 3 rfl) ?_
            refine lv_iload_n hx hb dX0_find_66 rfl (lv_at hl 2 rfl) ?_
            obtain ⟨r_9, s0_9, hc_9, hf⟩ := bn2_ok hf
            refine gc_i (wc := (cf_0124 cI h0 h1 h2 h2a2 h2a3 h2a4 h2a5 h2a6 h2a7 h4 h4a0 h4a1 h4a2 s0 s1 s2 s4)) (wr := ([] : va_W)) (w1 := (cf_0124 cI h0 h1 h2 h2a2 h2a3 h2a4 h2a5 h2a6 h2a7 h4 h4a0 h4a1 h4a2 s0_9 s1 s2 s4)) (ws' := (cf_0124 cI h0 h1 h2 h2a2 h2a3 h2a4 h2a5 h2a6 h2a7 h4 h4a0 h4a1 h4a2 s0_9 s1 s2 s4)) hP hD hS hA [0, 1, 2, 3, 4, 5, 6, 7, 8, 9, 10, 11, 12] [] [0, 1, 2, 3, 4, 5, 6, 7, 8, 9, 10, 11, 12] rfl rfl (by decide) (by decide) rfl (by decide) (va_runV (As := [.int x2, .int x1]) (rest := [.int (S0_group s0), .ref h0]) ⟨hx, hb, hml, hown, hts⟩ (ktX0_findPart l dC dI cI h0 h1 h2 h2a2 h2a3 h2a4 h2a5 h2a6 h2a7 h4 h4a0 h4a1 h4a2 _ s0 s1 s2 s4 x2 x1 r_9 s0_9 hc_9) (cwV 2 hts gX0_find_X0_findPart rfl rfl rfl (by decide +kernel) ⟨Nat.le_of_ble_eq_true rfl, Nat.le_of_ble_eq_true rfl⟩) (gc_V (ci := 0) (q0 := 0) (C := RX0) (T := TX0) (N := 9) (hP.sub (ws' := (cf_0124 cI h0 h1 h2 h2a2 h2a3 h2a4 h2a5 h2a6 h2a7 h4 h4a0 h4a1 h4a2 s0 s1 s2 s4)) [0, 1, 2, 3, 4, 5, 6, 7, 8, 9, 10, 11, 12] rfl) (hK.sub (tys' := [(cI, .int)]) [0] rfl) (hD.sub (ws' := (cf_0124 cI h0 h1 h2 h2a2 h2a3 h2a4 h2a5 h2a6 h2a7 h4 h4a0 h4a1 h4a2 s0 s1 s2 s4)) [0, 1, 2, 3, 4, 5, 6, 7, 8, 9, 10, 11, 12] (by decide) rfl) hN rfl rfl) rfl rfl hl.1 rfl (lv_room (Nat.le_of_ble_eq_true rfl)) dX0_find_67 ⟨Nat.zero_le _, Nat.zero_le _⟩) (fun H locs hP hD hS => ?_)
            refine lv_ior hx hb dX0_find_70 ?_
            refine va_put (D := (dC, dI)) (ci := 0) (v := .int ((S0_group s0) ||| r_9)) (ty := .int) (C := RX0) (T := TX0) (N := 9) hx hb hts in0 tyX0 tyX0_ok nmX0 hown hK hP hD hS 0 rfl rfl 5 (by decide) fl34 (fun _ h9 => h9) rfl (by decide +kernel) rfl rfl (Nat.le_of_ble_eq_true rfl) dX0_find_71 (fun H locs hP hD hS => ?_)
            have hP : va_P (dC, dI) vwCl (cf_0124 cI h0 h1 h2 h2a2 h2a3 h2a4 h2a5 h2a6 h2a7 h4 h4a0 h4a1 h4a2 (S0_set_group s0_9 ((S0_group s0) ||| r_9)) s1 s2 s4) H := hP
            have hD : va_D A (cf_0124 cI h0 h1 h2 h2a2 h2a3 h2a4 h2a5 h2a6 h2a7 h4 h4a0 h4a1 h4a2 (S0_set_group s0_9 ((S0_group s0) ||| r_9)) s1 s2 s4) := hD
            refine lv_goto (tgt := 104) hx hb dX0_find_74 (by decide) ?_
            exact J104 (fun s0 x1 x2 => fX0_find_28 s1 s2 s4 n s0 x1 x2) (fun s0 x1 x2 H locs hP hD hS ls hl hf => ih s0 x1 x2 H locs hP hD hS ls hl hf) (S0_set_group s0_9 ((S0_group s0) ||| r_9)) x1 x2 _ _ hP hD hS _ (lv_sub hl [1, 2, 3] rfl) hf
  unfold fX0_find at hf
  refine lv_aload_n hx hb dX0_find_0 rfl (lv_at hl 0 rfl) ?_
  refine lv_aload_n hx hb dX0_find_1 rfl (lv_at hl 0 rfl) ?_
  refine va_get (D := (dC, dI)) (ci := 0) (v := .ref h4) (C := RX0) (T := TX0) (N := 9) hx hb hts in0 hown hK hP 0 rfl rfl 0 (by decide) fl9 (fun _ h9 => h9) rfl dX0_find_2 ?_
  obtain ⟨r_1, hc_1, hf⟩ := bn1_ok hf
  refine gc_i (wc := (cf_4 cI h4 h4a0 h4a1 h4a2 s4)) (wr := (cf_012 cI h0 h1 h2 h2a2 h2a3 h2a4 h2a5 h2a6 h2a7 h4 s0 s1 s2)) (w1 := (cf_4 cI h4 h4a0 h4a1 h4a2 s4)) (ws' := (cf_0124 cI h0 h1 h2 h2a2 h2a3 h2a4 h2a5 h2a6 h2a7 h4 h4a0 h4a1 h4a2 s0 s1 s2 s4)) hP hD hS hA [9, 10, 11, 12] [0, 1, 2, 3, 4, 5, 6, 7, 8] [0, 1, 2, 3, 4, 5, 6, 7, 8, 9, 10, 11, 12] rfl rfl (by decide) (by decide) rfl (by decide) (va_runV (As := []) (rest := [.ref h0]) ⟨hx, hb, hml, hown, hts⟩ (ktX4_reachable l dC dI cI h4 h4a0 h4a1 h4a2 _ s4 r_1 hc_1) (cwV 0 hts gX0_find_X4_reachable rfl rfl rfl (by decide +kernel) ⟨Nat.le_of_ble_eq_true rfl, Nat.le_of_ble_eq_true rfl⟩) (gc_V (ci := 4) (q0 := 0) (C := RX4) (T := TX4) (N := 6) (hP.sub (ws' := (cf_4 cI h4 h4a0 h4a1 h4a2 s4)) [9, 10, 11, 12] rfl) (hK.sub (tys' := [(cI, .int)]) [0] rfl) (hD.sub (ws' := (cf_4 cI h4 h4a0 h4a1 h4a2 s4)) [9, 10, 11, 12] (by decide) rfl) hN rfl rfl) rfl rfl hl.1 rfl (lv_room (Nat.le_of_ble_eq_true rfl)) dX0_find_5 ⟨Nat.zero_le _, Nat.zero_le _⟩) (fun H locs hP hD hS => ?_)
  obtain ⟨s0_2, hc_2, hf⟩ := bn1_ok hf
  refine gc_v (wc := (cf_0 cI h0 h4 h2 h1 s0)) (wr := (cf_124 cI h1 h2 h2a2 h2a3 h2a4 h2a5 h2a6 h2a7 h4 h4a0 h4a1 h4a2 s1 s2 s4)) (w1 := (cf_0 cI h0 h4 h2 h1 s0_2)) (ws' := (cf_0124 cI h0 h1 h2 h2a2 h2a3 h2a4 h2a5 h2a6 h2a7 h4 h4a0 h4a1 h4a2 s0_2 s1 s2 s4)) hP hD hS hA [0] [1, 2, 3, 4, 5, 6, 7, 8, 9, 10, 11, 12] [12, 0, 1, 2, 3, 4, 5, 6, 7, 8, 9, 10, 11] rfl rfl (by decide) (by decide) rfl (by decide) (va_runV (As := [.int r_1]) (rest := []) ⟨hx, hb, hml, hown, hts⟩ (ktX0_start l dC dI cI h0 h4 h2 h1 _ s0 r_1 s0_2 hc_2) (cwV 1 hts gX0_find_X0_start rfl rfl rfl (by decide +kernel) ⟨Nat.le_of_ble_eq_true rfl, Nat.le_of_ble_eq_true rfl⟩) (gc_V (ci := 0) (q0 := 0) (C := RX0) (T := TX0) (N := 9) (hP.sub (ws' := (cf_0 cI h0 h4 h2 h1 s0)) [0] rfl) (hK.sub (tys' := [(cI, .int)]) [0] rfl) (hD.sub (ws' := (cf_0 cI h0 h4 h2 h1 s0)) [0] (by decide) rfl) hN rfl rfl) rfl rfl hl.1 rfl (lv_room (Nat.le_of_ble_eq_true rfl)) dX0_find_8 ⟨Nat.zero_le _, Nat.zero_le _⟩) (fun H locs hP hD hS => ?_)
  refine lv_aload_n hx hb dX0_find_11 rfl (lv_at hl 0 rfl) ?_
  refine va_get (D := (dC, dI)) (ci := 0) (v := .ref h4) (C := RX0) (T := TX0) (N := 9) hx hb hts in0 hown hK hP 0 rfl rfl 0 (by decide) fl9 (fun _ h9 => h9) rfl dX0_find_12 ?_
  refine lv_aload_n hx hb dX0_find_15 rfl (lv_at hl 0 rfl) ?_
  refine va_get (D := (dC, dI)) (ci := 0) (v := .ref h2) (C := RX0) (T := TX0) (N := 9) hx hb hts in0 hown hK hP 0 rfl rfl 1 (by decide) fl15 (fun _ h9 => h9) rfl dX0_find_16 ?_
  refine va_getN (D := (dC, dI)) (ci := 2) (v := .int (S2_orderVerb s2)) (C := RX2) (T := TX2) (N := 8) hx hb hts in2 hown hK hP 2 rfl rfl 0 (by decide) fl52 (fun _ h9 => h9) rfl dX0_find_19 ?_
  obtain ⟨r_3, hc_3, hf⟩ := bn1_ok hf
  refine gc_i (wc := (cf_4 cI h4 h4a0 h4a1 h4a2 s4)) (wr := (cf_012 cI h0 h1 h2 h2a2 h2a3 h2a4 h2a5 h2a6 h2a7 h4 s0_2 s1 s2)) (w1 := (cf_4 cI h4 h4a0 h4a1 h4a2 s4)) (ws' := (cf_0124 cI h0 h1 h2 h2a2 h2a3 h2a4 h2a5 h2a6 h2a7 h4 h4a0 h4a1 h4a2 s0_2 s1 s2 s4)) hP hD hS hA [9, 10, 11, 12] [0, 1, 2, 3, 4, 5, 6, 7, 8] [0, 1, 2, 3, 4, 5, 6, 7, 8, 9, 10, 11, 12] rfl rfl (by decide) (by decide) rfl (by decide) (va_runV (As := [.int (S2_orderVerb s2)]) (rest := []) ⟨hx, hb, hml, hown, hts⟩ (ktX4_suited l dC dI cI h4 h4a0 h4a1 h4a2 _ s4 (S2_orderVerb s2) r_3 hc_3) (cwV 1 hts gX0_find_X4_suited rfl rfl rfl (by decide +kernel) ⟨Nat.le_of_ble_eq_true rfl, Nat.le_of_ble_eq_true rfl⟩) (gc_V (ci := 4) (q0 := 0) (C := RX4) (T := TX4) (N := 6) (hP.sub (ws' := (cf_4 cI h4 h4a0 h4a1 h4a2 s4)) [9, 10, 11, 12] rfl) (hK.sub (tys' := [(cI, .int)]) [0] rfl) (hD.sub (ws' := (cf_4 cI h4 h4a0 h4a1 h4a2 s4)) [9, 10, 11, 12] (by decide) rfl) hN rfl rfl) rfl rfl hl.1 rfl (lv_room (Nat.le_of_ble_eq_true rfl)) dX0_find_22 ⟨Nat.zero_le _, Nat.zero_le _⟩) (fun H locs hP hD hS => ?_)
  refine lv_istore_n (lv' := [(1, .int r_3), (0, .ref h0)]) hx hb dX0_find_25 rfl hl (by decide) rfl (fun ls hl => ?_)
  refine lv_iconst (v := 0) hx hb dX0_find_26 (by decide) ?_
  refine lv_istore_n (lv' := [(2, .int 0), (1, .int r_3), (0, .ref h0)]) hx hb dX0_find_27 rfl hl (by decide) rfl (fun ls hl => ?_)
  exact J28 64 s0_2 r_3 0 _ _ hP hD hS _ (lv_sub hl [2, 1, 0] rfl) hf
