abbrev rmX5_inReach : Room := { frames := 2, cells := 0, slots := 0, locals := 45 }
set_option maxHeartbeats 2000000 in
set_option maxRecDepth 100000 in
theorem ktX5_inReach (l : Launch) (dC : Nat → ClassId) (dI : Nat → Nat → Nat) (cI : ClassId) (h4 h4a0 h4a1 h4a2 h5 h3 h2 h1 h0 : Nat) (sz : Nat) (s4 : S4) (s5 : S5) (r : Int32) (hf : fX5_inReach s4 s5 = some r) : Met l yX5_inReach wsX5_inReach rmX5_inReach (va_Pc [.ref h5] (pre_w (dC, dI) (cf_45 cI h4 h4a0 h4a1 h4a2 h5 h3 h2 h1 h0 s4 s5) [(cI, .int)] sz)) (va_Qi (fun (r' : Int32) (_ : Unit) => r' = r) (post_w (dC, dI) (cf_45 cI h4 h4a0 h4a1 h4a2 h5 h3 h2 h1 h0 s4 s5) [(cI, .int)] (va_A (cf_45 cI h4 h4a0 h4a1 h4a2 h5 h3 h2 h1 h0 s4 s5) sz)) (va_A (cf_45 cI h4 h4a0 h4a1 h4a2 h5 h3 h2 h1 h0 s4 s5) sz)) 0 0 (va_A (cf_45 cI h4 h4a0 h4a1 h4a2 h5 h3 h2 h1 h0 s4 s5) sz) := by
  refine gm_i (cc := cX5_inReach) (maxL := 1) (by decide) rfl (Nat.le_of_ble_eq_true rfl) ?_
  intro p e s m below meth c A QQ ls hx hb hml hown hts hK hN hA hP hD hS hl hret
  have hown : s.vm.findClass RX5 = some m.cls := hown
  have hl : lv_has ls 1 [(0, .ref h5)] := hl
  have in5 : ∀ w ∈ u_ws RX5 TX5 10, w ∈ wsX5_inReach := by decide +kernel
  have fl12 := hts (.fieldLink RX5 12 "ParserParlour" "world" "LParserParlour$World;") (by decide +kernel)
  unfold fX5_inReach at hf
  refine lv_aload_n hx hb dX5_inReach_0 rfl (lv_at hl 0 rfl) ?_
  refine va_get (D := (dC, dI)) (ci := 5) (v := .ref h4) (C := RX5) (T := TX5) (N := 10) hx hb hts in5 hown hK hP 4 rfl rfl 0 (by decide) fl12 (fun _ h9 => h9) rfl dX5_inReach_1 ?_
  obtain ⟨r_1, hc_1, hf⟩ := bn1_ok hf
  refine gc_i (wc := (cf_4 cI h4 h4a0 h4a1 h4a2 s4)) (wr := (cf_5 cI h5 h4 h3 h2 h1 h0 s5)) (w1 := (cf_4 cI h4 h4a0 h4a1 h4a2 s4)) (ws' := (cf_45 cI h4 h4a0 h4a1 h4a2 h5 h3 h2 h1 h0 s4 s5)) hP hD hS hA [0, 1, 2, 3] [4] [1, 2, 3, 4, 0] rfl rfl (by decide) (by decide) rfl (by decide) (va_runV (As := []) (rest := []) ⟨hx, hb, hml, hown, hts⟩ (ktX4_reachable l dC dI cI h4 h4a0 h4a1 h4a2 _ s4 r_1 hc_1) (cwV 0 hts gX5_inReach_X4_reachable rfl rfl rfl (by decide +kernel) ⟨Nat.le_of_ble_eq_true rfl, Nat.le_of_ble_eq_true rfl⟩) (gc_V (ci := 4) (q0 := 0) (C := RX4) (T := TX4) (N := 6) (hP.sub (ws' := (cf_4 cI h4 h4a0 h4a1 h4a2 s4)) [0, 1, 2, 3] rfl) (hK.sub (tys' := [(cI, .int)]) [0] rfl) (hD.sub (ws' := (cf_4 cI h4 h4a0 h4a1 h4a2 s4)) [0, 1, 2, 3] (by decide) rfl) hN rfl rfl) rfl rfl hl.1 rfl (lv_room (Nat.le_of_ble_eq_true rfl)) dX5_inReach_4 ⟨Nat.zero_le _, Nat.zero_le _⟩) (fun H locs hP hD hS => ?_)
  have hf : (some r_1 : Option (Int32)) = some r := hf
  have he := Option.some.inj hf
  have he0 : r_1 = r := he
  exact hret _ _ _ _ _ _ he0 rfl dX5_inReach_7 hP hD hS
abbrev rmX5_dropQuestion : Room := { frames := 0, cells := 0, slots := 0, locals := 0 }
set_option maxHeartbeats 2000000 in
set_option maxRecDepth 100000 in
theorem ktX5_dropQuestion (l : Launch) (dC : Nat → ClassId) (dI : Nat → Nat → Nat) (cI : ClassId) (h5 h4 h3 h2 h1 h0 : Nat) (sz : Nat) (s5 : S5) (s5f : S5) (hf : fX5_dropQuestion s5 = some s5f) : Met l yX5_dropQuestion wsX5_dropQuestion rmX5_dropQuestion (va_Pc [.ref h5] (pre_w (dC, dI) (cf_5 cI h5 h4 h3 h2 h1 h0 s5) [(cI, .int)] sz)) (va_Qv (fun (_ : Unit) => True) (post_w (dC, dI) (cf_5 cI h5 h4 h3 h2 h1 h0 s5f) [(cI, .int)] (va_A (cf_5 cI h5 h4 h3 h2 h1 h0 s5) sz)) (va_A (cf_5 cI h5 h4 h3 h2 h1 h0 s5) sz)) 0 0 (va_A (cf_5 cI h5 h4 h3 h2 h1 h0 s5) sz) := by
  refine gm_v (cc := cX5_dropQuestion) (maxL := 1) (by decide) rfl (Nat.le_of_ble_eq_true rfl) ?_
  intro p e s m below meth c A QQ ls hx hb hml hown hts hK hN hA hP hD hS hl hret
  have hown : s.vm.findClass RX5 = some m.cls := hown
  have hl : lv_has ls 1 [(0, .ref h5)] := hl
  have in5 : ∀ w ∈ u_ws RX5 TX5 10, w ∈ wsX5_dropQuestion := by decide +kernel
  have fl53 := hts (.fieldLink RX5 53 "ParserParlour" "askedThings" "I") (by decide +kernel)
  have fl56 := hts (.fieldLink RX5 56 "ParserParlour" "askedPhrase" "I") (by decide +kernel)
  unfold fX5_dropQuestion at hf
  refine lv_aload_n hx hb dX5_dropQuestion_0 rfl (lv_at hl 0 rfl) ?_
  refine lv_iconst (v := 0) hx hb dX5_dropQuestion_1 (by decide) ?_
  refine va_put (D := (dC, dI)) (ci := 5) (v := .int 0) (ty := .int) (C := RX5) (T := TX5) (N := 10) hx hb hts in5 tyX5 tyX5_ok nmX5 hown hK hP hD hS 0 rfl rfl 7 (by decide) fl53 (fun _ h9 => h9) rfl (by decide +kernel) rfl rfl (Nat.le_of_ble_eq_true rfl) dX5_dropQuestion_2 (fun H locs hP hD hS => ?_)
  have hP : va_P (dC, dI) vwCl (cf_5 cI h5 h4 h3 h2 h1 h0 (S5_set_askedThings s5 0)) H := hP
  have hD : va_D A (cf_5 cI h5 h4 h3 h2 h1 h0 (S5_set_askedThings s5 0)) := hD
  refine lv_aload_n hx hb dX5_dropQuestion_5 rfl (lv_at hl 0 rfl) ?_
  refine lv_iconst (v := (-1)) hx hb dX5_dropQuestion_6 (by decide) ?_
  refine va_put (D := (dC, dI)) (ci := 5) (v := .int (-1)) (ty := .int) (C := RX5) (T := TX5) (N := 10) hx hb hts in5 tyX5 tyX5_ok nmX5 hown hK hP hD hS 0 rfl rfl 8 (by decide) fl56 (fun _ h9 => h9) rfl (by decide +kernel) rfl rfl (Nat.le_of_ble_eq_true rfl) dX5_dropQuestion_7 (fun H locs hP hD hS => ?_)
  have hP : va_P (dC, dI) vwCl (cf_5 cI h5 h4 h3 h2 h1 h0 (S5_set_askedPhrase (S5_set_askedThings s5 0) (-1))) H := hP
  have hD : va_D A (cf_5 cI h5 h4 h3 h2 h1 h0 (S5_set_askedPhrase (S5_set_askedThings s5 0) (-1))) := hD
  have hf : (some (S5_set_askedPhrase (S5_set_askedThings s5 0) (-1)) : Option (S5)) = some s5f := hf
  have he := Option.some.inj hf
  have he0 : (S5_set_askedPhrase (S5_set_askedThings s5 0) (-1)) = s5f := he
  exact hret _ _ _ _ _ (by rw [← he0]) dX5_dropQuestion_10 hP hD hS
abbrev rmX5_carryOut : Room := { frames := 4, cells := 0, slots := 0, locals := 90 }
set_option maxHeartbeats 2000000 in
set_option maxRecDepth 100000 in
theorem ktX5_carryOut (l : Launch) (dC : Nat → ClassId) (dI : Nat → Nat → Nat) (cI : ClassId) (h0 h1 h2 h2a2 h2a3 h2a4 h2a5 h2a6 h2a7 h4 h4a0 h4a1 h4a2 h5 h3 : Nat) (sz : Nat) (s0 : S0) (s1 : S1) (s2 : S2) (s4 : S4) (s5 : S5) (s1f : S1) (s4f : S4) (hf : fX5_carryOut s0 s1 s2 s4 s5 = some (s1f, s4f)) : Met l yX5_carryOut wsX5_carryOut rmX5_carryOut (va_Pc [.ref h5] (pre_w (dC, dI) (cf_01245 cI h0 h1 h2 h2a2 h2a3 h2a4 h2a5 h2a6 h2a7 h4 h4a0 h4a1 h4a2 h5 h3 s0 s1 s2 s4 s5) [(cI, .int)] sz)) (va_Qv (fun (_ : Unit) => True) (post_w (dC, dI) (cf_01245 cI h0 h1 h2 h2a2 h2a3 h2a4 h2a5 h2a6 h2a7 h4 h4a0 h4a1 h4a2 h5 h3 s0 s1f s2 s4f s5) [(cI, .int)] (va_A (cf_01245 cI h0 h1 h2 h2a2 h2a3 h2a4 h2a5 h2a6 h2a7 h4 h4a0 h4a1 h4a2 h5 h3 s0 s1 s2 s4 s5) sz)) (va_A (cf_01245 cI h0 h1 h2 h2a2 h2a3 h2a4 h2a5 h2a6 h2a7 h4 h4a0 h4a1 h4a2 h5 h3 s0 s1 s2 s4 s5) sz)) 0 0 (va_A (cf_01245 cI h0 h1 h2 h2a2 h2a3 h2a4 h2a5 h2a6 h2a7 h4 h4a0 h4a1 h4a2 h5 h3 s0 s1 s2 s4 s5) sz) := by
  refine gm_v (cc := cX5_carryOut) (maxL := 3) (by decide) rfl (Nat.le_of_ble_eq_true rfl) ?_
  intro p e s m below meth c A QQ ls hx hb hml hown hts hK hN hA hP hD hS hl hret
  have hown : s.vm.findClass RX5 = some m.cls := hown
  have hl : lv_has ls 3 [(0, .ref h5)] := hl
  have in5 : ∀ w ∈ u_ws RX5 TX5 10, w ∈ wsX5_carryOut := by decide +kernel
  have fl42 := hts (.fieldLink RX5 42 "ParserParlour" "meaning" "LParserParlour$Meaning;") (by decide +kernel)
  have in0 : ∀ w ∈ u_ws RX0 TX0 9, w ∈ wsX5_carryOut := by decide +kernel
  have fl201 := va_Nw.use (A := ([.ref h5] : List Value).toArray) (by rfl) (hN _ (List.mem_of_getElem? (i := 22) rfl))
  have fl12 := hts (.fieldLink RX5 12 "ParserParlour" "world" "LParserParlour$World;") (by decide +kernel)
  have fl26 := hts (.fieldLink RX5 26 "ParserParlour" "order" "LParserParlour$Order;") (by decide +kernel)
  have in2 : ∀ w ∈ u_ws RX2 TX2 8, w ∈ wsX5_carryOut := by decide +kernel
  have fl204 := va_Nw.use (A := ([.ref h5] : List Value).toArray) (by rfl) (hN _ (List.mem_of_getElem? (i := 10) rfl))
  have fl207 := va_Nw.use (A := ([.ref h5] : List Value).toArray) (by rfl) (hN _ (List.mem_of_getElem? (i := 23) rfl))
  have fl33 := hts (.fieldLink RX5 33 "ParserParlour" "memory" "LParserParlour$Memory;") (by decide +kernel)
  have J55 : ∀ (k4 : S1 → S4 → Int32 → Int32 → Option (S1 × S4)) (hk4 : ∀ (s1 : S1) (s4 : S4) (x1 : Int32) (x2 : Int32) (H : Heap) (locs : List Loc), va_P (dC, dI) vwCl (cf_01245 cI h0 h1 h2 h2a2 h2a3 h2a4 h2a5 h2a6 h2a7 h4 h4a0 h4a1 h4a2 h5 h3 s0 s1 s2 s4 s5) H → va_D A (cf_01245 cI h0 h1 h2 h2a2 h2a3 h2a4 h2a5 h2a6 h2a7 h4 h4a0 h4a1 h4a2 h5 h3 s0 s1 s2 s4 s5) → va_S A s.heap H locs → ∀ (ls : Array Slot), lv_has ls 3 [(0, .ref h5), (1, .int x1), (2, .int x2)] → k4 s1 s4 x1 x2 = some (s1f, s4f) → W p l e rmX5_carryOut s m ([.ref h5] : List Value).toArray below meth c H locs 0 0 QQ (F0 m 4 ls [])) (s1 : S1) (s4 : S4) (x1 : Int32) (x2 : Int32) (H : Heap) (locs : List Loc), va_P (dC, dI) vwCl (cf_01245 cI h0 h1 h2 h2a2 h2a3 h2a4 h2a5 h2a6 h2a7 h4 h4a0 h4a1 h4a2 h5 h3 s0 s1 s2 s4 s5) H → va_D A (cf_01245 cI h0 h1 h2 h2a2 h2a3 h2a4 h2a5 h2a6 h2a7 h4 h4a0 h4a1 h4a2 h5 h3 s0 s1 s2 s4 s5) → va_S A s.heap H locs → ∀ (ls : Array Slot), lv_has ls 3 [(0, .ref h5), (1, .int x1), (2, .int x2)] → fX5_carryOut_55 s0 s2 s5 k4 s1 s4 x1 x2 = some (s1f, s4f) → W p l e rmX5_carryOut s m ([.ref h5] : List Value).toArray below meth c H locs 0 0 QQ (F0 m 55 ls []) := by
    intro k4 hk4 s1 s4 x1 x2 H locs hP hD hS ls hl hf
    unfold fX5_carryOut_55 at hf
    refine lv_iinc (v := (x2 + 1)) (lv' := [(2, .int (x2 + 1)), (0, .ref h5), (1, .int x1)]) hx hb dX5_carryOut_55 hl (k := 2) rfl rfl (by decide) rfl (fun ls hl => ?_)
    refine lv_goto (tgt := 4) hx hb dX5_carryOut_58 (by decide) ?_
    exact hk4 s1 s4 x1 (x2 + 1) _ _ hP hD hS _ (lv_sub hl [1, 2, 0] rfl) hf
  have J4 : ∀ (n : Nat) (s1 : S1) (s4 : S4) (x1 : Int32) (x2 : Int32) (H : Heap) (locs : List Loc), va_P (dC, dI) vwCl (cf_01245 cI h0 h1 h2 h2a2 h2a3 h2a4 h2a5 h2a6 h2a7 h4 h4a0 h4a1 h4a2 h5 h3 s0 s1 s2 s4 s5) H → va_D A (cf_01245 cI h0 h1 h2 h2a2 h2a3 h2a4 h2a5 h2a6 h2a7 h4 h4a0 h4a1 h4a2 h5 h3 s0 s1 s2 s4 s5) → va_S A s.heap H locs → ∀ (ls : Array Slot), lv_has ls 3 [(0, .ref h5), (1, .int x1), (2, .int x2)] → fX5_carryOut_4 s0 s2 s5 n s1 s4 x1 x2 = some (s1f, s4f) → W p l e rmX5_carryOut s m ([.ref h5] : List Value).toArray below meth c H locs 0 0 QQ (F0 m 4 ls []) := by
    intro n
    induction n with
    | zero =>
      intro s1 s4 x1 x2 H locs hP hD hS ls hl hf
      cases hf
    | succ n ih =>
      intro s1 s4 x1 x2 H locs hP hD hS ls hl hf
      rw [fX5_carryOut_4] at hf
      refine lv_iload_n hx hb dX5_carryOut_4 rfl (lv_at hl 2 rfl) ?_
      refine lv_bipush (v := 12) hx hb dX5_carryOut_5 (by decide) ?_
      refine lv_icmp_ge (tgt := 61) hx hb dX5_carryOut_7 (by decide) (fun c_1 => ?_) (fun c_1 => ?_)
      · have hf := it_t c_1 hf
        refine lv_aload_n hx hb dX5_carryOut_61 rfl (lv_at hl 0 rfl) ?_
        refine va_get (D := (dC, dI)) (ci := 5) (v := .ref h1) (C := RX5) (T := TX5) (N := 10) hx hb hts in5 hown hK hP 13 rfl rfl 3 (by decide) fl33 (fun _ h9 => h9) rfl dX5_carryOut_62 ?_
        refine lv_aload_n hx hb dX5_carryOut_65 rfl (lv_at hl 0 rfl) ?_
        refine va_get (D := (dC, dI)) (ci := 5) (v := .ref h2) (C := RX5) (T := TX5) (N := 10) hx hb hts in5 hown hK hP 13 rfl rfl 2 (by decide) fl26 (fun _ h9 => h9) rfl dX5_carryOut_66 ?_
        refine va_getN (D := (dC, dI)) (ci := 2) (v := .int (S2_orderVerb s2)) (C := RX2) (T := TX2) (N := 8) hx hb hts in2 hown hK hP 2 rfl rfl 0 (by decide) fl204 (fun _ h9 => h9) rfl dX5_carryOut_69 ?_
        refine lv_aload_n hx hb dX5_carryOut_72 rfl (lv_at hl 0 rfl) ?_
        refine va_get (D := (dC, dI)) (ci := 5) (v := .ref h0) (C := RX5) (T := TX5) (N := 10) hx hb hts in5 hown hK hP 13 rfl rfl 4 (by decide) fl42 (fun _ h9 => h9) rfl dX5_carryOut_73 ?_
        refine va_getN (D := (dC, dI)) (ci := 0) (v := .int (S0_group s0)) (C := RX0) (T := TX0) (N := 9) hx hb hts in0 hown hK hP 0 rfl rfl 5 (by decide) fl201 (fun _ h9 => h9) rfl dX5_carryOut_76 ?_
        refine lv_iload_n hx hb dX5_carryOut_79 rfl (lv_at hl 1 rfl) ?_
        refine lv_aload_n hx hb dX5_carryOut_80 rfl (lv_at hl 0 rfl) ?_
        refine va_get (D := (dC, dI)) (ci := 5) (v := .ref h0) (C := RX5) (T := TX5) (N := 10) hx hb hts in5 hown hK hP 13 rfl rfl 4 (by decide) fl42 (fun _ h9 => h9) rfl dX5_carryOut_81 ?_
        refine va_getN (D := (dC, dI)) (ci := 0) (v := .int (S0_target s0)) (C := RX0) (T := TX0) (N := 9) hx hb hts in0 hown hK hP 0 rfl rfl 6 (by decide) fl207 (fun _ h9 => h9) rfl dX5_carryOut_84 ?_
        obtain ⟨s1_2, hc_2, hf⟩ := bn1_ok hf
        refine gc_v (wc := (cf_1 cI h1 s1)) (wr := (cf_0245 cI h0 h2 h2a2 h2a3 h2a4 h2a5 h2a6 h2a7 h4 h4a0 h4a1 h4a2 h5 h1 h3 s0 s2 s4 s5)) (w1 := (cf_1 cI h1 s1_2)) (ws' := (cf_01245 cI h0 h1 h2 h2a2 h2a3 h2a4 h2a5 h2a6 h2a7 h4 h4a0 h4a1 h4a2 h5 h3 s0 s1_2 s2 s4 s5)) hP hD hS hA [1] [0, 2, 3, 4, 5, 6, 7, 8, 9, 10, 11, 12, 13] [0, 13, 1, 2, 3, 4, 5, 6, 7, 8, 9, 10, 11, 12] rfl rfl (by decide) (by decide) rfl (by decide) (va_runV (As := [.int (S2_orderVerb s2), .int (S0_group s0), .int x1, .int (S0_target s0)]) (rest := []) ⟨hx, hb, hml, hown, hts⟩ (ktX1_keep l dC dI cI h1 _ s1 (S2_orderVerb s2) (S0_group s0) x1 (S0_target s0) s1_2 hc_2) (cwV 4 hts gX5_carryOut_X1_keep rfl rfl rfl (by decide +kernel) ⟨Nat.le_of_ble_eq_true rfl, Nat.le_of_ble_eq_true rfl⟩) (gc_V (ci := 1) (q0 := 0) (C := RX1) (T := TX1) (N := 5) (hP.sub (ws' := (cf_1 cI h1 s1)) [1] rfl) (hK.sub (tys' := [(cI, .int)]) [0] rfl) (hD.sub (ws' := (cf_1 cI h1 s1)) [1] (by decide) rfl) hN rfl rfl) rfl rfl hl.1 rfl (lv_room (Nat.le_of_ble_eq_true rfl)) dX5_carryOut_87 ⟨Nat.zero_le _, Nat.zero_le _⟩) (fun H locs hP hD hS => ?_)
        have hf : (some (s1_2, s4) : Option (S1 × S4)) = some (s1f, s4f) := hf
        have he := Option.some.inj hf
        have he0 : s1_2 = s1f := congrArg (fun q => q.1) he
        have he1 : s4 = s4f := congrArg (fun q => q.2) he
        exact hret _ _ _ _ _ (by rw [← he0, ← he1]) dX5_carryOut_90 hP hD hS
      · have hf := it_f c_1 hf
        refine lv_aload_n hx hb dX5_carryOut_10 rfl (lv_at hl 0 rfl) ?_
        refine va_get (D := (dC, dI)) (ci := 5) (v := .ref h0) (C := RX5) (T := TX5) (N := 10) hx hb hts in5 hown hK hP 13 rfl rfl 4 (by decide) fl42 (fun _ h9 => h9) rfl dX5_carryOut_11 ?_
        refine va_getN (D := (dC, dI)) (ci := 0) (v := .int (S0_group s0)) (C := RX0) (T := TX0) (N := 9) hx hb hts in0 hown hK hP 0 rfl rfl 5 (by decide) fl201 (fun _ h9 => h9) rfl dX5_carryOut_14 ?_
        refine lv_iload_n hx hb dX5_carryOut_17 rfl (lv_at hl 2 rfl) ?_
        obtain ⟨r_3, hc_3, hf⟩ := bn1_ok hf
        refine gc_i (wc := ([] : va_W)) (wr := (cf_01245 cI h0 h1 h2 h2a2 h2a3 h2a4 h2a5 h2a6 h2a7 h4 h4a0 h4a1 h4a2 h5 h3 s0 s1 s2 s4 s5)) (w1 := ([] : va_W)) (ws' := (cf_01245 cI h0 h1 h2 h2a2 h2a3 h2a4 h2a5 h2a6 h2a7 h4 h4a0 h4a1 h4a2 h5 h3 s0 s1 s2 s4 s5)) hP hD hS hA [] [0, 1, 2, 3, 4, 5, 6, 7, 8, 9, 10, 11, 12, 13] [0, 1, 2, 3, 4, 5, 6, 7, 8, 9, 10, 11, 12, 13] rfl rfl (by decide) (by decide) rfl (by decide) (va_runS (As := [.int (S0_group s0), .int x2]) (rest := []) ⟨hx, hb, hml, hown, hts⟩ (ktX5_contains l dC dI _ (S0_group s0) x2 r_3 hc_3) (va_cwS 2 hts gX5_carryOut_X5_contains rfl rfl rfl (by decide +kernel) ⟨Nat.le_of_ble_eq_true rfl, Nat.le_of_ble_eq_true rfl⟩) (gc_S (hP.sub (ws' := ([] : va_W)) [] rfl) (hK.sub (tys' := []) [] rfl) (hD.sub (ws' := ([] : va_W)) [] (by decide) rfl) hN) rfl rfl hl.1 rfl (lv_room (Nat.le_of_ble_eq_true rfl)) dX5_carryOut_18 ⟨Nat.zero_le _, Nat.zero_le _⟩) (fun H locs hP hD hS => ?_)
        refine lv_if_eq (tgt := 55) hx hb dX5_carryOut_21 (by decide) (fun c_4 => ?_) (fun c_4 => ?_)
        · have hf := it_t c_4 hf
          exact J55 (fun s1 s4 x1 x2 => fX5_carryOut_4 s0 s2 s5 n s1 s4 x1 x2) (fun s1 s4 x1 x2 H locs hP hD hS ls hl hf => ih s1 s4 x1 x2 H locs hP hD hS ls hl hf) s1 s4 x1 x2 _ _ hP hD hS _ (lv_sub hl [0, 1, 2] rfl) hf
        · have hf := it_f c_4 hf
          refine lv_aload_n hx hb dX5_carryOut_24 rfl (lv_at hl 0 rfl) ?_
          refine va_get (D := (dC, dI)) (ci := 5) (v := .ref h4) (C := RX5) (T := TX5) (N := 10) hx hb hts in5 hown hK hP 13 rfl rfl 0 (by decide) fl12 (fun _ h9 => h9) rfl dX5_carryOut_25 ?_
          refine lv_aload_n hx hb dX5_carryOut_28 rfl (lv_at hl 0 rfl) ?_
          refine va_get (D := (dC, dI)) (ci := 5) (v := .ref h2) (C := RX5) (T := TX5) (N := 10) hx hb hts in5 hown hK hP 13 rfl rfl 2 (by decide) fl26 (fun _ h9 => h9) rfl dX5_carryOut_29 ?_
          refine va_getN (D := (dC, dI)) (ci := 2) (v := .int (S2_orderVerb s2)) (C := RX2) (T := TX2) (N := 8) hx hb hts in2 hown hK hP 2 rfl rfl 0 (by decide) fl204 (fun _ h9 => h9) rfl dX5_carryOut_32 ?_
          refine lv_iload_n hx hb dX5_carryOut_35 rfl (lv_at hl 2 rfl) ?_
          refine lv_aload_n hx hb dX5_carryOut_36 rfl (lv_at hl 0 rfl) ?_
          refine va_get (D := (dC, dI)) (ci := 5) (v := .ref h0) (C := RX5) (T := TX5) (N := 10) hx hb hts in5 hown hK hP 13 rfl rfl 4 (by decide) fl42 (fun _ h9 => h9) rfl dX5_carryOut_37 ?_
          refine va_getN (D := (dC, dI)) (ci := 0) (v := .int (S0_target s0)) (C := RX0) (T := TX0) (N := 9) hx hb hts in0 hown hK hP 0 rfl rfl 6 (by decide) fl207 (fun _ h9 => h9) rfl dX5_carryOut_40 ?_
          obtain ⟨r_5, s4_5, hc_5, hf⟩ := bn2_ok hf
          refine gc_i (wc := (cf_4 cI h4 h4a0 h4a1 h4a2 s4)) (wr := (cf_0125 cI h0 h1 h2 h2a2 h2a3 h2a4 h2a5 h2a6 h2a7 h5 h4 h3 s0 s1 s2 s5)) (w1 := (cf_4 cI h4 h4a0 h4a1 h4a2 s4_5)) (ws' := (cf_01245 cI h0 h1 h2 h2a2 h2a3 h2a4 h2a5 h2a6 h2a7 h4 h4a0 h4a1 h4a2 h5 h3 s0 s1 s2 s4_5 s5)) hP hD hS hA [9, 10, 11, 12] [0, 1, 2, 3, 4, 5, 6, 7, 8, 13] [0, 1, 2, 3, 4, 5, 6, 7, 8, 10, 11, 12, 13, 9] rfl rfl (by decide) (by decide) rfl (by decide) (va_runV (As := [.int (S2_orderVerb s2), .int x2, .int (S0_target s0)]) (rest := []) ⟨hx, hb, hml, hown, hts⟩ (ktX4_perform l dC dI cI h4 h4a0 h4a1 h4a2 _ s4 (S2_orderVerb s2) x2 (S0_target s0) r_5 s4_5 hc_5) (cwV 3 hts gX5_carryOut_X4_perform rfl rfl rfl (by decide +kernel) ⟨Nat.le_of_ble_eq_true rfl, Nat.le_of_ble_eq_true rfl⟩) (gc_V (ci := 4) (q0 := 0) (C := RX4) (T := TX4) (N := 6) (hP.sub (ws' := (cf_4 cI h4 h4a0 h4a1 h4a2 s4)) [9, 10, 11, 12] rfl) (hK.sub (tys' := [(cI, .int)]) [0] rfl) (hD.sub (ws' := (cf_4 cI h4 h4a0 h4a1 h4a2 s4)) [9, 10, 11, 12] (by decide) rfl) hN rfl rfl) rfl rfl hl.1 rfl (lv_room (Nat.le_of_ble_eq_true rfl)) dX5_carryOut_43 ⟨Nat.zero_le _, Nat.zero_le _⟩) (fun H locs hP hD hS => ?_)
          refine lv_if_eq (tgt := 55) hx hb dX5_carryOut_46 (by decide) (fun c_6 => ?_) (fun c_6 => ?_)
          · have hf := it_t c_6 hf
            exact J55 (fun s1 s4 x1 x2 => fX5_carryOut_4 s0 s2 s5 n s1 s4 x1 x2) (fun s1 s4 x1 x2 H locs hP hD hS ls hl hf => ih s1 s4 x1 x2 H locs hP hD hS ls hl hf) s1 s4_5 x1 x2 _ _ hP hD hS _ (lv_sub hl [0, 1, 2] rfl) hf
          · have hf := it_f c_6 hf
            refine lv_iload_n hx hb dX5_carryOut_49 rfl (lv_at hl 1 rfl) ?_
            refine lv_iconst (v := 1) hx hb dX5_carryOut_50 (by decide) ?_
            refine lv_iload_n hx hb dX5_carryOut_51 rfl (lv_at hl 2 rfl) ?_
            refine lv_ishl hx hb dX5_carryOut_52 ?_
            refine lv_ior hx hb dX5_carryOut_53 ?_
            refine lv_istore_n (lv' := [(1, .int (x1 ||| ((1 : Int32) <<< (x2 &&& 31)))), (0, .ref h5), (2, .int x2)]) hx hb dX5_carryOut_54 rfl hl (by decide) rfl (fun ls hl => ?_)
            exact J55 (fun s1 s4 x1 x2 => fX5_carryOut_4 s0 s2 s5 n s1 s4 x1 x2) (fun s1 s4 x1 x2 H locs hP hD hS ls hl hf => ih s1 s4 x1 x2 H locs hP hD hS ls hl hf) s1 s4_5 (x1 ||| ((1 : Int32) <<< (x2 &&& 31))) x2 _ _ hP hD hS _ (lv_sub hl [1, 0, 2] rfl) hf
  unfold fX5_carryOut at hf
  refine lv_iconst (v := 0) hx hb dX5_carryOut_0 (by decide) ?_
  refine lv_istore_n (lv' := [(1, .int 0), (0, .ref h5)]) hx hb dX5_carryOut_1 rfl hl (by decide) rfl (fun ls hl => ?_)
  refine lv_iconst (v := 0) hx hb dX5_carryOut_2 (by decide) ?_
  refine lv_istore_n (lv' := [(2, .int 0), (1, .int 0), (0, .ref h5)]) hx hb dX5_carryOut_3 rfl hl (by decide) rfl (fun ls hl => ?_)
  exact J4 64 s1 s4 0 0 _ _ hP hD hS _ (lv_sub hl [2, 1, 0] rfl) hf
abbrev rmX5_lookAtOrder : Room := { frames := 5, cells := 0, slots := 0, locals := 118 }
set_option maxHeartbeats 2000000 in
set_option maxRecDepth 100000 in
theorem ktX5_lookAtOrder (l : Launch) (dC : Nat → ClassId) (dI : Nat → Nat → Nat) (cI : ClassId) (h0 h1 h2 h2a2 h2a3 h2a4 h2a5 h2a6 h2a7 h4 h4a0 h4a1 h4a2 h5 h3 : Nat) (sz : Nat) (s0 : S0) (s1 : S1) (s2 : S2) (s4 : S4) (s5 : S5) (r : Int32) (s0f : S0) (s1f : S1) (s4f : S4) (s5f : S5) (hf : fX5_lookAtOrder s0 s1 s2 s4 s5 = some (r, s0f, s1f, s4f, s5f)) : Met l yX5_lookAtOrder wsX5_lookAtOrder rmX5_lookAtOrder (va_Pc [.ref h5] (pre_w (dC, dI) (cf_01245 cI h0 h1 h2 h2a2 h2a3 h2a4 h2a5 h2a6 h2a7 h4 h4a0 h4a1 h4a2 h5 h3 s0 s1 s2 s4 s5) [(cI, .int)] sz)) (va_Qi (fun (r' : Int32) (_ : Unit) => r' = r) (post_w (dC, dI) (cf_01245 cI h0 h1 h2 h2a2 h2a3 h2a4 h2a5 h2a6 h2a7 h4 h4a0 h4a1 h4a2 h5 h3 s0f s1f s2 s4f s5f) [(cI, .int)] (va_A (cf_01245 cI h0 h1 h2 h2a2 h2a3 h2a4 h2a5 h2a6 h2a7 h4 h4a0 h4a1 h4a2 h5 h3 s0 s1 s2 s4 s5) sz)) (va_A (cf_01245 cI h0 h1 h2 h2a2 h2a3 h2a4 h2a5 h2a6 h2a7 h4 h4a0 h4a1 h4a2 h5 h3 s0 s1 s2 s4 s5) sz)) 0 0 (va_A (cf_01245 cI h0 h1 h2 h2a2 h2a3 h2a4 h2a5 h2a6 h2a7 h4 h4a0 h4a1 h4a2 h5 h3 s0 s1 s2 s4 s5) sz) := by
  refine gm_i (cc := cX5_lookAtOrder) (maxL := 2) (by decide) rfl (Nat.le_of_ble_eq_true rfl) ?_
  intro p e s m below meth c A QQ ls hx hb hml hown hts hK hN hA hP hD hS hl hret
  have hown : s.vm.findClass RX5 = some m.cls := hown
  have hl : lv_has ls 2 [(0, .ref h5)] := hl
  have in5 : ∀ w ∈ u_ws RX5 TX5 10, w ∈ wsX5_lookAtOrder := by decide +kernel
  have fl42 := hts (.fieldLink RX5 42 "ParserParlour" "meaning" "LParserParlour$Meaning;") (by decide +kernel)
  have fl26 := hts (.fieldLink RX5 26 "ParserParlour" "order" "LParserParlour$Order;") (by decide +kernel)
  have in0 : ∀ w ∈ u_ws RX0 TX0 9, w ∈ wsX5_lookAtOrder := by decide +kernel
  have fl192 := va_Nw.use (A := ([.ref h5] : List Value).toArray) (by rfl) (hN _ (List.mem_of_getElem? (i := 24) rfl))
  have fl50 := hts (.fieldLink RX5 50 "ParserParlour" "wrongPlace" "I") (by decide +kernel)
  have fl195 := va_Nw.use (A := ([.ref h5] : List Value).toArray) (by rfl) (hN _ (List.mem_of_getElem? (i := 25) rfl))
  have fl53 := hts (.fieldLink RX5 53 "ParserParlour" "askedThings" "I") (by decide +kernel)
  have fl56 := hts (.fieldLink RX5 56 "ParserParlour" "askedPhrase" "I") (by decide +kernel)
  have J68 : ∀ (s0 : S0) (s1 : S1) (s4 : S4) (s5 : S5) (x1 : Int32) (H : Heap) (locs : List Loc), va_P (dC, dI) vwCl (cf_01245 cI h0 h1 h2 h2a2 h2a3 h2a4 h2a5 h2a6 h2a7 h4 h4a0 h4a1 h4a2 h5 h3 s0 s1 s2 s4 s5) H → va_D A (cf_01245 cI h0 h1 h2 h2a2 h2a3 h2a4 h2a5 h2a6 h2a7 h4 h4a0 h4a1 h4a2 h5 h3 s0 s1 s2 s4 s5) → va_S A s.heap H locs → ∀ (ls : Array Slot), lv_has ls 2 [(1, .int x1)] → fX5_lookAtOrder_68 s2 s0 s1 s4 s5 x1 = some (r, s0f, s1f, s4f, s5f) → W p l e rmX5_lookAtOrder s m ([.ref h5] : List Value).toArray below meth c H locs 0 0 QQ (F0 m 68 ls []) := by
    intro  s0 s1 s4 s5 x1 H locs hP hD hS ls hl hf
    unfold fX5_lookAtOrder_68 at hf
    refine lv_iload_n hx hb dX5_lookAtOrder_68 rfl (lv_at hl 0 rfl) ?_
    have hf : (some (x1, s0, s1, s4, s5) : Option (Int32 × S0 × S1 × S4 × S5)) = some (r, s0f, s1f, s4f, s5f) := hf
    have he := Option.some.inj hf
    have he0 : x1 = r := congrArg (fun q => q.1) he
    have he1 : s0 = s0f := congrArg (fun q => q.2.1) he
    have he2 : s1 = s1f := congrArg (fun q => q.2.2.1) he
    have he3 : s4 = s4f := congrArg (fun q => q.2.2.2.1) he
    have he4 : s5 = s5f := congrArg (fun q => q.2.2.2.2) he
    exact hret _ _ _ _ _ _ he0 (by rw [← he1, ← he2, ← he3, ← he4]) dX5_lookAtOrder_69 hP hD hS
  unfold fX5_lookAtOrder at hf
  refine lv_aload_n hx hb dX5_lookAtOrder_0 rfl (lv_at hl 0 rfl) ?_
  refine va_get (D := (dC, dI)) (ci := 5) (v := .ref h0) (C := RX5) (T := TX5) (N := 10) hx hb hts in5 hown hK hP 13 rfl rfl 4 (by decide) fl42 (fun _ h9 => h9) rfl dX5_lookAtOrder_1 ?_
  obtain ⟨r_1, s0_1, hc_1, hf⟩ := bn2_ok hf
  refine gc_i (wc := (cf_0124 cI h0 h1 h2 h2a2 h2a3 h2a4 h2a5 h2a6 h2a7 h4 h4a0 h4a1 h4a2 s0 s1 s2 s4)) (wr := (cf_5 cI h5 h4 h3 h2 h1 h0 s5)) (w1 := (cf_0124 cI h0 h1 h2 h2a2 h2a3 h2a4 h2a5 h2a6 h2a7 h4 h4a0 h4a1 h4a2 s0_1 s1 s2 s4)) (ws' := (cf_01245 cI h0 h1 h2 h2a2 h2a3 h2a4 h2a5 h2a6 h2a7 h4 h4a0 h4a1 h4a2 h5 h3 s0_1 s1 s2 s4 s5)) hP hD hS hA [0, 1, 2, 3, 4, 5, 6, 7, 8, 9, 10, 11, 12] [13] [1, 2, 3, 4, 5, 6, 7, 8, 9, 10, 11, 12, 13, 0] rfl rfl (by decide) (by decide) rfl (by decide) (va_runV (As := []) (rest := []) ⟨hx, hb, hml, hown, hts⟩ (ktX0_find l dC dI cI h0 h1 h2 h2a2 h2a3 h2a4 h2a5 h2a6 h2a7 h4 h4a0 h4a1 h4a2 _ s0 s1 s2 s4 r_1 s0_1 hc_1) (cwV 0 hts gX5_lookAtOrder_X0_find rfl rfl rfl (by decide +kernel) ⟨Nat.le_of_ble_eq_true rfl, Nat.le_of_ble_eq_true rfl⟩) (gc_V (ci := 0) (q0 := 0) (C := RX0) (T := TX0) (N := 9) (hP.sub (ws' := (cf_0124 cI h0 h1 h2 h2a2 h2a3 h2a4 h2a5 h2a6 h2a7 h4 h4a0 h4a1 h4a2 s0 s1 s2 s4)) [0, 1, 2, 3, 4, 5, 6, 7, 8, 9, 10, 11, 12] rfl) (hK.sub (tys' := [(cI, .int)]) [0] rfl) (hD.sub (ws' := (cf_0124 cI h0 h1 h2 h2a2 h2a3 h2a4 h2a5 h2a6 h2a7 h4 h4a0 h4a1 h4a2 s0 s1 s2 s4)) [0, 1, 2, 3, 4, 5, 6, 7, 8, 9, 10, 11, 12] (by decide) rfl) hN rfl rfl) rfl rfl hl.1 rfl (lv_room (Nat.le_of_ble_eq_true rfl)) dX5_lookAtOrder_4 ⟨Nat.zero_le _, Nat.zero_le _⟩) (fun H locs hP hD hS => ?_)
  refine lv_istore_n (lv' := [(1, .int r_1), (0, .ref h5)]) hx hb dX5_lookAtOrder_7 rfl hl (by decide) rfl (fun ls hl => ?_)
  refine lv_iload_n hx hb dX5_lookAtOrder_8 rfl (lv_at hl 0 rfl) ?_
  refine lv_iconst (v := 5) hx hb dX5_lookAtOrder_9 (by decide) ?_
  refine lv_icmp_ne (tgt := 34) hx hb dX5_lookAtOrder_10 (by decide) (fun c_2 => ?_) (fun c_2 => ?_)
  · have hf := it_f c_2 hf
    refine lv_iload_n hx hb dX5_lookAtOrder_34 rfl (lv_at hl 0 rfl) ?_
    refine lv_iconst (v := 1) hx hb dX5_lookAtOrder_35 (by decide) ?_
    refine lv_icmp_ne (tgt := 64) hx hb dX5_lookAtOrder_36 (by decide) (fun c_3 => ?_) (fun c_3 => ?_)
    · have hf := it_f c_3 hf
      refine lv_aload_n hx hb dX5_lookAtOrder_64 rfl (lv_at hl 1 rfl) ?_
      obtain ⟨s1_4, s4_4, hc_4, hf⟩ := bn2_ok hf
      refine gc_v (wc := (cf_01245 cI h0 h1 h2 h2a2 h2a3 h2a4 h2a5 h2a6 h2a7 h4 h4a0 h4a1 h4a2 h5 h3 s0_1 s1 s2 s4 s5)) (wr := ([] : va_W)) (w1 := (cf_01245 cI h0 h1 h2 h2a2 h2a3 h2a4 h2a5 h2a6 h2a7 h4 h4a0 h4a1 h4a2 h5 h3 s0_1 s1_4 s2 s4_4 s5)) (ws' := (cf_01245 cI h0 h1 h2 h2a2 h2a3 h2a4 h2a5 h2a6 h2a7 h4 h4a0 h4a1 h4a2 h5 h3 s0_1 s1_4 s2 s4_4 s5)) hP hD hS hA [0, 1, 2, 3, 4, 5, 6, 7, 8, 9, 10, 11, 12, 13] [] [0, 1, 2, 3, 4, 5, 6, 7, 8, 9, 10, 11, 12, 13] rfl rfl (by decide) (by decide) rfl (by decide) (va_runV (As := []) (rest := []) ⟨hx, hb, hml, hown, hts⟩ (ktX5_carryOut l dC dI cI h0 h1 h2 h2a2 h2a3 h2a4 h2a5 h2a6 h2a7 h4 h4a0 h4a1 h4a2 h5 h3 _ s0_1 s1 s2 s4 s5 s1_4 s4_4 hc_4) (cwV 0 hts gX5_lookAtOrder_X5_carryOut rfl rfl rfl (by decide +kernel) ⟨Nat.le_of_ble_eq_true rfl, Nat.le_of_ble_eq_true rfl⟩) (gc_V (ci := 5) (q0 := 13) (C := RX5) (T := TX5) (N := 10) (hP.sub (ws' := (cf_01245 cI h0 h1 h2 h2a2 h2a3 h2a4 h2a5 h2a6 h2a7 h4 h4a0 h4a1 h4a2 h5 h3 s0_1 s1 s2 s4 s5)) [0, 1, 2, 3, 4, 5, 6, 7, 8, 9, 10, 11, 12, 13] rfl) (hK.sub (tys' := [(cI, .int)]) [0] rfl) (hD.sub (ws' := (cf_01245 cI h0 h1 h2 h2a2 h2a3 h2a4 h2a5 h2a6 h2a7 h4 h4a0 h4a1 h4a2 h5 h3 s0_1 s1 s2 s4 s5)) [0, 1, 2, 3, 4, 5, 6, 7, 8, 9, 10, 11, 12, 13] (by decide) rfl) hN rfl rfl) rfl rfl hl.1 rfl (lv_room (Nat.le_of_ble_eq_true rfl)) dX5_lookAtOrder_65 ⟨Nat.zero_le _, Nat.zero_le _⟩) (fun H locs hP hD hS => ?_)
      exact J68 s0_1 s1_4 s4_4 s5 r_1 _ _ hP hD hS _ (lv_sub hl [0] rfl) hf
    · have hf := it_t c_3 hf
      refine lv_aload_n hx hb dX5_lookAtOrder_39 rfl (lv_at hl 1 rfl) ?_
      refine lv_aload_n hx hb dX5_lookAtOrder_40 rfl (lv_at hl 1 rfl) ?_
      refine va_get (D := (dC, dI)) (ci := 5) (v := .ref h0) (C := RX5) (T := TX5) (N := 10) hx hb hts in5 hown hK hP 13 rfl rfl 4 (by decide) fl42 (fun _ h9 => h9) rfl dX5_lookAtOrder_41 ?_
      refine va_getN (D := (dC, dI)) (ci := 0) (v := .int (S0_choice s0_1)) (C := RX0) (T := TX0) (N := 9) hx hb hts in0 hown hK hP 0 rfl rfl 8 (by decide) fl195 (fun _ h9 => h9) rfl dX5_lookAtOrder_44 ?_
      refine va_put (D := (dC, dI)) (ci := 5) (v := .int (S0_choice s0_1)) (ty := .int) (C := RX5) (T := TX5) (N := 10) hx hb hts in5 tyX5 tyX5_ok nmX5 hown hK hP hD hS 13 rfl rfl 7 (by decide) fl53 (fun _ h9 => h9) rfl (by decide +kernel) rfl rfl (Nat.le_of_ble_eq_true rfl) dX5_lookAtOrder_47 (fun H locs hP hD hS => ?_)
      have hP : va_P (dC, dI) vwCl (cf_01245 cI h0 h1 h2 h2a2 h2a3 h2a4 h2a5 h2a6 h2a7 h4 h4a0 h4a1 h4a2 h5 h3 s0_1 s1 s2 s4 (S5_set_askedThings s5 (S0_choice s0_1))) H := hP
      have hD : va_D A (cf_01245 cI h0 h1 h2 h2a2 h2a3 h2a4 h2a5 h2a6 h2a7 h4 h4a0 h4a1 h4a2 h5 h3 s0_1 s1 s2 s4 (S5_set_askedThings s5 (S0_choice s0_1))) := hD
      refine lv_aload_n hx hb dX5_lookAtOrder_50 rfl (lv_at hl 1 rfl) ?_
      refine lv_aload_n hx hb dX5_lookAtOrder_51 rfl (lv_at hl 1 rfl) ?_
      refine va_get (D := (dC, dI)) (ci := 5) (v := .ref h0) (C := RX5) (T := TX5) (N := 10) hx hb hts in5 hown hK hP 13 rfl rfl 4 (by decide) fl42 (fun _ h9 => h9) rfl dX5_lookAtOrder_52 ?_
      refine va_getN (D := (dC, dI)) (ci := 0) (v := .int (S0_openPhrase s0_1)) (C := RX0) (T := TX0) (N := 9) hx hb hts in0 hown hK hP 0 rfl rfl 7 (by decide) fl192 (fun _ h9 => h9) rfl dX5_lookAtOrder_55 ?_
      refine va_put (D := (dC, dI)) (ci := 5) (v := .int (S0_openPhrase s0_1)) (ty := .int) (C := RX5) (T := TX5) (N := 10) hx hb hts in5 tyX5 tyX5_ok nmX5 hown hK hP hD hS 13 rfl rfl 8 (by decide) fl56 (fun _ h9 => h9) rfl (by decide +kernel) rfl rfl (Nat.le_of_ble_eq_true rfl) dX5_lookAtOrder_58 (fun H locs hP hD hS => ?_)
      have hP : va_P (dC, dI) vwCl (cf_01245 cI h0 h1 h2 h2a2 h2a3 h2a4 h2a5 h2a6 h2a7 h4 h4a0 h4a1 h4a2 h5 h3 s0_1 s1 s2 s4 (S5_set_askedPhrase (S5_set_askedThings s5 (S0_choice s0_1)) (S0_openPhrase s0_1))) H := hP
      have hD : va_D A (cf_01245 cI h0 h1 h2 h2a2 h2a3 h2a4 h2a5 h2a6 h2a7 h4 h4a0 h4a1 h4a2 h5 h3 s0_1 s1 s2 s4 (S5_set_askedPhrase (S5_set_askedThings s5 (S0_choice s0_1)) (S0_openPhrase s0_1))) := hD
      refine lv_goto (tgt := 68) hx hb dX5_lookAtOrder_61 (by decide) ?_
      exact J68 s0_1 s1 s4 (S5_set_askedPhrase (S5_set_askedThings s5 (S0_choice s0_1)) (S0_openPhrase s0_1)) r_1 _ _ hP hD hS _ (lv_sub hl [0] rfl) hf
  · have hf := it_t c_2 hf
    refine lv_aload_n hx hb dX5_lookAtOrder_13 rfl (lv_at hl 1 rfl) ?_
    refine lv_aload_n hx hb dX5_lookAtOrder_14 rfl (lv_at hl 1 rfl) ?_
    refine va_get (D := (dC, dI)) (ci := 5) (v := .ref h2) (C := RX5) (T := TX5) (N := 10) hx hb hts in5 hown hK hP 13 rfl rfl 2 (by decide) fl26 (fun _ h9 => h9) rfl dX5_lookAtOrder_15 ?_
    refine lv_aload_n hx hb dX5_lookAtOrder_18 rfl (lv_at hl 1 rfl) ?_
    refine va_get (D := (dC, dI)) (ci := 5) (v := .ref h0) (C := RX5) (T := TX5) (N := 10) hx hb hts in5 hown hK hP 13 rfl rfl 4 (by decide) fl42 (fun _ h9 => h9) rfl dX5_lookAtOrder_19 ?_
    refine va_getN (D := (dC, dI)) (ci := 0) (v := .int (S0_openPhrase s0_1)) (C := RX0) (T := TX0) (N := 9) hx hb hts in0 hown hK hP 0 rfl rfl 7 (by decide) fl192 (fun _ h9 => h9) rfl dX5_lookAtOrder_22 ?_
    obtain ⟨r_5, hc_5, hf⟩ := bn1_ok hf
    refine gc_i (wc := (cf_2 cI h2 h2a2 h2a3 h2a4 h2a5 h2a6 h2a7 s2)) (wr := (cf_0145 cI h0 h1 h4 h4a0 h4a1 h4a2 h5 h2 h3 s0_1 s1 s4 s5)) (w1 := (cf_2 cI h2 h2a2 h2a3 h2a4 h2a5 h2a6 h2a7 s2)) (ws' := (cf_01245 cI h0 h1 h2 h2a2 h2a3 h2a4 h2a5 h2a6 h2a7 h4 h4a0 h4a1 h4a2 h5 h3 s0_1 s1 s2 s4 s5)) hP hD hS hA [2, 3, 4, 5, 6, 7, 8] [0, 1, 9, 10, 11, 12, 13] [0, 1, 7, 8, 9, 10, 11, 12, 13, 2, 3, 4, 5, 6] rfl rfl (by decide) (by decide) rfl (by decide) (va_runV (As := [.int (S0_openPhrase s0_1)]) (rest := [.ref h5]) ⟨hx, hb, hml, hown, hts⟩ (ktX2_lastPlaceOf l dC dI cI h2 h2a2 h2a3 h2a4 h2a5 h2a6 h2a7 _ s2 (S0_openPhrase s0_1) r_5 hc_5) (cwV 1 hts gX5_lookAtOrder_X2_lastPlaceOf rfl rfl rfl (by decide +kernel) ⟨Nat.le_of_ble_eq_true rfl, Nat.le_of_ble_eq_true rfl⟩) (gc_V (ci := 2) (q0 := 0) (C := RX2) (T := TX2) (N := 8) (hP.sub (ws' := (cf_2 cI h2 h2a2 h2a3 h2a4 h2a5 h2a6 h2a7 s2)) [2, 3, 4, 5, 6, 7, 8] rfl) (hK.sub (tys' := [(cI, .int)]) [0] rfl) (hD.sub (ws' := (cf_2 cI h2 h2a2 h2a3 h2a4 h2a5 h2a6 h2a7 s2)) [2, 3, 4, 5, 6, 7, 8] (by decide) rfl) hN rfl rfl) rfl rfl hl.1 rfl (lv_room (Nat.le_of_ble_eq_true rfl)) dX5_lookAtOrder_25 ⟨Nat.zero_le _, Nat.zero_le _⟩) (fun H locs hP hD hS => ?_)
    refine va_put (D := (dC, dI)) (ci := 5) (v := .int r_5) (ty := .int) (C := RX5) (T := TX5) (N := 10) hx hb hts in5 tyX5 tyX5_ok nmX5 hown hK hP hD hS 13 rfl rfl 6 (by decide) fl50 (fun _ h9 => h9) rfl (by decide +kernel) rfl rfl (Nat.le_of_ble_eq_true rfl) dX5_lookAtOrder_28 (fun H locs hP hD hS => ?_)
    have hP : va_P (dC, dI) vwCl (cf_01245 cI h0 h1 h2 h2a2 h2a3 h2a4 h2a5 h2a6 h2a7 h4 h4a0 h4a1 h4a2 h5 h3 s0_1 s1 s2 s4 (S5_set_wrongPlace s5 r_5)) H := hP
    have hD : va_D A (cf_01245 cI h0 h1 h2 h2a2 h2a3 h2a4 h2a5 h2a6 h2a7 h4 h4a0 h4a1 h4a2 h5 h3 s0_1 s1 s2 s4 (S5_set_wrongPlace s5 r_5)) := hD
    refine lv_goto (tgt := 68) hx hb dX5_lookAtOrder_31 (by decide) ?_
    exact J68 s0_1 s1 s4 (S5_set_wrongPlace s5 r_5) r_1 _ _ hP hD hS _ (lv_sub hl [0] rfl) hf
abbrev rmX5_hearAnswer : Room := { frames := 6, cells := 0, slots := 0, locals := 139 }
set_option maxHeartbeats 2000000 in
set_option maxRecDepth 100000 in
theorem ktX5_hearAnswer (l : Launch) (dC : Nat → ClassId) (dI : Nat → Nat → Nat) (cI : ClassId) (h0 h1 h2 h2a2 h2a3 h2a4 h2a5 h2a6 h2a7 h3 h3a0 h4 h4a0 h4a1 h4a2 h5 : Nat) (sz : Nat) (s0 : S0) (s1 : S1) (s2 : S2) (s3 : S3) (s4 : S4) (s5 : S5) (r : Int32) (s0f : S0) (s1f : S1) (s2f : S2) (s3f : S3) (s4f : S4) (s5f : S5) (hf : fX5_hearAnswer s0 s1 s2 s3 s4 s5 = some (r, s0f, s1f, s2f, s3f, s4f, s5f)) : Met l yX5_hearAnswer wsX5_hearAnswer rmX5_hearAnswer (va_Pc [.ref h5] (pre_w (dC, dI) (cf_012345 cI h0 h1 h2 h2a2 h2a3 h2a4 h2a5 h2a6 h2a7 h3 h3a0 h4 h4a0 h4a1 h4a2 h5 s0 s1 s2 s3 s4 s5) [(cI, .int)] sz)) (va_Qi (fun (r' : Int32) (_ : Unit) => r' = r) (post_w (dC, dI) (cf_012345 cI h0 h1 h2 h2a2 h2a3 h2a4 h2a5 h2a6 h2a7 h3 h3a0 h4 h4a0 h4a1 h4a2 h5 s0f s1f s2f s3f s4f s5f) [(cI, .int)] (va_A (cf_012345 cI h0 h1 h2 h2a2 h2a3 h2a4 h2a5 h2a6 h2a7 h3 h3a0 h4 h4a0 h4a1 h4a2 h5 s0 s1 s2 s3 s4 s5) sz)) (va_A (cf_012345 cI h0 h1 h2 h2a2 h2a3 h2a4 h2a5 h2a6 h2a7 h3 h3a0 h4 h4a0 h4a1 h4a2 h5 s0 s1 s2 s3 s4 s5) sz)) 0 0 (va_A (cf_012345 cI h0 h1 h2 h2a2 h2a3 h2a4 h2a5 h2a6 h2a7 h3 h3a0 h4 h4a0 h4a1 h4a2 h5 s0 s1 s2 s3 s4 s5) sz) := by
  refine gm_i (cc := cX5_hearAnswer) (maxL := 2) (by decide) rfl (Nat.le_of_ble_eq_true rfl) ?_
  intro p e s m below meth c A QQ ls hx hb hml hown hts hK hN hA hP hD hS hl hret
  have hown : s.vm.findClass RX5 = some m.cls := hown
  have hl : lv_has ls 2 [(0, .ref h5)] := hl
  have in5 : ∀ w ∈ u_ws RX5 TX5 10, w ∈ wsX5_hearAnswer := by decide +kernel
  have fl19 := hts (.fieldLink RX5 19 "ParserParlour" "words" "LParserParlour$Words;") (by decide +kernel)
  have in3 : ∀ w ∈ u_ws RX3 TX3 5, w ∈ wsX5_hearAnswer := by decide +kernel
  have fl160 := va_Nw.use (A := ([.ref h5] : List Value).toArray) (by rfl) (hN _ (List.mem_of_getElem? (i := 4) rfl))
  have fl50 := hts (.fieldLink RX5 50 "ParserParlour" "wrongPlace" "I") (by decide +kernel)
  have fl12 := hts (.fieldLink RX5 12 "ParserParlour" "world" "LParserParlour$World;") (by decide +kernel)
  have fl53 := hts (.fieldLink RX5 53 "ParserParlour" "askedThings" "I") (by decide +kernel)
  have fl170 := va_Nw.use (A := ([.ref h5] : List Value).toArray) (by rfl) (hN _ (List.mem_of_getElem? (i := 6) rfl))
  have fl173 := va_Nw.use (A := ([.ref h5] : List Value).toArray) (by rfl) (hN _ (List.mem_of_getElem? (i := 8) rfl))
  have fl26 := hts (.fieldLink RX5 26 "ParserParlour" "order" "LParserParlour$Order;") (by decide +kernel)
  have fl56 := hts (.fieldLink RX5 56 "ParserParlour" "askedPhrase" "I") (by decide +kernel)
  unfold fX5_hearAnswer at hf
  refine lv_aload_n hx hb dX5_hearAnswer_0 rfl (lv_at hl 0 rfl) ?_
  refine va_get (D := (dC, dI)) (ci := 5) (v := .ref h3) (C := RX5) (T := TX5) (N := 10) hx hb hts in5 hown hK hP 15 rfl rfl 1 (by decide) fl19 (fun _ h9 => h9) rfl dX5_hearAnswer_1 ?_
  obtain ⟨r_1, s3_1, hc_1, hf⟩ := bn2_ok hf
  refine gc_i (wc := (cf_3 cI h3 h3a0 s3)) (wr := (cf_01245 cI h0 h1 h2 h2a2 h2a3 h2a4 h2a5 h2a6 h2a7 h4 h4a0 h4a1 h4a2 h5 h3 s0 s1 s2 s4 s5)) (w1 := (cf_3 cI h3 h3a0 s3_1)) (ws' := (cf_012345 cI h0 h1 h2 h2a2 h2a3 h2a4 h2a5 h2a6 h2a7 h3 h3a0 h4 h4a0 h4a1 h4a2 h5 s0 s1 s2 s3_1 s4 s5)) hP hD hS hA [9, 10] [0, 1, 2, 3, 4, 5, 6, 7, 8, 11, 12, 13, 14, 15] [0, 1, 2, 3, 4, 5, 6, 7, 8, 14, 15, 9, 10, 11, 12, 13] rfl rfl (by decide) (by decide) rfl (by decide) (va_runV (As := []) (rest := []) ⟨hx, hb, hml, hown, hts⟩ (ktX3_readAnswer l dC dI cI h3 h3a0 _ s3 r_1 s3_1 hc_1) (cwV 0 hts gX5_hearAnswer_X3_readAnswer rfl rfl rfl (by decide +kernel) ⟨Nat.le_of_ble_eq_true rfl, Nat.le_of_ble_eq_true rfl⟩) (gc_V (ci := 3) (q0 := 0) (C := RX3) (T := TX3) (N := 5) (hP.sub (ws' := (cf_3 cI h3 h3a0 s3)) [9, 10] rfl) (hK.sub (tys' := [(cI, .int)]) [0] rfl) (hD.sub (ws' := (cf_3 cI h3 h3a0 s3)) [9, 10] (by decide) rfl) hN rfl rfl) rfl rfl hl.1 rfl (lv_room (Nat.le_of_ble_eq_true rfl)) dX5_hearAnswer_4 ⟨Nat.zero_le _, Nat.zero_le _⟩) (fun H locs hP hD hS => ?_)
  refine lv_if_ne (tgt := 23) hx hb dX5_hearAnswer_7 (by decide) (fun c_2 => ?_) (fun c_2 => ?_)
  · have hf := it_f c_2 hf
    refine lv_aload_n hx hb dX5_hearAnswer_23 rfl (lv_at hl 0 rfl) ?_
    refine va_get (D := (dC, dI)) (ci := 5) (v := .ref h4) (C := RX5) (T := TX5) (N := 10) hx hb hts in5 hown hK hP 15 rfl rfl 0 (by decide) fl12 (fun _ h9 => h9) rfl dX5_hearAnswer_24 ?_
    refine lv_aload_n hx hb dX5_hearAnswer_27 rfl (lv_at hl 0 rfl) ?_
    refine va_get (D := (dC, dI)) (ci := 5) (v := .int (S5_askedThings s5)) (C := RX5) (T := TX5) (N := 10) hx hb hts in5 hown hK hP 15 rfl rfl 7 (by decide) fl53 (fun _ h9 => h9) rfl dX5_hearAnswer_28 ?_
    refine lv_aload_n hx hb dX5_hearAnswer_31 rfl (lv_at hl 0 rfl) ?_
    refine va_get (D := (dC, dI)) (ci := 5) (v := .ref h3) (C := RX5) (T := TX5) (N := 10) hx hb hts in5 hown hK hP 15 rfl rfl 1 (by decide) fl19 (fun _ h9 => h9) rfl dX5_hearAnswer_32 ?_
    refine va_getN (D := (dC, dI)) (ci := 3) (v := .int (S3_adjectives s3_1)) (C := RX3) (T := TX3) (N := 5) hx hb hts in3 hown hK hP 9 rfl rfl 3 (by decide) fl170 (fun _ h9 => h9) rfl dX5_hearAnswer_35 ?_
    refine lv_aload_n hx hb dX5_hearAnswer_38 rfl (lv_at hl 0 rfl) ?_
    refine va_get (D := (dC, dI)) (ci := 5) (v := .ref h3) (C := RX5) (T := TX5) (N := 10) hx hb hts in5 hown hK hP 15 rfl rfl 1 (by decide) fl19 (fun _ h9 => h9) rfl dX5_hearAnswer_39 ?_
    refine va_getN (D := (dC, dI)) (ci := 3) (v := .int (S3_noun s3_1)) (C := RX3) (T := TX3) (N := 5) hx hb hts in3 hown hK hP 9 rfl rfl 4 (by decide) fl173 (fun _ h9 => h9) rfl dX5_hearAnswer_42 ?_
    obtain ⟨r_3, hc_3, hf⟩ := bn1_ok hf
    refine gc_i (wc := (cf_4 cI h4 h4a0 h4a1 h4a2 s4)) (wr := (cf_01235 cI h0 h1 h2 h2a2 h2a3 h2a4 h2a5 h2a6 h2a7 h3 h3a0 h5 h4 s0 s1 s2 s3_1 s5)) (w1 := (cf_4 cI h4 h4a0 h4a1 h4a2 s4)) (ws' := (cf_012345 cI h0 h1 h2 h2a2 h2a3 h2a4 h2a5 h2a6 h2a7 h3 h3a0 h4 h4a0 h4a1 h4a2 h5 s0 s1 s2 s3_1 s4 s5)) hP hD hS hA [11, 12, 13, 14] [0, 1, 2, 3, 4, 5, 6, 7, 8, 9, 10, 15] [0, 1, 2, 3, 4, 5, 6, 7, 8, 9, 10, 12, 13, 14, 15, 11] rfl rfl (by decide) (by decide) rfl (by decide) (va_runV (As := [.int (S5_askedThings s5), .int (S3_adjectives s3_1), .int (S3_noun s3_1)]) (rest := []) ⟨hx, hb, hml, hown, hts⟩ (ktX4_described l dC dI cI h4 h4a0 h4a1 h4a2 _ s4 (S5_askedThings s5) (S3_adjectives s3_1) (S3_noun s3_1) r_3 hc_3) (cwV 3 hts gX5_hearAnswer_X4_described rfl rfl rfl (by decide +kernel) ⟨Nat.le_of_ble_eq_true rfl, Nat.le_of_ble_eq_true rfl⟩) (gc_V (ci := 4) (q0 := 0) (C := RX4) (T := TX4) (N := 6) (hP.sub (ws' := (cf_4 cI h4 h4a0 h4a1 h4a2 s4)) [11, 12, 13, 14] rfl) (hK.sub (tys' := [(cI, .int)]) [0] rfl) (hD.sub (ws' := (cf_4 cI h4 h4a0 h4a1 h4a2 s4)) [11, 12, 13, 14] (by decide) rfl) hN rfl rfl) rfl rfl hl.1 rfl (lv_room (Nat.le_of_ble_eq_true rfl)) dX5_hearAnswer_45 ⟨Nat.zero_le _, Nat.zero_le _⟩) (fun H locs hP hD hS => ?_)
    refine lv_istore_n (lv' := [(1, .int r_3), (0, .ref h5)]) hx hb dX5_hearAnswer_48 rfl hl (by decide) rfl (fun ls hl => ?_)
    refine lv_iload_n hx hb dX5_hearAnswer_49 rfl (lv_at hl 0 rfl) ?_
    refine lv_if_ne (tgt := 55) hx hb dX5_hearAnswer_50 (by decide) (fun c_4 => ?_) (fun c_4 => ?_)
    · have hf := it_f c_4 hf
      refine lv_iload_n hx hb dX5_hearAnswer_55 rfl (lv_at hl 0 rfl) ?_
      obtain ⟨r_5, hc_5, hf⟩ := bn1_ok hf
      refine gc_i (wc := ([] : va_W)) (wr := (cf_012345 cI h0 h1 h2 h2a2 h2a3 h2a4 h2a5 h2a6 h2a7 h3 h3a0 h4 h4a0 h4a1 h4a2 h5 s0 s1 s2 s3_1 s4 s5)) (w1 := ([] : va_W)) (ws' := (cf_012345 cI h0 h1 h2 h2a2 h2a3 h2a4 h2a5 h2a6 h2a7 h3 h3a0 h4 h4a0 h4a1 h4a2 h5 s0 s1 s2 s3_1 s4 s5)) hP hD hS hA [] [0, 1, 2, 3, 4, 5, 6, 7, 8, 9, 10, 11, 12, 13, 14, 15] [0, 1, 2, 3, 4, 5, 6, 7, 8, 9, 10, 11, 12, 13, 14, 15] rfl rfl (by decide) (by decide) rfl (by decide) (va_runS (As := [.int r_3]) (rest := []) ⟨hx, hb, hml, hown, hts⟩ (ktJ6_bitCount l dC dI _ r_3 r_5 hc_5) (va_cwS 1 hts gX5_hearAnswer_J6_bitCount_0f7a4 rfl rfl rfl (by decide +kernel) ⟨Nat.le_of_ble_eq_true rfl, Nat.le_of_ble_eq_true rfl⟩) (gc_S (hP.sub (ws' := ([] : va_W)) [] rfl) (hK.sub (tys' := []) [] rfl) (hD.sub (ws' := ([] : va_W)) [] (by decide) rfl) hN) rfl rfl hl.1 rfl (lv_room (Nat.le_of_ble_eq_true rfl)) dX5_hearAnswer_56 ⟨Nat.zero_le _, Nat.zero_le _⟩) (fun H locs hP hD hS => ?_)
      refine lv_iconst (v := 1) hx hb dX5_hearAnswer_59 (by decide) ?_
      refine lv_icmp_le (tgt := 70) hx hb dX5_hearAnswer_60 (by decide) (fun c_6 => ?_) (fun c_6 => ?_)
      · have hf := it_t c_6 hf
        refine lv_aload_n hx hb dX5_hearAnswer_70 rfl (lv_at hl 1 rfl) ?_
        refine va_get (D := (dC, dI)) (ci := 5) (v := .ref h2) (C := RX5) (T := TX5) (N := 10) hx hb hts in5 hown hK hP 15 rfl rfl 2 (by decide) fl26 (fun _ h9 => h9) rfl dX5_hearAnswer_71 ?_
        refine lv_aload_n hx hb dX5_hearAnswer_74 rfl (lv_at hl 1 rfl) ?_
        refine va_get (D := (dC, dI)) (ci := 5) (v := .int (S5_askedPhrase s5)) (C := RX5) (T := TX5) (N := 10) hx hb hts in5 hown hK hP 15 rfl rfl 8 (by decide) fl56 (fun _ h9 => h9) rfl dX5_hearAnswer_75 ?_
        refine lv_iload_n hx hb dX5_hearAnswer_78 rfl (lv_at hl 0 rfl) ?_
        obtain ⟨s2_7, hc_7, hf⟩ := bn1_ok hf
        refine gc_v (wc := (cf_2 cI h2 h2a2 h2a3 h2a4 h2a5 h2a6 h2a7 s2)) (wr := (cf_01345 cI h0 h1 h3 h3a0 h4 h4a0 h4a1 h4a2 h5 h2 s0 s1 s3_1 s4 s5)) (w1 := (cf_2 cI h2 h2a2 h2a3 h2a4 h2a5 h2a6 h2a7 s2_7)) (ws' := (cf_012345 cI h0 h1 h2 h2a2 h2a3 h2a4 h2a5 h2a6 h2a7 h3 h3a0 h4 h4a0 h4a1 h4a2 h5 s0 s1 s2_7 s3_1 s4 s5)) hP hD hS hA [2, 3, 4, 5, 6, 7, 8] [0, 1, 9, 10, 11, 12, 13, 14, 15] [0, 1, 9, 10, 11, 12, 13, 14, 15, 2, 3, 4, 5, 6, 7, 8] rfl rfl (by decide) (by decide) rfl (by decide) (va_runV (As := [.int (S5_askedPhrase s5), .int r_3]) (rest := []) ⟨hx, hb, hml, hown, hts⟩ (ktX2_answer l dC dI cI h2 h2a2 h2a3 h2a4 h2a5 h2a6 h2a7 _ s2 (S5_askedPhrase s5) r_3 s2_7 hc_7) (cwV 2 hts gX5_hearAnswer_X2_answer rfl rfl rfl (by decide +kernel) ⟨Nat.le_of_ble_eq_true rfl, Nat.le_of_ble_eq_true rfl⟩) (gc_V (ci := 2) (q0 := 0) (C := RX2) (T := TX2) (N := 8) (hP.sub (ws' := (cf_2 cI h2 h2a2 h2a3 h2a4 h2a5 h2a6 h2a7 s2)) [2, 3, 4, 5, 6, 7, 8] rfl) (hK.sub (tys' := [(cI, .int)]) [0] rfl) (hD.sub (ws' := (cf_2 cI h2 h2a2 h2a3 h2a4 h2a5 h2a6 h2a7 s2)) [2, 3, 4, 5, 6, 7, 8] (by decide) rfl) hN rfl rfl) rfl rfl hl.1 rfl (lv_room (Nat.le_of_ble_eq_true rfl)) dX5_hearAnswer_79 ⟨Nat.zero_le _, Nat.zero_le _⟩) (fun H locs hP hD hS => ?_)
        refine lv_aload_n hx hb dX5_hearAnswer_82 rfl (lv_at hl 1 rfl) ?_
        obtain ⟨s5_8, hc_8, hf⟩ := bn1_ok hf
        refine gc_v (wc := (cf_5 cI h5 h4 h3 h2 h1 h0 s5)) (wr := (cf_01234 cI h0 h1 h2 h2a2 h2a3 h2a4 h2a5 h2a6 h2a7 h3 h3a0 h4 h4a0 h4a1 h4a2 s0 s1 s2_7 s3_1 s4)) (w1 := (cf_5 cI h5 h4 h3 h2 h1 h0 s5_8)) (ws' := (cf_012345 cI h0 h1 h2 h2a2 h2a3 h2a4 h2a5 h2a6 h2a7 h3 h3a0 h4 h4a0 h4a1 h4a2 h5 s0 s1 s2_7 s3_1 s4 s5_8)) hP hD hS hA [15] [0, 1, 2, 3, 4, 5, 6, 7, 8, 9, 10, 11, 12, 13, 14] [0, 1, 2, 3, 4, 5, 6, 7, 8, 9, 10, 11, 12, 13, 14, 15] rfl rfl (by decide) (by decide) rfl (by decide) (va_runV (As := []) (rest := []) ⟨hx, hb, hml, hown, hts⟩ (ktX5_dropQuestion l dC dI cI h5 h4 h3 h2 h1 h0 _ s5 s5_8 hc_8) (cwV 0 hts gX5_hearAnswer_X5_dropQuestion rfl rfl rfl (by decide +kernel) ⟨Nat.le_of_ble_eq_true rfl, Nat.le_of_ble_eq_true rfl⟩) (gc_V (ci := 5) (q0 := 0) (C := RX5) (T := TX5) (N := 10) (hP.sub (ws' := (cf_5 cI h5 h4 h3 h2 h1 h0 s5)) [15] rfl) (hK.sub (tys' := [(cI, .int)]) [0] rfl) (hD.sub (ws' := (cf_5 cI h5 h4 h3 h2 h1 h0 s5)) [15] (by decide) rfl) hN rfl rfl) rfl rfl hl.1 rfl (lv_room (Nat.le_of_ble_eq_true rfl)) dX5_hearAnswer_83 ⟨Nat.zero_le _, Nat.zero_le _⟩) (fun H locs hP hD hS => ?_)
        refine lv_aload_n hx hb dX5_hearAnswer_86 rfl (lv_at hl 1 rfl) ?_
        obtain ⟨r_9, s0_9, s1_9, s4_9, s5_9, hc_9, hf⟩ := bn5_ok hf
        refine gc_i (wc := (cf_01245 cI h0 h1 h2 h2a2 h2a3 h2a4 h2a5 h2a6 h2a7 h4 h4a0 h4a1 h4a2 h5 h3 s0 s1 s2_7 s4 s5_8)) (wr := (cf_3 cI h3 h3a0 s3_1)) (w1 := (cf_01245 cI h0 h1 h2 h2a2 h2a3 h2a4 h2a5 h2a6 h2a7 h4 h4a0 h4a1 h4a2 h5 h3 s0_9 s1_9 s2_7 s4_9 s5_9)) (ws' := (cf_012345 cI h0 h1 h2 h2a2 h2a3 h2a4 h2a5 h2a6 h2a7 h3 h3a0 h4 h4a0 h4a1 h4a2 h5 s0_9 s1_9 s2_7 s3_1 s4_9 s5_9)) hP hD hS hA [0, 1, 2, 3, 4, 5, 6, 7, 8, 11, 12, 13, 14, 15] [9, 10] [2, 3, 4, 5, 6, 7, 8, 9, 10, 0, 1, 11, 12, 13, 14, 15] rfl rfl (by decide) (by decide) rfl (by decide) (va_runV (As := []) (rest := []) ⟨hx, hb, hml, hown, hts⟩ (ktX5_lookAtOrder l dC dI cI h0 h1 h2 h2a2 h2a3 h2a4 h2a5 h2a6 h2a7 h4 h4a0 h4a1 h4a2 h5 h3 _ s0 s1 s2_7 s4 s5_8 r_9 s0_9 s1_9 s4_9 s5_9 hc_9) (cwV 0 hts gX5_hearAnswer_X5_lookAtOrder rfl rfl rfl (by decide +kernel) ⟨Nat.le_of_ble_eq_true rfl, Nat.le_of_ble_eq_true rfl⟩) (gc_V (ci := 5) (q0 := 13) (C := RX5) (T := TX5) (N := 10) (hP.sub (ws' := (cf_01245 cI h0 h1 h2 h2a2 h2a3 h2a4 h2a5 h2a6 h2a7 h4 h4a0 h4a1 h4a2 h5 h3 s0 s1 s2_7 s4 s5_8)) [0, 1, 2, 3, 4, 5, 6, 7, 8, 11, 12, 13, 14, 15] rfl) (hK.sub (tys' := [(cI, .int)]) [0] rfl) (hD.sub (ws' := (cf_01245 cI h0 h1 h2 h2a2 h2a3 h2a4 h2a5 h2a6 h2a7 h4 h4a0 h4a1 h4a2 h5 h3 s0 s1 s2_7 s4 s5_8)) [0, 1, 2, 3, 4, 5, 6, 7, 8, 11, 12, 13, 14, 15] (by decide) rfl) hN rfl rfl) rfl rfl hl.1 rfl (lv_room (Nat.le_of_ble_eq_true rfl)) dX5_hearAnswer_87 ⟨Nat.zero_le _, Nat.zero_le _⟩) (fun H locs hP hD hS => ?_)
        have hf : (some (r_9, s0_9, s1_9, s2_7, s3_1, s4_9, s5_9) : Option (Int32 × S0 × S1 × S2 × S3 × S4 × S5)) = some (r, s0f, s1f, s2f, s3f, s4f, s5f) := hf
        have he := Option.some.inj hf
        have he0 : r_9 = r := congrArg (fun q => q.1) he
        have he1 : s0_9 = s0f := congrArg (fun q => q.2.1) he
        have he2 : s1_9 = s1f := congrArg (fun q => q.2.2.1) he
        have he3 : s2_7 = s2f := congrArg (fun q => q.2.2.2.1) he
        have he4 : s3_1 = s3f := congrArg (fun q => q.2.2.2.2.1) he
        have he5 : s4_9 = s4f := congrArg (fun q => q.2.2.2.2.2.1) he
        have he6 : s5_9 = s5f := congrArg (fun q => q.2.2.2.2.2.2) he
        exact hret _ _ _ _ _ _ he0 (by rw [← he1, ← he2, ← he3, ← he4, ← he5, ← he6]) dX5_hearAnswer_90 hP hD hS
      · have hf := it_f c_6 hf
        refine lv_aload_n hx hb dX5_hearAnswer_63 rfl (lv_at hl 1 rfl) ?_
        refine lv_iload_n hx hb dX5_hearAnswer_64 rfl (lv_at hl 0 rfl) ?_
        refine va_put (D := (dC, dI)) (ci := 5) (v := .int r_3) (ty := .int) (C := RX5) (T := TX5) (N := 10) hx hb hts in5 tyX5 tyX5_ok nmX5 hown hK hP hD hS 15 rfl rfl 7 (by decide) fl53 (fun _ h9 => h9) rfl (by decide +kernel) rfl rfl (Nat.le_of_ble_eq_true rfl) dX5_hearAnswer_65 (fun H locs hP hD hS => ?_)
        have hP : va_P (dC, dI) vwCl (cf_012345 cI h0 h1 h2 h2a2 h2a3 h2a4 h2a5 h2a6 h2a7 h3 h3a0 h4 h4a0 h4a1 h4a2 h5 s0 s1 s2 s3_1 s4 (S5_set_askedThings s5 r_3)) H := hP
        have hD : va_D A (cf_012345 cI h0 h1 h2 h2a2 h2a3 h2a4 h2a5 h2a6 h2a7 h3 h3a0 h4 h4a0 h4a1 h4a2 h5 s0 s1 s2 s3_1 s4 (S5_set_askedThings s5 r_3)) := hD
        refine lv_iconst (v := 1) hx hb dX5_hearAnswer_68 (by decide) ?_
        have hf : (some (1, s0, s1, s2, s3_1, s4, (S5_set_askedThings s5 r_3)) : Option (Int32 × S0 × S1 × S2 × S3 × S4 × S5)) = some (r, s0f, s1f, s2f, s3f, s4f, s5f) := hf
        have he := Option.some.inj hf
        have he0 : 1 = r := congrArg (fun q => q.1) he
        have he1 : s0 = s0f := congrArg (fun q => q.2.1) he
        have he2 : s1 = s1f := congrArg (fun q => q.2.2.1) he
        have he3 : s2 = s2f := congrArg (fun q => q.2.2.2.1) he
        have he4 : s3_1 = s3f := congrArg (fun q => q.2.2.2.2.1) he
        have he5 : s4 = s4f := congrArg (fun q => q.2.2.2.2.2.1) he
        have he6 : (S5_set_askedThings s5 r_3) = s5f := congrArg (fun q => q.2.2.2.2.2.2) he
        exact hret _ _ _ _ _ _ he0 (by rw [← he1, ← he2, ← he3, ← he4, ← he5, ← he6]) dX5_hearAnswer_69 hP hD hS
    · have hf := it_t c_4 hf
      refine lv_iconst (v := 5) hx hb dX5_hearAnswer_53 (by decide) ?_
      have hf : (some (5, s0, s1, s2, s3_1, s4, s5) : Option (Int32 × S0 × S1 × S2 × S3 × S4 × S5)) = some (r, s0f, s1f, s2f, s3f, s4f, s5f) := hf
      have he := Option.some.inj hf
      have he0 : 5 = r := congrArg (fun q => q.1) he
      have he1 : s0 = s0f := congrArg (fun q => q.2.1) he
      have he2 : s1 = s1f := congrArg (fun q => q.2.2.1) he
      have he3 : s2 = s2f := congrArg (fun q => q.2.2.2.1) he
      have he4 : s3_1 = s3f := congrArg (fun q => q.2.2.2.2.1) he
      have he5 : s4 = s4f := congrArg (fun q => q.2.2.2.2.2.1) he
      have he6 : s5 = s5f := congrArg (fun q => q.2.2.2.2.2.2) he
      exact hret _ _ _ _ _ _ he0 (by rw [← he1, ← he2, ← he3, ← he4, ← he5, ← he6]) dX5_hearAnswer_54 hP hD hS
  · have hf := it_t c_2 hf
    refine lv_aload_n hx hb dX5_hearAnswer_10 rfl (lv_at hl 0 rfl) ?_
    refine lv_aload_n hx hb dX5_hearAnswer_11 rfl (lv_at hl 0 rfl) ?_
    refine va_get (D := (dC, dI)) (ci := 5) (v := .ref h3) (C := RX5) (T := TX5) (N := 10) hx hb hts in5 hown hK hP 15 rfl rfl 1 (by decide) fl19 (fun _ h9 => h9) rfl dX5_hearAnswer_12 ?_
    refine va_getN (D := (dC, dI)) (ci := 3) (v := .int (S3_place s3_1)) (C := RX3) (T := TX3) (N := 5) hx hb hts in3 hown hK hP 9 rfl rfl 2 (by decide) fl160 (fun _ h9 => h9) rfl dX5_hearAnswer_15 ?_
    refine va_put (D := (dC, dI)) (ci := 5) (v := .int (S3_place s3_1)) (ty := .int) (C := RX5) (T := TX5) (N := 10) hx hb hts in5 tyX5 tyX5_ok nmX5 hown hK hP hD hS 15 rfl rfl 6 (by decide) fl50 (fun _ h9 => h9) rfl (by decide +kernel) rfl rfl (Nat.le_of_ble_eq_true rfl) dX5_hearAnswer_18 (fun H locs hP hD hS => ?_)
    have hP : va_P (dC, dI) vwCl (cf_012345 cI h0 h1 h2 h2a2 h2a3 h2a4 h2a5 h2a6 h2a7 h3 h3a0 h4 h4a0 h4a1 h4a2 h5 s0 s1 s2 s3_1 s4 (S5_set_wrongPlace s5 (S3_place s3_1))) H := hP
    have hD : va_D A (cf_012345 cI h0 h1 h2 h2a2 h2a3 h2a4 h2a5 h2a6 h2a7 h3 h3a0 h4 h4a0 h4a1 h4a2 h5 s0 s1 s2 s3_1 s4 (S5_set_wrongPlace s5 (S3_place s3_1))) := hD
    refine lv_iconst (v := 4) hx hb dX5_hearAnswer_21 (by decide) ?_
    have hf : (some (4, s0, s1, s2, s3_1, s4, (S5_set_wrongPlace s5 (S3_place s3_1))) : Option (Int32 × S0 × S1 × S2 × S3 × S4 × S5)) = some (r, s0f, s1f, s2f, s3f, s4f, s5f) := hf
    have he := Option.some.inj hf
    have he0 : 4 = r := congrArg (fun q => q.1) he
    have he1 : s0 = s0f := congrArg (fun q => q.2.1) he
    have he2 : s1 = s1f := congrArg (fun q => q.2.2.1) he
    have he3 : s2 = s2f := congrArg (fun q => q.2.2.2.1) he
    have he4 : s3_1 = s3f := congrArg (fun q => q.2.2.2.2.1) he
    have he5 : s4 = s4f := congrArg (fun q => q.2.2.2.2.2.1) he
    have he6 : (S5_set_wrongPlace s5 (S3_place s3_1)) = s5f := congrArg (fun q => q.2.2.2.2.2.2) he
    exact hret _ _ _ _ _ _ he0 (by rw [← he1, ← he2, ← he3, ← he4, ← he5, ← he6]) dX5_hearAnswer_22 hP hD hS
abbrev rmX5_hearOrder : Room := { frames := 6, cells := 0, slots := 0, locals := 139 }
set_option maxHeartbeats 2000000 in
set_option maxRecDepth 100000 in
theorem ktX5_hearOrder (l : Launch) (dC : Nat → ClassId) (dI : Nat → Nat → Nat) (cI : ClassId) (h0 h1 h2 h2a2 h2a3 h2a4 h2a5 h2a6 h2a7 h3 h3a0 h4 h4a0 h4a1 h4a2 h5 : Nat) (sz : Nat) (s0 : S0) (s1 : S1) (s2 : S2) (s3 : S3) (s4 : S4) (s5 : S5) (r : Int32) (s0f : S0) (s1f : S1) (s2f : S2) (s3f : S3) (s4f : S4) (s5f : S5) (hf : fX5_hearOrder s0 s1 s2 s3 s4 s5 = some (r, s0f, s1f, s2f, s3f, s4f, s5f)) : Met l yX5_hearOrder wsX5_hearOrder rmX5_hearOrder (va_Pc [.ref h5] (pre_w (dC, dI) (cf_012345 cI h0 h1 h2 h2a2 h2a3 h2a4 h2a5 h2a6 h2a7 h3 h3a0 h4 h4a0 h4a1 h4a2 h5 s0 s1 s2 s3 s4 s5) [(cI, .int)] sz)) (va_Qi (fun (r' : Int32) (_ : Unit) => r' = r) (post_w (dC, dI) (cf_012345 cI h0 h1 h2 h2a2 h2a3 h2a4 h2a5 h2a6 h2a7 h3 h3a0 h4 h4a0 h4a1 h4a2 h5 s0f s1f s2f s3f s4f s5f) [(cI, .int)] (va_A (cf_012345 cI h0 h1 h2 h2a2 h2a3 h2a4 h2a5 h2a6 h2a7 h3 h3a0 h4 h4a0 h4a1 h4a2 h5 s0 s1 s2 s3 s4 s5) sz)) (va_A (cf_012345 cI h0 h1 h2 h2a2 h2a3 h2a4 h2a5 h2a6 h2a7 h3 h3a0 h4 h4a0 h4a1 h4a2 h5 s0 s1 s2 s3 s4 s5) sz)) 0 0 (va_A (cf_012345 cI h0 h1 h2 h2a2 h2a3 h2a4 h2a5 h2a6 h2a7 h3 h3a0 h4 h4a0 h4a1 h4a2 h5 s0 s1 s2 s3 s4 s5) sz) := by
  refine gm_i (cc := cX5_hearOrder) (maxL := 1) (by decide) rfl (Nat.le_of_ble_eq_true rfl) ?_
  intro p e s m below meth c A QQ ls hx hb hml hown hts hK hN hA hP hD hS hl hret
  have hown : s.vm.findClass RX5 = some m.cls := hown
  have hl : lv_has ls 1 [(0, .ref h5)] := hl
  have in5 : ∀ w ∈ u_ws RX5 TX5 10, w ∈ wsX5_hearOrder := by decide +kernel
  have fl26 := hts (.fieldLink RX5 26 "ParserParlour" "order" "LParserParlour$Order;") (by decide +kernel)
  have fl19 := hts (.fieldLink RX5 19 "ParserParlour" "words" "LParserParlour$Words;") (by decide +kernel)
  have in3 : ∀ w ∈ u_ws RX3 TX3 5, w ∈ wsX5_hearOrder := by decide +kernel
  have fl160 := va_Nw.use (A := ([.ref h5] : List Value).toArray) (by rfl) (hN _ (List.mem_of_getElem? (i := 4) rfl))
  have fl50 := hts (.fieldLink RX5 50 "ParserParlour" "wrongPlace" "I") (by decide +kernel)
  unfold fX5_hearOrder at hf
  refine lv_aload_n hx hb dX5_hearOrder_0 rfl (lv_at hl 0 rfl) ?_
  obtain ⟨s5_1, hc_1, hf⟩ := bn1_ok hf
  refine gc_v (wc := (cf_5 cI h5 h4 h3 h2 h1 h0 s5)) (wr := (cf_01234 cI h0 h1 h2 h2a2 h2a3 h2a4 h2a5 h2a6 h2a7 h3 h3a0 h4 h4a0 h4a1 h4a2 s0 s1 s2 s3 s4)) (w1 := (cf_5 cI h5 h4 h3 h2 h1 h0 s5_1)) (ws' := (cf_012345 cI h0 h1 h2 h2a2 h2a3 h2a4 h2a5 h2a6 h2a7 h3 h3a0 h4 h4a0 h4a1 h4a2 h5 s0 s1 s2 s3 s4 s5_1)) hP hD hS hA [15] [0, 1, 2, 3, 4, 5, 6, 7, 8, 9, 10, 11, 12, 13, 14] [0, 1, 2, 3, 4, 5, 6, 7, 8, 9, 10, 11, 12, 13, 14, 15] rfl rfl (by decide) (by decide) rfl (by decide) (va_runV (As := []) (rest := []) ⟨hx, hb, hml, hown, hts⟩ (ktX5_dropQuestion l dC dI cI h5 h4 h3 h2 h1 h0 _ s5 s5_1 hc_1) (cwV 0 hts gX5_hearOrder_X5_dropQuestion rfl rfl rfl (by decide +kernel) ⟨Nat.le_of_ble_eq_true rfl, Nat.le_of_ble_eq_true rfl⟩) (gc_V (ci := 5) (q0 := 0) (C := RX5) (T := TX5) (N := 10) (hP.sub (ws' := (cf_5 cI h5 h4 h3 h2 h1 h0 s5)) [15] rfl) (hK.sub (tys' := [(cI, .int)]) [0] rfl) (hD.sub (ws' := (cf_5 cI h5 h4 h3 h2 h1 h0 s5)) [15] (by decide) rfl) hN rfl rfl) rfl rfl hl.1 rfl (lv_room (Nat.le_of_ble_eq_true rfl)) dX5_hearOrder_1 ⟨Nat.zero_le _, Nat.zero_le _⟩) (fun H locs hP hD hS => ?_)
  refine lv_aload_n hx hb dX5_hearOrder_4 rfl (lv_at hl 0 rfl) ?_
  refine va_get (D := (dC, dI)) (ci := 5) (v := .ref h2) (C := RX5) (T := TX5) (N := 10) hx hb hts in5 hown hK hP 15 rfl rfl 2 (by decide) fl26 (fun _ h9 => h9) rfl dX5_hearOrder_5 ?_
  refine lv_aload_n hx hb dX5_hearOrder_8 rfl (lv_at hl 0 rfl) ?_
  refine va_get (D := (dC, dI)) (ci := 5) (v := .ref h3) (C := RX5) (T := TX5) (N := 10) hx hb hts in5 hown hK hP 15 rfl rfl 1 (by decide) fl19 (fun _ h9 => h9) rfl dX5_hearOrder_9 ?_
  obtain ⟨r_2, s2_2, s3_2, hc_2, hf⟩ := bn3_ok hf
  refine gc_i (wc := (cf_23 cI h2 h2a2 h2a3 h2a4 h2a5 h2a6 h2a7 h3 h3a0 s2 s3)) (wr := (cf_0145 cI h0 h1 h4 h4a0 h4a1 h4a2 h5 h2 h3 s0 s1 s4 s5_1)) (w1 := (cf_23 cI h2 h2a2 h2a3 h2a4 h2a5 h2a6 h2a7 h3 h3a0 s2_2 s3_2)) (ws' := (cf_012345 cI h0 h1 h2 h2a2 h2a3 h2a4 h2a5 h2a6 h2a7 h3 h3a0 h4 h4a0 h4a1 h4a2 h5 s0 s1 s2_2 s3_2 s4 s5_1)) hP hD hS hA [2, 3, 4, 5, 6, 7, 8, 9, 10] [0, 1, 11, 12, 13, 14, 15] [0, 1, 7, 8, 9, 10, 11, 12, 13, 14, 15, 2, 3, 4, 5, 6] rfl rfl (by decide) (by decide) rfl (by decide) (va_runV (As := [.ref h3]) (rest := []) ⟨hx, hb, hml, hown, hts⟩ (ktX2_read l dC dI cI h2 h2a2 h2a3 h2a4 h2a5 h2a6 h2a7 h3 h3a0 _ s2 s3 r_2 s2_2 s3_2 hc_2) (cwV 1 hts gX5_hearOrder_X2_read rfl rfl rfl (by decide +kernel) ⟨Nat.le_of_ble_eq_true rfl, Nat.le_of_ble_eq_true rfl⟩) (gc_V (ci := 2) (q0 := 0) (C := RX2) (T := TX2) (N := 8) (hP.sub (ws' := (cf_23 cI h2 h2a2 h2a3 h2a4 h2a5 h2a6 h2a7 h3 h3a0 s2 s3)) [2, 3, 4, 5, 6, 7, 8, 9, 10] rfl) (hK.sub (tys' := [(cI, .int)]) [0] rfl) (hD.sub (ws' := (cf_23 cI h2 h2a2 h2a3 h2a4 h2a5 h2a6 h2a7 h3 h3a0 s2 s3)) [2, 3, 4, 5, 6, 7, 8, 9, 10] (by decide) rfl) hN rfl rfl) rfl rfl hl.1 rfl (lv_room (Nat.le_of_ble_eq_true rfl)) dX5_hearOrder_12 ⟨Nat.zero_le _, Nat.zero_le _⟩) (fun H locs hP hD hS => ?_)
  refine lv_if_ne (tgt := 31) hx hb dX5_hearOrder_15 (by decide) (fun c_3 => ?_) (fun c_3 => ?_)
  · have hf := it_f c_3 hf
    refine lv_aload_n hx hb dX5_hearOrder_31 rfl (lv_at hl 0 rfl) ?_
    obtain ⟨r_4, s0_4, s1_4, s4_4, s5_4, hc_4, hf⟩ := bn5_ok hf
    refine gc_i (wc := (cf_01245 cI h0 h1 h2 h2a2 h2a3 h2a4 h2a5 h2a6 h2a7 h4 h4a0 h4a1 h4a2 h5 h3 s0 s1 s2_2 s4 s5_1)) (wr := (cf_3 cI h3 h3a0 s3_2)) (w1 := (cf_01245 cI h0 h1 h2 h2a2 h2a3 h2a4 h2a5 h2a6 h2a7 h4 h4a0 h4a1 h4a2 h5 h3 s0_4 s1_4 s2_2 s4_4 s5_4)) (ws' := (cf_012345 cI h0 h1 h2 h2a2 h2a3 h2a4 h2a5 h2a6 h2a7 h3 h3a0 h4 h4a0 h4a1 h4a2 h5 s0_4 s1_4 s2_2 s3_2 s4_4 s5_4)) hP hD hS hA [0, 1, 2, 3, 4, 5, 6, 7, 8, 11, 12, 13, 14, 15] [9, 10] [2, 3, 4, 5, 6, 7, 8, 9, 10, 0, 1, 11, 12, 13, 14, 15] rfl rfl (by decide) (by decide) rfl (by decide) (va_runV (As := []) (rest := []) ⟨hx, hb, hml, hown, hts⟩ (ktX5_lookAtOrder l dC dI cI h0 h1 h2 h2a2 h2a3 h2a4 h2a5 h2a6 h2a7 h4 h4a0 h4a1 h4a2 h5 h3 _ s0 s1 s2_2 s4 s5_1 r_4 s0_4 s1_4 s4_4 s5_4 hc_4) (cwV 0 hts gX5_hearOrder_X5_lookAtOrder rfl rfl rfl (by decide +kernel) ⟨Nat.le_of_ble_eq_true rfl, Nat.le_of_ble_eq_true rfl⟩) (gc_V (ci := 5) (q0 := 13) (C := RX5) (T := TX5) (N := 10) (hP.sub (ws' := (cf_01245 cI h0 h1 h2 h2a2 h2a3 h2a4 h2a5 h2a6 h2a7 h4 h4a0 h4a1 h4a2 h5 h3 s0 s1 s2_2 s4 s5_1)) [0, 1, 2, 3, 4, 5, 6, 7, 8, 11, 12, 13, 14, 15] rfl) (hK.sub (tys' := [(cI, .int)]) [0] rfl) (hD.sub (ws' := (cf_01245 cI h0 h1 h2 h2a2 h2a3 h2a4 h2a5 h2a6 h2a7 h4 h4a0 h4a1 h4a2 h5 h3 s0 s1 s2_2 s4 s5_1)) [0, 1, 2, 3, 4, 5, 6, 7, 8, 11, 12, 13, 14, 15] (by decide) rfl) hN rfl rfl) rfl rfl hl.1 rfl (lv_room (Nat.le_of_ble_eq_true rfl)) dX5_hearOrder_32 ⟨Nat.zero_le _, Nat.zero_le _⟩) (fun H locs hP hD hS => ?_)
    have hf : (some (r_4, s0_4, s1_4, s2_2, s3_2, s4_4, s5_4) : Option (Int32 × S0 × S1 × S2 × S3 × S4 × S5)) = some (r, s0f, s1f, s2f, s3f, s4f, s5f) := hf
    have he := Option.some.inj hf
    have he0 : r_4 = r := congrArg (fun q => q.1) he
    have he1 : s0_4 = s0f := congrArg (fun q => q.2.1) he
    have he2 : s1_4 = s1f := congrArg (fun q => q.2.2.1) he
    have he3 : s2_2 = s2f := congrArg (fun q => q.2.2.2.1) he
    have he4 : s3_2 = s3f := congrArg (fun q => q.2.2.2.2.1) he
    have he5 : s4_4 = s4f := congrArg (fun q => q.2.2.2.2.2.1) he
    have he6 : s5_4 = s5f := congrArg (fun q => q.2.2.2.2.2.2) he
    exact hret _ _ _ _ _ _ he0 (by rw [← he1, ← he2, ← he3, ← he4, ← he5, ← he6]) dX5_hearOrder_35 hP hD hS
  · have hf := it_t c_3 hf
    refine lv_aload_n hx hb dX5_hearOrder_18 rfl (lv_at hl 0 rfl) ?_
    refine lv_aload_n hx hb dX5_hearOrder_19 rfl (lv_at hl 0 rfl) ?_
    refine va_get (D := (dC, dI)) (ci := 5) (v := .ref h3) (C := RX5) (T := TX5) (N := 10) hx hb hts in5 hown hK hP 15 rfl rfl 1 (by decide) fl19 (fun _ h9 => h9) rfl dX5_hearOrder_20 ?_
    refine va_getN (D := (dC, dI)) (ci := 3) (v := .int (S3_place s3_2)) (C := RX3) (T := TX3) (N := 5) hx hb hts in3 hown hK hP 9 rfl rfl 2 (by decide) fl160 (fun _ h9 => h9) rfl dX5_hearOrder_23 ?_
    refine va_put (D := (dC, dI)) (ci := 5) (v := .int (S3_place s3_2)) (ty := .int) (C := RX5) (T := TX5) (N := 10) hx hb hts in5 tyX5 tyX5_ok nmX5 hown hK hP hD hS 15 rfl rfl 6 (by decide) fl50 (fun _ h9 => h9) rfl (by decide +kernel) rfl rfl (Nat.le_of_ble_eq_true rfl) dX5_hearOrder_26 (fun H locs hP hD hS => ?_)
    have hP : va_P (dC, dI) vwCl (cf_012345 cI h0 h1 h2 h2a2 h2a3 h2a4 h2a5 h2a6 h2a7 h3 h3a0 h4 h4a0 h4a1 h4a2 h5 s0 s1 s2_2 s3_2 s4 (S5_set_wrongPlace s5_1 (S3_place s3_2))) H := hP
    have hD : va_D A (cf_012345 cI h0 h1 h2 h2a2 h2a3 h2a4 h2a5 h2a6 h2a7 h3 h3a0 h4 h4a0 h4a1 h4a2 h5 s0 s1 s2_2 s3_2 s4 (S5_set_wrongPlace s5_1 (S3_place s3_2))) := hD
    refine lv_iconst (v := 4) hx hb dX5_hearOrder_29 (by decide) ?_
    have hf : (some (4, s0, s1, s2_2, s3_2, s4, (S5_set_wrongPlace s5_1 (S3_place s3_2))) : Option (Int32 × S0 × S1 × S2 × S3 × S4 × S5)) = some (r, s0f, s1f, s2f, s3f, s4f, s5f) := hf
    have he := Option.some.inj hf
    have he0 : 4 = r := congrArg (fun q => q.1) he
    have he1 : s0 = s0f := congrArg (fun q => q.2.1) he
    have he2 : s1 = s1f := congrArg (fun q => q.2.2.1) he
    have he3 : s2_2 = s2f := congrArg (fun q => q.2.2.2.1) he
    have he4 : s3_2 = s3f := congrArg (fun q => q.2.2.2.2.1) he
    have he5 : s4 = s4f := congrArg (fun q => q.2.2.2.2.2.1) he
    have he6 : (S5_set_wrongPlace s5_1 (S3_place s3_2)) = s5f := congrArg (fun q => q.2.2.2.2.2.2) he
    exact hret _ _ _ _ _ _ he0 (by rw [← he1, ← he2, ← he3, ← he4, ← he5, ← he6]) dX5_hearOrder_30 hP hD hS
abbrev rmX5_say : Room := { frames := 7, cells := 0, slots := 0, locals := 160 }
set_option maxHeartbeats 2000000 in
set_option maxRecDepth 100000 in
theorem ktX5_say (l : Launch) (dC : Nat → ClassId) (dI : Nat → Nat → Nat) (cI : ClassId) (h0 h1 h2 h2a2 h2a3 h2a4 h2a5 h2a6 h2a7 h3 h3a0 h4 h4a0 h4a1 h4a2 h5 : Nat) (sz : Nat) (s0 : S0) (s1 : S1) (s2 : S2) (s3 : S3) (s4 : S4) (s5 : S5) (r : Int32) (s0f : S0) (s1f : S1) (s2f : S2) (s3f : S3) (s4f : S4) (s5f : S5) (hf : fX5_say s0 s1 s2 s3 s4 s5 = some (r, s0f, s1f, s2f, s3f, s4f, s5f)) : Met l yX5_say wsX5_say rmX5_say (va_Pc [.ref h5] (pre_w (dC, dI) (cf_012345 cI h0 h1 h2 h2a2 h2a3 h2a4 h2a5 h2a6 h2a7 h3 h3a0 h4 h4a0 h4a1 h4a2 h5 s0 s1 s2 s3 s4 s5) [(cI, .int)] sz)) (va_Qi (fun (r' : Int32) (_ : Unit) => r' = r) (post_w (dC, dI) (cf_012345 cI h0 h1 h2 h2a2 h2a3 h2a4 h2a5 h2a6 h2a7 h3 h3a0 h4 h4a0 h4a1 h4a2 h5 s0f s1f s2f s3f s4f s5f) [(cI, .int)] (va_A (cf_012345 cI h0 h1 h2 h2a2 h2a3 h2a4 h2a5 h2a6 h2a7 h3 h3a0 h4 h4a0 h4a1 h4a2 h5 s0 s1 s2 s3 s4 s5) sz)) (va_A (cf_012345 cI h0 h1 h2 h2a2 h2a3 h2a4 h2a5 h2a6 h2a7 h3 h3a0 h4 h4a0 h4a1 h4a2 h5 s0 s1 s2 s3 s4 s5) sz)) 0 0 (va_A (cf_012345 cI h0 h1 h2 h2a2 h2a3 h2a4 h2a5 h2a6 h2a7 h3 h3a0 h4 h4a0 h4a1 h4a2 h5 s0 s1 s2 s3 s4 s5) sz) := by
  refine gm_i (cc := cX5_say) (maxL := 1) (by decide) rfl (Nat.le_of_ble_eq_true rfl) ?_
  intro p e s m below meth c A QQ ls hx hb hml hown hts hK hN hA hP hD hS hl hret
  have hown : s.vm.findClass RX5 = some m.cls := hown
  have hl : lv_has ls 1 [(0, .ref h5)] := hl
  have in5 : ∀ w ∈ u_ws RX5 TX5 10, w ∈ wsX5_say := by decide +kernel
  have fl50 := hts (.fieldLink RX5 50 "ParserParlour" "wrongPlace" "I") (by decide +kernel)
  have fl19 := hts (.fieldLink RX5 19 "ParserParlour" "words" "LParserParlour$Words;") (by decide +kernel)
  have in3 : ∀ w ∈ u_ws RX3 TX3 5, w ∈ wsX5_say := by decide +kernel
  have fl112 := va_Nw.use (A := ([.ref h5] : List Value).toArray) (by rfl) (hN _ (List.mem_of_getElem? (i := 2) rfl))
  have fl46 := hts (.fieldLink RX5 46 "ParserParlour" "lastOutcome" "I") (by decide +kernel)
  have fl53 := hts (.fieldLink RX5 53 "ParserParlour" "askedThings" "I") (by decide +kernel)
  have fl59 := hts (.fieldLink RX5 59 "ParserParlour" "questionCount" "I") (by decide +kernel)
  have J88 : ∀ (s0 : S0) (s1 : S1) (s2 : S2) (s3 : S3) (s4 : S4) (s5 : S5) (H : Heap) (locs : List Loc), va_P (dC, dI) vwCl (cf_012345 cI h0 h1 h2 h2a2 h2a3 h2a4 h2a5 h2a6 h2a7 h3 h3a0 h4 h4a0 h4a1 h4a2 h5 s0 s1 s2 s3 s4 s5) H → va_D A (cf_012345 cI h0 h1 h2 h2a2 h2a3 h2a4 h2a5 h2a6 h2a7 h3 h3a0 h4 h4a0 h4a1 h4a2 h5 s0 s1 s2 s3 s4 s5) → va_S A s.heap H locs → ∀ (ls : Array Slot), lv_has ls 1 [(0, .ref h5)] → fX5_say_88 s0 s1 s2 s3 s4 s5 = some (r, s0f, s1f, s2f, s3f, s4f, s5f) → W p l e rmX5_say s m ([.ref h5] : List Value).toArray below meth c H locs 0 0 QQ (F0 m 88 ls []) := by
    intro  s0 s1 s2 s3 s4 s5 H locs hP hD hS ls hl hf
    unfold fX5_say_88 at hf
    refine lv_aload_n hx hb dX5_say_88 rfl (lv_at hl 0 rfl) ?_
    refine va_get (D := (dC, dI)) (ci := 5) (v := .ref h3) (C := RX5) (T := TX5) (N := 10) hx hb hts in5 hown hK hP 15 rfl rfl 1 (by decide) fl19 (fun _ h9 => h9) rfl dX5_say_89 ?_
    obtain ⟨s3_1, hc_1, hf⟩ := bn1_ok hf
    refine gc_v (wc := (cf_3 cI h3 h3a0 s3)) (wr := (cf_01245 cI h0 h1 h2 h2a2 h2a3 h2a4 h2a5 h2a6 h2a7 h4 h4a0 h4a1 h4a2 h5 h3 s0 s1 s2 s4 s5)) (w1 := (cf_3 cI h3 h3a0 s3_1)) (ws' := (cf_012345 cI h0 h1 h2 h2a2 h2a3 h2a4 h2a5 h2a6 h2a7 h3 h3a0 h4 h4a0 h4a1 h4a2 h5 s0 s1 s2 s3_1 s4 s5)) hP hD hS hA [9, 10] [0, 1, 2, 3, 4, 5, 6, 7, 8, 11, 12, 13, 14, 15] [0, 1, 2, 3, 4, 5, 6, 7, 8, 14, 15, 9, 10, 11, 12, 13] rfl rfl (by decide) (by decide) rfl (by decide) (va_runV (As := []) (rest := []) ⟨hx, hb, hml, hown, hts⟩ (ktX3_clear l dC dI cI h3 h3a0 _ s3 s3_1 hc_1) (cwV 0 hts gX5_say_X3_clear rfl rfl rfl (by decide +kernel) ⟨Nat.le_of_ble_eq_true rfl, Nat.le_of_ble_eq_true rfl⟩) (gc_V (ci := 3) (q0 := 0) (C := RX3) (T := TX3) (N := 5) (hP.sub (ws' := (cf_3 cI h3 h3a0 s3)) [9, 10] rfl) (hK.sub (tys' := [(cI, .int)]) [0] rfl) (hD.sub (ws' := (cf_3 cI h3 h3a0 s3)) [9, 10] (by decide) rfl) hN rfl rfl) rfl rfl hl.1 rfl (lv_room (Nat.le_of_ble_eq_true rfl)) dX5_say_92 ⟨Nat.zero_le _, Nat.zero_le _⟩) (fun H locs hP hD hS => ?_)
    refine lv_aload_n hx hb dX5_say_95 rfl (lv_at hl 0 rfl) ?_
    refine va_get (D := (dC, dI)) (ci := 5) (v := .int (S5_lastOutcome s5)) (C := RX5) (T := TX5) (N := 10) hx hb hts in5 hown hK hP 15 rfl rfl 5 (by decide) fl46 (fun _ h9 => h9) rfl dX5_say_96 ?_
    have hf : (some ((S5_lastOutcome s5), s0, s1, s2, s3_1, s4, s5) : Option (Int32 × S0 × S1 × S2 × S3 × S4 × S5)) = some (r, s0f, s1f, s2f, s3f, s4f, s5f) := hf
    have he := Option.some.inj hf
    have he0 : (S5_lastOutcome s5) = r := congrArg (fun q => q.1) he
    have he1 : s0 = s0f := congrArg (fun q => q.2.1) he
    have he2 : s1 = s1f := congrArg (fun q => q.2.2.1) he
    have he3 : s2 = s2f := congrArg (fun q => q.2.2.2.1) he
    have he4 : s3_1 = s3f := congrArg (fun q => q.2.2.2.2.1) he
    have he5 : s4 = s4f := congrArg (fun q => q.2.2.2.2.2.1) he
    have he6 : s5 = s5f := congrArg (fun q => q.2.2.2.2.2.2) he
    exact hret _ _ _ _ _ _ he0 (by rw [← he1, ← he2, ← he3, ← he4, ← he5, ← he6]) dX5_say_99 hP hD hS
  have J70 : ∀ (s0 : S0) (s1 : S1) (s2 : S2) (s3 : S3) (s4 : S4) (s5 : S5) (H : Heap) (locs : List Loc), va_P (dC, dI) vwCl (cf_012345 cI h0 h1 h2 h2a2 h2a3 h2a4 h2a5 h2a6 h2a7 h3 h3a0 h4 h4a0 h4a1 h4a2 h5 s0 s1 s2 s3 s4 s5) H → va_D A (cf_012345 cI h0 h1 h2 h2a2 h2a3 h2a4 h2a5 h2a6 h2a7 h3 h3a0 h4 h4a0 h4a1 h4a2 h5 s0 s1 s2 s3 s4 s5) → va_S A s.heap H locs → ∀ (ls : Array Slot), lv_has ls 1 [(0, .ref h5)] → fX5_say_70 s0 s1 s2 s3 s4 s5 = some (r, s0f, s1f, s2f, s3f, s4f, s5f) → W p l e rmX5_say s m ([.ref h5] : List Value).toArray below meth c H locs 0 0 QQ (F0 m 70 ls []) := by
    intro  s0 s1 s2 s3 s4 s5 H locs hP hD hS ls hl hf
    unfold fX5_say_70 at hf
    refine lv_aload_n hx hb dX5_say_70 rfl (lv_at hl 0 rfl) ?_
    refine va_get (D := (dC, dI)) (ci := 5) (v := .int (S5_lastOutcome s5)) (C := RX5) (T := TX5) (N := 10) hx hb hts in5 hown hK hP 15 rfl rfl 5 (by decide) fl46 (fun _ h9 => h9) rfl dX5_say_71 ?_
    refine lv_iconst (v := 1) hx hb dX5_say_74 (by decide) ?_
    refine lv_icmp_ne (tgt := 88) hx hb dX5_say_75 (by decide) (fun c_1 => ?_) (fun c_1 => ?_)
    · have hf := it_f c_1 hf
      exact J88 s0 s1 s2 s3 s4 s5 _ _ hP hD hS _ (lv_sub hl [0] rfl) hf
    · have hf := it_t c_1 hf
      refine lv_aload_n hx hb dX5_say_78 rfl (lv_at hl 0 rfl) ?_
      refine lv_dup hx hb dX5_say_79 rfl ?_
      refine va_get (D := (dC, dI)) (ci := 5) (v := .int (S5_questionCount s5)) (C := RX5) (T := TX5) (N := 10) hx hb hts in5 hown hK hP 15 rfl rfl 9 (by decide) fl59 (fun _ h9 => h9) rfl dX5_say_80 ?_
      refine lv_iconst (v := 1) hx hb dX5_say_83 (by decide) ?_
      refine lv_iadd hx hb dX5_say_84 ?_
      refine va_put (D := (dC, dI)) (ci := 5) (v := .int ((S5_questionCount s5) + 1)) (ty := .int) (C := RX5) (T := TX5) (N := 10) hx hb hts in5 tyX5 tyX5_ok nmX5 hown hK hP hD hS 15 rfl rfl 9 (by decide) fl59 (fun _ h9 => h9) rfl (by decide +kernel) rfl rfl (Nat.le_of_ble_eq_true rfl) dX5_say_85 (fun H locs hP hD hS => ?_)
      have hP : va_P (dC, dI) vwCl (cf_012345 cI h0 h1 h2 h2a2 h2a3 h2a4 h2a5 h2a6 h2a7 h3 h3a0 h4 h4a0 h4a1 h4a2 h5 s0 s1 s2 s3 s4 (S5_set_questionCount s5 ((S5_questionCount s5) + 1))) H := hP
      have hD : va_D A (cf_012345 cI h0 h1 h2 h2a2 h2a3 h2a4 h2a5 h2a6 h2a7 h3 h3a0 h4 h4a0 h4a1 h4a2 h5 s0 s1 s2 s3 s4 (S5_set_questionCount s5 ((S5_questionCount s5) + 1))) := hD
      exact J88 s0 s1 s2 s3 s4 (S5_set_questionCount s5 ((S5_questionCount s5) + 1)) _ _ hP hD hS _ (lv_sub hl [0] rfl) hf
  unfold fX5_say at hf
  refine lv_aload_n hx hb dX5_say_0 rfl (lv_at hl 0 rfl) ?_
  refine lv_iconst (v := (-1)) hx hb dX5_say_1 (by decide) ?_
  refine va_put (D := (dC, dI)) (ci := 5) (v := .int (-1)) (ty := .int) (C := RX5) (T := TX5) (N := 10) hx hb hts in5 tyX5 tyX5_ok nmX5 hown hK hP hD hS 15 rfl rfl 6 (by decide) fl50 (fun _ h9 => h9) rfl (by decide +kernel) rfl rfl (Nat.le_of_ble_eq_true rfl) dX5_say_2 (fun H locs hP hD hS => ?_)
  have hP : va_P (dC, dI) vwCl (cf_012345 cI h0 h1 h2 h2a2 h2a3 h2a4 h2a5 h2a6 h2a7 h3 h3a0 h4 h4a0 h4a1 h4a2 h5 s0 s1 s2 s3 s4 (S5_set_wrongPlace s5 (-1))) H := hP
  have hD : va_D A (cf_012345 cI h0 h1 h2 h2a2 h2a3 h2a4 h2a5 h2a6 h2a7 h3 h3a0 h4 h4a0 h4a1 h4a2 h5 s0 s1 s2 s3 s4 (S5_set_wrongPlace s5 (-1))) := hD
  refine lv_aload_n hx hb dX5_say_5 rfl (lv_at hl 0 rfl) ?_
  refine va_get (D := (dC, dI)) (ci := 5) (v := .ref h3) (C := RX5) (T := TX5) (N := 10) hx hb hts in5 hown hK hP 15 rfl rfl 1 (by decide) fl19 (fun _ h9 => h9) rfl dX5_say_6 ?_
  refine va_getN (D := (dC, dI)) (ci := 3) (v := .int (S3_count s3)) (C := RX3) (T := TX3) (N := 5) hx hb hts in3 hown hK hP 9 rfl rfl 1 (by decide) fl112 (fun _ h9 => h9) rfl dX5_say_9 ?_
  refine lv_if_ne (tgt := 23) hx hb dX5_say_12 (by decide) (fun c_1 => ?_) (fun c_1 => ?_)
  · have hf := it_f c_1 hf
    refine lv_aload_n hx hb dX5_say_23 rfl (lv_at hl 0 rfl) ?_
    refine va_get (D := (dC, dI)) (ci := 5) (v := .ref h3) (C := RX5) (T := TX5) (N := 10) hx hb hts in5 hown hK hP 15 rfl rfl 1 (by decide) fl19 (fun _ h9 => h9) rfl dX5_say_24 ?_
    obtain ⟨r_2, hc_2, hf⟩ := bn1_ok hf
    refine gc_i (wc := (cf_3 cI h3 h3a0 s3)) (wr := (cf_01245 cI h0 h1 h2 h2a2 h2a3 h2a4 h2a5 h2a6 h2a7 h4 h4a0 h4a1 h4a2 h5 h3 s0 s1 s2 s4 (S5_set_wrongPlace s5 (-1)))) (w1 := (cf_3 cI h3 h3a0 s3)) (ws' := (cf_012345 cI h0 h1 h2 h2a2 h2a3 h2a4 h2a5 h2a6 h2a7 h3 h3a0 h4 h4a0 h4a1 h4a2 h5 s0 s1 s2 s3 s4 (S5_set_wrongPlace s5 (-1)))) hP hD hS hA [9, 10] [0, 1, 2, 3, 4, 5, 6, 7, 8, 11, 12, 13, 14, 15] [0, 1, 2, 3, 4, 5, 6, 7, 8, 14, 15, 9, 10, 11, 12, 13] rfl rfl (by decide) (by decide) rfl (by decide) (va_runV (As := []) (rest := []) ⟨hx, hb, hml, hown, hts⟩ (ktX3_peek l dC dI cI h3 h3a0 _ s3 r_2 hc_2) (cwV 0 hts gX5_say_X3_peek rfl rfl rfl (by decide +kernel) ⟨Nat.le_of_ble_eq_true rfl, Nat.le_of_ble_eq_true rfl⟩) (gc_V (ci := 3) (q0 := 0) (C := RX3) (T := TX3) (N := 5) (hP.sub (ws' := (cf_3 cI h3 h3a0 s3)) [9, 10] rfl) (hK.sub (tys' := [(cI, .int)]) [0] rfl) (hD.sub (ws' := (cf_3 cI h3 h3a0 s3)) [9, 10] (by decide) rfl) hN rfl rfl) rfl rfl hl.1 rfl (lv_room (Nat.le_of_ble_eq_true rfl)) dX5_say_27 ⟨Nat.zero_le _, Nat.zero_le _⟩) (fun H locs hP hD hS => ?_)
    obtain ⟨r_3, hc_3, hf⟩ := bn1_ok hf
    refine gc_i (wc := ([] : va_W)) (wr := (cf_012345 cI h0 h1 h2 h2a2 h2a3 h2a4 h2a5 h2a6 h2a7 h3 h3a0 h4 h4a0 h4a1 h4a2 h5 s0 s1 s2 s3 s4 (S5_set_wrongPlace s5 (-1)))) (w1 := ([] : va_W)) (ws' := (cf_012345 cI h0 h1 h2 h2a2 h2a3 h2a4 h2a5 h2a6 h2a7 h3 h3a0 h4 h4a0 h4a1 h4a2 h5 s0 s1 s2 s3 s4 (S5_set_wrongPlace s5 (-1)))) hP hD hS hA [] [0, 1, 2, 3, 4, 5, 6, 7, 8, 9, 10, 11, 12, 13, 14, 15] [0, 1, 2, 3, 4, 5, 6, 7, 8, 9, 10, 11, 12, 13, 14, 15] rfl rfl (by decide) (by decide) rfl (by decide) (va_runS (As := [.int r_2]) (rest := []) ⟨hx, hb, hml, hown, hts⟩ (ktX5_isVerb l dC dI _ r_2 r_3 hc_3) (va_cwS 1 hts gX5_say_X5_isVerb rfl rfl rfl (by decide +kernel) ⟨Nat.le_of_ble_eq_true rfl, Nat.le_of_ble_eq_true rfl⟩) (gc_S (hP.sub (ws' := ([] : va_W)) [] rfl) (hK.sub (tys' := []) [] rfl) (hD.sub (ws' := ([] : va_W)) [] (by decide) rfl) hN) rfl rfl hl.1 rfl (lv_room (Nat.le_of_ble_eq_true rfl)) dX5_say_30 ⟨Nat.zero_le _, Nat.zero_le _⟩) (fun H locs hP hD hS => ?_)
    refine lv_if_eq (tgt := 47) hx hb dX5_say_33 (by decide) (fun c_4 => ?_) (fun c_4 => ?_)
    · have hf := it_t c_4 hf
      refine lv_aload_n hx hb dX5_say_47 rfl (lv_at hl 0 rfl) ?_
      refine va_get (D := (dC, dI)) (ci := 5) (v := .int (S5_askedThings s5)) (C := RX5) (T := TX5) (N := 10) hx hb hts in5 hown hK hP 15 rfl rfl 7 (by decide) fl53 (fun _ h9 => h9) rfl dX5_say_48 ?_
      refine lv_if_eq (tgt := 65) hx hb dX5_say_51 (by decide) (fun c_5 => ?_) (fun c_5 => ?_)
      · have hf := it_t c_5 hf
        refine lv_aload_n hx hb dX5_say_65 rfl (lv_at hl 0 rfl) ?_
        refine lv_iconst (v := 3) hx hb dX5_say_66 (by decide) ?_
        refine va_put (D := (dC, dI)) (ci := 5) (v := .int 3) (ty := .int) (C := RX5) (T := TX5) (N := 10) hx hb hts in5 tyX5 tyX5_ok nmX5 hown hK hP hD hS 15 rfl rfl 5 (by decide) fl46 (fun _ h9 => h9) rfl (by decide +kernel) rfl rfl (Nat.le_of_ble_eq_true rfl) dX5_say_67 (fun H locs hP hD hS => ?_)
        have hP : va_P (dC, dI) vwCl (cf_012345 cI h0 h1 h2 h2a2 h2a3 h2a4 h2a5 h2a6 h2a7 h3 h3a0 h4 h4a0 h4a1 h4a2 h5 s0 s1 s2 s3 s4 (S5_set_lastOutcome (S5_set_wrongPlace s5 (-1)) 3)) H := hP
        have hD : va_D A (cf_012345 cI h0 h1 h2 h2a2 h2a3 h2a4 h2a5 h2a6 h2a7 h3 h3a0 h4 h4a0 h4a1 h4a2 h5 s0 s1 s2 s3 s4 (S5_set_lastOutcome (S5_set_wrongPlace s5 (-1)) 3)) := hD
        exact J70 s0 s1 s2 s3 s4 (S5_set_lastOutcome (S5_set_wrongPlace s5 (-1)) 3) _ _ hP hD hS _ (lv_sub hl [0] rfl) hf
      · have hf := it_f c_5 hf
        refine lv_aload_n hx hb dX5_say_54 rfl (lv_at hl 0 rfl) ?_
        refine lv_aload_n hx hb dX5_say_55 rfl (lv_at hl 0 rfl) ?_
        obtain ⟨r_6, s0_6, s1_6, s2_6, s3_6, s4_6, s5_6, hc_6, hf⟩ := bn7_ok hf
        refine gc_i (wc := (cf_012345 cI h0 h1 h2 h2a2 h2a3 h2a4 h2a5 h2a6 h2a7 h3 h3a0 h4 h4a0 h4a1 h4a2 h5 s0 s1 s2 s3 s4 (S5_set_wrongPlace s5 (-1)))) (wr := ([] : va_W)) (w1 := (cf_012345 cI h0 h1 h2 h2a2 h2a3 h2a4 h2a5 h2a6 h2a7 h3 h3a0 h4 h4a0 h4a1 h4a2 h5 s0_6 s1_6 s2_6 s3_6 s4_6 s5_6)) (ws' := (cf_012345 cI h0 h1 h2 h2a2 h2a3 h2a4 h2a5 h2a6 h2a7 h3 h3a0 h4 h4a0 h4a1 h4a2 h5 s0_6 s1_6 s2_6 s3_6 s4_6 s5_6)) hP hD hS hA [0, 1, 2, 3, 4, 5, 6, 7, 8, 9, 10, 11, 12, 13, 14, 15] [] [0, 1, 2, 3, 4, 5, 6, 7, 8, 9, 10, 11, 12, 13, 14, 15] rfl rfl (by decide) (by decide) rfl (by decide) (va_runV (As := []) (rest := [.ref h5]) ⟨hx, hb, hml, hown, hts⟩ (ktX5_hearAnswer l dC dI cI h0 h1 h2 h2a2 h2a3 h2a4 h2a5 h2a6 h2a7 h3 h3a0 h4 h4a0 h4a1 h4a2 h5 _ s0 s1 s2 s3 s4 (S5_set_wrongPlace s5 (-1)) r_6 s0_6 s1_6 s2_6 s3_6 s4_6 s5_6 hc_6) (cwV 0 hts gX5_say_X5_hearAnswer rfl rfl rfl (by decide +kernel) ⟨Nat.le_of_ble_eq_true rfl, Nat.le_of_ble_eq_true rfl⟩) (gc_V (ci := 5) (q0 := 15) (C := RX5) (T := TX5) (N := 10) (hP.sub (ws' := (cf_012345 cI h0 h1 h2 h2a2 h2a3 h2a4 h2a5 h2a6 h2a7 h3 h3a0 h4 h4a0 h4a1 h4a2 h5 s0 s1 s2 s3 s4 (S5_set_wrongPlace s5 (-1)))) [0, 1, 2, 3, 4, 5, 6, 7, 8, 9, 10, 11, 12, 13, 14, 15] rfl) (hK.sub (tys' := [(cI, .int)]) [0] rfl) (hD.sub (ws' := (cf_012345 cI h0 h1 h2 h2a2 h2a3 h2a4 h2a5 h2a6 h2a7 h3 h3a0 h4 h4a0 h4a1 h4a2 h5 s0 s1 s2 s3 s4 (S5_set_wrongPlace s5 (-1)))) [0, 1, 2, 3, 4, 5, 6, 7, 8, 9, 10, 11, 12, 13, 14, 15] (by decide) rfl) hN rfl rfl) rfl rfl hl.1 rfl (lv_room (Nat.le_of_ble_eq_true rfl)) dX5_say_56 ⟨Nat.zero_le _, Nat.zero_le _⟩) (fun H locs hP hD hS => ?_)
        refine va_put (D := (dC, dI)) (ci := 5) (v := .int r_6) (ty := .int) (C := RX5) (T := TX5) (N := 10) hx hb hts in5 tyX5 tyX5_ok nmX5 hown hK hP hD hS 15 rfl rfl 5 (by decide) fl46 (fun _ h9 => h9) rfl (by decide +kernel) rfl rfl (Nat.le_of_ble_eq_true rfl) dX5_say_59 (fun H locs hP hD hS => ?_)
        have hP : va_P (dC, dI) vwCl (cf_012345 cI h0 h1 h2 h2a2 h2a3 h2a4 h2a5 h2a6 h2a7 h3 h3a0 h4 h4a0 h4a1 h4a2 h5 s0_6 s1_6 s2_6 s3_6 s4_6 (S5_set_lastOutcome s5_6 r_6)) H := hP
        have hD : va_D A (cf_012345 cI h0 h1 h2 h2a2 h2a3 h2a4 h2a5 h2a6 h2a7 h3 h3a0 h4 h4a0 h4a1 h4a2 h5 s0_6 s1_6 s2_6 s3_6 s4_6 (S5_set_lastOutcome s5_6 r_6)) := hD
        refine lv_goto (tgt := 70) hx hb dX5_say_62 (by decide) ?_
        exact J70 s0_6 s1_6 s2_6 s3_6 s4_6 (S5_set_lastOutcome s5_6 r_6) _ _ hP hD hS _ (lv_sub hl [0] rfl) hf
    · have hf := it_f c_4 hf
      refine lv_aload_n hx hb dX5_say_36 rfl (lv_at hl 0 rfl) ?_
      refine lv_aload_n hx hb dX5_say_37 rfl (lv_at hl 0 rfl) ?_
      obtain ⟨r_7, s0_7, s1_7, s2_7, s3_7, s4_7, s5_7, hc_7, hf⟩ := bn7_ok hf
      refine gc_i (wc := (cf_012345 cI h0 h1 h2 h2a2 h2a3 h2a4 h2a5 h2a6 h2a7 h3 h3a0 h4 h4a0 h4a1 h4a2 h5 s0 s1 s2 s3 s4 (S5_set_wrongPlace s5 (-1)))) (wr := ([] : va_W)) (w1 := (cf_012345 cI h0 h1 h2 h2a2 h2a3 h2a4 h2a5 h2a6 h2a7 h3 h3a0 h4 h4a0 h4a1 h4a2 h5 s0_7 s1_7 s2_7 s3_7 s4_7 s5_7)) (ws' := (cf_012345 cI h0 h1 h2 h2a2 h2a3 h2a4 h2a5 h2a6 h2a7 h3 h3a0 h4 h4a0 h4a1 h4a2 h5 s0_7 s1_7 s2_7 s3_7 s4_7 s5_7)) hP hD hS hA [0, 1, 2, 3, 4, 5, 6, 7, 8, 9, 10, 11, 12, 13, 14, 15] [] [0, 1, 2, 3, 4, 5, 6, 7, 8, 9, 10, 11, 12, 13, 14, 15] rfl rfl (by decide) (by decide) rfl (by decide) (va_runV (As := []) (rest := [.ref h5]) ⟨hx, hb, hml, hown, hts⟩ (ktX5_hearOrder l dC dI cI h0 h1 h2 h2a2 h2a3 h2a4 h2a5 h2a6 h2a7 h3 h3a0 h4 h4a0 h4a1 h4a2 h5 _ s0 s1 s2 s3 s4 (S5_set_wrongPlace s5 (-1)) r_7 s0_7 s1_7 s2_7 s3_7 s4_7 s5_7 hc_7) (cwV 0 hts gX5_say_X5_hearOrder rfl rfl rfl (by decide +kernel) ⟨Nat.le_of_ble_eq_true rfl, Nat.le_of_ble_eq_true rfl⟩) (gc_V (ci := 5) (q0 := 15) (C := RX5) (T := TX5) (N := 10) (hP.sub (ws' := (cf_012345 cI h0 h1 h2 h2a2 h2a3 h2a4 h2a5 h2a6 h2a7 h3 h3a0 h4 h4a0 h4a1 h4a2 h5 s0 s1 s2 s3 s4 (S5_set_wrongPlace s5 (-1)))) [0, 1, 2, 3, 4, 5, 6, 7, 8, 9, 10, 11, 12, 13, 14, 15] rfl) (hK.sub (tys' := [(cI, .int)]) [0] rfl) (hD.sub (ws' := (cf_012345 cI h0 h1 h2 h2a2 h2a3 h2a4 h2a5 h2a6 h2a7 h3 h3a0 h4 h4a0 h4a1 h4a2 h5 s0 s1 s2 s3 s4 (S5_set_wrongPlace s5 (-1)))) [0, 1, 2, 3, 4, 5, 6, 7, 8, 9, 10, 11, 12, 13, 14, 15] (by decide) rfl) hN rfl rfl) rfl rfl hl.1 rfl (lv_room (Nat.le_of_ble_eq_true rfl)) dX5_say_38 ⟨Nat.zero_le _, Nat.zero_le _⟩) (fun H locs hP hD hS => ?_)
      refine va_put (D := (dC, dI)) (ci := 5) (v := .int r_7) (ty := .int) (C := RX5) (T := TX5) (N := 10) hx hb hts in5 tyX5 tyX5_ok nmX5 hown hK hP hD hS 15 rfl rfl 5 (by decide) fl46 (fun _ h9 => h9) rfl (by decide +kernel) rfl rfl (Nat.le_of_ble_eq_true rfl) dX5_say_41 (fun H locs hP hD hS => ?_)
      have hP : va_P (dC, dI) vwCl (cf_012345 cI h0 h1 h2 h2a2 h2a3 h2a4 h2a5 h2a6 h2a7 h3 h3a0 h4 h4a0 h4a1 h4a2 h5 s0_7 s1_7 s2_7 s3_7 s4_7 (S5_set_lastOutcome s5_7 r_7)) H := hP
      have hD : va_D A (cf_012345 cI h0 h1 h2 h2a2 h2a3 h2a4 h2a5 h2a6 h2a7 h3 h3a0 h4 h4a0 h4a1 h4a2 h5 s0_7 s1_7 s2_7 s3_7 s4_7 (S5_set_lastOutcome s5_7 r_7)) := hD
      refine lv_goto (tgt := 70) hx hb dX5_say_44 (by decide) ?_
      exact J70 s0_7 s1_7 s2_7 s3_7 s4_7 (S5_set_lastOutcome s5_7 r_7) _ _ hP hD hS _ (lv_sub hl [0] rfl) hf
  · have hf := it_t c_1 hf
    refine lv_aload_n hx hb dX5_say_15 rfl (lv_at hl 0 rfl) ?_
    refine lv_iconst (v := 2) hx hb dX5_say_16 (by decide) ?_
    refine va_put (D := (dC, dI)) (ci := 5) (v := .int 2) (ty := .int) (C := RX5) (T := TX5) (N := 10) hx hb hts in5 tyX5 tyX5_ok nmX5 hown hK hP hD hS 15 rfl rfl 5 (by decide) fl46 (fun _ h9 => h9) rfl (by decide +kernel) rfl rfl (Nat.le_of_ble_eq_true rfl) dX5_say_17 (fun H locs hP hD hS => ?_)
    have hP : va_P (dC, dI) vwCl (cf_012345 cI h0 h1 h2 h2a2 h2a3 h2a4 h2a5 h2a6 h2a7 h3 h3a0 h4 h4a0 h4a1 h4a2 h5 s0 s1 s2 s3 s4 (S5_set_lastOutcome (S5_set_wrongPlace s5 (-1)) 2)) H := hP
    have hD : va_D A (cf_012345 cI h0 h1 h2 h2a2 h2a3 h2a4 h2a5 h2a6 h2a7 h3 h3a0 h4 h4a0 h4a1 h4a2 h5 s0 s1 s2 s3 s4 (S5_set_lastOutcome (S5_set_wrongPlace s5 (-1)) 2)) := hD
    refine lv_goto (tgt := 70) hx hb dX5_say_20 (by decide) ?_
    exact J70 s0 s1 s2 s3 s4 (S5_set_lastOutcome (S5_set_wrongPlace s5 (-1)) 2) _ _ hP hD hS _ (lv_sub hl [0] rfl) hf
abbrev rmX5_outcome : Room := { frames := 0, cells := 0, slots := 0, locals := 0 }
set_option maxHeartbeats 2000000 in
set_option maxRecDepth 100000 in
theorem ktX5_outcome (l : Launch) (dC : Nat → ClassId) (dI : Nat → Nat → Nat) (cI : ClassId) (h5 h4 h3 h2 h1 h0 : Nat) (sz : Nat) (s5 : S5) (r : Int32) (hf : fX5_outcome s5 = some r) : Met l yX5_outcome wsX5_outcome rmX5_outcome (va_Pc [.ref h5] (pre_w (dC, dI) (cf_5 cI h5 h4 h3 h2 h1 h0 s5) [(cI, .int)] sz)) (va_Qi (fun (r' : Int32) (_ : Unit) => r' = r) (post_w (dC, dI) (cf_5 cI h5 h4 h3 h2 h1 h0 s5) [(cI, .int)] (va_A (cf_5 cI h5 h4 h3 h2 h1 h0 s5) sz)) (va_A (cf_5 cI h5 h4 h3 h2 h1 h0 s5) sz)) 0 0 (va_A (cf_5 cI h5 h4 h3 h2 h1 h0 s5) sz) := by
  refine gm_i (cc := cX5_outcome) (maxL := 1) (by decide) rfl (Nat.le_of_ble_eq_true rfl) ?_
  intro p e s m below meth c A QQ ls hx hb hml hown hts hK hN hA hP hD hS hl hret
  have hown : s.vm.findClass RX5 = some m.cls := hown
  have hl : lv_has ls 1 [(0, .ref h5)] := hl
  have in5 : ∀ w ∈ u_ws RX5 TX5 10, w ∈ wsX5_outcome := by decide +kernel
  have fl46 := hts (.fieldLink RX5 46 "ParserParlour" "lastOutcome" "I") (by decide +kernel)
  unfold fX5_outcome at hf
  refine lv_aload_n hx hb dX5_outcome_0 rfl (lv_at hl 0 rfl) ?_
  refine va_get (D := (dC, dI)) (ci := 5) (v := .int (S5_lastOutcome s5)) (C := RX5) (T := TX5) (N := 10) hx hb hts in5 hown hK hP 0 rfl rfl 5 (by decide) fl46 (fun _ h9 => h9) rfl dX5_outcome_1 ?_
  have hf : (some (S5_lastOutcome s5) : Option (Int32)) = some r := hf
  have he := Option.some.inj hf
  have he0 : (S5_lastOutcome s5) = r := he
  exact hret _ _ _ _ _ _ he0 rfl dX5_outcome_4 hP hD hS
abbrev rmX5_wrongAt : Room := { frames := 0, cells := 0, slots := 0, locals := 0 }
set_option maxHeartbeats 2000000 in
set_option maxRecDepth 100000 in
theorem ktX5_wrongAt (l : Launch) (dC : Nat → ClassId) (dI : Nat → Nat → Nat) (cI : ClassId) (h5 h4 h3 h2 h1 h0 : Nat) (sz : Nat) (s5 : S5) (r : Int32) (hf : fX5_wrongAt s5 = some r) : Met l yX5_wrongAt wsX5_wrongAt rmX5_wrongAt (va_Pc [.ref h5] (pre_w (dC, dI) (cf_5 cI h5 h4 h3 h2 h1 h0 s5) [(cI, .int)] sz)) (va_Qi (fun (r' : Int32) (_ : Unit) => r' = r) (post_w (dC, dI) (cf_5 cI h5 h4 h3 h2 h1 h0 s5) [(cI, .int)] (va_A (cf_5 cI h5 h4 h3 h2 h1 h0 s5) sz)) (va_A (cf_5 cI h5 h4 h3 h2 h1 h0 s5) sz)) 0 0 (va_A (cf_5 cI h5 h4 h3 h2 h1 h0 s5) sz) := by
  refine gm_i (cc := cX5_wrongAt) (maxL := 1) (by decide) rfl (Nat.le_of_ble_eq_true rfl) ?_
  intro p e s m below meth c A QQ ls hx hb hml hown hts hK hN hA hP hD hS hl hret
  have hown : s.vm.findClass RX5 = some m.cls := hown
  have hl : lv_has ls 1 [(0, .ref h5)] := hl
  have in5 : ∀ w ∈ u_ws RX5 TX5 10, w ∈ wsX5_wrongAt := by decide +kernel
  have fl50 := hts (.fieldLink RX5 50 "ParserParlour" "wrongPlace" "I") (by decide +kernel)
  unfold fX5_wrongAt at hf
  refine lv_aload_n hx hb dX5_wrongAt_0 rfl (lv_at hl 0 rfl) ?_
  refine va_get (D := (dC, dI)) (ci := 5) (v := .int (S5_wrongPlace s5)) (C := RX5) (T := TX5) (N := 10) hx hb hts in5 hown hK hP 0 rfl rfl 6 (by decide) fl50 (fun _ h9 => h9) rfl dX5_wrongAt_1 ?_
  have hf : (some (S5_wrongPlace s5) : Option (Int32)) = some r := hf
  have he := Option.some.inj hf
  have he0 : (S5_wrongPlace s5) = r := he
  exact hret _ _ _ _ _ _ he0 rfl dX5_wrongAt_4 hP hD hS
abbrev rmX5_verb : Room := { frames := 0, cells := 0, slots := 0, locals := 0 }
set_option maxHeartbeats 2000000 in
set_option maxRecDepth 100000 in
theorem ktX5_verb (l : Launch) (dC : Nat → ClassId) (dI : Nat → Nat → Nat) (cI : ClassId) (h1 h5 h4 h3 h2 h0 : Nat) (sz : Nat) (s1 : S1) (s5 : S5) (r : Int32) (hf : fX5_verb s1 s5 = some r) : Met l yX5_verb wsX5_verb rmX5_verb (va_Pc [.ref h5] (pre_w (dC, dI) (cf_15 cI h1 h5 h4 h3 h2 h0 s1 s5) [(cI, .int)] sz)) (va_Qi (fun (r' : Int32) (_ : Unit) => r' = r) (post_w (dC, dI) (cf_15 cI h1 h5 h4 h3 h2 h0 s1 s5) [(cI, .int)] (va_A (cf_15 cI h1 h5 h4 h3 h2 h0 s1 s5) sz)) (va_A (cf_15 cI h1 h5 h4 h3 h2 h0 s1 s5) sz)) 0 0 (va_A (cf_15 cI h1 h5 h4 h3 h2 h0 s1 s5) sz) := by
  refine gm_i (cc := cX5_verb) (maxL := 1) (by decide) rfl (Nat.le_of_ble_eq_true rfl) ?_
  intro p e s m below meth c A QQ ls hx hb hml hown hts hK hN hA hP hD hS hl hret
  have hown : s.vm.findClass RX5 = some m.cls := hown
  have hl : lv_has ls 1 [(0, .ref h5)] := hl
  have in5 : ∀ w ∈ u_ws RX5 TX5 10, w ∈ wsX5_verb := by decide +kernel
  have fl33 := hts (.fieldLink RX5 33 "ParserParlour" "memory" "LParserParlour$Memory;") (by decide +kernel)
  have in1 : ∀ w ∈ u_ws RX1 TX1 5, w ∈ wsX5_verb := by decide +kernel
  have fl138 := va_Nw.use (A := ([.ref h5] : List Value).toArray) (by rfl) (hN _ (List.mem_of_getElem? (i := 16) rfl))
  unfold fX5_verb at hf
  refine lv_aload_n hx hb dX5_verb_0 rfl (lv_at hl 0 rfl) ?_
  refine va_get (D := (dC, dI)) (ci := 5) (v := .ref h1) (C := RX5) (T := TX5) (N := 10) hx hb hts in5 hown hK hP 1 rfl rfl 3 (by decide) fl33 (fun _ h9 => h9) rfl dX5_verb_1 ?_
  refine va_getN (D := (dC, dI)) (ci := 1) (v := .int (S1_lastVerb s1)) (C := RX1) (T := TX1) (N := 5) hx hb hts in1 hown hK hP 0 rfl rfl 0 (by decide) fl138 (fun _ h9 => h9) rfl dX5_verb_4 ?_
  have hf : (some (S1_lastVerb s1) : Option (Int32)) = some r := hf
  have he := Option.some.inj hf
  have he0 : (S1_lastVerb s1) = r := he
  exact hret _ _ _ _ _ _ he0 rfl dX5_verb_7 hP hD hS
abbrev rmX5_meant : Room := { frames := 0, cells := 0, slots := 0, locals := 0 }
set_option maxHeartbeats 2000000 in
set_option maxRecDepth 100000 in
theorem ktX5_meant (l : Launch) (dC : Nat → ClassId) (dI : Nat → Nat → Nat) (cI : ClassId) (h1 h5 h4 h3 h2 h0 : Nat) (sz : Nat) (s1 : S1) (s5 : S5) (r : Int32) (hf : fX5_meant s1 s5 = some r) : Met l yX5_meant wsX5_meant rmX5_meant (va_Pc [.ref h5] (pre_w (dC, dI) (cf_15 cI h1 h5 h4 h3 h2 h0 s1 s5) [(cI, .int)] sz)) (va_Qi (fun (r' : Int32) (_ : Unit) => r' = r) (post_w (dC, dI) (cf_15 cI h1 h5 h4 h3 h2 h0 s1 s5) [(cI, .int)] (va_A (cf_15 cI h1 h5 h4 h3 h2 h0 s1 s5) sz)) (va_A (cf_15 cI h1 h5 h4 h3 h2 h0 s1 s5) sz)) 0 0 (va_A (cf_15 cI h1 h5 h4 h3 h2 h0 s1 s5) sz) := by
  refine gm_i (cc := cX5_meant) (maxL := 1) (by decide) rfl (Nat.le_of_ble_eq_true rfl) ?_
  intro p e s m below meth c A QQ ls hx hb hml hown hts hK hN hA hP hD hS hl hret
  have hown : s.vm.findClass RX5 = some m.cls := hown
  have hl : lv_has ls 1 [(0, .ref h5)] := hl
  have in5 : ∀ w ∈ u_ws RX5 TX5 10, w ∈ wsX5_meant := by decide +kernel
  have fl33 := hts (.fieldLink RX5 33 "ParserParlour" "memory" "LParserParlour$Memory;") (by decide +kernel)
  have in1 : ∀ w ∈ u_ws RX1 TX1 5, w ∈ wsX5_meant := by decide +kernel
  have fl141 := va_Nw.use (A := ([.ref h5] : List Value).toArray) (by rfl) (hN _ (List.mem_of_getElem? (i := 18) rfl))
  unfold fX5_meant at hf
  refine lv_aload_n hx hb dX5_meant_0 rfl (lv_at hl 0 rfl) ?_
  refine va_get (D := (dC, dI)) (ci := 5) (v := .ref h1) (C := RX5) (T := TX5) (N := 10) hx hb hts in5 hown hK hP 1 rfl rfl 3 (by decide) fl33 (fun _ h9 => h9) rfl dX5_meant_1 ?_
  refine va_getN (D := (dC, dI)) (ci := 1) (v := .int (S1_lastMeant s1)) (C := RX1) (T := TX1) (N := 5) hx hb hts in1 hown hK hP 0 rfl rfl 1 (by decide) fl141 (fun _ h9 => h9) rfl dX5_meant_4 ?_
  have hf : (some (S1_lastMeant s1) : Option (Int32)) = some r := hf
  have he := Option.some.inj hf
  have he0 : (S1_lastMeant s1) = r := he
  exact hret _ _ _ _ _ _ he0 rfl dX5_meant_7 hP hD hS
abbrev rmX5_done : Room := { frames := 0, cells := 0, slots := 0, locals := 0 }
set_option maxHeartbeats 2000000 in
set_option maxRecDepth 100000 in
theorem ktX5_done (l : Launch) (dC : Nat → ClassId) (dI : Nat → Nat → Nat) (cI : ClassId) (h1 h5 h4 h3 h2 h0 : Nat) (sz : Nat) (s1 : S1) (s5 : S5) (r : Int32) (hf : fX5_done s1 s5 = some r) : Met l yX5_done wsX5_done rmX5_done (va_Pc [.ref h5] (pre_w (dC, dI) (cf_15 cI h1 h5 h4 h3 h2 h0 s1 s5) [(cI, .int)] sz)) (va_Qi (fun (r' : Int32) (_ : Unit) => r' = r) (post_w (dC, dI) (cf_15 cI h1 h5 h4 h3 h2 h0 s1 s5) [(cI, .int)] (va_A (cf_15 cI h1 h5 h4 h3 h2 h0 s1 s5) sz)) (va_A (cf_15 cI h1 h5 h4 h3 h2 h0 s1 s5) sz)) 0 0 (va_A (cf_15 cI h1 h5 h4 h3 h2 h0 s1 s5) sz) := by
  refine gm_i (cc := cX5_done) (maxL := 1) (by decide) rfl (Nat.le_of_ble_eq_true rfl) ?_
  intro p e s m below meth c A QQ ls hx hb hml hown hts hK hN hA hP hD hS hl hret
  have hown : s.vm.findClass RX5 = some m.cls := hown
  have hl : lv_has ls 1 [(0, .ref h5)] := hl
  have in5 : ∀ w ∈ u_ws RX5 TX5 10, w ∈ wsX5_done := by decide +kernel
  have fl33 := hts (.fieldLink RX5 33 "ParserParlour" "memory" "LParserParlour$Memory;") (by decide +kernel)
  have in1 : ∀ w ∈ u_ws RX1 TX1 5, w ∈ wsX5_done := by decide +kernel
  have fl144 := va_Nw.use (A := ([.ref h5] : List Value).toArray) (by rfl) (hN _ (List.mem_of_getElem? (i := 19) rfl))
  unfold fX5_done at hf
  refine lv_aload_n hx hb dX5_done_0 rfl (lv_at hl 0 rfl) ?_
  refine va_get (D := (dC, dI)) (ci := 5) (v := .ref h1) (C := RX5) (T := TX5) (N := 10) hx hb hts in5 hown hK hP 1 rfl rfl 3 (by decide) fl33 (fun _ h9 => h9) rfl dX5_done_1 ?_
  refine va_getN (D := (dC, dI)) (ci := 1) (v := .int (S1_lastDone s1)) (C := RX1) (T := TX1) (N := 5) hx hb hts in1 hown hK hP 0 rfl rfl 2 (by decide) fl144 (fun _ h9 => h9) rfl dX5_done_4 ?_
  have hf : (some (S1_lastDone s1) : Option (Int32)) = some r := hf
  have he := Option.some.inj hf
  have he0 : (S1_lastDone s1) = r := he
  exact hret _ _ _ _ _ _ he0 rfl dX5_done_7 hP hD hS
abbrev rmX5_into : Room := { frames := 0, cells := 0, slots := 0, locals := 0 }
set_option maxHeartbeats 2000000 in
set_option maxRecDepth 100000 in
theorem ktX5_into (l : Launch) (dC : Nat → ClassId) (dI : Nat → Nat → Nat) (cI : ClassId) (h1 h5 h4 h3 h2 h0 : Nat) (sz : Nat) (s1 : S1) (s5 : S5) (r : Int32) (hf : fX5_into s1 s5 = some r) : Met l yX5_into wsX5_into rmX5_into (va_Pc [.ref h5] (pre_w (dC, dI) (cf_15 cI h1 h5 h4 h3 h2 h0 s1 s5) [(cI, .int)] sz)) (va_Qi (fun (r' : Int32) (_ : Unit) => r' = r) (post_w (dC, dI) (cf_15 cI h1 h5 h4 h3 h2 h0 s1 s5) [(cI, .int)] (va_A (cf_15 cI h1 h5 h4 h3 h2 h0 s1 s5) sz)) (va_A (cf_15 cI h1 h5 h4 h3 h2 h0 s1 s5) sz)) 0 0 (va_A (cf_15 cI h1 h5 h4 h3 h2 h0 s1 s5) sz) := by
  refine gm_i (cc := cX5_into) (maxL := 1) (by decide) rfl (Nat.le_of_ble_eq_true rfl) ?_
  intro p e s m below meth c A QQ ls hx hb hml hown hts hK hN hA hP hD hS hl hret
  have hown : s.vm.findClass RX5 = some m.cls := hown
  have hl : lv_has ls 1 [(0, .ref h5)] := hl
  have in5 : ∀ w ∈ u_ws RX5 TX5 10, w ∈ wsX5_into := by decide +kernel
  have fl33 := hts (.fieldLink RX5 33 "ParserParlour" "memory" "LParserParlour$Memory;") (by decide +kernel)
  have in1 : ∀ w ∈ u_ws RX1 TX1 5, w ∈ wsX5_into := by decide +kernel
  have fl147 := va_Nw.use (A := ([.ref h5] : List Value).toArray) (by rfl) (hN _ (List.mem_of_getElem? (i := 20) rfl))
  unfold fX5_into at hf
  refine lv_aload_n hx hb dX5_into_0 rfl (lv_at hl 0 rfl) ?_
  refine va_get (D := (dC, dI)) (ci := 5) (v := .ref h1) (C := RX5) (T := TX5) (N := 10) hx hb hts in5 hown hK hP 1 rfl rfl 3 (by decide) fl33 (fun _ h9 => h9) rfl dX5_into_1 ?_
  refine va_getN (D := (dC, dI)) (ci := 1) (v := .int (S1_lastTarget s1)) (C := RX1) (T := TX1) (N := 5) hx hb hts in1 hown hK hP 0 rfl rfl 3 (by decide) fl147 (fun _ h9 => h9) rfl dX5_into_4 ?_
  have hf : (some (S1_lastTarget s1) : Option (Int32)) = some r := hf
  have he := Option.some.inj hf
  have he0 : (S1_lastTarget s1) = r := he
  exact hret _ _ _ _ _ _ he0 rfl dX5_into_7 hP hD hS
abbrev rmX5_asked : Room := { frames := 0, cells := 0, slots := 0, locals := 0 }
set_option maxHeartbeats 2000000 in
set_option maxRecDepth 100000 in
theorem ktX5_asked (l : Launch) (dC : Nat → ClassId) (dI : Nat → Nat → Nat) (cI : ClassId) (h5 h4 h3 h2 h1 h0 : Nat) (sz : Nat) (s5 : S5) (r : Int32) (hf : fX5_asked s5 = some r) : Met l yX5_asked wsX5_asked rmX5_asked (va_Pc [.ref h5] (pre_w (dC, dI) (cf_5 cI h5 h4 h3 h2 h1 h0 s5) [(cI, .int)] sz)) (va_Qi (fun (r' : Int32) (_ : Unit) => r' = r) (post_w (dC, dI) (cf_5 cI h5 h4 h3 h2 h1 h0 s5) [(cI, .int)] (va_A (cf_5 cI h5 h4 h3 h2 h1 h0 s5) sz)) (va_A (cf_5 cI h5 h4 h3 h2 h1 h0 s5) sz)) 0 0 (va_A (cf_5 cI h5 h4 h3 h2 h1 h0 s5) sz) := by
  refine gm_i (cc := cX5_asked) (maxL := 1) (by decide) rfl (Nat.le_of_ble_eq_true rfl) ?_
  intro p e s m below meth c A QQ ls hx hb hml hown hts hK hN hA hP hD hS hl hret
  have hown : s.vm.findClass RX5 = some m.cls := hown
  have hl : lv_has ls 1 [(0, .ref h5)] := hl
  have in5 : ∀ w ∈ u_ws RX5 TX5 10, w ∈ wsX5_asked := by decide +kernel
  have fl53 := hts (.fieldLink RX5 53 "ParserParlour" "askedThings" "I") (by decide +kernel)
  unfold fX5_asked at hf
  refine lv_aload_n hx hb dX5_asked_0 rfl (lv_at hl 0 rfl) ?_
  refine va_get (D := (dC, dI)) (ci := 5) (v := .int (S5_askedThings s5)) (C := RX5) (T := TX5) (N := 10) hx hb hts in5 hown hK hP 0 rfl rfl 7 (by decide) fl53 (fun _ h9 => h9) rfl dX5_asked_1 ?_
  have hf : (some (S5_askedThings s5) : Option (Int32)) = some r := hf
  have he := Option.some.inj hf
  have he0 : (S5_askedThings s5) = r := he
  exact hret _ _ _ _ _ _ he0 rfl dX5_asked_4 hP hD hS
abbrev rmX5_askedAt : Room := { frames := 2, cells := 0, slots := 0, locals := 42 }
set_option maxHeartbeats 2000000 in
set_option maxRecDepth 100000 in
theorem ktX5_askedAt (l : Launch) (dC : Nat → ClassId) (dI : Nat → Nat → Nat) (cI : ClassId) (h2 h2a2 h2a3 h2a4 h2a5 h2a6 h2a7 h5 h4 h3 h1 h0 : Nat) (sz : Nat) (s2 : S2) (s5 : S5) (r : Int32) (hf : fX5_askedAt s2 s5 = some r) : Met l yX5_askedAt wsX5_askedAt rmX5_askedAt (va_Pc [.ref h5] (pre_w (dC, dI) (cf_25 cI h2 h2a2 h2a3 h2a4 h2a5 h2a6 h2a7 h5 h4 h3 h1 h0 s2 s5) [(cI, .int)] sz)) (va_Qi (fun (r' : Int32) (_ : Unit) => r' = r) (post_w (dC, dI) (cf_25 cI h2 h2a2 h2a3 h2a4 h2a5 h2a6 h2a7 h5 h4 h3 h1 h0 s2 s5) [(cI, .int)] (va_A (cf_25 cI h2 h2a2 h2a3 h2a4 h2a5 h2a6 h2a7 h5 h4 h3 h1 h0 s2 s5) sz)) (va_A (cf_25 cI h2 h2a2 h2a3 h2a4 h2a5 h2a6 h2a7 h5 h4 h3 h1 h0 s2 s5) sz)) 0 0 (va_A (cf_25 cI h2 h2a2 h2a3 h2a4 h2a5 h2a6 h2a7 h5 h4 h3 h1 h0 s2 s5) sz) := by
  refine gm_i (cc := cX5_askedAt) (maxL := 1) (by decide) rfl (Nat.le_of_ble_eq_true rfl) ?_
  intro p e s m below meth c A QQ ls hx hb hml hown hts hK hN hA hP hD hS hl hret
  have hown : s.vm.findClass RX5 = some m.cls := hown
  have hl : lv_has ls 1 [(0, .ref h5)] := hl
  have in5 : ∀ w ∈ u_ws RX5 TX5 10, w ∈ wsX5_askedAt := by decide +kernel
  have fl53 := hts (.fieldLink RX5 53 "ParserParlour" "askedThings" "I") (by decide +kernel)
  have fl26 := hts (.fieldLink RX5 26 "ParserParlour" "order" "LParserParlour$Order;") (by decide +kernel)
  have fl56 := hts (.fieldLink RX5 56 "ParserParlour" "askedPhrase" "I") (by decide +kernel)
  have J22 : ∀ (t0 : Int32) (H : Heap) (locs : List Loc), va_P (dC, dI) vwCl (cf_25 cI h2 h2a2 h2a3 h2a4 h2a5 h2a6 h2a7 h5 h4 h3 h1 h0 s2 s5) H → va_D A (cf_25 cI h2 h2a2 h2a3 h2a4 h2a5 h2a6 h2a7 h5 h4 h3 h1 h0 s2 s5) → va_S A s.heap H locs → ∀ (ls : Array Slot), lv_has ls 1 [] → fX5_askedAt_22 s2 s5 t0 = some r → W p l e rmX5_askedAt s m ([.ref h5] : List Value).toArray below meth c H locs 0 0 QQ (F0 m 22 ls [.int t0]) := by
    intro  t0 H locs hP hD hS ls hl hf
    unfold fX5_askedAt_22 at hf
    have hf : (some t0 : Option (Int32)) = some r := hf
    have he := Option.some.inj hf
    have he0 : t0 = r := he
    exact hret _ _ _ _ _ _ he0 rfl dX5_askedAt_22 hP hD hS
  unfold fX5_askedAt at hf
  refine lv_aload_n hx hb dX5_askedAt_0 rfl (lv_at hl 0 rfl) ?_
  refine va_get (D := (dC, dI)) (ci := 5) (v := .int (S5_askedThings s5)) (C := RX5) (T := TX5) (N := 10) hx hb hts in5 hown hK hP 7 rfl rfl 7 (by decide) fl53 (fun _ h9 => h9) rfl dX5_askedAt_1 ?_
  refine lv_if_ne (tgt := 11) hx hb dX5_askedAt_4 (by decide) (fun c_1 => ?_) (fun c_1 => ?_)
  · have hf := it_f c_1 hf
    refine lv_aload_n hx hb dX5_askedAt_11 rfl (lv_at hl 0 rfl) ?_
    refine va_get (D := (dC, dI)) (ci := 5) (v := .ref h2) (C := RX5) (T := TX5) (N := 10) hx hb hts in5 hown hK hP 7 rfl rfl 2 (by decide) fl26 (fun _ h9 => h9) rfl dX5_askedAt_12 ?_
    refine lv_aload_n hx hb dX5_askedAt_15 rfl (lv_at hl 0 rfl) ?_
    refine va_get (D := (dC, dI)) (ci := 5) (v := .int (S5_askedPhrase s5)) (C := RX5) (T := TX5) (N := 10) hx hb hts in5 hown hK hP 7 rfl rfl 8 (by decide) fl56 (fun _ h9 => h9) rfl dX5_askedAt_16 ?_
    obtain ⟨r_2, hc_2, hf⟩ := bn1_ok hf
    refine gc_i (wc := (cf_2 cI h2 h2a2 h2a3 h2a4 h2a5 h2a6 h2a7 s2)) (wr := (cf_5 cI h5 h4 h3 h2 h1 h0 s5)) (w1 := (cf_2 cI h2 h2a2 h2a3 h2a4 h2a5 h2a6 h2a7 s2)) (ws' := (cf_25 cI h2 h2a2 h2a3 h2a4 h2a5 h2a6 h2a7 h5 h4 h3 h1 h0 s2 s5)) hP hD hS hA [0, 1, 2, 3, 4, 5, 6] [7] [1, 2, 3, 4, 5, 6, 7, 0] rfl rfl (by decide) (by decide) rfl (by decide) (va_runV (As := [.int (S5_askedPhrase s5)]) (rest := []) ⟨hx, hb, hml, hown, hts⟩ (ktX2_lastPlaceOf l dC dI cI h2 h2a2 h2a3 h2a4 h2a5 h2a6 h2a7 _ s2 (S5_askedPhrase s5) r_2 hc_2) (cwV 1 hts gX5_askedAt_X2_lastPlaceOf rfl rfl rfl (by decide +kernel) ⟨Nat.le_of_ble_eq_true rfl, Nat.le_of_ble_eq_true rfl⟩) (gc_V (ci := 2) (q0 := 0) (C := RX2) (T := TX2) (N := 8) (hP.sub (ws' := (cf_2 cI h2 h2a2 h2a3 h2a4 h2a5 h2a6 h2a7 s2)) [0, 1, 2, 3, 4, 5, 6] rfl) (hK.sub (tys' := [(cI, .int)]) [0] rfl) (hD.sub (ws' := (cf_2 cI h2 h2a2 h2a3 h2a4 h2a5 h2a6 h2a7 s2)) [0, 1, 2, 3, 4, 5, 6] (by decide) rfl) hN rfl rfl) rfl rfl hl.1 rfl (lv_room (Nat.le_of_ble_eq_true rfl)) dX5_askedAt_19 ⟨Nat.zero_le _, Nat.zero_le _⟩) (fun H locs hP hD hS => ?_)
    exact J22 r_2 _ _ hP hD hS _ (lv_sub hl [] rfl) hf
  · have hf := it_t c_1 hf
    refine lv_iconst (v := (-1)) hx hb dX5_askedAt_7 (by decide) ?_
    refine lv_goto (tgt := 22) hx hb dX5_askedAt_8 (by decide) ?_
    exact J22 (-1) _ _ hP hD hS _ (lv_sub hl [] rfl) hf
abbrev rmX5_questions : Room := { frames := 0, cells := 0, slots := 0, locals := 0 }
set_option maxHeartbeats 2000000 in
set_option maxRecDepth 100000 in
theorem ktX5_questions (l : Launch) (dC : Nat → ClassId) (dI : Nat → Nat → Nat) (cI : ClassId) (h5 h4 h3 h2 h1 h0 : Nat) (sz : Nat) (s5 : S5) (r : Int32) (hf : fX5_questions s5 = some r) : Met l yX5_questions wsX5_questions rmX5_questions (va_Pc [.ref h5] (pre_w (dC, dI) (cf_5 cI h5 h4 h3 h2 h1 h0 s5) [(cI, .int)] sz)) (va_Qi (fun (r' : Int32) (_ : Unit) => r' = r) (post_w (dC, dI) (cf_5 cI h5 h4 h3 h2 h1 h0 s5) [(cI, .int)] (va_A (cf_5 cI h5 h4 h3 h2 h1 h0 s5) sz)) (va_A (cf_5 cI h5 h4 h3 h2 h1 h0 s5) sz)) 0 0 (va_A (cf_5 cI h5 h4 h3 h2 h1 h0 s5) sz) := by
  refine gm_i (cc := cX5_questions) (maxL := 1) (by decide) rfl (Nat.le_of_ble_eq_true rfl) ?_
  intro p e s m below meth c A QQ ls hx hb hml hown hts hK hN hA hP hD hS hl hret
  have hown : s.vm.findClass RX5 = some m.cls := hown
  have hl : lv_has ls 1 [(0, .ref h5)] := hl
  have in5 : ∀ w ∈ u_ws RX5 TX5 10, w ∈ wsX5_questions := by decide +kernel
  have fl59 := hts (.fieldLink RX5 59 "ParserParlour" "questionCount" "I") (by decide +kernel)
  unfold fX5_questions at hf
  refine lv_aload_n hx hb dX5_questions_0 rfl (lv_at hl 0 rfl) ?_
  refine va_get (D := (dC, dI)) (ci := 5) (v := .int (S5_questionCount s5)) (C := RX5) (T := TX5) (N := 10) hx hb hts in5 hown hK hP 0 rfl rfl 9 (by decide) fl59 (fun _ h9 => h9) rfl dX5_questions_1 ?_
  have hf : (some (S5_questionCount s5) : Option (Int32)) = some r := hf
  have he := Option.some.inj hf
  have he0 : (S5_questionCount s5) = r := he
  exact hret _ _ _ _ _ _ he0 rfl dX5_questions_4 hP hD hS
