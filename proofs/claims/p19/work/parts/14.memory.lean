abbrev rmX1_keep : Room := { frames := 1, cells := 0, slots := 0, locals := 20 }
set_option maxHeartbeats 2000000 in
set_option maxRecDepth 100000 in
theorem ktX1_keep (l : Launch) (dC : Nat → ClassId) (dI : Nat → Nat → Nat) (cI : ClassId) (h1 : Nat) (sz : Nat) (s1 : S1) (a1 : Int32) (a2 : Int32) (a3 : Int32) (a4 : Int32) (s1f : S1) (hf : fX1_keep s1 a1 a2 a3 a4 = some s1f) : Met l yX1_keep wsX1_keep rmX1_keep (va_Pc [.ref h1, .int a1, .int a2, .int a3, .int a4] (pre_w (dC, dI) (cf_1 cI h1 s1) [(cI, .int)] sz)) (va_Qv (fun (_ : Unit) => True) (post_w (dC, dI) (cf_1 cI h1 s1f) [(cI, .int)] (va_A (cf_1 cI h1 s1) sz)) (va_A (cf_1 cI h1 s1) sz)) 0 0 (va_A (cf_1 cI h1 s1) sz) := by
  refine gm_v (cc := cX1_keep) (maxL := 5) (by decide) rfl (Nat.le_of_ble_eq_true rfl) ?_
  intro p e s m below meth c A QQ ls hx hb hml hown hts hK hN hA hP hD hS hl hret
  have hown : s.vm.findClass RX1 = some m.cls := hown
  have hl : lv_has ls 5 [(0, .ref h1), (1, .int a1), (2, .int a2), (3, .int a3), (4, .int a4)] := hl
  have in1 : ∀ w ∈ u_ws RX1 TX1 5, w ∈ wsX1_keep := by decide +kernel
  have fl9 := hts (.fieldLink RX1 9 "ParserParlour$Memory" "lastVerb" "I") (by decide +kernel)
  have fl15 := hts (.fieldLink RX1 15 "ParserParlour$Memory" "lastMeant" "I") (by decide +kernel)
  have fl18 := hts (.fieldLink RX1 18 "ParserParlour$Memory" "lastDone" "I") (by decide +kernel)
  have fl21 := hts (.fieldLink RX1 21 "ParserParlour$Memory" "lastTarget" "I") (by decide +kernel)
  have fl24 := hts (.fieldLink RX1 24 "ParserParlour$Memory" "lastAlone" "I") (by decide +kernel)
  have J34 : ∀ (s1 : S1) (H : Heap) (locs : List Loc), va_P (dC, dI) vwCl (cf_1 cI h1 s1) H → va_D A (cf_1 cI h1 s1) → va_S A s.heap H locs → ∀ (ls : Array Slot), lv_has ls 5 [] → fX1_keep_34 a1 a2 a3 a4 s1 = some s1f → W p l e rmX1_keep s m ([.ref h1, .int a1, .int a2, .int a3, .int a4] : List Value).toArray below meth c H locs 0 0 QQ (F0 m 34 ls []) := by
    intro  s1 H locs hP hD hS ls hl hf
    unfold fX1_keep_34 at hf
    have hf : (some s1 : Option (S1)) = some s1f := hf
    have he := Option.some.inj hf
    have he0 : s1 = s1f := he
    exact hret _ _ _ _ _ (by rw [← he0]) dX1_keep_34 hP hD hS
  unfold fX1_keep at hf
  refine lv_aload_n hx hb dX1_keep_0 rfl (lv_at hl 0 rfl) ?_
  refine lv_iload_n hx hb dX1_keep_1 rfl (lv_at hl 1 rfl) ?_
  refine va_put (D := (dC, dI)) (ci := 1) (v := .int a1) (ty := .int) (C := RX1) (T := TX1) (N := 5) hx hb hts in1 tyX1 tyX1_ok nmX1 hown hK hP hD hS 0 rfl rfl 0 (by decide) fl9 (fun _ h9 => h9) rfl (by decide +kernel) rfl rfl (Nat.le_of_ble_eq_true rfl) dX1_keep_2 (fun H locs hP hD hS => ?_)
  have hP : va_P (dC, dI) vwCl (cf_1 cI h1 (S1_set_lastVerb s1 a1)) H := hP
  have hD : va_D A (cf_1 cI h1 (S1_set_lastVerb s1 a1)) := hD
  refine lv_aload_n hx hb dX1_keep_5 rfl (lv_at hl 0 rfl) ?_
  refine lv_iload_n hx hb dX1_keep_6 rfl (lv_at hl 2 rfl) ?_
  refine va_put (D := (dC, dI)) (ci := 1) (v := .int a2) (ty := .int) (C := RX1) (T := TX1) (N := 5) hx hb hts in1 tyX1 tyX1_ok nmX1 hown hK hP hD hS 0 rfl rfl 1 (by decide) fl15 (fun _ h9 => h9) rfl (by decide +kernel) rfl rfl (Nat.le_of_ble_eq_true rfl) dX1_keep_7 (fun H locs hP hD hS => ?_)
  have hP : va_P (dC, dI) vwCl (cf_1 cI h1 (S1_set_lastMeant (S1_set_lastVerb s1 a1) a2)) H := hP
  have hD : va_D A (cf_1 cI h1 (S1_set_lastMeant (S1_set_lastVerb s1 a1) a2)) := hD
  refine lv_aload_n hx hb dX1_keep_10 rfl (lv_at hl 0 rfl) ?_
  refine lv_iload_n hx hb dX1_keep_11 rfl (lv_at hl 3 rfl) ?_
  refine va_put (D := (dC, dI)) (ci := 1) (v := .int a3) (ty := .int) (C := RX1) (T := TX1) (N := 5) hx hb hts in1 tyX1 tyX1_ok nmX1 hown hK hP hD hS 0 rfl rfl 2 (by decide) fl18 (fun _ h9 => h9) rfl (by decide +kernel) rfl rfl (Nat.le_of_ble_eq_true rfl) dX1_keep_12 (fun H locs hP hD hS => ?_)
  have hP : va_P (dC, dI) vwCl (cf_1 cI h1 (S1_set_lastDone (S1_set_lastMeant (S1_set_lastVerb s1 a1) a2) a3)) H := hP
  have hD : va_D A (cf_1 cI h1 (S1_set_lastDone (S1_set_lastMeant (S1_set_lastVerb s1 a1) a2) a3)) := hD
  refine lv_aload_n hx hb dX1_keep_15 rfl (lv_at hl 0 rfl) ?_
  refine lv_iload hx hb dX1_keep_16 (lv_at hl 4 rfl) ?_
  refine va_put (D := (dC, dI)) (ci := 1) (v := .int a4) (ty := .int) (C := RX1) (T := TX1) (N := 5) hx hb hts in1 tyX1 tyX1_ok nmX1 hown hK hP hD hS 0 rfl rfl 3 (by decide) fl21 (fun _ h9 => h9) rfl (by decide +kernel) rfl rfl (Nat.le_of_ble_eq_true rfl) dX1_keep_18 (fun H locs hP hD hS => ?_)
  have hP : va_P (dC, dI) vwCl (cf_1 cI h1 (S1_set_lastTarget (S1_set_lastDone (S1_set_lastMeant (S1_set_lastVerb s1 a1) a2) a3) a4)) H := hP
  have hD : va_D A (cf_1 cI h1 (S1_set_lastTarget (S1_set_lastDone (S1_set_lastMeant (S1_set_lastVerb s1 a1) a2) a3) a4)) := hD
  refine lv_iload_n hx hb dX1_keep_21 rfl (lv_at hl 2 rfl) ?_
  obtain ⟨r_1, hc_1, hf⟩ := bn1_ok hf
  refine gc_i (wc := ([] : va_W)) (wr := (cf_1 cI h1 (S1_set_lastTarget (S1_set_lastDone (S1_set_lastMeant (S1_set_lastVerb s1 a1) a2) a3) a4))) (w1 := ([] : va_W)) (ws' := (cf_1 cI h1 (S1_set_lastTarget (S1_set_lastDone (S1_set_lastMeant (S1_set_lastVerb s1 a1) a2) a3) a4))) hP hD hS hA [] [0] [0] rfl rfl (by decide) (by decide) rfl (by decide) (va_runS (As := [.int a2]) (rest := []) ⟨hx, hb, hml, hown, hts⟩ (ktJ6_bitCount l dC dI _ a2 r_1 hc_1) (va_cwS 1 hts gX1_keep_J6_bitCount_0f7a4 rfl rfl rfl (by decide +kernel) ⟨Nat.le_of_ble_eq_true rfl, Nat.le_of_ble_eq_true rfl⟩) (gc_S (hP.sub (ws' := ([] : va_W)) [] rfl) (hK.sub (tys' := []) [] rfl) (hD.sub (ws' := ([] : va_W)) [] (by decide) rfl) hN) rfl rfl hl.1 rfl (lv_room (Nat.le_of_ble_eq_true rfl)) dX1_keep_22 ⟨Nat.zero_le _, Nat.zero_le _⟩) (fun H locs hP hD hS => ?_)
  refine lv_iconst (v := 1) hx hb dX1_keep_25 (by decide) ?_
  refine lv_icmp_ne (tgt := 34) hx hb dX1_keep_26 (by decide) (fun c_2 => ?_) (fun c_2 => ?_)
  · have hf := it_f c_2 hf
    exact J34 (S1_set_lastTarget (S1_set_lastDone (S1_set_lastMeant (S1_set_lastVerb s1 a1) a2) a3) a4) _ _ hP hD hS _ (lv_sub hl [] rfl) hf
  · have hf := it_t c_2 hf
    refine lv_aload_n hx hb dX1_keep_29 rfl (lv_at hl 0 rfl) ?_
    refine lv_iload_n hx hb dX1_keep_30 rfl (lv_at hl 2 rfl) ?_
    refine va_put (D := (dC, dI)) (ci := 1) (v := .int a2) (ty := .int) (C := RX1) (T := TX1) (N := 5) hx hb hts in1 tyX1 tyX1_ok nmX1 hown hK hP hD hS 0 rfl rfl 4 (by decide) fl24 (fun _ h9 => h9) rfl (by decide +kernel) rfl rfl (Nat.le_of_ble_eq_true rfl) dX1_keep_31 (fun H locs hP hD hS => ?_)
    have hP : va_P (dC, dI) vwCl (cf_1 cI h1 (S1_set_lastAlone (S1_set_lastTarget (S1_set_lastDone (S1_set_lastMeant (S1_set_lastVerb s1 a1) a2) a3) a4) a2)) H := hP
    have hD : va_D A (cf_1 cI h1 (S1_set_lastAlone (S1_set_lastTarget (S1_set_lastDone (S1_set_lastMeant (S1_set_lastVerb s1 a1) a2) a3) a4) a2)) := hD
    exact J34 (S1_set_lastAlone (S1_set_lastTarget (S1_set_lastDone (S1_set_lastMeant (S1_set_lastVerb s1 a1) a2) a3) a4) a2) _ _ hP hD hS _ (lv_sub hl [] rfl) hf
