abbrev rmX2_hasPhrase : Room := { frames := 0, cells := 0, slots := 0, locals := 0 }
set_option maxHeartbeats 2000000 in
set_option maxRecDepth 100000 in
theorem ktX2_hasPhrase (l : Launch) (dC : Nat → ClassId) (dI : Nat → Nat → Nat) (cI : ClassId) (h2 h2a2 h2a3 h2a4 h2a5 h2a6 h2a7 : Nat) (sz : Nat) (s2 : S2) (a1 : Int32) (r : Int32) (hf : fX2_hasPhrase s2 a1 = some r) : Met l yX2_hasPhrase wsX2_hasPhrase rmX2_hasPhrase (va_Pc [.ref h2, .int a1] (pre_w (dC, dI) (cf_2 cI h2 h2a2 h2a3 h2a4 h2a5 h2a6 h2a7 s2) [(cI, .int)] sz)) (va_Qi (fun (r' : Int32) (_ : Unit) => r' = r) (post_w (dC, dI) (cf_2 cI h2 h2a2 h2a3 h2a4 h2a5 h2a6 h2a7 s2) [(cI, .int)] (va_A (cf_2 cI h2 h2a2 h2a3 h2a4 h2a5 h2a6 h2a7 s2) sz)) (va_A (cf_2 cI h2 h2a2 h2a3 h2a4 h2a5 h2a6 h2a7 s2) sz)) 0 0 (va_A (cf_2 cI h2 h2a2 h2a3 h2a4 h2a5 h2a6 h2a7 s2) sz) := by
  refine gm_z (cc := cX2_hasPhrase) (maxL := 2) (by decide) rfl (Nat.le_of_ble_eq_true rfl) ?_
  intro p e s m below meth c A QQ ls hx hb hml hown hts hK hN hA hP hD hS hl hret
  have hown : s.vm.findClass RX2 = some m.cls := hown
  have hl : lv_has ls 2 [(0, .ref h2), (1, .int a1)] := hl
  have in2 : ∀ w ∈ u_ws RX2 TX2 8, w ∈ wsX2_hasPhrase := by decide +kernel
  have fl15 := hts (.fieldLink RX2 15 "ParserParlour$Order" "count" "I") (by decide +kernel)
  have J23 : ∀ (t0 : Int32) (H : Heap) (locs : List Loc), va_P (dC, dI) vwCl (cf_2 cI h2 h2a2 h2a3 h2a4 h2a5 h2a6 h2a7 s2) H → va_D A (cf_2 cI h2 h2a2 h2a3 h2a4 h2a5 h2a6 h2a7 s2) → va_S A s.heap H locs → ∀ (ls : Array Slot), lv_has ls 2 [] → fX2_hasPhrase_23 s2 a1 t0 = some r → W p l e rmX2_hasPhrase s m ([.ref h2, .int a1] : List Value).toArray below meth c H locs 0 0 QQ (F0 m 23 ls [.int t0]) := by
    intro  t0 H locs hP hD hS ls hl hf
    unfold fX2_hasPhrase_23 at hf
    obtain ⟨hz_1, hf⟩ := bo_ok hf
    have hf : (some t0 : Option (Int32)) = some r := hf
    have he := Option.some.inj hf
    have he0 : t0 = r := he
    exact hret _ _ _ _ _ _ hz_1 he0 rfl dX2_hasPhrase_23 hP hD hS
  have J22 : ∀ (H : Heap) (locs : List Loc), va_P (dC, dI) vwCl (cf_2 cI h2 h2a2 h2a3 h2a4 h2a5 h2a6 h2a7 s2) H → va_D A (cf_2 cI h2 h2a2 h2a3 h2a4 h2a5 h2a6 h2a7 s2) → va_S A s.heap H locs → ∀ (ls : Array Slot), lv_has ls 2 [] → fX2_hasPhrase_22 s2 a1 = some r → W p l e rmX2_hasPhrase s m ([.ref h2, .int a1] : List Value).toArray below meth c H locs 0 0 QQ (F0 m 22 ls []) := by
    intro   H locs hP hD hS ls hl hf
    unfold fX2_hasPhrase_22 at hf
    refine lv_iconst (v := 0) hx hb dX2_hasPhrase_22 (by decide) ?_
    exact J23 0 _ _ hP hD hS _ (lv_sub hl [] rfl) hf
  unfold fX2_hasPhrase at hf
  refine lv_iload_n hx hb dX2_hasPhrase_0 rfl (lv_at hl 1 rfl) ?_
  refine lv_if_lt (tgt := 22) hx hb dX2_hasPhrase_1 (by decide) (fun c_1 => ?_) (fun c_1 => ?_)
  · have hf := it_t c_1 hf
    exact J22 _ _ hP hD hS _ (lv_sub hl [] rfl) hf
  · have hf := it_f c_1 hf
    refine lv_iload_n hx hb dX2_hasPhrase_4 rfl (lv_at hl 1 rfl) ?_
    refine lv_aload_n hx hb dX2_hasPhrase_5 rfl (lv_at hl 0 rfl) ?_
    refine va_get (D := (dC, dI)) (ci := 2) (v := .int (S2_count s2)) (C := RX2) (T := TX2) (N := 8) hx hb hts in2 hown hK hP 0 rfl rfl 1 (by decide) fl15 (fun _ h9 => h9) rfl dX2_hasPhrase_6 ?_
    refine lv_icmp_ge (tgt := 22) hx hb dX2_hasPhrase_9 (by decide) (fun c_2 => ?_) (fun c_2 => ?_)
    · have hf := it_t c_2 hf
      exact J22 _ _ hP hD hS _ (lv_sub hl [] rfl) hf
    · have hf := it_f c_2 hf
      refine lv_iload_n hx hb dX2_hasPhrase_12 rfl (lv_at hl 1 rfl) ?_
      refine lv_bipush (v := 24) hx hb dX2_hasPhrase_13 (by decide) ?_
      refine lv_icmp_ge (tgt := 22) hx hb dX2_hasPhrase_15 (by decide) (fun c_3 => ?_) (fun c_3 => ?_)
      · have hf := it_t c_3 hf
        exact J22 _ _ hP hD hS _ (lv_sub hl [] rfl) hf
      · have hf := it_f c_3 hf
        refine lv_iconst (v := 1) hx hb dX2_hasPhrase_18 (by decide) ?_
        refine lv_goto (tgt := 23) hx hb dX2_hasPhrase_19 (by decide) ?_
        exact J23 1 _ _ hP hD hS _ (lv_sub hl [] rfl) hf
abbrev rmX2_answer : Room := { frames := 1, cells := 0, slots := 0, locals := 21 }
set_option maxHeartbeats 2000000 in
set_option maxRecDepth 100000 in
theorem ktX2_answer (l : Launch) (dC : Nat → ClassId) (dI : Nat → Nat → Nat) (cI : ClassId) (h2 h2a2 h2a3 h2a4 h2a5 h2a6 h2a7 : Nat) (sz : Nat) (s2 : S2) (a1 : Int32) (a2 : Int32) (s2f : S2) (hf : fX2_answer s2 a1 a2 = some s2f) : Met l yX2_answer wsX2_answer rmX2_answer (va_Pc [.ref h2, .int a1, .int a2] (pre_w (dC, dI) (cf_2 cI h2 h2a2 h2a3 h2a4 h2a5 h2a6 h2a7 s2) [(cI, .int)] sz)) (va_Qv (fun (_ : Unit) => True) (post_w (dC, dI) (cf_2 cI h2 h2a2 h2a3 h2a4 h2a5 h2a6 h2a7 s2f) [(cI, .int)] (va_A (cf_2 cI h2 h2a2 h2a3 h2a4 h2a5 h2a6 h2a7 s2) sz)) (va_A (cf_2 cI h2 h2a2 h2a3 h2a4 h2a5 h2a6 h2a7 s2) sz)) 0 0 (va_A (cf_2 cI h2 h2a2 h2a3 h2a4 h2a5 h2a6 h2a7 s2) sz) := by
  refine gm_v (cc := cX2_answer) (maxL := 3) (by decide) rfl (Nat.le_of_ble_eq_true rfl) ?_
  intro p e s m below meth c A QQ ls hx hb hml hown hts hK hN hA hP hD hS hl hret
  have hown : s.vm.findClass RX2 = some m.cls := hown
  have hl : lv_has ls 3 [(0, .ref h2), (1, .int a1), (2, .int a2)] := hl
  have in2 : ∀ w ∈ u_ws RX2 TX2 8, w ∈ wsX2_answer := by decide +kernel
  have fl34 := hts (.fieldLink RX2 34 "ParserParlour$Order" "answers" "[I") (by decide +kernel)
  have J15 : ∀ (s2 : S2) (H : Heap) (locs : List Loc), va_P (dC, dI) vwCl (cf_2 cI h2 h2a2 h2a3 h2a4 h2a5 h2a6 h2a7 s2) H → va_D A (cf_2 cI h2 h2a2 h2a3 h2a4 h2a5 h2a6 h2a7 s2) → va_S A s.heap H locs → ∀ (ls : Array Slot), lv_has ls 3 [] → fX2_answer_15 a1 a2 s2 = some s2f → W p l e rmX2_answer s m ([.ref h2, .int a1, .int a2] : List Value).toArray below meth c H locs 0 0 QQ (F0 m 15 ls []) := by
    intro  s2 H locs hP hD hS ls hl hf
    unfold fX2_answer_15 at hf
    have hf : (some s2 : Option (S2)) = some s2f := hf
    have he := Option.some.inj hf
    have he0 : s2 = s2f := he
    exact hret _ _ _ _ _ (by rw [← he0]) dX2_answer_15 hP hD hS
  unfold fX2_answer at hf
  refine lv_aload_n hx hb dX2_answer_0 rfl (lv_at hl 0 rfl) ?_
  refine lv_iload_n hx hb dX2_answer_1 rfl (lv_at hl 1 rfl) ?_
  obtain ⟨r_1, hc_1, hf⟩ := bn1_ok hf
  refine gc_i (wc := (cf_2 cI h2 h2a2 h2a3 h2a4 h2a5 h2a6 h2a7 s2)) (wr := ([] : va_W)) (w1 := (cf_2 cI h2 h2a2 h2a3 h2a4 h2a5 h2a6 h2a7 s2)) (ws' := (cf_2 cI h2 h2a2 h2a3 h2a4 h2a5 h2a6 h2a7 s2)) hP hD hS hA [0, 1, 2, 3, 4, 5, 6] [] [0, 1, 2, 3, 4, 5, 6] rfl rfl (by decide) (by decide) rfl (by decide) (va_runV (As := [.int a1]) (rest := []) ⟨hx, hb, hml, hown, hts⟩ (ktX2_hasPhrase l dC dI cI h2 h2a2 h2a3 h2a4 h2a5 h2a6 h2a7 _ s2 a1 r_1 hc_1) (cwV 1 hts gX2_answer_X2_hasPhrase rfl rfl rfl (by decide +kernel) ⟨Nat.le_of_ble_eq_true rfl, Nat.le_of_ble_eq_true rfl⟩) (gc_V (ci := 2) (q0 := 0) (C := RX2) (T := TX2) (N := 8) (hP.sub (ws' := (cf_2 cI h2 h2a2 h2a3 h2a4 h2a5 h2a6 h2a7 s2)) [0, 1, 2, 3, 4, 5, 6] rfl) (hK.sub (tys' := [(cI, .int)]) [0] rfl) (hD.sub (ws' := (cf_2 cI h2 h2a2 h2a3 h2a4 h2a5 h2a6 h2a7 s2)) [0, 1, 2, 3, 4, 5, 6] (by decide) rfl) hN rfl rfl) rfl rfl hl.1 rfl (lv_room (Nat.le_of_ble_eq_true rfl)) dX2_answer_2 ⟨Nat.zero_le _, Nat.zero_le _⟩) (fun H locs hP hD hS => ?_)
  refine lv_if_eq (tgt := 15) hx hb dX2_answer_5 (by decide) (fun c_2 => ?_) (fun c_2 => ?_)
  · have hf := it_t c_2 hf
    exact J15 s2 _ _ hP hD hS _ (lv_sub hl [] rfl) hf
  · have hf := it_f c_2 hf
    refine lv_aload_n hx hb dX2_answer_8 rfl (lv_at hl 0 rfl) ?_
    refine va_get (D := (dC, dI)) (ci := 2) (v := .ref h2a7) (C := RX2) (T := TX2) (N := 8) hx hb hts in2 hown hK hP 0 rfl rfl 7 (by decide) fl34 (fun _ h9 => h9) rfl dX2_answer_9 ?_
    refine lv_iload_n hx hb dX2_answer_12 rfl (lv_at hl 1 rfl) ?_
    refine lv_iload_n hx hb dX2_answer_13 rfl (lv_at hl 2 rfl) ?_
    obtain ⟨hi_3, hf⟩ := ai_ok hf
    refine va_iast (n := 24) (f := (S2_answers s2)) hx hb hK hP hD hS 6 0 rfl rfl hi_3 dX2_answer_14 (fun H locs hP hD hS => ?_)
    have hP : va_P (dC, dI) vwCl (cf_2 cI h2 h2a2 h2a3 h2a4 h2a5 h2a6 h2a7 (S2_set_answers s2 (upd (S2_answers s2) a1.toNatClampNeg a2))) H := hP
    have hD : va_D A (cf_2 cI h2 h2a2 h2a3 h2a4 h2a5 h2a6 h2a7 (S2_set_answers s2 (upd (S2_answers s2) a1.toNatClampNeg a2))) := hD
    exact J15 (S2_set_answers s2 (upd (S2_answers s2) a1.toNatClampNeg a2)) _ _ hP hD hS _ (lv_sub hl [] rfl) hf
abbrev rmX2_roleOf : Room := { frames := 1, cells := 0, slots := 0, locals := 21 }
set_option maxHeartbeats 2000000 in
set_option maxRecDepth 100000 in
theorem ktX2_roleOf (l : Launch) (dC : Nat → ClassId) (dI : Nat → Nat → Nat) (cI : ClassId) (h2 h2a2 h2a3 h2a4 h2a5 h2a6 h2a7 : Nat) (sz : Nat) (s2 : S2) (a1 : Int32) (r : Int32) (hf : fX2_roleOf s2 a1 = some r) : Met l yX2_roleOf wsX2_roleOf rmX2_roleOf (va_Pc [.ref h2, .int a1] (pre_w (dC, dI) (cf_2 cI h2 h2a2 h2a3 h2a4 h2a5 h2a6 h2a7 s2) [(cI, .int)] sz)) (va_Qi (fun (r' : Int32) (_ : Unit) => r' = r) (post_w (dC, dI) (cf_2 cI h2 h2a2 h2a3 h2a4 h2a5 h2a6 h2a7 s2) [(cI, .int)] (va_A (cf_2 cI h2 h2a2 h2a3 h2a4 h2a5 h2a6 h2a7 s2) sz)) (va_A (cf_2 cI h2 h2a2 h2a3 h2a4 h2a5 h2a6 h2a7 s2) sz)) 0 0 (va_A (cf_2 cI h2 h2a2 h2a3 h2a4 h2a5 h2a6 h2a7 s2) sz) := by
  refine gm_i (cc := cX2_roleOf) (maxL := 2) (by decide) rfl (Nat.le_of_ble_eq_true rfl) ?_
  intro p e s m below meth c A QQ ls hx hb hml hown hts hK hN hA hP hD hS hl hret
  have hown : s.vm.findClass RX2 = some m.cls := hown
  have hl : lv_has ls 2 [(0, .ref h2), (1, .int a1)] := hl
  have in2 : ∀ w ∈ u_ws RX2 TX2 8, w ∈ wsX2_roleOf := by decide +kernel
  have fl18 := hts (.fieldLink RX2 18 "ParserParlour$Order" "roles" "[I") (by decide +kernel)
  have J18 : ∀ (t0 : Int32) (H : Heap) (locs : List Loc), va_P (dC, dI) vwCl (cf_2 cI h2 h2a2 h2a3 h2a4 h2a5 h2a6 h2a7 s2) H → va_D A (cf_2 cI h2 h2a2 h2a3 h2a4 h2a5 h2a6 h2a7 s2) → va_S A s.heap H locs → ∀ (ls : Array Slot), lv_has ls 2 [] → fX2_roleOf_18 s2 a1 t0 = some r → W p l e rmX2_roleOf s m ([.ref h2, .int a1] : List Value).toArray below meth c H locs 0 0 QQ (F0 m 18 ls [.int t0]) := by
    intro  t0 H locs hP hD hS ls hl hf
    unfold fX2_roleOf_18 at hf
    have hf : (some t0 : Option (Int32)) = some r := hf
    have he := Option.some.inj hf
    have he0 : t0 = r := he
    exact hret _ _ _ _ _ _ he0 rfl dX2_roleOf_18 hP hD hS
  unfold fX2_roleOf at hf
  refine lv_aload_n hx hb dX2_roleOf_0 rfl (lv_at hl 0 rfl) ?_
  refine lv_iload_n hx hb dX2_roleOf_1 rfl (lv_at hl 1 rfl) ?_
  obtain ⟨r_1, hc_1, hf⟩ := bn1_ok hf
  refine gc_i (wc := (cf_2 cI h2 h2a2 h2a3 h2a4 h2a5 h2a6 h2a7 s2)) (wr := ([] : va_W)) (w1 := (cf_2 cI h2 h2a2 h2a3 h2a4 h2a5 h2a6 h2a7 s2)) (ws' := (cf_2 cI h2 h2a2 h2a3 h2a4 h2a5 h2a6 h2a7 s2)) hP hD hS hA [0, 1, 2, 3, 4, 5, 6] [] [0, 1, 2, 3, 4, 5, 6] rfl rfl (by decide) (by decide) rfl (by decide) (va_runV (As := [.int a1]) (rest := []) ⟨hx, hb, hml, hown, hts⟩ (ktX2_hasPhrase l dC dI cI h2 h2a2 h2a3 h2a4 h2a5 h2a6 h2a7 _ s2 a1 r_1 hc_1) (cwV 1 hts gX2_roleOf_X2_hasPhrase rfl rfl rfl (by decide +kernel) ⟨Nat.le_of_ble_eq_true rfl, Nat.le_of_ble_eq_true rfl⟩) (gc_V (ci := 2) (q0 := 0) (C := RX2) (T := TX2) (N := 8) (hP.sub (ws' := (cf_2 cI h2 h2a2 h2a3 h2a4 h2a5 h2a6 h2a7 s2)) [0, 1, 2, 3, 4, 5, 6] rfl) (hK.sub (tys' := [(cI, .int)]) [0] rfl) (hD.sub (ws' := (cf_2 cI h2 h2a2 h2a3 h2a4 h2a5 h2a6 h2a7 s2)) [0, 1, 2, 3, 4, 5, 6] (by decide) rfl) hN rfl rfl) rfl rfl hl.1 rfl (lv_room (Nat.le_of_ble_eq_true rfl)) dX2_roleOf_2 ⟨Nat.zero_le _, Nat.zero_le _⟩) (fun H locs hP hD hS => ?_)
  refine lv_if_eq (tgt := 17) hx hb dX2_roleOf_5 (by decide) (fun c_2 => ?_) (fun c_2 => ?_)
  · have hf := it_t c_2 hf
    refine lv_iconst (v := 0) hx hb dX2_roleOf_17 (by decide) ?_
    exact J18 0 _ _ hP hD hS _ (lv_sub hl [] rfl) hf
  · have hf := it_f c_2 hf
    refine lv_aload_n hx hb dX2_roleOf_8 rfl (lv_at hl 0 rfl) ?_
    refine va_get (D := (dC, dI)) (ci := 2) (v := .ref h2a2) (C := RX2) (T := TX2) (N := 8) hx hb hts in2 hown hK hP 0 rfl rfl 2 (by decide) fl18 (fun _ h9 => h9) rfl dX2_roleOf_9 ?_
    refine lv_iload_n hx hb dX2_roleOf_12 rfl (lv_at hl 1 rfl) ?_
    obtain ⟨hi_3, hf⟩ := ai_ok hf
    refine va_iald (n := 24) (f := (S2_roles s2)) hx hb hK hP 1 0 rfl rfl hi_3 dX2_roleOf_13 ?_
    refine lv_goto (tgt := 18) hx hb dX2_roleOf_14 (by decide) ?_
    exact J18 ((S2_roles s2) a1.toNatClampNeg) _ _ hP hD hS _ (lv_sub hl [] rfl) hf
abbrev rmX2_lastPlaceOf : Room := { frames := 1, cells := 0, slots := 0, locals := 21 }
set_option maxHeartbeats 2000000 in
set_option maxRecDepth 100000 in
theorem ktX2_lastPlaceOf (l : Launch) (dC : Nat → ClassId) (dI : Nat → Nat → Nat) (cI : ClassId) (h2 h2a2 h2a3 h2a4 h2a5 h2a6 h2a7 : Nat) (sz : Nat) (s2 : S2) (a1 : Int32) (r : Int32) (hf : fX2_lastPlaceOf s2 a1 = some r) : Met l yX2_lastPlaceOf wsX2_lastPlaceOf rmX2_lastPlaceOf (va_Pc [.ref h2, .int a1] (pre_w (dC, dI) (cf_2 cI h2 h2a2 h2a3 h2a4 h2a5 h2a6 h2a7 s2) [(cI, .int)] sz)) (va_Qi (fun (r' : Int32) (_ : Unit) => r' = r) (post_w (dC, dI) (cf_2 cI h2 h2a2 h2a3 h2a4 h2a5 h2a6 h2a7 s2) [(cI, .int)] (va_A (cf_2 cI h2 h2a2 h2a3 h2a4 h2a5 h2a6 h2a7 s2) sz)) (va_A (cf_2 cI h2 h2a2 h2a3 h2a4 h2a5 h2a6 h2a7 s2) sz)) 0 0 (va_A (cf_2 cI h2 h2a2 h2a3 h2a4 h2a5 h2a6 h2a7 s2) sz) := by
  refine gm_i (cc := cX2_lastPlaceOf) (maxL := 2) (by decide) rfl (Nat.le_of_ble_eq_true rfl) ?_
  intro p e s m below meth c A QQ ls hx hb hml hown hts hK hN hA hP hD hS hl hret
  have hown : s.vm.findClass RX2 = some m.cls := hown
  have hl : lv_has ls 2 [(0, .ref h2), (1, .int a1)] := hl
  have in2 : ∀ w ∈ u_ws RX2 TX2 8, w ∈ wsX2_lastPlaceOf := by decide +kernel
  have fl31 := hts (.fieldLink RX2 31 "ParserParlour$Order" "lastPlaces" "[I") (by decide +kernel)
  have J18 : ∀ (t0 : Int32) (H : Heap) (locs : List Loc), va_P (dC, dI) vwCl (cf_2 cI h2 h2a2 h2a3 h2a4 h2a5 h2a6 h2a7 s2) H → va_D A (cf_2 cI h2 h2a2 h2a3 h2a4 h2a5 h2a6 h2a7 s2) → va_S A s.heap H locs → ∀ (ls : Array Slot), lv_has ls 2 [] → fX2_lastPlaceOf_18 s2 a1 t0 = some r → W p l e rmX2_lastPlaceOf s m ([.ref h2, .int a1] : List Value).toArray below meth c H locs 0 0 QQ (F0 m 18 ls [.int t0]) := by
    intro  t0 H locs hP hD hS ls hl hf
    unfold fX2_lastPlaceOf_18 at hf
    have hf : (some t0 : Option (Int32)) = some r := hf
    have he := Option.some.inj hf
    have he0 : t0 = r := he
    exact hret _ _ _ _ _ _ he0 rfl dX2_lastPlaceOf_18 hP hD hS
  unfold fX2_lastPlaceOf at hf
  refine lv_aload_n hx hb dX2_lastPlaceOf_0 rfl (lv_at hl 0 rfl) ?_
  refine lv_iload_n hx hb dX2_lastPlaceOf_1 rfl (lv_at hl 1 rfl) ?_
  obtain ⟨r_1, hc_1, hf⟩ := bn1_ok hf
  refine gc_i (wc := (cf_2 cI h2 h2a2 h2a3 h2a4 h2a5 h2a6 h2a7 s2)) (wr := ([] : va_W)) (w1 := (cf_2 cI h2 h2a2 h2a3 h2a4 h2a5 h2a6 h2a7 s2)) (ws' := (cf_2 cI h2 h2a2 h2a3 h2a4 h2a5 h2a6 h2a7 s2)) hP hD hS hA [0, 1, 2, 3, 4, 5, 6] [] [0, 1, 2, 3, 4, 5, 6] rfl rfl (by decide) (by decide) rfl (by decide) (va_runV (As := [.int a1]) (rest := []) ⟨hx, hb, hml, hown, hts⟩ (ktX2_hasPhrase l dC dI cI h2 h2a2 h2a3 h2a4 h2a5 h2a6 h2a7 _ s2 a1 r_1 hc_1) (cwV 1 hts gX2_lastPlaceOf_X2_hasPhrase rfl rfl rfl (by decide +kernel) ⟨Nat.le_of_ble_eq_true rfl, Nat.le_of_ble_eq_true rfl⟩) (gc_V (ci := 2) (q0 := 0) (C := RX2) (T := TX2) (N := 8) (hP.sub (ws' := (cf_2 cI h2 h2a2 h2a3 h2a4 h2a5 h2a6 h2a7 s2)) [0, 1, 2, 3, 4, 5, 6] rfl) (hK.sub (tys' := [(cI, .int)]) [0] rfl) (hD.sub (ws' := (cf_2 cI h2 h2a2 h2a3 h2a4 h2a5 h2a6 h2a7 s2)) [0, 1, 2, 3, 4, 5, 6] (by decide) rfl) hN rfl rfl) rfl rfl hl.1 rfl (lv_room (Nat.le_of_ble_eq_true rfl)) dX2_lastPlaceOf_2 ⟨Nat.zero_le _, Nat.zero_le _⟩) (fun H locs hP hD hS => ?_)
  refine lv_if_eq (tgt := 17) hx hb dX2_lastPlaceOf_5 (by decide) (fun c_2 => ?_) (fun c_2 => ?_)
  · have hf := it_t c_2 hf
    refine lv_iconst (v := (-1)) hx hb dX2_lastPlaceOf_17 (by decide) ?_
    exact J18 (-1) _ _ hP hD hS _ (lv_sub hl [] rfl) hf
  · have hf := it_f c_2 hf
    refine lv_aload_n hx hb dX2_lastPlaceOf_8 rfl (lv_at hl 0 rfl) ?_
    refine va_get (D := (dC, dI)) (ci := 2) (v := .ref h2a6) (C := RX2) (T := TX2) (N := 8) hx hb hts in2 hown hK hP 0 rfl rfl 6 (by decide) fl31 (fun _ h9 => h9) rfl dX2_lastPlaceOf_9 ?_
    refine lv_iload_n hx hb dX2_lastPlaceOf_12 rfl (lv_at hl 1 rfl) ?_
    obtain ⟨hi_3, hf⟩ := ai_ok hf
    refine va_iald (n := 24) (f := (S2_lastPlaces s2)) hx hb hK hP 5 0 rfl rfl hi_3 dX2_lastPlaceOf_13 ?_
    refine lv_goto (tgt := 18) hx hb dX2_lastPlaceOf_14 (by decide) ?_
    exact J18 ((S2_lastPlaces s2) a1.toNatClampNeg) _ _ hP hD hS _ (lv_sub hl [] rfl) hf
abbrev rmX2_add : Room := { frames := 0, cells := 0, slots := 0, locals := 0 }
set_option maxHeartbeats 2000000 in
set_option maxRecDepth 100000 in
theorem ktX2_add (l : Launch) (dC : Nat → ClassId) (dI : Nat → Nat → Nat) (cI : ClassId) (h2 h2a2 h2a3 h2a4 h2a5 h2a6 h2a7 h3 h3a0 : Nat) (sz : Nat) (s2 : S2) (s3 : S3) (a1 : Int32) (a2 : Int32) (r : Int32) (s2f : S2) (hf : fX2_add s2 s3 a1 a2 = some (r, s2f)) : Met l yX2_add wsX2_add rmX2_add (va_Pc [.ref h2, .int a1, .int a2, .ref h3] (pre_w (dC, dI) (cf_23 cI h2 h2a2 h2a3 h2a4 h2a5 h2a6 h2a7 h3 h3a0 s2 s3) [(cI, .int)] sz)) (va_Qi (fun (r' : Int32) (_ : Unit) => r' = r) (post_w (dC, dI) (cf_23 cI h2 h2a2 h2a3 h2a4 h2a5 h2a6 h2a7 h3 h3a0 s2f s3) [(cI, .int)] (va_A (cf_23 cI h2 h2a2 h2a3 h2a4 h2a5 h2a6 h2a7 h3 h3a0 s2 s3) sz)) (va_A (cf_23 cI h2 h2a2 h2a3 h2a4 h2a5 h2a6 h2a7 h3 h3a0 s2 s3) sz)) 0 0 (va_A (cf_23 cI h2 h2a2 h2a3 h2a4 h2a5 h2a6 h2a7 h3 h3a0 s2 s3) sz) := by
  refine gm_z (cc := cX2_add) (maxL := 4) (by decide) rfl (Nat.le_of_ble_eq_true rfl) ?_
  intro p e s m below meth c A QQ ls hx hb hml hown hts hK hN hA hP hD hS hl hret
  have hown : s.vm.findClass RX2 = some m.cls := hown
  have hl : lv_has ls 4 [(0, .ref h2), (1, .int a1), (2, .int a2), (3, .ref h3)] := hl
  have in2 : ∀ w ∈ u_ws RX2 TX2 8, w ∈ wsX2_add := by decide +kernel
  have fl15 := hts (.fieldLink RX2 15 "ParserParlour$Order" "count" "I") (by decide +kernel)
  have fl18 := hts (.fieldLink RX2 18 "ParserParlour$Order" "roles" "[I") (by decide +kernel)
  have fl22 := hts (.fieldLink RX2 22 "ParserParlour$Order" "kinds" "[I") (by decide +kernel)
  have fl25 := hts (.fieldLink RX2 25 "ParserParlour$Order" "adjectiveSets" "[I") (by decide +kernel)
  have in3 : ∀ w ∈ u_ws RX3 TX3 5, w ∈ wsX2_add := by decide +kernel
  have fl69 := va_Nw.use (A := ([.ref h2, .int a1, .int a2, .ref h3] : List Value).toArray) (by rfl) (hN _ (List.mem_of_getElem? (i := 5) rfl))
  have fl28 := hts (.fieldLink RX2 28 "ParserParlour$Order" "nouns" "[I") (by decide +kernel)
  have fl82 := va_Nw.use (A := ([.ref h2, .int a1, .int a2, .ref h3] : List Value).toArray) (by rfl) (hN _ (List.mem_of_getElem? (i := 7) rfl))
  have fl31 := hts (.fieldLink RX2 31 "ParserParlour$Order" "lastPlaces" "[I") (by decide +kernel)
  have fl85 := va_Nw.use (A := ([.ref h2, .int a1, .int a2, .ref h3] : List Value).toArray) (by rfl) (hN _ (List.mem_of_getElem? (i := 3) rfl))
  have fl34 := hts (.fieldLink RX2 34 "ParserParlour$Order" "answers" "[I") (by decide +kernel)
  have J16 : ∀ (s2 : S2) (H : Heap) (locs : List Loc), va_P (dC, dI) vwCl (cf_23 cI h2 h2a2 h2a3 h2a4 h2a5 h2a6 h2a7 h3 h3a0 s2 s3) H → va_D A (cf_23 cI h2 h2a2 h2a3 h2a4 h2a5 h2a6 h2a7 h3 h3a0 s2 s3) → va_S A s.heap H locs → ∀ (ls : Array Slot), lv_has ls 4 [] → fX2_add_16 s3 a1 a2 s2 = some (r, s2f) → W p l e rmX2_add s m ([.ref h2, .int a1, .int a2, .ref h3] : List Value).toArray below meth c H locs 0 0 QQ (F0 m 16 ls []) := by
    intro  s2 H locs hP hD hS ls hl hf
    unfold fX2_add_16 at hf
    refine lv_iconst (v := 0) hx hb dX2_add_16 (by decide) ?_
    have hf : (some (0, s2) : Option (Int32 × S2)) = some (r, s2f) := hf
    have he := Option.some.inj hf
    have he0 : 0 = r := congrArg (fun q => q.1) he
    have he1 : s2 = s2f := congrArg (fun q => q.2) he
    exact hret _ _ _ _ _ _ rfl he0 (by rw [← he1]) dX2_add_17 hP hD hS
  unfold fX2_add at hf
  refine lv_aload_n hx hb dX2_add_0 rfl (lv_at hl 0 rfl) ?_
  refine va_get (D := (dC, dI)) (ci := 2) (v := .int (S2_count s2)) (C := RX2) (T := TX2) (N := 8) hx hb hts in2 hown hK hP 0 rfl rfl 1 (by decide) fl15 (fun _ h9 => h9) rfl dX2_add_1 ?_
  refine lv_if_lt (tgt := 16) hx hb dX2_add_4 (by decide) (fun c_1 => ?_) (fun c_1 => ?_)
  · have hf := it_t c_1 hf
    exact J16 s2 _ _ hP hD hS _ (lv_sub hl [] rfl) hf
  · have hf := it_f c_1 hf
    refine lv_aload_n hx hb dX2_add_7 rfl (lv_at hl 0 rfl) ?_
    refine va_get (D := (dC, dI)) (ci := 2) (v := .int (S2_count s2)) (C := RX2) (T := TX2) (N := 8) hx hb hts in2 hown hK hP 0 rfl rfl 1 (by decide) fl15 (fun _ h9 => h9) rfl dX2_add_8 ?_
    refine lv_bipush (v := 24) hx hb dX2_add_11 (by decide) ?_
    refine lv_icmp_lt (tgt := 18) hx hb dX2_add_13 (by decide) (fun c_2 => ?_) (fun c_2 => ?_)
    · have hf := it_t c_2 hf
      refine lv_aload_n hx hb dX2_add_18 rfl (lv_at hl 0 rfl) ?_
      refine va_get (D := (dC, dI)) (ci := 2) (v := .ref h2a2) (C := RX2) (T := TX2) (N := 8) hx hb hts in2 hown hK hP 0 rfl rfl 2 (by decide) fl18 (fun _ h9 => h9) rfl dX2_add_19 ?_
      refine lv_aload_n hx hb dX2_add_22 rfl (lv_at hl 0 rfl) ?_
      refine va_get (D := (dC, dI)) (ci := 2) (v := .int (S2_count s2)) (C := RX2) (T := TX2) (N := 8) hx hb hts in2 hown hK hP 0 rfl rfl 1 (by decide) fl15 (fun _ h9 => h9) rfl dX2_add_23 ?_
      refine lv_iload_n hx hb dX2_add_26 rfl (lv_at hl 2 rfl) ?_
      obtain ⟨hi_3, hf⟩ := ai_ok hf
      refine va_iast (n := 24) (f := (S2_roles s2)) hx hb hK hP hD hS 1 0 rfl rfl hi_3 dX2_add_27 (fun H locs hP hD hS => ?_)
      have hP : va_P (dC, dI) vwCl (cf_23 cI h2 h2a2 h2a3 h2a4 h2a5 h2a6 h2a7 h3 h3a0 (S2_set_roles s2 (upd (S2_roles s2) (S2_count s2).toNatClampNeg a2)) s3) H := hP
      have hD : va_D A (cf_23 cI h2 h2a2 h2a3 h2a4 h2a5 h2a6 h2a7 h3 h3a0 (S2_set_roles s2 (upd (S2_roles s2) (S2_count s2).toNatClampNeg a2)) s3) := hD
      refine lv_aload_n hx hb dX2_add_28 rfl (lv_at hl 0 rfl) ?_
      refine va_get (D := (dC, dI)) (ci := 2) (v := .ref h2a3) (C := RX2) (T := TX2) (N := 8) hx hb hts in2 hown hK hP 0 rfl rfl 3 (by decide) fl22 (fun _ h9 => h9) rfl dX2_add_29 ?_
      refine lv_aload_n hx hb dX2_add_32 rfl (lv_at hl 0 rfl) ?_
      refine va_get (D := (dC, dI)) (ci := 2) (v := .int (S2_count s2)) (C := RX2) (T := TX2) (N := 8) hx hb hts in2 hown hK hP 0 rfl rfl 1 (by decide) fl15 (fun _ h9 => h9) rfl dX2_add_33 ?_
      refine lv_iload_n hx hb dX2_add_36 rfl (lv_at hl 1 rfl) ?_
      obtain ⟨hi_4, hf⟩ := ai_ok hf
      refine va_iast (n := 24) (f := (S2_kinds s2)) hx hb hK hP hD hS 2 0 rfl rfl hi_4 dX2_add_37 (fun H locs hP hD hS => ?_)
      have hP : va_P (dC, dI) vwCl (cf_23 cI h2 h2a2 h2a3 h2a4 h2a5 h2a6 h2a7 h3 h3a0 (S2_set_kinds (S2_set_roles s2 (upd (S2_roles s2) (S2_count s2).toNatClampNeg a2)) (upd (S2_kinds s2) (S2_count s2).toNatClampNeg a1)) s3) H := hP
      have hD : va_D A (cf_23 cI h2 h2a2 h2a3 h2a4 h2a5 h2a6 h2a7 h3 h3a0 (S2_set_kinds (S2_set_roles s2 (upd (S2_roles s2) (S2_count s2).toNatClampNeg a2)) (upd (S2_kinds s2) (S2_count s2).toNatClampNeg a1)) s3) := hD
      refine lv_aload_n hx hb dX2_add_38 rfl (lv_at hl 0 rfl) ?_
      refine va_get (D := (dC, dI)) (ci := 2) (v := .ref h2a4) (C := RX2) (T := TX2) (N := 8) hx hb hts in2 hown hK hP 0 rfl rfl 4 (by decide) fl25 (fun _ h9 => h9) rfl dX2_add_39 ?_
      refine lv_aload_n hx hb dX2_add_42 rfl (lv_at hl 0 rfl) ?_
      refine va_get (D := (dC, dI)) (ci := 2) (v := .int (S2_count s2)) (C := RX2) (T := TX2) (N := 8) hx hb hts in2 hown hK hP 0 rfl rfl 1 (by decide) fl15 (fun _ h9 => h9) rfl dX2_add_43 ?_
      refine lv_aload_n hx hb dX2_add_46 rfl (lv_at hl 3 rfl) ?_
      refine va_getN (D := (dC, dI)) (ci := 3) (v := .int (S3_adjectives s3)) (C := RX3) (T := TX3) (N := 5) hx hb hts in3 hown hK hP 7 rfl rfl 3 (by decide) fl69 (fun _ h9 => h9) rfl dX2_add_47 ?_
      obtain ⟨hi_5, hf⟩ := ai_ok hf
      refine va_iast (n := 24) (f := (S2_adjectiveSets s2)) hx hb hK hP hD hS 3 0 rfl rfl hi_5 dX2_add_50 (fun H locs hP hD hS => ?_)
      have hP : va_P (dC, dI) vwCl (cf_23 cI h2 h2a2 h2a3 h2a4 h2a5 h2a6 h2a7 h3 h3a0 (S2_set_adjectiveSets (S2_set_kinds (S2_set_roles s2 (upd (S2_roles s2) (S2_count s2).toNatClampNeg a2)) (upd (S2_kinds s2) (S2_count s2).toNatClampNeg a1)) (upd (S2_adjectiveSets s2) (S2_count s2).toNatClampNeg (S3_adjectives s3))) s3) H := hP
      have hD : va_D A (cf_23 cI h2 h2a2 h2a3 h2a4 h2a5 h2a6 h2a7 h3 h3a0 (S2_set_adjectiveSets (S2_set_kinds (S2_set_roles s2 (upd (S2_roles s2) (S2_count s2).toNatClampNeg a2)) (upd (S2_kinds s2) (S2_count s2).toNatClampNeg a1)) (upd (S2_adjectiveSets s2) (S2_count s2).toNatClampNeg (S3_adjectives s3))) s3) := hD
      refine lv_aload_n hx hb dX2_add_51 rfl (lv_at hl 0 rfl) ?_
      refine va_get (D := (dC, dI)) (ci := 2) (v := .ref h2a5) (C := RX2) (T := TX2) (N := 8) hx hb hts in2 hown hK hP 0 rfl rfl 5 (by decide) fl28 (fun _ h9 => h9) rfl dX2_add_52 ?_
      refine lv_aload_n hx hb dX2_add_55 rfl (lv_at hl 0 rfl) ?_
      refine va_get (D := (dC, dI)) (ci := 2) (v := .int (S2_count s2)) (C := RX2) (T := TX2) (N := 8) hx hb hts in2 hown hK hP 0 rfl rfl 1 (by decide) fl15 (fun _ h9 => h9) rfl dX2_add_56 ?_
      refine lv_aload_n hx hb dX2_add_59 rfl (lv_at hl 3 rfl) ?_
      refine va_getN (D := (dC, dI)) (ci := 3) (v := .int (S3_noun s3)) (C := RX3) (T := TX3) (N := 5) hx hb hts in3 hown hK hP 7 rfl rfl 4 (by decide) fl82 (fun _ h9 => h9) rfl dX2_add_60 ?_
      obtain ⟨hi_6, hf⟩ := ai_ok hf
      refine va_iast (n := 24) (f := (S2_nouns s2)) hx hb hK hP hD hS 4 0 rfl rfl hi_6 dX2_add_63 (fun H locs hP hD hS => ?_)
      have hP : va_P (dC, dI) vwCl (cf_23 cI h2 h2a2 h2a3 h2a4 h2a5 h2a6 h2a7 h3 h3a0 (S2_set_nouns (S2_set_adjectiveSets (S2_set_kinds (S2_set_roles s2 (upd (S2_roles s2) (S2_count s2).toNatClampNeg a2)) (upd (S2_kinds s2) (S2_count s2).toNatClampNeg a1)) (upd (S2_adjectiveSets s2) (S2_count s2).toNatClampNeg (S3_adjectives s3))) (upd (S2_nouns s2) (S2_count s2).toNatClampNeg (S3_noun s3))) s3) H := hP
      have hD : va_D A (cf_23 cI h2 h2a2 h2a3 h2a4 h2a5 h2a6 h2a7 h3 h3a0 (S2_set_nouns (S2_set_adjectiveSets (S2_set_kinds (S2_set_roles s2 (upd (S2_roles s2) (S2_count s2).toNatClampNeg a2)) (upd (S2_kinds s2) (S2_count s2).toNatClampNeg a1)) (upd (S2_adjectiveSets s2) (S2_count s2).toNatClampNeg (S3_adjectives s3))) (upd (S2_nouns s2) (S2_count s2).toNatClampNeg (S3_noun s3))) s3) := hD
      refine lv_aload_n hx hb dX2_add_64 rfl (lv_at hl 0 rfl) ?_
      refine va_get (D := (dC, dI)) (ci := 2) (v := .ref h2a6) (C := RX2) (T := TX2) (N := 8) hx hb hts in2 hown hK hP 0 rfl rfl 6 (by decide) fl31 (fun _ h9 => h9) rfl dX2_add_65 ?_
      refine lv_aload_n hx hb dX2_add_68 rfl (lv_at hl 0 rfl) ?_
      refine va_get (D := (dC, dI)) (ci := 2) (v := .int (S2_count s2)) (C := RX2) (T := TX2) (N := 8) hx hb hts in2 hown hK hP 0 rfl rfl 1 (by decide) fl15 (fun _ h9 => h9) rfl dX2_add_69 ?_
      refine lv_aload_n hx hb dX2_add_72 rfl (lv_at hl 3 rfl) ?_
      refine va_getN (D := (dC, dI)) (ci := 3) (v := .int (S3_place s3)) (C := RX3) (T := TX3) (N := 5) hx hb hts in3 hown hK hP 7 rfl rfl 2 (by decide) fl85 (fun _ h9 => h9) rfl dX2_add_73 ?_
      refine lv_iconst (v := 1) hx hb dX2_add_76 (by decide) ?_
      refine lv_isub hx hb dX2_add_77 ?_
      obtain ⟨hi_7, hf⟩ := ai_ok hf
      refine va_iast (n := 24) (f := (S2_lastPlaces s2)) hx hb hK hP hD hS 5 0 rfl rfl hi_7 dX2_add_78 (fun H locs hP hD hS => ?_)
      have hP : va_P (dC, dI) vwCl (cf_23 cI h2 h2a2 h2a3 h2a4 h2a5 h2a6 h2a7 h3 h3a0 (S2_set_lastPlaces (S2_set_nouns (S2_set_adjectiveSets (S2_set_kinds (S2_set_roles s2 (upd (S2_roles s2) (S2_count s2).toNatClampNeg a2)) (upd (S2_kinds s2) (S2_count s2).toNatClampNeg a1)) (upd (S2_adjectiveSets s2) (S2_count s2).toNatClampNeg (S3_adjectives s3))) (upd (S2_nouns s2) (S2_count s2).toNatClampNeg (S3_noun s3))) (upd (S2_lastPlaces s2) (S2_count s2).toNatClampNeg ((S3_place s3) - 1))) s3) H := hP
      have hD : va_D A (cf_23 cI h2 h2a2 h2a3 h2a4 h2a5 h2a6 h2a7 h3 h3a0 (S2_set_lastPlaces (S2_set_nouns (S2_set_adjectiveSets (S2_set_kinds (S2_set_roles s2 (upd (S2_roles s2) (S2_count s2).toNatClampNeg a2)) (upd (S2_kinds s2) (S2_count s2).toNatClampNeg a1)) (upd (S2_adjectiveSets s2) (S2_count s2).toNatClampNeg (S3_adjectives s3))) (upd (S2_nouns s2) (S2_count s2).toNatClampNeg (S3_noun s3))) (upd (S2_lastPlaces s2) (S2_count s2).toNatClampNeg ((S3_place s3) - 1))) s3) := hD
      refine lv_aload_n hx hb dX2_add_79 rfl (lv_at hl 0 rfl) ?_
      refine va_get (D := (dC, dI)) (ci := 2) (v := .ref h2a7) (C := RX2) (T := TX2) (N := 8) hx hb hts in2 hown hK hP 0 rfl rfl 7 (by decide) fl34 (fun _ h9 => h9) rfl dX2_add_80 ?_
      refine lv_aload_n hx hb dX2_add_83 rfl (lv_at hl 0 rfl) ?_
      refine va_get (D := (dC, dI)) (ci := 2) (v := .int (S2_count s2)) (C := RX2) (T := TX2) (N := 8) hx hb hts in2 hown hK hP 0 rfl rfl 1 (by decide) fl15 (fun _ h9 => h9) rfl dX2_add_84 ?_
      refine lv_iconst (v := 0) hx hb dX2_add_87 (by decide) ?_
      obtain ⟨hi_8, hf⟩ := ai_ok hf
      refine va_iast (n := 24) (f := (S2_answers s2)) hx hb hK hP hD hS 6 0 rfl rfl hi_8 dX2_add_88 (fun H locs hP hD hS => ?_)
      have hP : va_P (dC, dI) vwCl (cf_23 cI h2 h2a2 h2a3 h2a4 h2a5 h2a6 h2a7 h3 h3a0 (S2_set_answers (S2_set_lastPlaces (S2_set_nouns (S2_set_adjectiveSets (S2_set_kinds (S2_set_roles s2 (upd (S2_roles s2) (S2_count s2).toNatClampNeg a2)) (upd (S2_kinds s2) (S2_count s2).toNatClampNeg a1)) (upd (S2_adjectiveSets s2) (S2_count s2).toNatClampNeg (S3_adjectives s3))) (upd (S2_nouns s2) (S2_count s2).toNatClampNeg (S3_noun s3))) (upd (S2_lastPlaces s2) (S2_count s2).toNatClampNeg ((S3_place s3) - 1))) (upd (S2_answers s2) (S2_count s2).toNatClampNeg 0)) s3) H := hP
      have hD : va_D A (cf_23 cI h2 h2a2 h2a3 h2a4 h2a5 h2a6 h2a7 h3 h3a0 (S2_set_answers (S2_set_lastPlaces (S2_set_nouns (S2_set_adjectiveSets (S2_set_kinds (S2_set_roles s2 (upd (S2_roles s2) (S2_count s2).toNatClampNeg a2)) (upd (S2_kinds s2) (S2_count s2).toNatClampNeg a1)) (upd (S2_adjectiveSets s2) (S2_count s2).toNatClampNeg (S3_adjectives s3))) (upd (S2_nouns s2) (S2_count s2).toNatClampNeg (S3_noun s3))) (upd (S2_lastPlaces s2) (S2_count s2).toNatClampNeg ((S3_place s3) - 1))) (upd (S2_answers s2) (S2_count s2).toNatClampNeg 0)) s3) := hD
      refine lv_aload_n hx hb dX2_add_89 rfl (lv_at hl 0 rfl) ?_
      refine lv_dup hx hb dX2_add_90 rfl ?_
      refine va_get (D := (dC, dI)) (ci := 2) (v := .int (S2_count s2)) (C := RX2) (T := TX2) (N := 8) hx hb hts in2 hown hK hP 0 rfl rfl 1 (by decide) fl15 (fun _ h9 => h9) rfl dX2_add_91 ?_
      refine lv_iconst (v := 1) hx hb dX2_add_94 (by decide) ?_
      refine lv_iadd hx hb dX2_add_95 ?_
      refine va_put (D := (dC, dI)) (ci := 2) (v := .int ((S2_count s2) + 1)) (ty := .int) (C := RX2) (T := TX2) (N := 8) hx hb hts in2 tyX2 tyX2_ok nmX2 hown hK hP hD hS 0 rfl rfl 1 (by decide) fl15 (fun _ h9 => h9) rfl (by decide +kernel) rfl rfl (Nat.le_of_ble_eq_true rfl) dX2_add_96 (fun H locs hP hD hS => ?_)
      have hP : va_P (dC, dI) vwCl (cf_23 cI h2 h2a2 h2a3 h2a4 h2a5 h2a6 h2a7 h3 h3a0 (S2_set_count (S2_set_answers (S2_set_lastPlaces (S2_set_nouns (S2_set_adjectiveSets (S2_set_kinds (S2_set_roles s2 (upd (S2_roles s2) (S2_count s2).toNatClampNeg a2)) (upd (S2_kinds s2) (S2_count s2).toNatClampNeg a1)) (upd (S2_adjectiveSets s2) (S2_count s2).toNatClampNeg (S3_adjectives s3))) (upd (S2_nouns s2) (S2_count s2).toNatClampNeg (S3_noun s3))) (upd (S2_lastPlaces s2) (S2_count s2).toNatClampNeg ((S3_place s3) - 1))) (upd (S2_answers s2) (S2_count s2).toNatClampNeg 0)) ((S2_count s2) + 1)) s3) H := hP
      have hD : va_D A (cf_23 cI h2 h2a2 h2a3 h2a4 h2a5 h2a6 h2a7 h3 h3a0 (S2_set_count (S2_set_answers (S2_set_lastPlaces (S2_set_nouns (S2_set_adjectiveSets (S2_set_kinds (S2_set_roles s2 (upd (S2_roles s2) (S2_count s2).toNatClampNeg a2)) (upd (S2_kinds s2) (S2_count s2).toNatClampNeg a1)) (upd (S2_adjectiveSets s2) (S2_count s2).toNatClampNeg (S3_adjectives s3))) (upd (S2_nouns s2) (S2_count s2).toNatClampNeg (S3_noun s3))) (upd (S2_lastPlaces s2) (S2_count s2).toNatClampNeg ((S3_place s3) - 1))) (upd (S2_answers s2) (S2_count s2).toNatClampNeg 0)) ((S2_count s2) + 1)) s3) := hD
      refine lv_iconst (v := 1) hx hb dX2_add_99 (by decide) ?_
      have hf : (some (1, (S2_set_count (S2_set_answers (S2_set_lastPlaces (S2_set_nouns (S2_set_adjectiveSets (S2_set_kinds (S2_set_roles s2 (upd (S2_roles s2) (S2_count s2).toNatClampNeg a2)) (upd (S2_kinds s2) (S2_count s2).toNatClampNeg a1)) (upd (S2_adjectiveSets s2) (S2_count s2).toNatClampNeg (S3_adjectives s3))) (upd (S2_nouns s2) (S2_count s2).toNatClampNeg (S3_noun s3))) (upd (S2_lastPlaces s2) (S2_count s2).toNatClampNeg ((S3_place s3) - 1))) (upd (S2_answers s2) (S2_count s2).toNatClampNeg 0)) ((S2_count s2) + 1))) : Option (Int32 × S2)) = some (r, s2f) := hf
      have he := Option.some.inj hf
      have he0 : 1 = r := congrArg (fun q => q.1) he
      have he1 : (S2_set_count (S2_set_answers (S2_set_lastPlaces (S2_set_nouns (S2_set_adjectiveSets (S2_set_kinds (S2_set_roles s2 (upd (S2_roles s2) (S2_count s2).toNatClampNeg a2)) (upd (S2_kinds s2) (S2_count s2).toNatClampNeg a1)) (upd (S2_adjectiveSets s2) (S2_count s2).toNatClampNeg (S3_adjectives s3))) (upd (S2_nouns s2) (S2_count s2).toNatClampNeg (S3_noun s3))) (upd (S2_lastPlaces s2) (S2_count s2).toNatClampNeg ((S3_place s3) - 1))) (upd (S2_answers s2) (S2_count s2).toNatClampNeg 0)) ((S2_count s2) + 1)) = s2f := congrArg (fun q => q.2) he
      exact hret _ _ _ _ _ _ rfl he0 (by rw [← he1]) dX2_add_100 hP hD hS
    · have hf := it_f c_2 hf
      exact J16 s2 _ _ hP hD hS _ (lv_sub hl [] rfl) hf
abbrev rmX2_nextSingleRole : Room := { frames := 2, cells := 0, slots := 0, locals := 42 }
set_option maxHeartbeats 2000000 in
set_option maxRecDepth 100000 in
theorem ktX2_nextSingleRole (l : Launch) (dC : Nat → ClassId) (dI : Nat → Nat → Nat) (cI : ClassId) (h2 h2a2 h2a3 h2a4 h2a5 h2a6 h2a7 : Nat) (sz : Nat) (s2 : S2) (r : Int32) (hf : fX2_nextSingleRole s2 = some r) : Met l yX2_nextSingleRole wsX2_nextSingleRole rmX2_nextSingleRole (va_Pc [.ref h2] (pre_w (dC, dI) (cf_2 cI h2 h2a2 h2a3 h2a4 h2a5 h2a6 h2a7 s2) [(cI, .int)] sz)) (va_Qi (fun (r' : Int32) (_ : Unit) => r' = r) (post_w (dC, dI) (cf_2 cI h2 h2a2 h2a3 h2a4 h2a5 h2a6 h2a7 s2) [(cI, .int)] (va_A (cf_2 cI h2 h2a2 h2a3 h2a4 h2a5 h2a6 h2a7 s2) sz)) (va_A (cf_2 cI h2 h2a2 h2a3 h2a4 h2a5 h2a6 h2a7 s2) sz)) 0 0 (va_A (cf_2 cI h2 h2a2 h2a3 h2a4 h2a5 h2a6 h2a7 s2) sz) := by
  refine gm_i (cc := cX2_nextSingleRole) (maxL := 1) (by decide) rfl (Nat.le_of_ble_eq_true rfl) ?_
  intro p e s m below meth c A QQ ls hx hb hml hown hts hK hN hA hP hD hS hl hret
  have hown : s.vm.findClass RX2 = some m.cls := hown
  have hl : lv_has ls 1 [(0, .ref h2)] := hl
  have in2 : ∀ w ∈ u_ws RX2 TX2 8, w ∈ wsX2_nextSingleRole := by decide +kernel
  have fl15 := hts (.fieldLink RX2 15 "ParserParlour$Order" "count" "I") (by decide +kernel)
  have J19 : ∀ (t0 : Int32) (H : Heap) (locs : List Loc), va_P (dC, dI) vwCl (cf_2 cI h2 h2a2 h2a3 h2a4 h2a5 h2a6 h2a7 s2) H → va_D A (cf_2 cI h2 h2a2 h2a3 h2a4 h2a5 h2a6 h2a7 s2) → va_S A s.heap H locs → ∀ (ls : Array Slot), lv_has ls 1 [] → fX2_nextSingleRole_19 s2 t0 = some r → W p l e rmX2_nextSingleRole s m ([.ref h2] : List Value).toArray below meth c H locs 0 0 QQ (F0 m 19 ls [.int t0]) := by
    intro  t0 H locs hP hD hS ls hl hf
    unfold fX2_nextSingleRole_19 at hf
    have hf : (some t0 : Option (Int32)) = some r := hf
    have he := Option.some.inj hf
    have he0 : t0 = r := he
    exact hret _ _ _ _ _ _ he0 rfl dX2_nextSingleRole_19 hP hD hS
  unfold fX2_nextSingleRole at hf
  refine lv_aload_n hx hb dX2_nextSingleRole_0 rfl (lv_at hl 0 rfl) ?_
  refine lv_aload_n hx hb dX2_nextSingleRole_1 rfl (lv_at hl 0 rfl) ?_
  refine va_get (D := (dC, dI)) (ci := 2) (v := .int (S2_count s2)) (C := RX2) (T := TX2) (N := 8) hx hb hts in2 hown hK hP 0 rfl rfl 1 (by decide) fl15 (fun _ h9 => h9) rfl dX2_nextSingleRole_2 ?_
  refine lv_iconst (v := 1) hx hb dX2_nextSingleRole_5 (by decide) ?_
  refine lv_isub hx hb dX2_nextSingleRole_6 ?_
  obtain ⟨r_1, hc_1, hf⟩ := bn1_ok hf
  refine gc_i (wc := (cf_2 cI h2 h2a2 h2a3 h2a4 h2a5 h2a6 h2a7 s2)) (wr := ([] : va_W)) (w1 := (cf_2 cI h2 h2a2 h2a3 h2a4 h2a5 h2a6 h2a7 s2)) (ws' := (cf_2 cI h2 h2a2 h2a3 h2a4 h2a5 h2a6 h2a7 s2)) hP hD hS hA [0, 1, 2, 3, 4, 5, 6] [] [0, 1, 2, 3, 4, 5, 6] rfl rfl (by decide) (by decide) rfl (by decide) (va_runV (As := [.int ((S2_count s2) - 1)]) (rest := []) ⟨hx, hb, hml, hown, hts⟩ (ktX2_roleOf l dC dI cI h2 h2a2 h2a3 h2a4 h2a5 h2a6 h2a7 _ s2 ((S2_count s2) - 1) r_1 hc_1) (cwV 1 hts gX2_nextSingleRole_X2_roleOf rfl rfl rfl (by decide +kernel) ⟨Nat.le_of_ble_eq_true rfl, Nat.le_of_ble_eq_true rfl⟩) (gc_V (ci := 2) (q0 := 0) (C := RX2) (T := TX2) (N := 8) (hP.sub (ws' := (cf_2 cI h2 h2a2 h2a3 h2a4 h2a5 h2a6 h2a7 s2)) [0, 1, 2, 3, 4, 5, 6] rfl) (hK.sub (tys' := [(cI, .int)]) [0] rfl) (hD.sub (ws' := (cf_2 cI h2 h2a2 h2a3 h2a4 h2a5 h2a6 h2a7 s2)) [0, 1, 2, 3, 4, 5, 6] (by decide) rfl) hN rfl rfl) rfl rfl hl.1 rfl (lv_room (Nat.le_of_ble_eq_true rfl)) dX2_nextSingleRole_7 ⟨Nat.zero_le _, Nat.zero_le _⟩) (fun H locs hP hD hS => ?_)
  refine lv_iconst (v := 1) hx hb dX2_nextSingleRole_10 (by decide) ?_
  refine lv_icmp_ne (tgt := 18) hx hb dX2_nextSingleRole_11 (by decide) (fun c_2 => ?_) (fun c_2 => ?_)
  · have hf := it_f c_2 hf
    refine lv_iconst (v := 0) hx hb dX2_nextSingleRole_18 (by decide) ?_
    exact J19 0 _ _ hP hD hS _ (lv_sub hl [] rfl) hf
  · have hf := it_t c_2 hf
    refine lv_iconst (v := 1) hx hb dX2_nextSingleRole_14 (by decide) ?_
    refine lv_goto (tgt := 19) hx hb dX2_nextSingleRole_15 (by decide) ?_
    exact J19 1 _ _ hP hD hS _ (lv_sub hl [] rfl) hf
abbrev rmX2_readHead : Room := { frames := 2, cells := 0, slots := 0, locals := 43 }
set_option maxHeartbeats 2000000 in
set_option maxRecDepth 100000 in
theorem ktX2_readHead (l : Launch) (dC : Nat → ClassId) (dI : Nat → Nat → Nat) (cI : ClassId) (h2 h2a2 h2a3 h2a4 h2a5 h2a6 h2a7 h3 h3a0 : Nat) (sz : Nat) (s2 : S2) (s3 : S3) (a2 : Int32) (r : Int32) (s2f : S2) (s3f : S3) (hf : fX2_readHead s2 s3 a2 = some (r, s2f, s3f)) : Met l yX2_readHead wsX2_readHead rmX2_readHead (va_Pc [.ref h2, .ref h3, .int a2] (pre_w (dC, dI) (cf_23 cI h2 h2a2 h2a3 h2a4 h2a5 h2a6 h2a7 h3 h3a0 s2 s3) [(cI, .int)] sz)) (va_Qi (fun (r' : Int32) (_ : Unit) => r' = r) (post_w (dC, dI) (cf_23 cI h2 h2a2 h2a3 h2a4 h2a5 h2a6 h2a7 h3 h3a0 s2f s3f) [(cI, .int)] (va_A (cf_23 cI h2 h2a2 h2a3 h2a4 h2a5 h2a6 h2a7 h3 h3a0 s2 s3) sz)) (va_A (cf_23 cI h2 h2a2 h2a3 h2a4 h2a5 h2a6 h2a7 h3 h3a0 s2 s3) sz)) 0 0 (va_A (cf_23 cI h2 h2a2 h2a3 h2a4 h2a5 h2a6 h2a7 h3 h3a0 s2 s3) sz) := by
  refine gm_z (cc := cX2_readHead) (maxL := 3) (by decide) rfl (Nat.le_of_ble_eq_true rfl) ?_
  intro p e s m below meth c A QQ ls hx hb hml hown hts hK hN hA hP hD hS hl hret
  have hown : s.vm.findClass RX2 = some m.cls := hown
  have hl : lv_has ls 3 [(0, .ref h2), (1, .ref h3), (2, .int a2)] := hl
  have in3 : ∀ w ∈ u_ws RX3 TX3 5, w ∈ wsX2_readHead := by decide +kernel
  have fl69 := va_Nw.use (A := ([.ref h2, .ref h3, .int a2] : List Value).toArray) (by rfl) (hN _ (List.mem_of_getElem? (i := 5) rfl))
  have J25 : ∀ (s2 : S2) (s3 : S3) (H : Heap) (locs : List Loc), va_P (dC, dI) vwCl (cf_23 cI h2 h2a2 h2a3 h2a4 h2a5 h2a6 h2a7 h3 h3a0 s2 s3) H → va_D A (cf_23 cI h2 h2a2 h2a3 h2a4 h2a5 h2a6 h2a7 h3 h3a0 s2 s3) → va_S A s.heap H locs → ∀ (ls : Array Slot), lv_has ls 3 [(0, .ref h2), (1, .ref h3), (2, .int a2)] → fX2_readHead_25 a2 s2 s3 = some (r, s2f, s3f) → W p l e rmX2_readHead s m ([.ref h2, .ref h3, .int a2] : List Value).toArray below meth c H locs 0 0 QQ (F0 m 25 ls []) := by
    intro  s2 s3 H locs hP hD hS ls hl hf
    unfold fX2_readHead_25 at hf
    refine lv_aload_n hx hb dX2_readHead_25 rfl (lv_at hl 0 rfl) ?_
    refine lv_bipush (v := 17) hx hb dX2_readHead_26 (by decide) ?_
    refine lv_iload_n hx hb dX2_readHead_28 rfl (lv_at hl 2 rfl) ?_
    refine lv_aload_n hx hb dX2_readHead_29 rfl (lv_at hl 1 rfl) ?_
    obtain ⟨r_1, s2_1, hc_1, hf⟩ := bn2_ok hf
    refine gc_i (wc := (cf_23 cI h2 h2a2 h2a3 h2a4 h2a5 h2a6 h2a7 h3 h3a0 s2 s3)) (wr := ([] : va_W)) (w1 := (cf_23 cI h2 h2a2 h2a3 h2a4 h2a5 h2a6 h2a7 h3 h3a0 s2_1 s3)) (ws' := (cf_23 cI h2 h2a2 h2a3 h2a4 h2a5 h2a6 h2a7 h3 h3a0 s2_1 s3)) hP hD hS hA [0, 1, 2, 3, 4, 5, 6, 7, 8] [] [0, 1, 2, 3, 4, 5, 6, 7, 8] rfl rfl (by decide) (by decide) rfl (by decide) (va_runV (As := [.int 17, .int a2, .ref h3]) (rest := []) ⟨hx, hb, hml, hown, hts⟩ (ktX2_add l dC dI cI h2 h2a2 h2a3 h2a4 h2a5 h2a6 h2a7 h3 h3a0 _ s2 s3 17 a2 r_1 s2_1 hc_1) (cwV 3 hts gX2_readHead_X2_add rfl rfl rfl (by decide +kernel) ⟨Nat.le_of_ble_eq_true rfl, Nat.le_of_ble_eq_true rfl⟩) (gc_V (ci := 2) (q0 := 0) (C := RX2) (T := TX2) (N := 8) (hP.sub (ws' := (cf_23 cI h2 h2a2 h2a3 h2a4 h2a5 h2a6 h2a7 h3 h3a0 s2 s3)) [0, 1, 2, 3, 4, 5, 6, 7, 8] rfl) (hK.sub (tys' := [(cI, .int)]) [0] rfl) (hD.sub (ws' := (cf_23 cI h2 h2a2 h2a3 h2a4 h2a5 h2a6 h2a7 h3 h3a0 s2 s3)) [0, 1, 2, 3, 4, 5, 6, 7, 8] (by decide) rfl) hN rfl rfl) rfl rfl hl.1 rfl (lv_room (Nat.le_of_ble_eq_true rfl)) dX2_readHead_30 ⟨Nat.zero_le _, Nat.zero_le _⟩) (fun H locs hP hD hS => ?_)
    obtain ⟨hz_2, hf⟩ := bo_ok hf
    have hf : (some (r_1, s2_1, s3) : Option (Int32 × S2 × S3)) = some (r, s2f, s3f) := hf
    have he := Option.some.inj hf
    have he0 : r_1 = r := congrArg (fun q => q.1) he
    have he1 : s2_1 = s2f := congrArg (fun q => q.2.1) he
    have he2 : s3 = s3f := congrArg (fun q => q.2.2) he
    exact hret _ _ _ _ _ _ hz_2 he0 (by rw [← he1, ← he2]) dX2_readHead_33 hP hD hS
  have J34 : ∀ (s2 : S2) (s3 : S3) (H : Heap) (locs : List Loc), va_P (dC, dI) vwCl (cf_23 cI h2 h2a2 h2a3 h2a4 h2a5 h2a6 h2a7 h3 h3a0 s2 s3) H → va_D A (cf_23 cI h2 h2a2 h2a3 h2a4 h2a5 h2a6 h2a7 h3 h3a0 s2 s3) → va_S A s.heap H locs → ∀ (ls : Array Slot), lv_has ls 3 [] → fX2_readHead_34 a2 s2 s3 = some (r, s2f, s3f) → W p l e rmX2_readHead s m ([.ref h2, .ref h3, .int a2] : List Value).toArray below meth c H locs 0 0 QQ (F0 m 34 ls []) := by
    intro  s2 s3 H locs hP hD hS ls hl hf
    unfold fX2_readHead_34 at hf
    refine lv_iconst (v := 0) hx hb dX2_readHead_34 (by decide) ?_
    have hf : (some (0, s2, s3) : Option (Int32 × S2 × S3)) = some (r, s2f, s3f) := hf
    have he := Option.some.inj hf
    have he0 : 0 = r := congrArg (fun q => q.1) he
    have he1 : s2 = s2f := congrArg (fun q => q.2.1) he
    have he2 : s3 = s3f := congrArg (fun q => q.2.2) he
    exact hret _ _ _ _ _ _ rfl he0 (by rw [← he1, ← he2]) dX2_readHead_35 hP hD hS
  unfold fX2_readHead at hf
  refine lv_aload_n hx hb dX2_readHead_0 rfl (lv_at hl 1 rfl) ?_
  refine lv_bipush (v := 30) hx hb dX2_readHead_1 (by decide) ?_
  obtain ⟨r_1, s3_1, hc_1, hf⟩ := bn2_ok hf
  refine gc_i (wc := (cf_3 cI h3 h3a0 s3)) (wr := (cf_2 cI h2 h2a2 h2a3 h2a4 h2a5 h2a6 h2a7 s2)) (w1 := (cf_3 cI h3 h3a0 s3_1)) (ws' := (cf_23 cI h2 h2a2 h2a3 h2a4 h2a5 h2a6 h2a7 h3 h3a0 s2 s3_1)) hP hD hS hA [7, 8] [0, 1, 2, 3, 4, 5, 6] [0, 1, 2, 3, 4, 5, 6, 7, 8] rfl rfl (by decide) (by decide) rfl (by decide) (va_runV (As := [.int 30]) (rest := []) ⟨hx, hb, hml, hown, hts⟩ (ktX3_acceptNoun l dC dI cI h3 h3a0 _ s3 30 r_1 s3_1 hc_1) (cwV 1 hts gX2_readHead_X3_acceptNoun rfl rfl rfl (by decide +kernel) ⟨Nat.le_of_ble_eq_true rfl, Nat.le_of_ble_eq_true rfl⟩) (gc_V (ci := 3) (q0 := 0) (C := RX3) (T := TX3) (N := 5) (hP.sub (ws' := (cf_3 cI h3 h3a0 s3)) [7, 8] rfl) (hK.sub (tys' := [(cI, .int)]) [0] rfl) (hD.sub (ws' := (cf_3 cI h3 h3a0 s3)) [7, 8] (by decide) rfl) hN rfl rfl) rfl rfl hl.1 rfl (lv_room (Nat.le_of_ble_eq_true rfl)) dX2_readHead_3 ⟨Nat.zero_le _, Nat.zero_le _⟩) (fun H locs hP hD hS => ?_)
  refine lv_if_ne (tgt := 25) hx hb dX2_readHead_6 (by decide) (fun c_2 => ?_) (fun c_2 => ?_)
  · have hf := it_f c_2 hf
    exact J25 s2 s3_1 _ _ hP hD hS _ (lv_sub hl [0, 1, 2] rfl) hf
  · have hf := it_t c_2 hf
    refine lv_aload_n hx hb dX2_readHead_9 rfl (lv_at hl 1 rfl) ?_
    refine va_getN (D := (dC, dI)) (ci := 3) (v := .int (S3_adjectives s3_1)) (C := RX3) (T := TX3) (N := 5) hx hb hts in3 hown hK hP 7 rfl rfl 3 (by decide) fl69 (fun _ h9 => h9) rfl dX2_readHead_10 ?_
    refine lv_if_eq (tgt := 34) hx hb dX2_readHead_13 (by decide) (fun c_3 => ?_) (fun c_3 => ?_)
    · have hf := it_t c_3 hf
      exact J34 s2 s3_1 _ _ hP hD hS _ (lv_sub hl [] rfl) hf
    · have hf := it_f c_3 hf
      refine lv_aload_n hx hb dX2_readHead_16 rfl (lv_at hl 1 rfl) ?_
      refine lv_bipush (v := 17) hx hb dX2_readHead_17 (by decide) ?_
      obtain ⟨r_4, s3_4, hc_4, hf⟩ := bn2_ok hf
      refine gc_i (wc := (cf_3 cI h3 h3a0 s3_1)) (wr := (cf_2 cI h2 h2a2 h2a3 h2a4 h2a5 h2a6 h2a7 s2)) (w1 := (cf_3 cI h3 h3a0 s3_4)) (ws' := (cf_23 cI h2 h2a2 h2a3 h2a4 h2a5 h2a6 h2a7 h3 h3a0 s2 s3_4)) hP hD hS hA [7, 8] [0, 1, 2, 3, 4, 5, 6] [0, 1, 2, 3, 4, 5, 6, 7, 8] rfl rfl (by decide) (by decide) rfl (by decide) (va_runV (As := [.int 17]) (rest := []) ⟨hx, hb, hml, hown, hts⟩ (ktX3_accept l dC dI cI h3 h3a0 _ s3_1 17 r_4 s3_4 hc_4) (cwV 1 hts gX2_readHead_X3_accept rfl rfl rfl (by decide +kernel) ⟨Nat.le_of_ble_eq_true rfl, Nat.le_of_ble_eq_true rfl⟩) (gc_V (ci := 3) (q0 := 0) (C := RX3) (T := TX3) (N := 5) (hP.sub (ws' := (cf_3 cI h3 h3a0 s3_1)) [7, 8] rfl) (hK.sub (tys' := [(cI, .int)]) [0] rfl) (hD.sub (ws' := (cf_3 cI h3 h3a0 s3_1)) [7, 8] (by decide) rfl) hN rfl rfl) rfl rfl hl.1 rfl (lv_room (Nat.le_of_ble_eq_true rfl)) dX2_readHead_19 ⟨Nat.zero_le _, Nat.zero_le _⟩) (fun H locs hP hD hS => ?_)
      refine lv_if_eq (tgt := 34) hx hb dX2_readHead_22 (by decide) (fun c_5 => ?_) (fun c_5 => ?_)
      · have hf := it_t c_5 hf
        exact J34 s2 s3_4 _ _ hP hD hS _ (lv_sub hl [] rfl) hf
      · have hf := it_f c_5 hf
        exact J25 s2 s3_4 _ _ hP hD hS _ (lv_sub hl [0, 1, 2] rfl) hf
abbrev rmX2_readSingle : Room := { frames := 3, cells := 0, slots := 0, locals := 65 }
set_option maxHeartbeats 2000000 in
set_option maxRecDepth 100000 in
theorem ktX2_readSingle (l : Launch) (dC : Nat → ClassId) (dI : Nat → Nat → Nat) (cI : ClassId) (h2 h2a2 h2a3 h2a4 h2a5 h2a6 h2a7 h3 h3a0 : Nat) (sz : Nat) (s2 : S2) (s3 : S3) (a2 : Int32) (r : Int32) (s2f : S2) (s3f : S3) (hf : fX2_readSingle s2 s3 a2 = some (r, s2f, s3f)) : Met l yX2_readSingle wsX2_readSingle rmX2_readSingle (va_Pc [.ref h2, .ref h3, .int a2] (pre_w (dC, dI) (cf_23 cI h2 h2a2 h2a3 h2a4 h2a5 h2a6 h2a7 h3 h3a0 s2 s3) [(cI, .int)] sz)) (va_Qi (fun (r' : Int32) (_ : Unit) => r' = r) (post_w (dC, dI) (cf_23 cI h2 h2a2 h2a3 h2a4 h2a5 h2a6 h2a7 h3 h3a0 s2f s3f) [(cI, .int)] (va_A (cf_23 cI h2 h2a2 h2a3 h2a4 h2a5 h2a6 h2a7 h3 h3a0 s2 s3) sz)) (va_A (cf_23 cI h2 h2a2 h2a3 h2a4 h2a5 h2a6 h2a7 h3 h3a0 s2 s3) sz)) 0 0 (va_A (cf_23 cI h2 h2a2 h2a3 h2a4 h2a5 h2a6 h2a7 h3 h3a0 s2 s3) sz) := by
  refine gm_z (cc := cX2_readSingle) (maxL := 3) (by decide) rfl (Nat.le_of_ble_eq_true rfl) ?_
  intro p e s m below meth c A QQ ls hx hb hml hown hts hK hN hA hP hD hS hl hret
  have hown : s.vm.findClass RX2 = some m.cls := hown
  have hl : lv_has ls 3 [(0, .ref h2), (1, .ref h3), (2, .int a2)] := hl
  unfold fX2_readSingle at hf
  refine lv_aload_n hx hb dX2_readSingle_0 rfl (lv_at hl 1 rfl) ?_
  refine lv_bipush (v := 14) hx hb dX2_readSingle_1 (by decide) ?_
  obtain ⟨r_1, s3_1, hc_1, hf⟩ := bn2_ok hf
  refine gc_i (wc := (cf_3 cI h3 h3a0 s3)) (wr := (cf_2 cI h2 h2a2 h2a3 h2a4 h2a5 h2a6 h2a7 s2)) (w1 := (cf_3 cI h3 h3a0 s3_1)) (ws' := (cf_23 cI h2 h2a2 h2a3 h2a4 h2a5 h2a6 h2a7 h3 h3a0 s2 s3_1)) hP hD hS hA [7, 8] [0, 1, 2, 3, 4, 5, 6] [0, 1, 2, 3, 4, 5, 6, 7, 8] rfl rfl (by decide) (by decide) rfl (by decide) (va_runV (As := [.int 14]) (rest := []) ⟨hx, hb, hml, hown, hts⟩ (ktX3_accept l dC dI cI h3 h3a0 _ s3 14 r_1 s3_1 hc_1) (cwV 1 hts gX2_readSingle_X3_accept rfl rfl rfl (by decide +kernel) ⟨Nat.le_of_ble_eq_true rfl, Nat.le_of_ble_eq_true rfl⟩) (gc_V (ci := 3) (q0 := 0) (C := RX3) (T := TX3) (N := 5) (hP.sub (ws' := (cf_3 cI h3 h3a0 s3)) [7, 8] rfl) (hK.sub (tys' := [(cI, .int)]) [0] rfl) (hD.sub (ws' := (cf_3 cI h3 h3a0 s3)) [7, 8] (by decide) rfl) hN rfl rfl) rfl rfl hl.1 rfl (lv_room (Nat.le_of_ble_eq_true rfl)) dX2_readSingle_3 ⟨Nat.zero_le _, Nat.zero_le _⟩) (fun H locs hP hD hS => ?_)
  refine lv_if_eq (tgt := 18) hx hb dX2_readSingle_6 (by decide) (fun c_2 => ?_) (fun c_2 => ?_)
  · have hf := it_t c_2 hf
    refine lv_aload_n hx hb dX2_readSingle_18 rfl (lv_at hl 1 rfl) ?_
    refine lv_bipush (v := 10) hx hb dX2_readSingle_19 (by decide) ?_
    obtain ⟨r_3, s3_3, hc_3, hf⟩ := bn2_ok hf
    refine gc_i (wc := (cf_3 cI h3 h3a0 s3_1)) (wr := (cf_2 cI h2 h2a2 h2a3 h2a4 h2a5 h2a6 h2a7 s2)) (w1 := (cf_3 cI h3 h3a0 s3_3)) (ws' := (cf_23 cI h2 h2a2 h2a3 h2a4 h2a5 h2a6 h2a7 h3 h3a0 s2 s3_3)) hP hD hS hA [7, 8] [0, 1, 2, 3, 4, 5, 6] [0, 1, 2, 3, 4, 5, 6, 7, 8] rfl rfl (by decide) (by decide) rfl (by decide) (va_runV (As := [.int 10]) (rest := []) ⟨hx, hb, hml, hown, hts⟩ (ktX3_accept l dC dI cI h3 h3a0 _ s3_1 10 r_3 s3_3 hc_3) (cwV 1 hts gX2_readSingle_X3_accept rfl rfl rfl (by decide +kernel) ⟨Nat.le_of_ble_eq_true rfl, Nat.le_of_ble_eq_true rfl⟩) (gc_V (ci := 3) (q0 := 0) (C := RX3) (T := TX3) (N := 5) (hP.sub (ws' := (cf_3 cI h3 h3a0 s3_1)) [7, 8] rfl) (hK.sub (tys' := [(cI, .int)]) [0] rfl) (hD.sub (ws' := (cf_3 cI h3 h3a0 s3_1)) [7, 8] (by decide) rfl) hN rfl rfl) rfl rfl hl.1 rfl (lv_room (Nat.le_of_ble_eq_true rfl)) dX2_readSingle_21 ⟨Nat.zero_le _, Nat.zero_le _⟩) (fun H locs hP hD hS => ?_)
    refine lv_pop hx hb dX2_readSingle_24 rfl ?_
    refine lv_aload_n hx hb dX2_readSingle_25 rfl (lv_at hl 1 rfl) ?_
    obtain ⟨s3_4, hc_4, hf⟩ := bn1_ok hf
    refine gc_v (wc := (cf_3 cI h3 h3a0 s3_3)) (wr := (cf_2 cI h2 h2a2 h2a3 h2a4 h2a5 h2a6 h2a7 s2)) (w1 := (cf_3 cI h3 h3a0 s3_4)) (ws' := (cf_23 cI h2 h2a2 h2a3 h2a4 h2a5 h2a6 h2a7 h3 h3a0 s2 s3_4)) hP hD hS hA [7, 8] [0, 1, 2, 3, 4, 5, 6] [0, 1, 2, 3, 4, 5, 6, 7, 8] rfl rfl (by decide) (by decide) rfl (by decide) (va_runV (As := []) (rest := []) ⟨hx, hb, hml, hown, hts⟩ (ktX3_readAdjectives l dC dI cI h3 h3a0 _ s3_3 s3_4 hc_4) (cwV 0 hts gX2_readSingle_X3_readAdjectives rfl rfl rfl (by decide +kernel) ⟨Nat.le_of_ble_eq_true rfl, Nat.le_of_ble_eq_true rfl⟩) (gc_V (ci := 3) (q0 := 0) (C := RX3) (T := TX3) (N := 5) (hP.sub (ws' := (cf_3 cI h3 h3a0 s3_3)) [7, 8] rfl) (hK.sub (tys' := [(cI, .int)]) [0] rfl) (hD.sub (ws' := (cf_3 cI h3 h3a0 s3_3)) [7, 8] (by decide) rfl) hN rfl rfl) rfl rfl hl.1 rfl (lv_room (Nat.le_of_ble_eq_true rfl)) dX2_readSingle_26 ⟨Nat.zero_le _, Nat.zero_le _⟩) (fun H locs hP hD hS => ?_)
    refine lv_aload_n hx hb dX2_readSingle_29 rfl (lv_at hl 0 rfl) ?_
    refine lv_aload_n hx hb dX2_readSingle_30 rfl (lv_at hl 1 rfl) ?_
    refine lv_iload_n hx hb dX2_readSingle_31 rfl (lv_at hl 2 rfl) ?_
    obtain ⟨r_5, s2_5, s3_5, hc_5, hf⟩ := bn3_ok hf
    refine gc_i (wc := (cf_23 cI h2 h2a2 h2a3 h2a4 h2a5 h2a6 h2a7 h3 h3a0 s2 s3_4)) (wr := ([] : va_W)) (w1 := (cf_23 cI h2 h2a2 h2a3 h2a4 h2a5 h2a6 h2a7 h3 h3a0 s2_5 s3_5)) (ws' := (cf_23 cI h2 h2a2 h2a3 h2a4 h2a5 h2a6 h2a7 h3 h3a0 s2_5 s3_5)) hP hD hS hA [0, 1, 2, 3, 4, 5, 6, 7, 8] [] [0, 1, 2, 3, 4, 5, 6, 7, 8] rfl rfl (by decide) (by decide) rfl (by decide) (va_runV (As := [.ref h3, .int a2]) (rest := []) ⟨hx, hb, hml, hown, hts⟩ (ktX2_readHead l dC dI cI h2 h2a2 h2a3 h2a4 h2a5 h2a6 h2a7 h3 h3a0 _ s2 s3_4 a2 r_5 s2_5 s3_5 hc_5) (cwV 2 hts gX2_readSingle_X2_readHead rfl rfl rfl (by decide +kernel) ⟨Nat.le_of_ble_eq_true rfl, Nat.le_of_ble_eq_true rfl⟩) (gc_V (ci := 2) (q0 := 0) (C := RX2) (T := TX2) (N := 8) (hP.sub (ws' := (cf_23 cI h2 h2a2 h2a3 h2a4 h2a5 h2a6 h2a7 h3 h3a0 s2 s3_4)) [0, 1, 2, 3, 4, 5, 6, 7, 8] rfl) (hK.sub (tys' := [(cI, .int)]) [0] rfl) (hD.sub (ws' := (cf_23 cI h2 h2a2 h2a3 h2a4 h2a5 h2a6 h2a7 h3 h3a0 s2 s3_4)) [0, 1, 2, 3, 4, 5, 6, 7, 8] (by decide) rfl) hN rfl rfl) rfl rfl hl.1 rfl (lv_room (Nat.le_of_ble_eq_true rfl)) dX2_readSingle_32 ⟨Nat.zero_le _, Nat.zero_le _⟩) (fun H locs hP hD hS => ?_)
    obtain ⟨hz_6, hf⟩ := bo_ok hf
    have hf : (some (r_5, s2_5, s3_5) : Option (Int32 × S2 × S3)) = some (r, s2f, s3f) := hf
    have he := Option.some.inj hf
    have he0 : r_5 = r := congrArg (fun q => q.1) he
    have he1 : s2_5 = s2f := congrArg (fun q => q.2.1) he
    have he2 : s3_5 = s3f := congrArg (fun q => q.2.2) he
    exact hret _ _ _ _ _ _ hz_6 he0 (by rw [← he1, ← he2]) dX2_readSingle_35 hP hD hS
  · have hf := it_f c_2 hf
    refine lv_aload_n hx hb dX2_readSingle_9 rfl (lv_at hl 0 rfl) ?_
    refine lv_bipush (v := 14) hx hb dX2_readSingle_10 (by decide) ?_
    refine lv_iload_n hx hb dX2_readSingle_12 rfl (lv_at hl 2 rfl) ?_
    refine lv_aload_n hx hb dX2_readSingle_13 rfl (lv_at hl 1 rfl) ?_
    obtain ⟨r_7, s2_7, hc_7, hf⟩ := bn2_ok hf
    refine gc_i (wc := (cf_23 cI h2 h2a2 h2a3 h2a4 h2a5 h2a6 h2a7 h3 h3a0 s2 s3_1)) (wr := ([] : va_W)) (w1 := (cf_23 cI h2 h2a2 h2a3 h2a4 h2a5 h2a6 h2a7 h3 h3a0 s2_7 s3_1)) (ws' := (cf_23 cI h2 h2a2 h2a3 h2a4 h2a5 h2a6 h2a7 h3 h3a0 s2_7 s3_1)) hP hD hS hA [0, 1, 2, 3, 4, 5, 6, 7, 8] [] [0, 1, 2, 3, 4, 5, 6, 7, 8] rfl rfl (by decide) (by decide) rfl (by decide) (va_runV (As := [.int 14, .int a2, .ref h3]) (rest := []) ⟨hx, hb, hml, hown, hts⟩ (ktX2_add l dC dI cI h2 h2a2 h2a3 h2a4 h2a5 h2a6 h2a7 h3 h3a0 _ s2 s3_1 14 a2 r_7 s2_7 hc_7) (cwV 3 hts gX2_readSingle_X2_add rfl rfl rfl (by decide +kernel) ⟨Nat.le_of_ble_eq_true rfl, Nat.le_of_ble_eq_true rfl⟩) (gc_V (ci := 2) (q0 := 0) (C := RX2) (T := TX2) (N := 8) (hP.sub (ws' := (cf_23 cI h2 h2a2 h2a3 h2a4 h2a5 h2a6 h2a7 h3 h3a0 s2 s3_1)) [0, 1, 2, 3, 4, 5, 6, 7, 8] rfl) (hK.sub (tys' := [(cI, .int)]) [0] rfl) (hD.sub (ws' := (cf_23 cI h2 h2a2 h2a3 h2a4 h2a5 h2a6 h2a7 h3 h3a0 s2 s3_1)) [0, 1, 2, 3, 4, 5, 6, 7, 8] (by decide) rfl) hN rfl rfl) rfl rfl hl.1 rfl (lv_room (Nat.le_of_ble_eq_true rfl)) dX2_readSingle_14 ⟨Nat.zero_le _, Nat.zero_le _⟩) (fun H locs hP hD hS => ?_)
    obtain ⟨hz_8, hf⟩ := bo_ok hf
    have hf : (some (r_7, s2_7, s3_1) : Option (Int32 × S2 × S3)) = some (r, s2f, s3f) := hf
    have he := Option.some.inj hf
    have he0 : r_7 = r := congrArg (fun q => q.1) he
    have he1 : s2_7 = s2f := congrArg (fun q => q.2.1) he
    have he2 : s3_1 = s3f := congrArg (fun q => q.2.2) he
    exact hret _ _ _ _ _ _ hz_8 he0 (by rw [← he1, ← he2]) dX2_readSingle_17 hP hD hS
abbrev rmX2_readPart : Room := { frames := 4, cells := 0, slots := 0, locals := 87 }
set_option maxHeartbeats 2000000 in
set_option maxRecDepth 100000 in
theorem ktX2_readPart (l : Launch) (dC : Nat → ClassId) (dI : Nat → Nat → Nat) (cI : ClassId) (h2 h2a2 h2a3 h2a4 h2a5 h2a6 h2a7 h3 h3a0 : Nat) (sz : Nat) (s2 : S2) (s3 : S3) (r : Int32) (s2f : S2) (s3f : S3) (hf : fX2_readPart s2 s3 = some (r, s2f, s3f)) : Met l yX2_readPart wsX2_readPart rmX2_readPart (va_Pc [.ref h2, .ref h3] (pre_w (dC, dI) (cf_23 cI h2 h2a2 h2a3 h2a4 h2a5 h2a6 h2a7 h3 h3a0 s2 s3) [(cI, .int)] sz)) (va_Qi (fun (r' : Int32) (_ : Unit) => r' = r) (post_w (dC, dI) (cf_23 cI h2 h2a2 h2a3 h2a4 h2a5 h2a6 h2a7 h3 h3a0 s2f s3f) [(cI, .int)] (va_A (cf_23 cI h2 h2a2 h2a3 h2a4 h2a5 h2a6 h2a7 h3 h3a0 s2 s3) sz)) (va_A (cf_23 cI h2 h2a2 h2a3 h2a4 h2a5 h2a6 h2a7 h3 h3a0 s2 s3) sz)) 0 0 (va_A (cf_23 cI h2 h2a2 h2a3 h2a4 h2a5 h2a6 h2a7 h3 h3a0 s2 s3) sz) := by
  refine gm_z (cc := cX2_readPart) (maxL := 4) (by decide) rfl (Nat.le_of_ble_eq_true rfl) ?_
  intro p e s m below meth c A QQ ls hx hb hml hown hts hK hN hA hP hD hS hl hret
  have hown : s.vm.findClass RX2 = some m.cls := hown
  have hl : lv_has ls 4 [(0, .ref h2), (1, .ref h3)] := hl
  have in3 : ∀ w ∈ u_ws RX3 TX3 5, w ∈ wsX2_readPart := by decide +kernel
  have fl69 := va_Nw.use (A := ([.ref h2, .ref h3] : List Value).toArray) (by rfl) (hN _ (List.mem_of_getElem? (i := 5) rfl))
  have J145 : ∀ (s2 : S2) (s3 : S3) (t0 : Int32) (H : Heap) (locs : List Loc), va_P (dC, dI) vwCl (cf_23 cI h2 h2a2 h2a3 h2a4 h2a5 h2a6 h2a7 h3 h3a0 s2 s3) H → va_D A (cf_23 cI h2 h2a2 h2a3 h2a4 h2a5 h2a6 h2a7 h3 h3a0 s2 s3) → va_S A s.heap H locs → ∀ (ls : Array Slot), lv_has ls 4 [] → fX2_readPart_145 s2 s3 t0 = some (r, s2f, s3f) → W p l e rmX2_readPart s m ([.ref h2, .ref h3] : List Value).toArray below meth c H locs 0 0 QQ (F0 m 145 ls [.int t0]) := by
    intro  s2 s3 t0 H locs hP hD hS ls hl hf
    unfold fX2_readPart_145 at hf
    obtain ⟨hz_1, hf⟩ := bo_ok hf
    have hf : (some (t0, s2, s3) : Option (Int32 × S2 × S3)) = some (r, s2f, s3f) := hf
    have he := Option.some.inj hf
    have he0 : t0 = r := congrArg (fun q => q.1) he
    have he1 : s2 = s2f := congrArg (fun q => q.2.1) he
    have he2 : s3 = s3f := congrArg (fun q => q.2.2) he
    exact hret _ _ _ _ _ _ hz_1 he0 (by rw [← he1, ← he2]) dX2_readPart_145 hP hD hS
  have J144 : ∀ (s2 : S2) (s3 : S3) (H : Heap) (locs : List Loc), va_P (dC, dI) vwCl (cf_23 cI h2 h2a2 h2a3 h2a4 h2a5 h2a6 h2a7 h3 h3a0 s2 s3) H → va_D A (cf_23 cI h2 h2a2 h2a3 h2a4 h2a5 h2a6 h2a7 h3 h3a0 s2 s3) → va_S A s.heap H locs → ∀ (ls : Array Slot), lv_has ls 4 [] → fX2_readPart_144 s2 s3 = some (r, s2f, s3f) → W p l e rmX2_readPart s m ([.ref h2, .ref h3] : List Value).toArray below meth c H locs 0 0 QQ (F0 m 144 ls []) := by
    intro  s2 s3 H locs hP hD hS ls hl hf
    unfold fX2_readPart_144 at hf
    refine lv_iconst (v := 0) hx hb dX2_readPart_144 (by decide) ?_
    exact J145 s2 s3 0 _ _ hP hD hS _ (lv_sub hl [] rfl) hf
  have J140 : ∀ (s2 : S2) (s3 : S3) (H : Heap) (locs : List Loc), va_P (dC, dI) vwCl (cf_23 cI h2 h2a2 h2a3 h2a4 h2a5 h2a6 h2a7 h3 h3a0 s2 s3) H → va_D A (cf_23 cI h2 h2a2 h2a3 h2a4 h2a5 h2a6 h2a7 h3 h3a0 s2 s3) → va_S A s.heap H locs → ∀ (ls : Array Slot), lv_has ls 4 [] → fX2_readPart_140 s2 s3 = some (r, s2f, s3f) → W p l e rmX2_readPart s m ([.ref h2, .ref h3] : List Value).toArray below meth c H locs 0 0 QQ (F0 m 140 ls []) := by
    intro  s2 s3 H locs hP hD hS ls hl hf
    unfold fX2_readPart_140 at hf
    refine lv_iconst (v := 1) hx hb dX2_readPart_140 (by decide) ?_
    refine lv_goto (tgt := 145) hx hb dX2_readPart_141 (by decide) ?_
    exact J145 s2 s3 1 _ _ hP hD hS _ (lv_sub hl [] rfl) hf
  have J111 : ∀ (s2 : S2) (s3 : S3) (H : Heap) (locs : List Loc), va_P (dC, dI) vwCl (cf_23 cI h2 h2a2 h2a3 h2a4 h2a5 h2a6 h2a7 h3 h3a0 s2 s3) H → va_D A (cf_23 cI h2 h2a2 h2a3 h2a4 h2a5 h2a6 h2a7 h3 h3a0 s2 s3) → va_S A s.heap H locs → ∀ (ls : Array Slot), lv_has ls 4 [(0, .ref h2), (1, .ref h3)] → fX2_readPart_111 s2 s3 = some (r, s2f, s3f) → W p l e rmX2_readPart s m ([.ref h2, .ref h3] : List Value).toArray below meth c H locs 0 0 QQ (F0 m 111 ls []) := by
    intro  s2 s3 H locs hP hD hS ls hl hf
    unfold fX2_readPart_111 at hf
    refine lv_aload_n hx hb dX2_readPart_111 rfl (lv_at hl 0 rfl) ?_
    refine lv_bipush (v := 11) hx hb dX2_readPart_112 (by decide) ?_
    refine lv_iconst (v := 0) hx hb dX2_readPart_114 (by decide) ?_
    refine lv_aload_n hx hb dX2_readPart_115 rfl (lv_at hl 1 rfl) ?_
    obtain ⟨r_1, s2_1, hc_1, hf⟩ := bn2_ok hf
    refine gc_i (wc := (cf_23 cI h2 h2a2 h2a3 h2a4 h2a5 h2a6 h2a7 h3 h3a0 s2 s3)) (wr := ([] : va_W)) (w1 := (cf_23 cI h2 h2a2 h2a3 h2a4 h2a5 h2a6 h2a7 h3 h3a0 s2_1 s3)) (ws' := (cf_23 cI h2 h2a2 h2a3 h2a4 h2a5 h2a6 h2a7 h3 h3a0 s2_1 s3)) hP hD hS hA [0, 1, 2, 3, 4, 5, 6, 7, 8] [] [0, 1, 2, 3, 4, 5, 6, 7, 8] rfl rfl (by decide) (by decide) rfl (by decide) (va_runV (As := [.int 11, .int 0, .ref h3]) (rest := []) ⟨hx, hb, hml, hown, hts⟩ (ktX2_add l dC dI cI h2 h2a2 h2a3 h2a4 h2a5 h2a6 h2a7 h3 h3a0 _ s2 s3 11 0 r_1 s2_1 hc_1) (cwV 3 hts gX2_readPart_X2_add rfl rfl rfl (by decide +kernel) ⟨Nat.le_of_ble_eq_true rfl, Nat.le_of_ble_eq_true rfl⟩) (gc_V (ci := 2) (q0 := 0) (C := RX2) (T := TX2) (N := 8) (hP.sub (ws' := (cf_23 cI h2 h2a2 h2a3 h2a4 h2a5 h2a6 h2a7 h3 h3a0 s2 s3)) [0, 1, 2, 3, 4, 5, 6, 7, 8] rfl) (hK.sub (tys' := [(cI, .int)]) [0] rfl) (hD.sub (ws' := (cf_23 cI h2 h2a2 h2a3 h2a4 h2a5 h2a6 h2a7 h3 h3a0 s2 s3)) [0, 1, 2, 3, 4, 5, 6, 7, 8] (by decide) rfl) hN rfl rfl) rfl rfl hl.1 rfl (lv_room (Nat.le_of_ble_eq_true rfl)) dX2_readPart_116 ⟨Nat.zero_le _, Nat.zero_le _⟩) (fun H locs hP hD hS => ?_)
    refine lv_if_eq (tgt := 144) hx hb dX2_readPart_119 (by decide) (fun c_2 => ?_) (fun c_2 => ?_)
    · have hf := it_t c_2 hf
      exact J144 s2_1 s3 _ _ hP hD hS _ (lv_sub hl [] rfl) hf
    · have hf := it_f c_2 hf
      refine lv_aload_n hx hb dX2_readPart_122 rfl (lv_at hl 1 rfl) ?_
      refine lv_bipush (v := 12) hx hb dX2_readPart_123 (by decide) ?_
      obtain ⟨r_3, s3_3, hc_3, hf⟩ := bn2_ok hf
      refine gc_i (wc := (cf_3 cI h3 h3a0 s3)) (wr := (cf_2 cI h2 h2a2 h2a3 h2a4 h2a5 h2a6 h2a7 s2_1)) (w1 := (cf_3 cI h3 h3a0 s3_3)) (ws' := (cf_23 cI h2 h2a2 h2a3 h2a4 h2a5 h2a6 h2a7 h3 h3a0 s2_1 s3_3)) hP hD hS hA [7, 8] [0, 1, 2, 3, 4, 5, 6] [0, 1, 2, 3, 4, 5, 6, 7, 8] rfl rfl (by decide) (by decide) rfl (by decide) (va_runV (As := [.int 12]) (rest := []) ⟨hx, hb, hml, hown, hts⟩ (ktX3_accept l dC dI cI h3 h3a0 _ s3 12 r_3 s3_3 hc_3) (cwV 1 hts gX2_readPart_X3_accept rfl rfl rfl (by decide +kernel) ⟨Nat.le_of_ble_eq_true rfl, Nat.le_of_ble_eq_true rfl⟩) (gc_V (ci := 3) (q0 := 0) (C := RX3) (T := TX3) (N := 5) (hP.sub (ws' := (cf_3 cI h3 h3a0 s3)) [7, 8] rfl) (hK.sub (tys' := [(cI, .int)]) [0] rfl) (hD.sub (ws' := (cf_3 cI h3 h3a0 s3)) [7, 8] (by decide) rfl) hN rfl rfl) rfl rfl hl.1 rfl (lv_room (Nat.le_of_ble_eq_true rfl)) dX2_readPart_125 ⟨Nat.zero_le _, Nat.zero_le _⟩) (fun H locs hP hD hS => ?_)
      refine lv_if_eq (tgt := 140) hx hb dX2_readPart_128 (by decide) (fun c_4 => ?_) (fun c_4 => ?_)
      · have hf := it_t c_4 hf
        exact J140 s2_1 s3_3 _ _ hP hD hS _ (lv_sub hl [] rfl) hf
      · have hf := it_f c_4 hf
        refine lv_aload_n hx hb dX2_readPart_131 rfl (lv_at hl 0 rfl) ?_
        refine lv_aload_n hx hb dX2_readPart_132 rfl (lv_at hl 1 rfl) ?_
        refine lv_iconst (v := 1) hx hb dX2_readPart_133 (by decide) ?_
        obtain ⟨r_5, s2_5, s3_5, hc_5, hf⟩ := bn3_ok hf
        refine gc_i (wc := (cf_23 cI h2 h2a2 h2a3 h2a4 h2a5 h2a6 h2a7 h3 h3a0 s2_1 s3_3)) (wr := ([] : va_W)) (w1 := (cf_23 cI h2 h2a2 h2a3 h2a4 h2a5 h2a6 h2a7 h3 h3a0 s2_5 s3_5)) (ws' := (cf_23 cI h2 h2a2 h2a3 h2a4 h2a5 h2a6 h2a7 h3 h3a0 s2_5 s3_5)) hP hD hS hA [0, 1, 2, 3, 4, 5, 6, 7, 8] [] [0, 1, 2, 3, 4, 5, 6, 7, 8] rfl rfl (by decide) (by decide) rfl (by decide) (va_runV (As := [.ref h3, .int 1]) (rest := []) ⟨hx, hb, hml, hown, hts⟩ (ktX2_readSingle l dC dI cI h2 h2a2 h2a3 h2a4 h2a5 h2a6 h2a7 h3 h3a0 _ s2_1 s3_3 1 r_5 s2_5 s3_5 hc_5) (cwV 2 hts gX2_readPart_X2_readSingle rfl rfl rfl (by decide +kernel) ⟨Nat.le_of_ble_eq_true rfl, Nat.le_of_ble_eq_true rfl⟩) (gc_V (ci := 2) (q0 := 0) (C := RX2) (T := TX2) (N := 8) (hP.sub (ws' := (cf_23 cI h2 h2a2 h2a3 h2a4 h2a5 h2a6 h2a7 h3 h3a0 s2_1 s3_3)) [0, 1, 2, 3, 4, 5, 6, 7, 8] rfl) (hK.sub (tys' := [(cI, .int)]) [0] rfl) (hD.sub (ws' := (cf_23 cI h2 h2a2 h2a3 h2a4 h2a5 h2a6 h2a7 h3 h3a0 s2_1 s3_3)) [0, 1, 2, 3, 4, 5, 6, 7, 8] (by decide) rfl) hN rfl rfl) rfl rfl hl.1 rfl (lv_room (Nat.le_of_ble_eq_true rfl)) dX2_readPart_134 ⟨Nat.zero_le _, Nat.zero_le _⟩) (fun H locs hP hD hS => ?_)
        refine lv_if_eq (tgt := 144) hx hb dX2_readPart_137 (by decide) (fun c_6 => ?_) (fun c_6 => ?_)
        · have hf := it_t c_6 hf
          exact J144 s2_5 s3_5 _ _ hP hD hS _ (lv_sub hl [] rfl) hf
        · have hf := it_f c_6 hf
          exact J140 s2_5 s3_5 _ _ hP hD hS _ (lv_sub hl [] rfl) hf
  have J110 : ∀ (s2 : S2) (s3 : S3) (t0 : Int32) (H : Heap) (locs : List Loc), va_P (dC, dI) vwCl (cf_23 cI h2 h2a2 h2a3 h2a4 h2a5 h2a6 h2a7 h3 h3a0 s2 s3) H → va_D A (cf_23 cI h2 h2a2 h2a3 h2a4 h2a5 h2a6 h2a7 h3 h3a0 s2 s3) → va_S A s.heap H locs → ∀ (ls : Array Slot), lv_has ls 4 [] → fX2_readPart_110 s2 s3 t0 = some (r, s2f, s3f) → W p l e rmX2_readPart s m ([.ref h2, .ref h3] : List Value).toArray below meth c H locs 0 0 QQ (F0 m 110 ls [.int t0]) := by
    intro  s2 s3 t0 H locs hP hD hS ls hl hf
    unfold fX2_readPart_110 at hf
    obtain ⟨hz_1, hf⟩ := bo_ok hf
    have hf : (some (t0, s2, s3) : Option (Int32 × S2 × S3)) = some (r, s2f, s3f) := hf
    have he := Option.some.inj hf
    have he0 : t0 = r := congrArg (fun q => q.1) he
    have he1 : s2 = s2f := congrArg (fun q => q.2.1) he
    have he2 : s3 = s3f := congrArg (fun q => q.2.2) he
    exact hret _ _ _ _ _ _ hz_1 he0 (by rw [← he1, ← he2]) dX2_readPart_110 hP hD hS
  have J109 : ∀ (s2 : S2) (s3 : S3) (H : Heap) (locs : List Loc), va_P (dC, dI) vwCl (cf_23 cI h2 h2a2 h2a3 h2a4 h2a5 h2a6 h2a7 h3 h3a0 s2 s3) H → va_D A (cf_23 cI h2 h2a2 h2a3 h2a4 h2a5 h2a6 h2a7 h3 h3a0 s2 s3) → va_S A s.heap H locs → ∀ (ls : Array Slot), lv_has ls 4 [] → fX2_readPart_109 s2 s3 = some (r, s2f, s3f) → W p l e rmX2_readPart s m ([.ref h2, .ref h3] : List Value).toArray below meth c H locs 0 0 QQ (F0 m 109 ls []) := by
    intro  s2 s3 H locs hP hD hS ls hl hf
    unfold fX2_readPart_109 at hf
    refine lv_iconst (v := 0) hx hb dX2_readPart_109 (by decide) ?_
    exact J110 s2 s3 0 _ _ hP hD hS _ (lv_sub hl [] rfl) hf
  have J75 : ∀ (s2 : S2) (s3 : S3) (x2 : Int32) (t0 : Int32) (H : Heap) (locs : List Loc), va_P (dC, dI) vwCl (cf_23 cI h2 h2a2 h2a3 h2a4 h2a5 h2a6 h2a7 h3 h3a0 s2 s3) H → va_D A (cf_23 cI h2 h2a2 h2a3 h2a4 h2a5 h2a6 h2a7 h3 h3a0 s2 s3) → va_S A s.heap H locs → ∀ (ls : Array Slot), lv_has ls 4 [(0, .ref h2), (1, .ref h3), (2, .int x2)] → fX2_readPart_75 s2 s3 x2 t0 = some (r, s2f, s3f) → W p l e rmX2_readPart s m ([.ref h2, .ref h3] : List Value).toArray below meth c H locs 0 0 QQ (F0 m 75 ls [.int t0]) := by
    intro  s2 s3 x2 t0 H locs hP hD hS ls hl hf
    unfold fX2_readPart_75 at hf
    refine lv_istore_n (lv' := [(3, .int t0), (0, .ref h2), (1, .ref h3), (2, .int x2)]) hx hb dX2_readPart_75 rfl hl (by decide) rfl (fun ls hl => ?_)
    refine lv_aload_n hx hb dX2_readPart_76 rfl (lv_at hl 2 rfl) ?_
    refine lv_bipush (v := 40) hx hb dX2_readPart_77 (by decide) ?_
    obtain ⟨r_1, s3_1, hc_1, hf⟩ := bn2_ok hf
    refine gc_i (wc := (cf_3 cI h3 h3a0 s3)) (wr := (cf_2 cI h2 h2a2 h2a3 h2a4 h2a5 h2a6 h2a7 s2)) (w1 := (cf_3 cI h3 h3a0 s3_1)) (ws' := (cf_23 cI h2 h2a2 h2a3 h2a4 h2a5 h2a6 h2a7 h3 h3a0 s2 s3_1)) hP hD hS hA [7, 8] [0, 1, 2, 3, 4, 5, 6] [0, 1, 2, 3, 4, 5, 6, 7, 8] rfl rfl (by decide) (by decide) rfl (by decide) (va_runV (As := [.int 40]) (rest := []) ⟨hx, hb, hml, hown, hts⟩ (ktX3_acceptNoun l dC dI cI h3 h3a0 _ s3 40 r_1 s3_1 hc_1) (cwV 1 hts gX2_readPart_X3_acceptNoun rfl rfl rfl (by decide +kernel) ⟨Nat.le_of_ble_eq_true rfl, Nat.le_of_ble_eq_true rfl⟩) (gc_V (ci := 3) (q0 := 0) (C := RX3) (T := TX3) (N := 5) (hP.sub (ws' := (cf_3 cI h3 h3a0 s3)) [7, 8] rfl) (hK.sub (tys' := [(cI, .int)]) [0] rfl) (hD.sub (ws' := (cf_3 cI h3 h3a0 s3)) [7, 8] (by decide) rfl) hN rfl rfl) rfl rfl hl.1 rfl (lv_room (Nat.le_of_ble_eq_true rfl)) dX2_readPart_79 ⟨Nat.zero_le _, Nat.zero_le _⟩) (fun H locs hP hD hS => ?_)
    refine lv_if_ne (tgt := 111) hx hb dX2_readPart_82 (by decide) (fun c_2 => ?_) (fun c_2 => ?_)
    · have hf := it_f c_2 hf
      exact J111 s2 s3_1 _ _ hP hD hS _ (lv_sub hl [1, 2] rfl) hf
    · have hf := it_t c_2 hf
      refine lv_iload_n hx hb dX2_readPart_85 rfl (lv_at hl 0 rfl) ?_
      refine lv_if_ne (tgt := 111) hx hb dX2_readPart_86 (by decide) (fun c_3 => ?_) (fun c_3 => ?_)
      · have hf := it_f c_3 hf
        exact J111 s2 s3_1 _ _ hP hD hS _ (lv_sub hl [1, 2] rfl) hf
      · have hf := it_t c_3 hf
        refine lv_iload_n hx hb dX2_readPart_89 rfl (lv_at hl 3 rfl) ?_
        refine lv_if_ne (tgt := 109) hx hb dX2_readPart_90 (by decide) (fun c_4 => ?_) (fun c_4 => ?_)
        · have hf := it_f c_4 hf
          exact J109 s2 s3_1 _ _ hP hD hS _ (lv_sub hl [] rfl) hf
        · have hf := it_t c_4 hf
          refine lv_aload_n hx hb dX2_readPart_93 rfl (lv_at hl 1 rfl) ?_
          refine lv_aload_n hx hb dX2_readPart_94 rfl (lv_at hl 2 rfl) ?_
          refine lv_aload_n hx hb dX2_readPart_95 rfl (lv_at hl 1 rfl) ?_
          obtain ⟨r_5, hc_5, hf⟩ := bn1_ok hf
          refine gc_i (wc := (cf_2 cI h2 h2a2 h2a3 h2a4 h2a5 h2a6 h2a7 s2)) (wr := (cf_3 cI h3 h3a0 s3_1)) (w1 := (cf_2 cI h2 h2a2 h2a3 h2a4 h2a5 h2a6 h2a7 s2)) (ws' := (cf_23 cI h2 h2a2 h2a3 h2a4 h2a5 h2a6 h2a7 h3 h3a0 s2 s3_1)) hP hD hS hA [0, 1, 2, 3, 4, 5, 6] [7, 8] [2, 3, 4, 5, 6, 7, 8, 0, 1] rfl rfl (by decide) (by decide) rfl (by decide) (va_runV (As := []) (rest := [.ref h3, .ref h2]) ⟨hx, hb, hml, hown, hts⟩ (ktX2_nextSingleRole l dC dI cI h2 h2a2 h2a3 h2a4 h2a5 h2a6 h2a7 _ s2 r_5 hc_5) (cwV 0 hts gX2_readPart_X2_nextSingleRole rfl rfl rfl (by decide +kernel) ⟨Nat.le_of_ble_eq_true rfl, Nat.le_of_ble_eq_true rfl⟩) (gc_V (ci := 2) (q0 := 0) (C := RX2) (T := TX2) (N := 8) (hP.sub (ws' := (cf_2 cI h2 h2a2 h2a3 h2a4 h2a5 h2a6 h2a7 s2)) [0, 1, 2, 3, 4, 5, 6] rfl) (hK.sub (tys' := [(cI, .int)]) [0] rfl) (hD.sub (ws' := (cf_2 cI h2 h2a2 h2a3 h2a4 h2a5 h2a6 h2a7 s2)) [0, 1, 2, 3, 4, 5, 6] (by decide) rfl) hN rfl rfl) rfl rfl hl.1 rfl (lv_room (Nat.le_of_ble_eq_true rfl)) dX2_readPart_96 ⟨Nat.zero_le _, Nat.zero_le _⟩) (fun H locs hP hD hS => ?_)
          obtain ⟨r_6, s2_6, s3_6, hc_6, hf⟩ := bn3_ok hf
          refine gc_i (wc := (cf_23 cI h2 h2a2 h2a3 h2a4 h2a5 h2a6 h2a7 h3 h3a0 s2 s3_1)) (wr := ([] : va_W)) (w1 := (cf_23 cI h2 h2a2 h2a3 h2a4 h2a5 h2a6 h2a7 h3 h3a0 s2_6 s3_6)) (ws' := (cf_23 cI h2 h2a2 h2a3 h2a4 h2a5 h2a6 h2a7 h3 h3a0 s2_6 s3_6)) hP hD hS hA [0, 1, 2, 3, 4, 5, 6, 7, 8] [] [0, 1, 2, 3, 4, 5, 6, 7, 8] rfl rfl (by decide) (by decide) rfl (by decide) (va_runV (As := [.ref h3, .int r_5]) (rest := []) ⟨hx, hb, hml, hown, hts⟩ (ktX2_readHead l dC dI cI h2 h2a2 h2a3 h2a4 h2a5 h2a6 h2a7 h3 h3a0 _ s2 s3_1 r_5 r_6 s2_6 s3_6 hc_6) (cwV 2 hts gX2_readPart_X2_readHead rfl rfl rfl (by decide +kernel) ⟨Nat.le_of_ble_eq_true rfl, Nat.le_of_ble_eq_true rfl⟩) (gc_V (ci := 2) (q0 := 0) (C := RX2) (T := TX2) (N := 8) (hP.sub (ws' := (cf_23 cI h2 h2a2 h2a3 h2a4 h2a5 h2a6 h2a7 h3 h3a0 s2 s3_1)) [0, 1, 2, 3, 4, 5, 6, 7, 8] rfl) (hK.sub (tys' := [(cI, .int)]) [0] rfl) (hD.sub (ws' := (cf_23 cI h2 h2a2 h2a3 h2a4 h2a5 h2a6 h2a7 h3 h3a0 s2 s3_1)) [0, 1, 2, 3, 4, 5, 6, 7, 8] (by decide) rfl) hN rfl rfl) rfl rfl hl.1 rfl (lv_room (Nat.le_of_ble_eq_true rfl)) dX2_readPart_99 ⟨Nat.zero_le _, Nat.zero_le _⟩) (fun H locs hP hD hS => ?_)
          refine lv_if_eq (tgt := 109) hx hb dX2_readPart_102 (by decide) (fun c_7 => ?_) (fun c_7 => ?_)
          · have hf := it_t c_7 hf
            exact J109 s2_6 s3_6 _ _ hP hD hS _ (lv_sub hl [] rfl) hf
          · have hf := it_f c_7 hf
            refine lv_iconst (v := 1) hx hb dX2_readPart_105 (by decide) ?_
            refine lv_goto (tgt := 110) hx hb dX2_readPart_106 (by decide) ?_
            exact J110 s2_6 s3_6 1 _ _ hP hD hS _ (lv_sub hl [] rfl) hf
  have J74 : ∀ (s2 : S2) (s3 : S3) (x2 : Int32) (H : Heap) (locs : List Loc), va_P (dC, dI) vwCl (cf_23 cI h2 h2a2 h2a3 h2a4 h2a5 h2a6 h2a7 h3 h3a0 s2 s3) H → va_D A (cf_23 cI h2 h2a2 h2a3 h2a4 h2a5 h2a6 h2a7 h3 h3a0 s2 s3) → va_S A s.heap H locs → ∀ (ls : Array Slot), lv_has ls 4 [(0, .ref h2), (1, .ref h3), (2, .int x2)] → fX2_readPart_74 s2 s3 x2 = some (r, s2f, s3f) → W p l e rmX2_readPart s m ([.ref h2, .ref h3] : List Value).toArray below meth c H locs 0 0 QQ (F0 m 74 ls []) := by
    intro  s2 s3 x2 H locs hP hD hS ls hl hf
    unfold fX2_readPart_74 at hf
    refine lv_iconst (v := 0) hx hb dX2_readPart_74 (by decide) ?_
    exact J75 s2 s3 x2 0 _ _ hP hD hS _ (lv_sub hl [0, 1, 2] rfl) hf
  have J55 : ∀ (s2 : S2) (s3 : S3) (x2 : Int32) (H : Heap) (locs : List Loc), va_P (dC, dI) vwCl (cf_23 cI h2 h2a2 h2a3 h2a4 h2a5 h2a6 h2a7 h3 h3a0 s2 s3) H → va_D A (cf_23 cI h2 h2a2 h2a3 h2a4 h2a5 h2a6 h2a7 h3 h3a0 s2 s3) → va_S A s.heap H locs → ∀ (ls : Array Slot), lv_has ls 4 [(0, .ref h2), (1, .ref h3), (2, .int x2)] → fX2_readPart_55 s2 s3 x2 = some (r, s2f, s3f) → W p l e rmX2_readPart s m ([.ref h2, .ref h3] : List Value).toArray below meth c H locs 0 0 QQ (F0 m 55 ls []) := by
    intro  s2 s3 x2 H locs hP hD hS ls hl hf
    unfold fX2_readPart_55 at hf
    refine lv_aload_n hx hb dX2_readPart_55 rfl (lv_at hl 1 rfl) ?_
    obtain ⟨s3_1, hc_1, hf⟩ := bn1_ok hf
    refine gc_v (wc := (cf_3 cI h3 h3a0 s3)) (wr := (cf_2 cI h2 h2a2 h2a3 h2a4 h2a5 h2a6 h2a7 s2)) (w1 := (cf_3 cI h3 h3a0 s3_1)) (ws' := (cf_23 cI h2 h2a2 h2a3 h2a4 h2a5 h2a6 h2a7 h3 h3a0 s2 s3_1)) hP hD hS hA [7, 8] [0, 1, 2, 3, 4, 5, 6] [0, 1, 2, 3, 4, 5, 6, 7, 8] rfl rfl (by decide) (by decide) rfl (by decide) (va_runV (As := []) (rest := []) ⟨hx, hb, hml, hown, hts⟩ (ktX3_readAdjectives l dC dI cI h3 h3a0 _ s3 s3_1 hc_1) (cwV 0 hts gX2_readPart_X3_readAdjectives rfl rfl rfl (by decide +kernel) ⟨Nat.le_of_ble_eq_true rfl, Nat.le_of_ble_eq_true rfl⟩) (gc_V (ci := 3) (q0 := 0) (C := RX3) (T := TX3) (N := 5) (hP.sub (ws' := (cf_3 cI h3 h3a0 s3)) [7, 8] rfl) (hK.sub (tys' := [(cI, .int)]) [0] rfl) (hD.sub (ws' := (cf_3 cI h3 h3a0 s3)) [7, 8] (by decide) rfl) hN rfl rfl) rfl rfl hl.1 rfl (lv_room (Nat.le_of_ble_eq_true rfl)) dX2_readPart_56 ⟨Nat.zero_le _, Nat.zero_le _⟩) (fun H locs hP hD hS => ?_)
    refine lv_iload_n hx hb dX2_readPart_59 rfl (lv_at hl 2 rfl) ?_
    refine lv_if_eq (tgt := 74) hx hb dX2_readPart_60 (by decide) (fun c_2 => ?_) (fun c_2 => ?_)
    · have hf := it_t c_2 hf
      exact J74 s2 s3_1 x2 _ _ hP hD hS _ (lv_sub hl [0, 1, 2] rfl) hf
    · have hf := it_f c_2 hf
      refine lv_aload_n hx hb dX2_readPart_63 rfl (lv_at hl 1 rfl) ?_
      refine va_getN (D := (dC, dI)) (ci := 3) (v := .int (S3_adjectives s3_1)) (C := RX3) (T := TX3) (N := 5) hx hb hts in3 hown hK hP 7 rfl rfl 3 (by decide) fl69 (fun _ h9 => h9) rfl dX2_readPart_64 ?_
      refine lv_if_ne (tgt := 74) hx hb dX2_readPart_67 (by decide) (fun c_3 => ?_) (fun c_3 => ?_)
      · have hf := it_f c_3 hf
        exact J74 s2 s3_1 x2 _ _ hP hD hS _ (lv_sub hl [0, 1, 2] rfl) hf
      · have hf := it_t c_3 hf
        refine lv_iconst (v := 1) hx hb dX2_readPart_70 (by decide) ?_
        refine lv_goto (tgt := 75) hx hb dX2_readPart_71 (by decide) ?_
        exact J75 s2 s3_1 x2 1 _ _ hP hD hS _ (lv_sub hl [0, 1, 2] rfl) hf
  unfold fX2_readPart at hf
  refine lv_aload_n hx hb dX2_readPart_0 rfl (lv_at hl 1 rfl) ?_
  refine lv_bipush (v := 15) hx hb dX2_readPart_1 (by decide) ?_
  obtain ⟨r_1, s3_1, hc_1, hf⟩ := bn2_ok hf
  refine gc_i (wc := (cf_3 cI h3 h3a0 s3)) (wr := (cf_2 cI h2 h2a2 h2a3 h2a4 h2a5 h2a6 h2a7 s2)) (w1 := (cf_3 cI h3 h3a0 s3_1)) (ws' := (cf_23 cI h2 h2a2 h2a3 h2a4 h2a5 h2a6 h2a7 h3 h3a0 s2 s3_1)) hP hD hS hA [7, 8] [0, 1, 2, 3, 4, 5, 6] [0, 1, 2, 3, 4, 5, 6, 7, 8] rfl rfl (by decide) (by decide) rfl (by decide) (va_runV (As := [.int 15]) (rest := []) ⟨hx, hb, hml, hown, hts⟩ (ktX3_accept l dC dI cI h3 h3a0 _ s3 15 r_1 s3_1 hc_1) (cwV 1 hts gX2_readPart_X3_accept rfl rfl rfl (by decide +kernel) ⟨Nat.le_of_ble_eq_true rfl, Nat.le_of_ble_eq_true rfl⟩) (gc_V (ci := 3) (q0 := 0) (C := RX3) (T := TX3) (N := 5) (hP.sub (ws' := (cf_3 cI h3 h3a0 s3)) [7, 8] rfl) (hK.sub (tys' := [(cI, .int)]) [0] rfl) (hD.sub (ws' := (cf_3 cI h3 h3a0 s3)) [7, 8] (by decide) rfl) hN rfl rfl) rfl rfl hl.1 rfl (lv_room (Nat.le_of_ble_eq_true rfl)) dX2_readPart_3 ⟨Nat.zero_le _, Nat.zero_le _⟩) (fun H locs hP hD hS => ?_)
  refine lv_if_eq (tgt := 18) hx hb dX2_readPart_6 (by decide) (fun c_2 => ?_) (fun c_2 => ?_)
  · have hf := it_t c_2 hf
    refine lv_aload_n hx hb dX2_readPart_18 rfl (lv_at hl 1 rfl) ?_
    obtain ⟨r_3, hc_3, hf⟩ := bn1_ok hf
    refine gc_i (wc := (cf_3 cI h3 h3a0 s3_1)) (wr := (cf_2 cI h2 h2a2 h2a3 h2a4 h2a5 h2a6 h2a7 s2)) (w1 := (cf_3 cI h3 h3a0 s3_1)) (ws' := (cf_23 cI h2 h2a2 h2a3 h2a4 h2a5 h2a6 h2a7 h3 h3a0 s2 s3_1)) hP hD hS hA [7, 8] [0, 1, 2, 3, 4, 5, 6] [0, 1, 2, 3, 4, 5, 6, 7, 8] rfl rfl (by decide) (by decide) rfl (by decide) (va_runV (As := []) (rest := []) ⟨hx, hb, hml, hown, hts⟩ (ktX3_peek l dC dI cI h3 h3a0 _ s3_1 r_3 hc_3) (cwV 0 hts gX2_readPart_X3_peek rfl rfl rfl (by decide +kernel) ⟨Nat.le_of_ble_eq_true rfl, Nat.le_of_ble_eq_true rfl⟩) (gc_V (ci := 3) (q0 := 0) (C := RX3) (T := TX3) (N := 5) (hP.sub (ws' := (cf_3 cI h3 h3a0 s3_1)) [7, 8] rfl) (hK.sub (tys' := [(cI, .int)]) [0] rfl) (hD.sub (ws' := (cf_3 cI h3 h3a0 s3_1)) [7, 8] (by decide) rfl) hN rfl rfl) rfl rfl hl.1 rfl (lv_room (Nat.le_of_ble_eq_true rfl)) dX2_readPart_19 ⟨Nat.zero_le _, Nat.zero_le _⟩) (fun H locs hP hD hS => ?_)
    refine lv_bipush (v := 14) hx hb dX2_readPart_22 (by decide) ?_
    refine lv_icmp_ne (tgt := 37) hx hb dX2_readPart_24 (by decide) (fun c_4 => ?_) (fun c_4 => ?_)
    · have hf := it_f c_4 hf
      refine lv_aload_n hx hb dX2_readPart_37 rfl (lv_at hl 1 rfl) ?_
      refine lv_bipush (v := 11) hx hb dX2_readPart_38 (by decide) ?_
      obtain ⟨r_5, s3_5, hc_5, hf⟩ := bn2_ok hf
      refine gc_i (wc := (cf_3 cI h3 h3a0 s3_1)) (wr := (cf_2 cI h2 h2a2 h2a3 h2a4 h2a5 h2a6 h2a7 s2)) (w1 := (cf_3 cI h3 h3a0 s3_5)) (ws' := (cf_23 cI h2 h2a2 h2a3 h2a4 h2a5 h2a6 h2a7 h3 h3a0 s2 s3_5)) hP hD hS hA [7, 8] [0, 1, 2, 3, 4, 5, 6] [0, 1, 2, 3, 4, 5, 6, 7, 8] rfl rfl (by decide) (by decide) rfl (by decide) (va_runV (As := [.int 11]) (rest := []) ⟨hx, hb, hml, hown, hts⟩ (ktX3_accept l dC dI cI h3 h3a0 _ s3_1 11 r_5 s3_5 hc_5) (cwV 1 hts gX2_readPart_X3_accept rfl rfl rfl (by decide +kernel) ⟨Nat.le_of_ble_eq_true rfl, Nat.le_of_ble_eq_true rfl⟩) (gc_V (ci := 3) (q0 := 0) (C := RX3) (T := TX3) (N := 5) (hP.sub (ws' := (cf_3 cI h3 h3a0 s3_1)) [7, 8] rfl) (hK.sub (tys' := [(cI, .int)]) [0] rfl) (hD.sub (ws' := (cf_3 cI h3 h3a0 s3_1)) [7, 8] (by decide) rfl) hN rfl rfl) rfl rfl hl.1 rfl (lv_room (Nat.le_of_ble_eq_true rfl)) dX2_readPart_40 ⟨Nat.zero_le _, Nat.zero_le _⟩) (fun H locs hP hD hS => ?_)
      refine lv_istore_n (lv' := [(2, .int r_5), (0, .ref h2), (1, .ref h3)]) hx hb dX2_readPart_43 rfl hl (by decide) rfl (fun ls hl => ?_)
      refine lv_iload_n hx hb dX2_readPart_44 rfl (lv_at hl 0 rfl) ?_
      refine lv_if_ne (tgt := 55) hx hb dX2_readPart_45 (by decide) (fun c_6 => ?_) (fun c_6 => ?_)
      · have hf := it_f c_6 hf
        exact J55 s2 s3_5 r_5 _ _ hP hD hS _ (lv_sub hl [1, 2, 0] rfl) hf
      · have hf := it_t c_6 hf
        refine lv_aload_n hx hb dX2_readPart_48 rfl (lv_at hl 2 rfl) ?_
        refine lv_bipush (v := 10) hx hb dX2_readPart_49 (by decide) ?_
        obtain ⟨r_7, s3_7, hc_7, hf⟩ := bn2_ok hf
        refine gc_i (wc := (cf_3 cI h3 h3a0 s3_5)) (wr := (cf_2 cI h2 h2a2 h2a3 h2a4 h2a5 h2a6 h2a7 s2)) (w1 := (cf_3 cI h3 h3a0 s3_7)) (ws' := (cf_23 cI h2 h2a2 h2a3 h2a4 h2a5 h2a6 h2a7 h3 h3a0 s2 s3_7)) hP hD hS hA [7, 8] [0, 1, 2, 3, 4, 5, 6] [0, 1, 2, 3, 4, 5, 6, 7, 8] rfl rfl (by decide) (by decide) rfl (by decide) (va_runV (As := [.int 10]) (rest := []) ⟨hx, hb, hml, hown, hts⟩ (ktX3_accept l dC dI cI h3 h3a0 _ s3_5 10 r_7 s3_7 hc_7) (cwV 1 hts gX2_readPart_X3_accept rfl rfl rfl (by decide +kernel) ⟨Nat.le_of_ble_eq_true rfl, Nat.le_of_ble_eq_true rfl⟩) (gc_V (ci := 3) (q0 := 0) (C := RX3) (T := TX3) (N := 5) (hP.sub (ws' := (cf_3 cI h3 h3a0 s3_5)) [7, 8] rfl) (hK.sub (tys' := [(cI, .int)]) [0] rfl) (hD.sub (ws' := (cf_3 cI h3 h3a0 s3_5)) [7, 8] (by decide) rfl) hN rfl rfl) rfl rfl hl.1 rfl (lv_room (Nat.le_of_ble_eq_true rfl)) dX2_readPart_51 ⟨Nat.zero_le _, Nat.zero_le _⟩) (fun H locs hP hD hS => ?_)
        refine lv_pop hx hb dX2_readPart_54 rfl ?_
        exact J55 s2 s3_7 r_5 _ _ hP hD hS _ (lv_sub hl [1, 2, 0] rfl) hf
    · have hf := it_t c_4 hf
      refine lv_aload_n hx hb dX2_readPart_27 rfl (lv_at hl 0 rfl) ?_
      refine lv_aload_n hx hb dX2_readPart_28 rfl (lv_at hl 1 rfl) ?_
      refine lv_aload_n hx hb dX2_readPart_29 rfl (lv_at hl 0 rfl) ?_
      obtain ⟨r_8, hc_8, hf⟩ := bn1_ok hf
      refine gc_i (wc := (cf_2 cI h2 h2a2 h2a3 h2a4 h2a5 h2a6 h2a7 s2)) (wr := (cf_3 cI h3 h3a0 s3_1)) (w1 := (cf_2 cI h2 h2a2 h2a3 h2a4 h2a5 h2a6 h2a7 s2)) (ws' := (cf_23 cI h2 h2a2 h2a3 h2a4 h2a5 h2a6 h2a7 h3 h3a0 s2 s3_1)) hP hD hS hA [0, 1, 2, 3, 4, 5, 6] [7, 8] [2, 3, 4, 5, 6, 7, 8, 0, 1] rfl rfl (by decide) (by decide) rfl (by decide) (va_runV (As := []) (rest := [.ref h3, .ref h2]) ⟨hx, hb, hml, hown, hts⟩ (ktX2_nextSingleRole l dC dI cI h2 h2a2 h2a3 h2a4 h2a5 h2a6 h2a7 _ s2 r_8 hc_8) (cwV 0 hts gX2_readPart_X2_nextSingleRole rfl rfl rfl (by decide +kernel) ⟨Nat.le_of_ble_eq_true rfl, Nat.le_of_ble_eq_true rfl⟩) (gc_V (ci := 2) (q0 := 0) (C := RX2) (T := TX2) (N := 8) (hP.sub (ws' := (cf_2 cI h2 h2a2 h2a3 h2a4 h2a5 h2a6 h2a7 s2)) [0, 1, 2, 3, 4, 5, 6] rfl) (hK.sub (tys' := [(cI, .int)]) [0] rfl) (hD.sub (ws' := (cf_2 cI h2 h2a2 h2a3 h2a4 h2a5 h2a6 h2a7 s2)) [0, 1, 2, 3, 4, 5, 6] (by decide) rfl) hN rfl rfl) rfl rfl hl.1 rfl (lv_room (Nat.le_of_ble_eq_true rfl)) dX2_readPart_30 ⟨Nat.zero_le _, Nat.zero_le _⟩) (fun H locs hP hD hS => ?_)
      obtain ⟨r_9, s2_9, s3_9, hc_9, hf⟩ := bn3_ok hf
      refine gc_i (wc := (cf_23 cI h2 h2a2 h2a3 h2a4 h2a5 h2a6 h2a7 h3 h3a0 s2 s3_1)) (wr := ([] : va_W)) (w1 := (cf_23 cI h2 h2a2 h2a3 h2a4 h2a5 h2a6 h2a7 h3 h3a0 s2_9 s3_9)) (ws' := (cf_23 cI h2 h2a2 h2a3 h2a4 h2a5 h2a6 h2a7 h3 h3a0 s2_9 s3_9)) hP hD hS hA [0, 1, 2, 3, 4, 5, 6, 7, 8] [] [0, 1, 2, 3, 4, 5, 6, 7, 8] rfl rfl (by decide) (by decide) rfl (by decide) (va_runV (As := [.ref h3, .int r_8]) (rest := []) ⟨hx, hb, hml, hown, hts⟩ (ktX2_readSingle l dC dI cI h2 h2a2 h2a3 h2a4 h2a5 h2a6 h2a7 h3 h3a0 _ s2 s3_1 r_8 r_9 s2_9 s3_9 hc_9) (cwV 2 hts gX2_readPart_X2_readSingle rfl rfl rfl (by decide +kernel) ⟨Nat.le_of_ble_eq_true rfl, Nat.le_of_ble_eq_true rfl⟩) (gc_V (ci := 2) (q0 := 0) (C := RX2) (T := TX2) (N := 8) (hP.sub (ws' := (cf_23 cI h2 h2a2 h2a3 h2a4 h2a5 h2a6 h2a7 h3 h3a0 s2 s3_1)) [0, 1, 2, 3, 4, 5, 6, 7, 8] rfl) (hK.sub (tys' := [(cI, .int)]) [0] rfl) (hD.sub (ws' := (cf_23 cI h2 h2a2 h2a3 h2a4 h2a5 h2a6 h2a7 h3 h3a0 s2 s3_1)) [0, 1, 2, 3, 4, 5, 6, 7, 8] (by decide) rfl) hN rfl rfl) rfl rfl hl.1 rfl (lv_room (Nat.le_of_ble_eq_true rfl)) dX2_readPart_33 ⟨Nat.zero_le _, Nat.zero_le _⟩) (fun H locs hP hD hS => ?_)
      obtain ⟨hz_10, hf⟩ := bo_ok hf
      have hf : (some (r_9, s2_9, s3_9) : Option (Int32 × S2 × S3)) = some (r, s2f, s3f) := hf
      have he := Option.some.inj hf
      have he0 : r_9 = r := congrArg (fun q => q.1) he
      have he1 : s2_9 = s2f := congrArg (fun q => q.2.1) he
      have he2 : s3_9 = s3f := congrArg (fun q => q.2.2) he
      exact hret _ _ _ _ _ _ hz_10 he0 (by rw [← he1, ← he2]) dX2_readPart_36 hP hD hS
  · have hf := it_f c_2 hf
    refine lv_aload_n hx hb dX2_readPart_9 rfl (lv_at hl 0 rfl) ?_
    refine lv_bipush (v := 15) hx hb dX2_readPart_10 (by decide) ?_
    refine lv_iconst (v := 0) hx hb dX2_readPart_12 (by decide) ?_
    refine lv_aload_n hx hb dX2_readPart_13 rfl (lv_at hl 1 rfl) ?_
    obtain ⟨r_11, s2_11, hc_11, hf⟩ := bn2_ok hf
    refine gc_i (wc := (cf_23 cI h2 h2a2 h2a3 h2a4 h2a5 h2a6 h2a7 h3 h3a0 s2 s3_1)) (wr := ([] : va_W)) (w1 := (cf_23 cI h2 h2a2 h2a3 h2a4 h2a5 h2a6 h2a7 h3 h3a0 s2_11 s3_1)) (ws' := (cf_23 cI h2 h2a2 h2a3 h2a4 h2a5 h2a6 h2a7 h3 h3a0 s2_11 s3_1)) hP hD hS hA [0, 1, 2, 3, 4, 5, 6, 7, 8] [] [0, 1, 2, 3, 4, 5, 6, 7, 8] rfl rfl (by decide) (by decide) rfl (by decide) (va_runV (As := [.int 15, .int 0, .ref h3]) (rest := []) ⟨hx, hb, hml, hown, hts⟩ (ktX2_add l dC dI cI h2 h2a2 h2a3 h2a4 h2a5 h2a6 h2a7 h3 h3a0 _ s2 s3_1 15 0 r_11 s2_11 hc_11) (cwV 3 hts gX2_readPart_X2_add rfl rfl rfl (by decide +kernel) ⟨Nat.le_of_ble_eq_true rfl, Nat.le_of_ble_eq_true rfl⟩) (gc_V (ci := 2) (q0 := 0) (C := RX2) (T := TX2) (N := 8) (hP.sub (ws' := (cf_23 cI h2 h2a2 h2a3 h2a4 h2a5 h2a6 h2a7 h3 h3a0 s2 s3_1)) [0, 1, 2, 3, 4, 5, 6, 7, 8] rfl) (hK.sub (tys' := [(cI, .int)]) [0] rfl) (hD.sub (ws' := (cf_23 cI h2 h2a2 h2a3 h2a4 h2a5 h2a6 h2a7 h3 h3a0 s2 s3_1)) [0, 1, 2, 3, 4, 5, 6, 7, 8] (by decide) rfl) hN rfl rfl) rfl rfl hl.1 rfl (lv_room (Nat.le_of_ble_eq_true rfl)) dX2_readPart_14 ⟨Nat.zero_le _, Nat.zero_le _⟩) (fun H locs hP hD hS => ?_)
    obtain ⟨hz_12, hf⟩ := bo_ok hf
    have hf : (some (r_11, s2_11, s3_1) : Option (Int32 × S2 × S3)) = some (r, s2f, s3f) := hf
    have he := Option.some.inj hf
    have he0 : r_11 = r := congrArg (fun q => q.1) he
    have he1 : s2_11 = s2f := congrArg (fun q => q.2.1) he
    have he2 : s3_1 = s3f := congrArg (fun q => q.2.2) he
    exact hret _ _ _ _ _ _ hz_12 he0 (by rw [← he1, ← he2]) dX2_readPart_17 hP hD hS
abbrev rmX2_read : Room := { frames := 5, cells := 0, slots := 0, locals := 110 }
set_option maxHeartbeats 2000000 in
set_option maxRecDepth 100000 in
theorem ktX2_read (l : Launch) (dC : Nat → ClassId) (dI : Nat → Nat → Nat) (cI : ClassId) (h2 h2a2 h2a3 h2a4 h2a5 h2a6 h2a7 h3 h3a0 : Nat) (sz : Nat) (s2 : S2) (s3 : S3) (r : Int32) (s2f : S2) (s3f : S3) (hf : fX2_read s2 s3 = some (r, s2f, s3f)) : Met l yX2_read wsX2_read rmX2_read (va_Pc [.ref h2, .ref h3] (pre_w (dC, dI) (cf_23 cI h2 h2a2 h2a3 h2a4 h2a5 h2a6 h2a7 h3 h3a0 s2 s3) [(cI, .int)] sz)) (va_Qi (fun (r' : Int32) (_ : Unit) => r' = r) (post_w (dC, dI) (cf_23 cI h2 h2a2 h2a3 h2a4 h2a5 h2a6 h2a7 h3 h3a0 s2f s3f) [(cI, .int)] (va_A (cf_23 cI h2 h2a2 h2a3 h2a4 h2a5 h2a6 h2a7 h3 h3a0 s2 s3) sz)) (va_A (cf_23 cI h2 h2a2 h2a3 h2a4 h2a5 h2a6 h2a7 h3 h3a0 s2 s3) sz)) 0 0 (va_A (cf_23 cI h2 h2a2 h2a3 h2a4 h2a5 h2a6 h2a7 h3 h3a0 s2 s3) sz) := by
  refine gm_z (cc := cX2_read) (maxL := 4) (by decide) rfl (Nat.le_of_ble_eq_true rfl) ?_
  intro p e s m below meth c A QQ ls hx hb hml hown hts hK hN hA hP hD hS hl hret
  have hown : s.vm.findClass RX2 = some m.cls := hown
  have hl : lv_has ls 4 [(0, .ref h2), (1, .ref h3)] := hl
  have in2 : ∀ w ∈ u_ws RX2 TX2 8, w ∈ wsX2_read := by decide +kernel
  have fl15 := hts (.fieldLink RX2 15 "ParserParlour$Order" "count" "I") (by decide +kernel)
  have fl9 := hts (.fieldLink RX2 9 "ParserParlour$Order" "orderVerb" "I") (by decide +kernel)
  have J87 : ∀ (s2 : S2) (s3 : S3) (H : Heap) (locs : List Loc), va_P (dC, dI) vwCl (cf_23 cI h2 h2a2 h2a3 h2a4 h2a5 h2a6 h2a7 h3 h3a0 s2 s3) H → va_D A (cf_23 cI h2 h2a2 h2a3 h2a4 h2a5 h2a6 h2a7 h3 h3a0 s2 s3) → va_S A s.heap H locs → ∀ (ls : Array Slot), lv_has ls 4 [(1, .ref h3)] → fX2_read_87 s2 s3 = some (r, s2f, s3f) → W p l e rmX2_read s m ([.ref h2, .ref h3] : List Value).toArray below meth c H locs 0 0 QQ (F0 m 87 ls []) := by
    intro  s2 s3 H locs hP hD hS ls hl hf
    unfold fX2_read_87 at hf
    refine lv_aload_n hx hb dX2_read_87 rfl (lv_at hl 0 rfl) ?_
    obtain ⟨r_1, hc_1, hf⟩ := bn1_ok hf
    refine gc_i (wc := (cf_3 cI h3 h3a0 s3)) (wr := (cf_2 cI h2 h2a2 h2a3 h2a4 h2a5 h2a6 h2a7 s2)) (w1 := (cf_3 cI h3 h3a0 s3)) (ws' := (cf_23 cI h2 h2a2 h2a3 h2a4 h2a5 h2a6 h2a7 h3 h3a0 s2 s3)) hP hD hS hA [7, 8] [0, 1, 2, 3, 4, 5, 6] [0, 1, 2, 3, 4, 5, 6, 7, 8] rfl rfl (by decide) (by decide) rfl (by decide) (va_runV (As := []) (rest := []) ⟨hx, hb, hml, hown, hts⟩ (ktX3_atEnd l dC dI cI h3 h3a0 _ s3 r_1 hc_1) (cwV 0 hts gX2_read_X3_atEnd rfl rfl rfl (by decide +kernel) ⟨Nat.le_of_ble_eq_true rfl, Nat.le_of_ble_eq_true rfl⟩) (gc_V (ci := 3) (q0 := 0) (C := RX3) (T := TX3) (N := 5) (hP.sub (ws' := (cf_3 cI h3 h3a0 s3)) [7, 8] rfl) (hK.sub (tys' := [(cI, .int)]) [0] rfl) (hD.sub (ws' := (cf_3 cI h3 h3a0 s3)) [7, 8] (by decide) rfl) hN rfl rfl) rfl rfl hl.1 rfl (lv_room (Nat.le_of_ble_eq_true rfl)) dX2_read_88 ⟨Nat.zero_le _, Nat.zero_le _⟩) (fun H locs hP hD hS => ?_)
    obtain ⟨hz_2, hf⟩ := bo_ok hf
    have hf : (some (r_1, s2, s3) : Option (Int32 × S2 × S3)) = some (r, s2f, s3f) := hf
    have he := Option.some.inj hf
    have he0 : r_1 = r := congrArg (fun q => q.1) he
    have he1 : s2 = s2f := congrArg (fun q => q.2.1) he
    have he2 : s3 = s3f := congrArg (fun q => q.2.2) he
    exact hret _ _ _ _ _ _ hz_2 he0 (by rw [← he1, ← he2]) dX2_read_91 hP hD hS
  have J85 : ∀ (s2 : S2) (s3 : S3) (H : Heap) (locs : List Loc), va_P (dC, dI) vwCl (cf_23 cI h2 h2a2 h2a3 h2a4 h2a5 h2a6 h2a7 h3 h3a0 s2 s3) H → va_D A (cf_23 cI h2 h2a2 h2a3 h2a4 h2a5 h2a6 h2a7 h3 h3a0 s2 s3) → va_S A s.heap H locs → ∀ (ls : Array Slot), lv_has ls 4 [] → fX2_read_85 s2 s3 = some (r, s2f, s3f) → W p l e rmX2_read s m ([.ref h2, .ref h3] : List Value).toArray below meth c H locs 0 0 QQ (F0 m 85 ls []) := by
    intro  s2 s3 H locs hP hD hS ls hl hf
    unfold fX2_read_85 at hf
    refine lv_iconst (v := 0) hx hb dX2_read_85 (by decide) ?_
    have hf : (some (0, s2, s3) : Option (Int32 × S2 × S3)) = some (r, s2f, s3f) := hf
    have he := Option.some.inj hf
    have he0 : 0 = r := congrArg (fun q => q.1) he
    have he1 : s2 = s2f := congrArg (fun q => q.2.1) he
    have he2 : s3 = s3f := congrArg (fun q => q.2.2) he
    exact hret _ _ _ _ _ _ rfl he0 (by rw [← he1, ← he2]) dX2_read_86 hP hD hS
  have J59 : ∀ (s2 : S2) (s3 : S3) (H : Heap) (locs : List Loc), va_P (dC, dI) vwCl (cf_23 cI h2 h2a2 h2a3 h2a4 h2a5 h2a6 h2a7 h3 h3a0 s2 s3) H → va_D A (cf_23 cI h2 h2a2 h2a3 h2a4 h2a5 h2a6 h2a7 h3 h3a0 s2 s3) → va_S A s.heap H locs → ∀ (ls : Array Slot), lv_has ls 4 [(0, .ref h2), (1, .ref h3)] → fX2_read_59 s2 s3 = some (r, s2f, s3f) → W p l e rmX2_read s m ([.ref h2, .ref h3] : List Value).toArray below meth c H locs 0 0 QQ (F0 m 59 ls []) := by
    intro  s2 s3 H locs hP hD hS ls hl hf
    unfold fX2_read_59 at hf
    refine lv_aload_n hx hb dX2_read_59 rfl (lv_at hl 0 rfl) ?_
    refine va_get (D := (dC, dI)) (ci := 2) (v := .int (S2_orderVerb s2)) (C := RX2) (T := TX2) (N := 8) hx hb hts in2 hown hK hP 0 rfl rfl 0 (by decide) fl9 (fun _ h9 => h9) rfl dX2_read_60 ?_
    refine lv_iconst (v := 2) hx hb dX2_read_63 (by decide) ?_
    refine lv_icmp_ne (tgt := 87) hx hb dX2_read_64 (by decide) (fun c_1 => ?_) (fun c_1 => ?_)
    · have hf := it_f c_1 hf
      exact J87 s2 s3 _ _ hP hD hS _ (lv_sub hl [1] rfl) hf
    · have hf := it_t c_1 hf
      refine lv_aload_n hx hb dX2_read_67 rfl (lv_at hl 1 rfl) ?_
      refine lv_bipush (v := 16) hx hb dX2_read_68 (by decide) ?_
      obtain ⟨r_2, s3_2, hc_2, hf⟩ := bn2_ok hf
      refine gc_i (wc := (cf_3 cI h3 h3a0 s3)) (wr := (cf_2 cI h2 h2a2 h2a3 h2a4 h2a5 h2a6 h2a7 s2)) (w1 := (cf_3 cI h3 h3a0 s3_2)) (ws' := (cf_23 cI h2 h2a2 h2a3 h2a4 h2a5 h2a6 h2a7 h3 h3a0 s2 s3_2)) hP hD hS hA [7, 8] [0, 1, 2, 3, 4, 5, 6] [0, 1, 2, 3, 4, 5, 6, 7, 8] rfl rfl (by decide) (by decide) rfl (by decide) (va_runV (As := [.int 16]) (rest := []) ⟨hx, hb, hml, hown, hts⟩ (ktX3_accept l dC dI cI h3 h3a0 _ s3 16 r_2 s3_2 hc_2) (cwV 1 hts gX2_read_X3_accept rfl rfl rfl (by decide +kernel) ⟨Nat.le_of_ble_eq_true rfl, Nat.le_of_ble_eq_true rfl⟩) (gc_V (ci := 3) (q0 := 0) (C := RX3) (T := TX3) (N := 5) (hP.sub (ws' := (cf_3 cI h3 h3a0 s3)) [7, 8] rfl) (hK.sub (tys' := [(cI, .int)]) [0] rfl) (hD.sub (ws' := (cf_3 cI h3 h3a0 s3)) [7, 8] (by decide) rfl) hN rfl rfl) rfl rfl hl.1 rfl (lv_room (Nat.le_of_ble_eq_true rfl)) dX2_read_70 ⟨Nat.zero_le _, Nat.zero_le _⟩) (fun H locs hP hD hS => ?_)
      refine lv_if_eq (tgt := 85) hx hb dX2_read_73 (by decide) (fun c_3 => ?_) (fun c_3 => ?_)
      · have hf := it_t c_3 hf
        exact J85 s2 s3_2 _ _ hP hD hS _ (lv_sub hl [] rfl) hf
      · have hf := it_f c_3 hf
        refine lv_aload_n hx hb dX2_read_76 rfl (lv_at hl 0 rfl) ?_
        refine lv_aload_n hx hb dX2_read_77 rfl (lv_at hl 1 rfl) ?_
        refine lv_iconst (v := 2) hx hb dX2_read_78 (by decide) ?_
        obtain ⟨r_4, s2_4, s3_4, hc_4, hf⟩ := bn3_ok hf
        refine gc_i (wc := (cf_23 cI h2 h2a2 h2a3 h2a4 h2a5 h2a6 h2a7 h3 h3a0 s2 s3_2)) (wr := ([] : va_W)) (w1 := (cf_23 cI h2 h2a2 h2a3 h2a4 h2a5 h2a6 h2a7 h3 h3a0 s2_4 s3_4)) (ws' := (cf_23 cI h2 h2a2 h2a3 h2a4 h2a5 h2a6 h2a7 h3 h3a0 s2_4 s3_4)) hP hD hS hA [0, 1, 2, 3, 4, 5, 6, 7, 8] [] [0, 1, 2, 3, 4, 5, 6, 7, 8] rfl rfl (by decide) (by decide) rfl (by decide) (va_runV (As := [.ref h3, .int 2]) (rest := []) ⟨hx, hb, hml, hown, hts⟩ (ktX2_readSingle l dC dI cI h2 h2a2 h2a3 h2a4 h2a5 h2a6 h2a7 h3 h3a0 _ s2 s3_2 2 r_4 s2_4 s3_4 hc_4) (cwV 2 hts gX2_read_X2_readSingle rfl rfl rfl (by decide +kernel) ⟨Nat.le_of_ble_eq_true rfl, Nat.le_of_ble_eq_true rfl⟩) (gc_V (ci := 2) (q0 := 0) (C := RX2) (T := TX2) (N := 8) (hP.sub (ws' := (cf_23 cI h2 h2a2 h2a3 h2a4 h2a5 h2a6 h2a7 h3 h3a0 s2 s3_2)) [0, 1, 2, 3, 4, 5, 6, 7, 8] rfl) (hK.sub (tys' := [(cI, .int)]) [0] rfl) (hD.sub (ws' := (cf_23 cI h2 h2a2 h2a3 h2a4 h2a5 h2a6 h2a7 h3 h3a0 s2 s3_2)) [0, 1, 2, 3, 4, 5, 6, 7, 8] (by decide) rfl) hN rfl rfl) rfl rfl hl.1 rfl (lv_room (Nat.le_of_ble_eq_true rfl)) dX2_read_79 ⟨Nat.zero_le _, Nat.zero_le _⟩) (fun H locs hP hD hS => ?_)
        refine lv_if_ne (tgt := 87) hx hb dX2_read_82 (by decide) (fun c_5 => ?_) (fun c_5 => ?_)
        · have hf := it_f c_5 hf
          exact J87 s2_4 s3_4 _ _ hP hD hS _ (lv_sub hl [1] rfl) hf
        · have hf := it_t c_5 hf
          exact J85 s2_4 s3_4 _ _ hP hD hS _ (lv_sub hl [] rfl) hf
  have J26 : ∀ (n : Nat) (s2 : S2) (s3 : S3) (x2 : Int32) (x3 : Int32) (H : Heap) (locs : List Loc), va_P (dC, dI) vwCl (cf_23 cI h2 h2a2 h2a3 h2a4 h2a5 h2a6 h2a7 h3 h3a0 s2 s3) H → va_D A (cf_23 cI h2 h2a2 h2a3 h2a4 h2a5 h2a6 h2a7 h3 h3a0 s2 s3) → va_S A s.heap H locs → ∀ (ls : Array Slot), lv_has ls 4 [(0, .ref h2), (1, .ref h3), (2, .int x2), (3, .int x3)] → fX2_read_26 n s2 s3 x2 x3 = some (r, s2f, s3f) → W p l e rmX2_read s m ([.ref h2, .ref h3] : List Value).toArray below meth c H locs 0 0 QQ (F0 m 26 ls []) := by
    intro n
    induction n with
    | zero =>
      intro s2 s3 x2 x3 H locs hP hD hS ls hl hf
      cases hf
    | succ n ih =>
      intro s2 s3 x2 x3 H locs hP hD hS ls hl hf
      rw [fX2_read_26] at hf
      refine lv_iload_n hx hb dX2_read_26 rfl (lv_at hl 3 rfl) ?_
      refine lv_bipush (v := 24) hx hb dX2_read_27 (by decide) ?_
      refine lv_icmp_ge (tgt := 59) hx hb dX2_read_29 (by decide) (fun c_1 => ?_) (fun c_1 => ?_)
      · have hf := it_t c_1 hf
        exact J59 s2 s3 _ _ hP hD hS _ (lv_sub hl [0, 1] rfl) hf
      · have hf := it_f c_1 hf
        refine lv_iload_n hx hb dX2_read_32 rfl (lv_at hl 2 rfl) ?_
        refine lv_if_eq (tgt := 59) hx hb dX2_read_33 (by decide) (fun c_2 => ?_) (fun c_2 => ?_)
        · have hf := it_t c_2 hf
          exact J59 s2 s3 _ _ hP hD hS _ (lv_sub hl [0, 1] rfl) hf
        · have hf := it_f c_2 hf
          refine lv_aload_n hx hb dX2_read_36 rfl (lv_at hl 0 rfl) ?_
          refine lv_aload_n hx hb dX2_read_37 rfl (lv_at hl 1 rfl) ?_
          obtain ⟨r_3, s2_3, s3_3, hc_3, hf⟩ := bn3_ok hf
          refine gc_i (wc := (cf_23 cI h2 h2a2 h2a3 h2a4 h2a5 h2a6 h2a7 h3 h3a0 s2 s3)) (wr := ([] : va_W)) (w1 := (cf_23 cI h2 h2a2 h2a3 h2a4 h2a5 h2a6 h2a7 h3 h3a0 s2_3 s3_3)) (ws' := (cf_23 cI h2 h2a2 h2a3 h2a4 h2a5 h2a6 h2a7 h3 h3a0 s2_3 s3_3)) hP hD hS hA [0, 1, 2, 3, 4, 5, 6, 7, 8] [] [0, 1, 2, 3, 4, 5, 6, 7, 8] rfl rfl (by decide) (by decide) rfl (by decide) (va_runV (As := [.ref h3]) (rest := []) ⟨hx, hb, hml, hown, hts⟩ (ktX2_readPart l dC dI cI h2 h2a2 h2a3 h2a4 h2a5 h2a6 h2a7 h3 h3a0 _ s2 s3 r_3 s2_3 s3_3 hc_3) (cwV 1 hts gX2_read_X2_readPart rfl rfl rfl (by decide +kernel) ⟨Nat.le_of_ble_eq_true rfl, Nat.le_of_ble_eq_true rfl⟩) (gc_V (ci := 2) (q0 := 0) (C := RX2) (T := TX2) (N := 8) (hP.sub (ws' := (cf_23 cI h2 h2a2 h2a3 h2a4 h2a5 h2a6 h2a7 h3 h3a0 s2 s3)) [0, 1, 2, 3, 4, 5, 6, 7, 8] rfl) (hK.sub (tys' := [(cI, .int)]) [0] rfl) (hD.sub (ws' := (cf_23 cI h2 h2a2 h2a3 h2a4 h2a5 h2a6 h2a7 h3 h3a0 s2 s3)) [0, 1, 2, 3, 4, 5, 6, 7, 8] (by decide) rfl) hN rfl rfl) rfl rfl hl.1 rfl (lv_room (Nat.le_of_ble_eq_true rfl)) dX2_read_38 ⟨Nat.zero_le _, Nat.zero_le _⟩) (fun H locs hP hD hS => ?_)
          refine lv_if_ne (tgt := 46) hx hb dX2_read_41 (by decide) (fun c_4 => ?_) (fun c_4 => ?_)
          · have hf := it_f c_4 hf
            refine lv_aload_n hx hb dX2_read_46 rfl (lv_at hl 1 rfl) ?_
            refine lv_bipush (v := 13) hx hb dX2_read_47 (by decide) ?_
            obtain ⟨r_5, s3_5, hc_5, hf⟩ := bn2_ok hf
            refine gc_i (wc := (cf_3 cI h3 h3a0 s3_3)) (wr := (cf_2 cI h2 h2a2 h2a3 h2a4 h2a5 h2a6 h2a7 s2_3)) (w1 := (cf_3 cI h3 h3a0 s3_5)) (ws' := (cf_23 cI h2 h2a2 h2a3 h2a4 h2a5 h2a6 h2a7 h3 h3a0 s2_3 s3_5)) hP hD hS hA [7, 8] [0, 1, 2, 3, 4, 5, 6] [0, 1, 2, 3, 4, 5, 6, 7, 8] rfl rfl (by decide) (by decide) rfl (by decide) (va_runV (As := [.int 13]) (rest := []) ⟨hx, hb, hml, hown, hts⟩ (ktX3_accept l dC dI cI h3 h3a0 _ s3_3 13 r_5 s3_5 hc_5) (cwV 1 hts gX2_read_X3_accept rfl rfl rfl (by decide +kernel) ⟨Nat.le_of_ble_eq_true rfl, Nat.le_of_ble_eq_true rfl⟩) (gc_V (ci := 3) (q0 := 0) (C := RX3) (T := TX3) (N := 5) (hP.sub (ws' := (cf_3 cI h3 h3a0 s3_3)) [7, 8] rfl) (hK.sub (tys' := [(cI, .int)]) [0] rfl) (hD.sub (ws' := (cf_3 cI h3 h3a0 s3_3)) [7, 8] (by decide) rfl) hN rfl rfl) rfl rfl hl.1 rfl (lv_room (Nat.le_of_ble_eq_true rfl)) dX2_read_49 ⟨Nat.zero_le _, Nat.zero_le _⟩) (fun H locs hP hD hS => ?_)
            refine lv_istore_n (lv' := [(2, .int r_5), (0, .ref h2), (1, .ref h3), (3, .int x3)]) hx hb dX2_read_52 rfl hl (by decide) rfl (fun ls hl => ?_)
            refine lv_iinc (v := (x3 + 1)) (lv' := [(3, .int (x3 + 1)), (2, .int r_5), (0, .ref h2), (1, .ref h3)]) hx hb dX2_read_53 hl (k := 3) rfl rfl (by decide) rfl (fun ls hl => ?_)
            refine lv_goto (tgt := 26) hx hb dX2_read_56 (by decide) ?_
            exact ih s2_3 s3_5 r_5 (x3 + 1) _ _ hP hD hS _ (lv_sub hl [2, 3, 1, 0] rfl) hf
          · have hf := it_t c_4 hf
            refine lv_iconst (v := 0) hx hb dX2_read_44 (by decide) ?_
            have hf : (some (0, s2_3, s3_3) : Option (Int32 × S2 × S3)) = some (r, s2f, s3f) := hf
            have he := Option.some.inj hf
            have he0 : 0 = r := congrArg (fun q => q.1) he
            have he1 : s2_3 = s2f := congrArg (fun q => q.2.1) he
            have he2 : s3_3 = s3f := congrArg (fun q => q.2.2) he
            exact hret _ _ _ _ _ _ rfl he0 (by rw [← he1, ← he2]) dX2_read_45 hP hD hS
  unfold fX2_read at hf
  refine lv_aload_n hx hb dX2_read_0 rfl (lv_at hl 0 rfl) ?_
  refine lv_iconst (v := 0) hx hb dX2_read_1 (by decide) ?_
  refine va_put (D := (dC, dI)) (ci := 2) (v := .int 0) (ty := .int) (C := RX2) (T := TX2) (N := 8) hx hb hts in2 tyX2 tyX2_ok nmX2 hown hK hP hD hS 0 rfl rfl 1 (by decide) fl15 (fun _ h9 => h9) rfl (by decide +kernel) rfl rfl (Nat.le_of_ble_eq_true rfl) dX2_read_2 (fun H locs hP hD hS => ?_)
  have hP : va_P (dC, dI) vwCl (cf_23 cI h2 h2a2 h2a3 h2a4 h2a5 h2a6 h2a7 h3 h3a0 (S2_set_count s2 0) s3) H := hP
  have hD : va_D A (cf_23 cI h2 h2a2 h2a3 h2a4 h2a5 h2a6 h2a7 h3 h3a0 (S2_set_count s2 0) s3) := hD
  refine lv_aload_n hx hb dX2_read_5 rfl (lv_at hl 0 rfl) ?_
  refine lv_aload_n hx hb dX2_read_6 rfl (lv_at hl 1 rfl) ?_
  obtain ⟨r_1, hc_1, hf⟩ := bn1_ok hf
  refine gc_i (wc := (cf_3 cI h3 h3a0 s3)) (wr := (cf_2 cI h2 h2a2 h2a3 h2a4 h2a5 h2a6 h2a7 (S2_set_count s2 0))) (w1 := (cf_3 cI h3 h3a0 s3)) (ws' := (cf_23 cI h2 h2a2 h2a3 h2a4 h2a5 h2a6 h2a7 h3 h3a0 (S2_set_count s2 0) s3)) hP hD hS hA [7, 8] [0, 1, 2, 3, 4, 5, 6] [0, 1, 2, 3, 4, 5, 6, 7, 8] rfl rfl (by decide) (by decide) rfl (by decide) (va_runV (As := []) (rest := [.ref h2]) ⟨hx, hb, hml, hown, hts⟩ (ktX3_peek l dC dI cI h3 h3a0 _ s3 r_1 hc_1) (cwV 0 hts gX2_read_X3_peek rfl rfl rfl (by decide +kernel) ⟨Nat.le_of_ble_eq_true rfl, Nat.le_of_ble_eq_true rfl⟩) (gc_V (ci := 3) (q0 := 0) (C := RX3) (T := TX3) (N := 5) (hP.sub (ws' := (cf_3 cI h3 h3a0 s3)) [7, 8] rfl) (hK.sub (tys' := [(cI, .int)]) [0] rfl) (hD.sub (ws' := (cf_3 cI h3 h3a0 s3)) [7, 8] (by decide) rfl) hN rfl rfl) rfl rfl hl.1 rfl (lv_room (Nat.le_of_ble_eq_true rfl)) dX2_read_7 ⟨Nat.zero_le _, Nat.zero_le _⟩) (fun H locs hP hD hS => ?_)
  refine va_put (D := (dC, dI)) (ci := 2) (v := .int r_1) (ty := .int) (C := RX2) (T := TX2) (N := 8) hx hb hts in2 tyX2 tyX2_ok nmX2 hown hK hP hD hS 0 rfl rfl 0 (by decide) fl9 (fun _ h9 => h9) rfl (by decide +kernel) rfl rfl (Nat.le_of_ble_eq_true rfl) dX2_read_10 (fun H locs hP hD hS => ?_)
  have hP : va_P (dC, dI) vwCl (cf_23 cI h2 h2a2 h2a3 h2a4 h2a5 h2a6 h2a7 h3 h3a0 (S2_set_orderVerb (S2_set_count s2 0) r_1) s3) H := hP
  have hD : va_D A (cf_23 cI h2 h2a2 h2a3 h2a4 h2a5 h2a6 h2a7 h3 h3a0 (S2_set_orderVerb (S2_set_count s2 0) r_1) s3) := hD
  refine lv_aload_n hx hb dX2_read_13 rfl (lv_at hl 1 rfl) ?_
  refine lv_aload_n hx hb dX2_read_14 rfl (lv_at hl 0 rfl) ?_
  refine va_get (D := (dC, dI)) (ci := 2) (v := .int r_1) (C := RX2) (T := TX2) (N := 8) hx hb hts in2 hown hK hP 0 rfl rfl 0 (by decide) fl9 (fun _ h9 => h9) rfl dX2_read_15 ?_
  obtain ⟨r_2, s3_2, hc_2, hf⟩ := bn2_ok hf
  refine gc_i (wc := (cf_3 cI h3 h3a0 s3)) (wr := (cf_2 cI h2 h2a2 h2a3 h2a4 h2a5 h2a6 h2a7 (S2_set_orderVerb (S2_set_count s2 0) r_1))) (w1 := (cf_3 cI h3 h3a0 s3_2)) (ws' := (cf_23 cI h2 h2a2 h2a3 h2a4 h2a5 h2a6 h2a7 h3 h3a0 (S2_set_orderVerb (S2_set_count s2 0) r_1) s3_2)) hP hD hS hA [7, 8] [0, 1, 2, 3, 4, 5, 6] [0, 1, 2, 3, 4, 5, 6, 7, 8] rfl rfl (by decide) (by decide) rfl (by decide) (va_runV (As := [.int r_1]) (rest := []) ⟨hx, hb, hml, hown, hts⟩ (ktX3_accept l dC dI cI h3 h3a0 _ s3 r_1 r_2 s3_2 hc_2) (cwV 1 hts gX2_read_X3_accept rfl rfl rfl (by decide +kernel) ⟨Nat.le_of_ble_eq_true rfl, Nat.le_of_ble_eq_true rfl⟩) (gc_V (ci := 3) (q0 := 0) (C := RX3) (T := TX3) (N := 5) (hP.sub (ws' := (cf_3 cI h3 h3a0 s3)) [7, 8] rfl) (hK.sub (tys' := [(cI, .int)]) [0] rfl) (hD.sub (ws' := (cf_3 cI h3 h3a0 s3)) [7, 8] (by decide) rfl) hN rfl rfl) rfl rfl hl.1 rfl (lv_room (Nat.le_of_ble_eq_true rfl)) dX2_read_18 ⟨Nat.zero_le _, Nat.zero_le _⟩) (fun H locs hP hD hS => ?_)
  refine lv_pop hx hb dX2_read_21 rfl ?_
  refine lv_iconst (v := 1) hx hb dX2_read_22 (by decide) ?_
  refine lv_istore_n (lv' := [(2, .int 1), (0, .ref h2), (1, .ref h3)]) hx hb dX2_read_23 rfl hl (by decide) rfl (fun ls hl => ?_)
  refine lv_iconst (v := 0) hx hb dX2_read_24 (by decide) ?_
  refine lv_istore_n (lv' := [(3, .int 0), (2, .int 1), (0, .ref h2), (1, .ref h3)]) hx hb dX2_read_25 rfl hl (by decide) rfl (fun ls hl => ?_)
  exact J26 64 (S2_set_orderVerb (S2_set_count s2 0) r_1) s3_2 1 0 _ _ hP hD hS _ (lv_sub hl [2, 3, 1, 0] rfl) hf
