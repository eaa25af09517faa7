abbrev rmX6_thrown : Room := { frames := 0, cells := 0, slots := 0, locals := 0 }
set_option maxHeartbeats 2000000 in
set_option maxRecDepth 100000 in
theorem ktX6_thrown (l : Launch) (dC : Nat → ClassId) (dI : Nat → Nat → Nat) (cI cZ : ClassId) (h6 h6a1 h6a2 h6a3 h6a4 h6a5 h6a7 h6a17 h6a18 : Nat) (sz : Nat) (s6 : S6) (r : Int32) (hf : fX6_thrown s6 = some r) : Met l yX6_thrown wsX6_thrown rmX6_thrown (va_Pc [.ref h6] (pre_w (dC, dI) (cf_6 cI cZ h6 h6a1 h6a2 h6a3 h6a4 h6a5 h6a7 h6a17 h6a18 s6) [(cI, .int), (cZ, .boolean)] sz)) (va_Qi (fun (r' : Int32) (_ : Unit) => r' = r) (post_w (dC, dI) (cf_6 cI cZ h6 h6a1 h6a2 h6a3 h6a4 h6a5 h6a7 h6a17 h6a18 s6) [(cI, .int), (cZ, .boolean)] (va_A (cf_6 cI cZ h6 h6a1 h6a2 h6a3 h6a4 h6a5 h6a7 h6a17 h6a18 s6) sz)) (va_A (cf_6 cI cZ h6 h6a1 h6a2 h6a3 h6a4 h6a5 h6a7 h6a17 h6a18 s6) sz)) 0 0 (va_A (cf_6 cI cZ h6 h6a1 h6a2 h6a3 h6a4 h6a5 h6a7 h6a17 h6a18 s6) sz) := by
  refine gm_i (cc := cX6_thrown) (maxL := 1) (by decide) rfl (Nat.le_of_ble_eq_true rfl) ?_
  intro p e s m below meth c A QQ ls hx hb hml hown hts hK hN hA hP hD hS hl hret
  have hown : s.vm.findClass RX6 = some m.cls := hown
  have hl : lv_has ls 1 [(0, .ref h6)] := hl
  have in6 : ∀ w ∈ u_ws RX6 TX6 25, w ∈ wsX6_thrown := by decide +kernel
  have fl54 := hts (.fieldLink RX6 54 "ParserParlourModel" "thrown" "I") (by decide +kernel)
  unfold fX6_thrown at hf
  refine lv_aload_n hx hb dX6_thrown_0 rfl (lv_at hl 0 rfl) ?_
  refine va_get (D := (dC, dI)) (ci := 6) (v := .int (S6_thrown s6)) (C := RX6) (T := TX6) (N := 25) hx hb hts in6 hown hK hP 0 rfl rfl 24 (by decide) fl54 (fun _ h9 => h9) rfl dX6_thrown_1 ?_
  have hf : (some (S6_thrown s6) : Option (Int32)) = some r := hf
  have he := Option.some.inj hf
  have he0 : (S6_thrown s6) = r := he
  exact hret _ _ _ _ _ _ he0 rfl dX6_thrown_4 hP hD hS
abbrev rmX6_may : Room := { frames := 0, cells := 0, slots := 0, locals := 0 }
set_option maxHeartbeats 2000000 in
set_option maxRecDepth 100000 in
theorem ktX6_may (l : Launch) (dC : Nat → ClassId) (dI : Nat → Nat → Nat) (cI cZ : ClassId) (h6 h6a1 h6a2 h6a3 h6a4 h6a5 h6a7 h6a17 h6a18 : Nat) (sz : Nat) (s6 : S6) (a1 : Int32) (r : Int32) (s6f : S6) (hf : fX6_may s6 a1 = some (r, s6f)) : Met l yX6_may wsX6_may rmX6_may (va_Pc [.ref h6, .int a1] (pre_w (dC, dI) (cf_6 cI cZ h6 h6a1 h6a2 h6a3 h6a4 h6a5 h6a7 h6a17 h6a18 s6) [(cI, .int), (cZ, .boolean)] sz)) (va_Qi (fun (r' : Int32) (_ : Unit) => r' = r) (post_w (dC, dI) (cf_6 cI cZ h6 h6a1 h6a2 h6a3 h6a4 h6a5 h6a7 h6a17 h6a18 s6f) [(cI, .int), (cZ, .boolean)] (va_A (cf_6 cI cZ h6 h6a1 h6a2 h6a3 h6a4 h6a5 h6a7 h6a17 h6a18 s6) sz)) (va_A (cf_6 cI cZ h6 h6a1 h6a2 h6a3 h6a4 h6a5 h6a7 h6a17 h6a18 s6) sz)) 0 0 (va_A (cf_6 cI cZ h6 h6a1 h6a2 h6a3 h6a4 h6a5 h6a7 h6a17 h6a18 s6) sz) := by
  refine gm_z (cc := cX6_may) (maxL := 2) (by decide) rfl (Nat.le_of_ble_eq_true rfl) ?_
  intro p e s m below meth c A QQ ls hx hb hml hown hts hK hN hA hP hD hS hl hret
  have hown : s.vm.findClass RX6 = some m.cls := hown
  have hl : lv_has ls 2 [(0, .ref h6), (1, .int a1)] := hl
  have in6 : ∀ w ∈ u_ws RX6 TX6 25, w ∈ wsX6_may := by decide +kernel
  have fl54 := hts (.fieldLink RX6 54 "ParserParlourModel" "thrown" "I") (by decide +kernel)
  have J10 : ∀ (s6 : S6) (t1 : Int32) (H : Heap) (locs : List Loc), va_P (dC, dI) vwCl (cf_6 cI cZ h6 h6a1 h6a2 h6a3 h6a4 h6a5 h6a7 h6a17 h6a18 s6) H → va_D A (cf_6 cI cZ h6 h6a1 h6a2 h6a3 h6a4 h6a5 h6a7 h6a17 h6a18 s6) → va_S A s.heap H locs → ∀ (ls : Array Slot), lv_has ls 2 [(1, .int a1)] → fX6_may_10 a1 s6 t1 = some (r, s6f) → W p l e rmX6_may s m ([.ref h6, .int a1] : List Value).toArray below meth c H locs 0 0 QQ (F0 m 10 ls [.int t1, .ref h6]) := by
    intro  s6 t1 H locs hP hD hS ls hl hf
    unfold fX6_may_10 at hf
    refine va_put (D := (dC, dI)) (ci := 6) (v := .int t1) (ty := .int) (C := RX6) (T := TX6) (N := 25) hx hb hts in6 tyX6 tyX6_ok nmX6 hown hK hP hD hS 0 rfl rfl 24 (by decide) fl54 (fun _ h9 => h9) rfl (by decide +kernel) rfl rfl (Nat.le_of_ble_eq_true rfl) dX6_may_10 (fun H locs hP hD hS => ?_)
    have hP : va_P (dC, dI) vwCl (cf_6 cI cZ h6 h6a1 h6a2 h6a3 h6a4 h6a5 h6a7 h6a17 h6a18 (S6_set_thrown s6 t1)) H := Eq.mp (congrArg (fun w => va_P (dC, dI) vwCl w H) (cs6_thrown cI cZ h6 h6a1 h6a2 h6a3 h6a4 h6a5 h6a7 h6a17 h6a18 s6 t1)) hP
    have hD : va_D A (cf_6 cI cZ h6 h6a1 h6a2 h6a3 h6a4 h6a5 h6a7 h6a17 h6a18 (S6_set_thrown s6 t1)) := Eq.mp (congrArg (fun w => va_D A w) (cs6_thrown cI cZ h6 h6a1 h6a2 h6a3 h6a4 h6a5 h6a7 h6a17 h6a18 s6 t1)) hD
    refine lv_iload_n hx hb dX6_may_13 rfl (lv_at hl 0 rfl) ?_
    obtain ⟨hz_1, hf⟩ := bo_ok hf
    have hf : (some (a1, (S6_set_thrown s6 t1)) : Option (Int32 × S6)) = some (r, s6f) := hf
    have he := Option.some.inj hf
    have he0 : a1 = r := congrArg (fun q => q.1) he
    have he1 : (S6_set_thrown s6 t1) = s6f := congrArg (fun q => q.2) he
    exact hret _ _ _ _ _ _ hz_1 he0 (by rw [← he1]) dX6_may_14 hP hD hS
  unfold fX6_may at hf
  refine lv_aload_n hx hb dX6_may_0 rfl (lv_at hl 0 rfl) ?_
  refine lv_iload_n hx hb dX6_may_1 rfl (lv_at hl 1 rfl) ?_
  refine lv_if_eq (tgt := 9) hx hb dX6_may_2 (by decide) (fun c_1 => ?_) (fun c_1 => ?_)
  · have hf := it_t c_1 hf
    refine lv_iconst (v := 1) hx hb dX6_may_9 (by decide) ?_
    exact J10 s6 1 _ _ hP hD hS _ (lv_sub hl [1] rfl) hf
  · have hf := it_f c_1 hf
    refine lv_iconst (v := 0) hx hb dX6_may_5 (by decide) ?_
    refine lv_goto (tgt := 10) hx hb dX6_may_6 (by decide) ?_
    exact J10 s6 0 _ _ hP hD hS _ (lv_sub hl [1] rfl) hf
abbrev rmX6_mayBoth : Room := { frames := 0, cells := 0, slots := 0, locals := 0 }
set_option maxHeartbeats 2000000 in
set_option maxRecDepth 100000 in
theorem ktX6_mayBoth (l : Launch) (dC : Nat → ClassId) (dI : Nat → Nat → Nat) (cI cZ : ClassId) (h6 h6a1 h6a2 h6a3 h6a4 h6a5 h6a7 h6a17 h6a18 : Nat) (sz : Nat) (s6 : S6) (a1 : Int32) (a2 : Int32) (r : Int32) (s6f : S6) (hf : fX6_mayBoth s6 a1 a2 = some (r, s6f)) : Met l yX6_mayBoth wsX6_mayBoth rmX6_mayBoth (va_Pc [.ref h6, .int a1, .int a2] (pre_w (dC, dI) (cf_6 cI cZ h6 h6a1 h6a2 h6a3 h6a4 h6a5 h6a7 h6a17 h6a18 s6) [(cI, .int), (cZ, .boolean)] sz)) (va_Qi (fun (r' : Int32) (_ : Unit) => r' = r) (post_w (dC, dI) (cf_6 cI cZ h6 h6a1 h6a2 h6a3 h6a4 h6a5 h6a7 h6a17 h6a18 s6f) [(cI, .int), (cZ, .boolean)] (va_A (cf_6 cI cZ h6 h6a1 h6a2 h6a3 h6a4 h6a5 h6a7 h6a17 h6a18 s6) sz)) (va_A (cf_6 cI cZ h6 h6a1 h6a2 h6a3 h6a4 h6a5 h6a7 h6a17 h6a18 s6) sz)) 0 0 (va_A (cf_6 cI cZ h6 h6a1 h6a2 h6a3 h6a4 h6a5 h6a7 h6a17 h6a18 s6) sz) := by
  refine gm_z (cc := cX6_mayBoth) (maxL := 3) (by decide) rfl (Nat.le_of_ble_eq_true rfl) ?_
  intro p e s m below meth c A QQ ls hx hb hml hown hts hK hN hA hP hD hS hl hret
  have hown : s.vm.findClass RX6 = some m.cls := hown
  have hl : lv_has ls 3 [(0, .ref h6), (1, .int a1), (2, .int a2)] := hl
  have in6 : ∀ w ∈ u_ws RX6 TX6 25, w ∈ wsX6_mayBoth := by decide +kernel
  have fl54 := hts (.fieldLink RX6 54 "ParserParlourModel" "thrown" "I") (by decide +kernel)
  have J33 : ∀ (s6 : S6) (t0 : Int32) (H : Heap) (locs : List Loc), va_P (dC, dI) vwCl (cf_6 cI cZ h6 h6a1 h6a2 h6a3 h6a4 h6a5 h6a7 h6a17 h6a18 s6) H → va_D A (cf_6 cI cZ h6 h6a1 h6a2 h6a3 h6a4 h6a5 h6a7 h6a17 h6a18 s6) → va_S A s.heap H locs → ∀ (ls : Array Slot), lv_has ls 3 [] → fX6_mayBoth_33 a1 a2 s6 t0 = some (r, s6f) → W p l e rmX6_mayBoth s m ([.ref h6, .int a1, .int a2] : List Value).toArray below meth c H locs 0 0 QQ (F0 m 33 ls [.int t0]) := by
    intro  s6 t0 H locs hP hD hS ls hl hf
    unfold fX6_mayBoth_33 at hf
    obtain ⟨hz_1, hf⟩ := bo_ok hf
    have hf : (some (t0, s6) : Option (Int32 × S6)) = some (r, s6f) := hf
    have he := Option.some.inj hf
    have he0 : t0 = r := congrArg (fun q => q.1) he
    have he1 : s6 = s6f := congrArg (fun q => q.2) he
    exact hret _ _ _ _ _ _ hz_1 he0 (by rw [← he1]) dX6_mayBoth_33 hP hD hS
  have J18 : ∀ (s6 : S6) (t1 : Int32) (H : Heap) (locs : List Loc), va_P (dC, dI) vwCl (cf_6 cI cZ h6 h6a1 h6a2 h6a3 h6a4 h6a5 h6a7 h6a17 h6a18 s6) H → va_D A (cf_6 cI cZ h6 h6a1 h6a2 h6a3 h6a4 h6a5 h6a7 h6a17 h6a18 s6) → va_S A s.heap H locs → ∀ (ls : Array Slot), lv_has ls 3 [(0, .ref h6)] → fX6_mayBoth_18 a1 a2 s6 t1 = some (r, s6f) → W p l e rmX6_mayBoth s m ([.ref h6, .int a1, .int a2] : List Value).toArray below meth c H locs 0 0 QQ (F0 m 18 ls [.int t1, .ref h6]) := by
    intro  s6 t1 H locs hP hD hS ls hl hf
    unfold fX6_mayBoth_18 at hf
    refine va_put (D := (dC, dI)) (ci := 6) (v := .int t1) (ty := .int) (C := RX6) (T := TX6) (N := 25) hx hb hts in6 tyX6 tyX6_ok nmX6 hown hK hP hD hS 0 rfl rfl 24 (by decide) fl54 (fun _ h9 => h9) rfl (by decide +kernel) rfl rfl (Nat.le_of_ble_eq_true rfl) dX6_mayBoth_18 (fun H locs hP hD hS => ?_)
    have hP : va_P (dC, dI) vwCl (cf_6 cI cZ h6 h6a1 h6a2 h6a3 h6a4 h6a5 h6a7 h6a17 h6a18 (S6_set_thrown s6 t1)) H := Eq.mp (congrArg (fun w => va_P (dC, dI) vwCl w H) (cs6_thrown cI cZ h6 h6a1 h6a2 h6a3 h6a4 h6a5 h6a7 h6a17 h6a18 s6 t1)) hP
    have hD : va_D A (cf_6 cI cZ h6 h6a1 h6a2 h6a3 h6a4 h6a5 h6a7 h6a17 h6a18 (S6_set_thrown s6 t1)) := Eq.mp (congrArg (fun w => va_D A w) (cs6_thrown cI cZ h6 h6a1 h6a2 h6a3 h6a4 h6a5 h6a7 h6a17 h6a18 s6 t1)) hD
    refine lv_aload_n hx hb dX6_mayBoth_21 rfl (lv_at hl 0 rfl) ?_
    refine va_get (D := (dC, dI)) (ci := 6) (v := .int (S6_thrown (S6_set_thrown s6 t1))) (C := RX6) (T := TX6) (N := 25) hx hb hts in6 hown hK hP 0 rfl rfl 24 (by decide) fl54 (fun _ h9 => h9) rfl dX6_mayBoth_22 ?_
    refine lv_if_ne (tgt := 32) hx hb dX6_mayBoth_25 (by decide) (fun c_1 => ?_) (fun c_1 => ?_)
    · have hf := it_f c_1 hf
      refine lv_iconst (v := 0) hx hb dX6_mayBoth_32 (by decide) ?_
      exact J33 (S6_set_thrown s6 t1) 0 _ _ hP hD hS _ (lv_sub hl [] rfl) hf
    · have hf := it_t c_1 hf
      refine lv_iconst (v := 1) hx hb dX6_mayBoth_28 (by decide) ?_
      refine lv_goto (tgt := 33) hx hb dX6_mayBoth_29 (by decide) ?_
      exact J33 (S6_set_thrown s6 t1) 1 _ _ hP hD hS _ (lv_sub hl [] rfl) hf
  unfold fX6_mayBoth at hf
  refine lv_aload_n hx hb dX6_mayBoth_0 rfl (lv_at hl 0 rfl) ?_
  refine lv_iload_n hx hb dX6_mayBoth_1 rfl (lv_at hl 1 rfl) ?_
  refine lv_if_ne (tgt := 9) hx hb dX6_mayBoth_2 (by decide) (fun c_1 => ?_) (fun c_1 => ?_)
  · have hf := it_f c_1 hf
    refine lv_iload_n hx hb dX6_mayBoth_9 rfl (lv_at hl 2 rfl) ?_
    refine lv_if_ne (tgt := 17) hx hb dX6_mayBoth_10 (by decide) (fun c_2 => ?_) (fun c_2 => ?_)
    · have hf := it_f c_2 hf
      refine lv_iconst (v := 0) hx hb dX6_mayBoth_17 (by decide) ?_
      exact J18 s6 0 _ _ hP hD hS _ (lv_sub hl [0] rfl) hf
    · have hf := it_t c_2 hf
      refine lv_iconst (v := 2) hx hb dX6_mayBoth_13 (by decide) ?_
      refine lv_goto (tgt := 18) hx hb dX6_mayBoth_14 (by decide) ?_
      exact J18 s6 2 _ _ hP hD hS _ (lv_sub hl [0] rfl) hf
  · have hf := it_t c_1 hf
    refine lv_iconst (v := 1) hx hb dX6_mayBoth_5 (by decide) ?_
    refine lv_goto (tgt := 18) hx hb dX6_mayBoth_6 (by decide) ?_
    exact J18 s6 1 _ _ hP hD hS _ (lv_sub hl [0] rfl) hf
abbrev rmX6_thing : Room := { frames := 1, cells := 0, slots := 0, locals := 22 }
set_option maxHeartbeats 2000000 in
set_option maxRecDepth 100000 in
theorem ktX6_thing (l : Launch) (dC : Nat → ClassId) (dI : Nat → Nat → Nat) (cI cZ : ClassId) (h6 h6a1 h6a2 h6a3 h6a4 h6a5 h6a7 h6a17 h6a18 : Nat) (sz : Nat) (s6 : S6) (a1 : Int32) (a2 : Int32) (a3 : Int32) (r : Int32) (s6f : S6) (hf : fX6_thing s6 a1 a2 a3 = some (r, s6f)) : Met l yX6_thing wsX6_thing rmX6_thing (va_Pc [.ref h6, .int a1, .int a2, .int a3] (pre_w (dC, dI) (cf_6 cI cZ h6 h6a1 h6a2 h6a3 h6a4 h6a5 h6a7 h6a17 h6a18 s6) [(cI, .int), (cZ, .boolean)] sz)) (va_Qi (fun (r' : Int32) (_ : Unit) => r' = r) (post_w (dC, dI) (cf_6 cI cZ h6 h6a1 h6a2 h6a3 h6a4 h6a5 h6a7 h6a17 h6a18 s6f) [(cI, .int), (cZ, .boolean)] (va_A (cf_6 cI cZ h6 h6a1 h6a2 h6a3 h6a4 h6a5 h6a7 h6a17 h6a18 s6) sz)) (va_A (cf_6 cI cZ h6 h6a1 h6a2 h6a3 h6a4 h6a5 h6a7 h6a17 h6a18 s6) sz)) 0 0 (va_A (cf_6 cI cZ h6 h6a1 h6a2 h6a3 h6a4 h6a5 h6a7 h6a17 h6a18 s6) sz) := by
  refine gm_i (cc := cX6_thing) (maxL := 4) (by decide) rfl (Nat.le_of_ble_eq_true rfl) ?_
  intro p e s m below meth c A QQ ls hx hb hml hown hts hK hN hA hP hD hS hl hret
  have hown : s.vm.findClass RX6 = some m.cls := hown
  have hl : lv_has ls 4 [(0, .ref h6), (1, .int a1), (2, .int a2), (3, .int a3)] := hl
  have in6 : ∀ w ∈ u_ws RX6 TX6 25, w ∈ wsX6_thing := by decide +kernel
  have fl57 := hts (.fieldLink RX6 57 "ParserParlourModel" "things" "I") (by decide +kernel)
  have fl7 := hts (.fieldLink RX6 7 "ParserParlourModel" "noun" "[I") (by decide +kernel)
  have fl13 := hts (.fieldLink RX6 13 "ParserParlourModel" "adjectives" "[I") (by decide +kernel)
  have fl16 := hts (.fieldLink RX6 16 "ParserParlourModel" "box" "[Z") (by decide +kernel)
  have fl23 := hts (.fieldLink RX6 23 "ParserParlourModel" "place" "[I") (by decide +kernel)
  have J40 : ∀ (s6 : S6) (t1 : Int32) (t2 : Int32) (H : Heap) (locs : List Loc), va_P (dC, dI) vwCl (cf_6 cI cZ h6 h6a1 h6a2 h6a3 h6a4 h6a5 h6a7 h6a17 h6a18 s6) H → va_D A (cf_6 cI cZ h6 h6a1 h6a2 h6a3 h6a4 h6a5 h6a7 h6a17 h6a18 s6) → va_S A s.heap H locs → ∀ (ls : Array Slot), lv_has ls 4 [(0, .ref h6), (1, .int a1), (2, .int a2), (3, .int a3)] → fX6_thing_40 a1 a2 a3 s6 t1 t2 = some (r, s6f) → W p l e rmX6_thing s m ([.ref h6, .int a1, .int a2, .int a3] : List Value).toArray below meth c H locs 0 0 QQ (F0 m 40 ls [.int t2, .int t1, .ref h6]) := by
    intro  s6 t1 t2 H locs hP hD hS ls hl hf
    unfold fX6_thing_40 at hf
    obtain ⟨r_1, s6_1, hc_1, hf⟩ := bn2_ok hf
    refine gc_i (wc := (cf_6 cI cZ h6 h6a1 h6a2 h6a3 h6a4 h6a5 h6a7 h6a17 h6a18 s6)) (wr := ([] : va_W)) (w1 := (cf_6 cI cZ h6 h6a1 h6a2 h6a3 h6a4 h6a5 h6a7 h6a17 h6a18 s6_1)) (ws' := (cf_6 cI cZ h6 h6a1 h6a2 h6a3 h6a4 h6a5 h6a7 h6a17 h6a18 s6_1)) hP hD hS hA [0, 1, 2, 3, 4, 5, 6, 7, 8] [] [0, 1, 2, 3, 4, 5, 6, 7, 8] rfl rfl (by decide) (by decide) rfl (by decide) (va_runV (As := [.int t1, .int t2]) (rest := []) ⟨hx, hb, hml, hown, hts⟩ (ktX6_mayBoth l dC dI cI cZ h6 h6a1 h6a2 h6a3 h6a4 h6a5 h6a7 h6a17 h6a18 _ s6 t1 t2 r_1 s6_1 hc_1) (cwV 2 hts gX6_thing_X6_mayBoth rfl rfl rfl (by decide +kernel) ⟨Nat.le_of_ble_eq_true rfl, Nat.le_of_ble_eq_true rfl⟩) (gc_V (ci := 6) (q0 := 0) (C := RX6) (T := TX6) (N := 25) (hP.sub (ws' := (cf_6 cI cZ h6 h6a1 h6a2 h6a3 h6a4 h6a5 h6a7 h6a17 h6a18 s6)) [0, 1, 2, 3, 4, 5, 6, 7, 8] rfl) (hK.sub (tys' := [(cI, .int), (cZ, .boolean)]) [0, 1] rfl) (hD.sub (ws' := (cf_6 cI cZ h6 h6a1 h6a2 h6a3 h6a4 h6a5 h6a7 h6a17 h6a18 s6)) [0, 1, 2, 3, 4, 5, 6, 7, 8] (by decide) rfl) hN rfl rfl) rfl rfl hl.1 rfl (lv_room (Nat.le_of_ble_eq_true rfl)) dX6_thing_40 ⟨Nat.zero_le _, Nat.zero_le _⟩) (fun H locs hP hD hS => ?_)
    refine lv_if_ne (tgt := 48) hx hb dX6_thing_43 (by decide) (fun c_2 => ?_) (fun c_2 => ?_)
    · have hf := it_f c_2 hf
      refine lv_aload_n hx hb dX6_thing_48 rfl (lv_at hl 0 rfl) ?_
      refine va_get (D := (dC, dI)) (ci := 6) (v := .ref h6a1) (C := RX6) (T := TX6) (N := 25) hx hb hts in6 hown hK hP 0 rfl rfl 1 (by decide) fl7 (fun _ h9 => h9) rfl dX6_thing_49 ?_
      refine lv_aload_n hx hb dX6_thing_52 rfl (lv_at hl 0 rfl) ?_
      refine va_get (D := (dC, dI)) (ci := 6) (v := .int (S6_things s6_1)) (C := RX6) (T := TX6) (N := 25) hx hb hts in6 hown hK hP 0 rfl rfl 0 (by decide) fl57 (fun _ h9 => h9) rfl dX6_thing_53 ?_
      refine lv_iload_n hx hb dX6_thing_56 rfl (lv_at hl 1 rfl) ?_
      obtain ⟨hi_3, hf⟩ := ai_ok hf
      refine va_iast (n := 12) (f := (S6_noun s6_1)) hx hb hK hP hD hS 1 0 rfl rfl hi_3 dX6_thing_57 (fun H locs hP hD hS => ?_)
      have hP : va_P (dC, dI) vwCl (cf_6 cI cZ h6 h6a1 h6a2 h6a3 h6a4 h6a5 h6a7 h6a17 h6a18 (S6_set_noun s6_1 (upd (S6_noun s6_1) (S6_things s6_1).toNatClampNeg a1))) H := Eq.mp (congrArg (fun w => va_P (dC, dI) vwCl w H) (cs6_noun cI cZ h6 h6a1 h6a2 h6a3 h6a4 h6a5 h6a7 h6a17 h6a18 s6_1 (upd (S6_noun s6_1) (S6_things s6_1).toNatClampNeg a1))) hP
      have hD : va_D A (cf_6 cI cZ h6 h6a1 h6a2 h6a3 h6a4 h6a5 h6a7 h6a17 h6a18 (S6_set_noun s6_1 (upd (S6_noun s6_1) (S6_things s6_1).toNatClampNeg a1))) := Eq.mp (congrArg (fun w => va_D A w) (cs6_noun cI cZ h6 h6a1 h6a2 h6a3 h6a4 h6a5 h6a7 h6a17 h6a18 s6_1 (upd (S6_noun s6_1) (S6_things s6_1).toNatClampNeg a1))) hD
      refine lv_aload_n hx hb dX6_thing_58 rfl (lv_at hl 0 rfl) ?_
      refine va_get (D := (dC, dI)) (ci := 6) (v := .ref h6a2) (C := RX6) (T := TX6) (N := 25) hx hb hts in6 hown hK hP 0 rfl rfl 2 (by decide) fl13 (fun _ h9 => h9) rfl dX6_thing_59 ?_
      refine lv_aload_n hx hb dX6_thing_62 rfl (lv_at hl 0 rfl) ?_
      refine va_get (D := (dC, dI)) (ci := 6) (v := .int (S6_things (S6_set_noun s6_1 (upd (S6_noun s6_1) (S6_things s6_1).toNatClampNeg a1)))) (C := RX6) (T := TX6) (N := 25) hx hb hts in6 hown hK hP 0 rfl rfl 0 (by decide) fl57 (fun _ h9 => h9) rfl dX6_thing_63 ?_
      refine lv_iload_n hx hb dX6_thing_66 rfl (lv_at hl 2 rfl) ?_
      obtain ⟨hi_4, hf⟩ := ai_ok hf
      refine va_iast (n := 12) (f := (S6_adjectives (S6_set_noun s6_1 (upd (S6_noun s6_1) (S6_things s6_1).toNatClampNeg a1)))) hx hb hK hP hD hS 2 0 rfl rfl hi_4 dX6_thing_67 (fun H locs hP hD hS => ?_)
      have hP : va_P (dC, dI) vwCl (cf_6 cI cZ h6 h6a1 h6a2 h6a3 h6a4 h6a5 h6a7 h6a17 h6a18 (S6_set_adjectives (S6_set_noun s6_1 (upd (S6_noun s6_1) (S6_things s6_1).toNatClampNeg a1)) (upd (S6_adjectives (S6_set_noun s6_1 (upd (S6_noun s6_1) (S6_things s6_1).toNatClampNeg a1))) (S6_things (S6_set_noun s6_1 (upd (S6_noun s6_1) (S6_things s6_1).toNatClampNeg a1))).toNatClampNeg a2))) H := Eq.mp (congrArg (fun w => va_P (dC, dI) vwCl w H) (cs6_adjectives cI cZ h6 h6a1 h6a2 h6a3 h6a4 h6a5 h6a7 h6a17 h6a18 (S6_set_noun s6_1 (upd (S6_noun s6_1) (S6_things s6_1).toNatClampNeg a1)) (upd (S6_adjectives (S6_set_noun s6_1 (upd (S6_noun s6_1) (S6_things s6_1).toNatClampNeg a1))) (S6_things (S6_set_noun s6_1 (upd (S6_noun s6_1) (S6_things s6_1).toNatClampNeg a1))).toNatClampNeg a2))) hP
      have hD : va_D A (cf_6 cI cZ h6 h6a1 h6a2 h6a3 h6a4 h6a5 h6a7 h6a17 h6a18 (S6_set_adjectives (S6_set_noun s6_1 (upd (S6_noun s6_1) (S6_things s6_1).toNatClampNeg a1)) (upd (S6_adjectives (S6_set_noun s6_1 (upd (S6_noun s6_1) (S6_things s6_1).toNatClampNeg a1))) (S6_things (S6_set_noun s6_1 (upd (S6_noun s6_1) (S6_things s6_1).toNatClampNeg a1))).toNatClampNeg a2))) := Eq.mp (congrArg (fun w => va_D A w) (cs6_adjectives cI cZ h6 h6a1 h6a2 h6a3 h6a4 h6a5 h6a7 h6a17 h6a18 (S6_set_noun s6_1 (upd (S6_noun s6_1) (S6_things s6_1).toNatClampNeg a1)) (upd (S6_adjectives (S6_set_noun s6_1 (upd (S6_noun s6_1) (S6_things s6_1).toNatClampNeg a1))) (S6_things (S6_set_noun s6_1 (upd (S6_noun s6_1) (S6_things s6_1).toNatClampNeg a1))).toNatClampNeg a2))) hD
      refine lv_aload_n hx hb dX6_thing_68 rfl (lv_at hl 0 rfl) ?_
      refine va_get (D := (dC, dI)) (ci := 6) (v := .ref h6a3) (C := RX6) (T := TX6) (N := 25) hx hb hts in6 hown hK hP 0 rfl rfl 3 (by decide) fl16 (fun _ h9 => h9) rfl dX6_thing_69 ?_
      refine lv_aload_n hx hb dX6_thing_72 rfl (lv_at hl 0 rfl) ?_
      refine va_get (D := (dC, dI)) (ci := 6) (v := .int (S6_things (S6_set_adjectives (S6_set_noun s6_1 (upd (S6_noun s6_1) (S6_things s6_1).toNatClampNeg a1)) (upd (S6_adjectives (S6_set_noun s6_1 (upd (S6_noun s6_1) (S6_things s6_1).toNatClampNeg a1))) (S6_things (S6_set_noun s6_1 (upd (S6_noun s6_1) (S6_things s6_1).toNatClampNeg a1))).toNatClampNeg a2)))) (C := RX6) (T := TX6) (N := 25) hx hb hts in6 hown hK hP 0 rfl rfl 0 (by decide) fl57 (fun _ h9 => h9) rfl dX6_thing_73 ?_
      refine lv_iload_n hx hb dX6_thing_76 rfl (lv_at hl 3 rfl) ?_
      obtain ⟨hi_5, hf⟩ := ai_ok hf
      refine va_zast (n := 12) (f := (S6_box (S6_set_adjectives (S6_set_noun s6_1 (upd (S6_noun s6_1) (S6_things s6_1).toNatClampNeg a1)) (upd (S6_adjectives (S6_set_noun s6_1 (upd (S6_noun s6_1) (S6_things s6_1).toNatClampNeg a1))) (S6_things (S6_set_noun s6_1 (upd (S6_noun s6_1) (S6_things s6_1).toNatClampNeg a1))).toNatClampNeg a2)))) hx hb hK hP hD hS 3 1 rfl rfl hi_5 dX6_thing_77 (fun H locs hP hD hS => ?_)
      have hP : va_P (dC, dI) vwCl (cf_6 cI cZ h6 h6a1 h6a2 h6a3 h6a4 h6a5 h6a7 h6a17 h6a18 (S6_set_box (S6_set_adjectives (S6_set_noun s6_1 (upd (S6_noun s6_1) (S6_things s6_1).toNatClampNeg a1)) (upd (S6_adjectives (S6_set_noun s6_1 (upd (S6_noun s6_1) (S6_things s6_1).toNatClampNeg a1))) (S6_things (S6_set_noun s6_1 (upd (S6_noun s6_1) (S6_things s6_1).toNatClampNeg a1))).toNatClampNeg a2)) (upd (S6_box (S6_set_adjectives (S6_set_noun s6_1 (upd (S6_noun s6_1) (S6_things s6_1).toNatClampNeg a1)) (upd (S6_adjectives (S6_set_noun s6_1 (upd (S6_noun s6_1) (S6_things s6_1).toNatClampNeg a1))) (S6_things (S6_set_noun s6_1 (upd (S6_noun s6_1) (S6_things s6_1).toNatClampNeg a1))).toNatClampNeg a2))) (S6_things (S6_set_adjectives (S6_set_noun s6_1 (upd (S6_noun s6_1) (S6_things s6_1).toNatClampNeg a1)) (upd (S6_adjectives (S6_set_noun s6_1 (upd (S6_noun s6_1) (S6_things s6_1).toNatClampNeg a1))) (S6_things (S6_set_noun s6_1 (upd (S6_noun s6_1) (S6_things s6_1).toNatClampNeg a1))).toNatClampNeg a2))).toNatClampNeg (vp_nar .boolean a3)))) H := Eq.mp (congrArg (fun w => va_P (dC, dI) vwCl w H) (cs6_box cI cZ h6 h6a1 h6a2 h6a3 h6a4 h6a5 h6a7 h6a17 h6a18 (S6_set_adjectives (S6_set_noun s6_1 (upd (S6_noun s6_1) (S6_things s6_1).toNatClampNeg a1)) (upd (S6_adjectives (S6_set_noun s6_1 (upd (S6_noun s6_1) (S6_things s6_1).toNatClampNeg a1))) (S6_things (S6_set_noun s6_1 (upd (S6_noun s6_1) (S6_things s6_1).toNatClampNeg a1))).toNatClampNeg a2)) (upd (S6_box (S6_set_adjectives (S6_set_noun s6_1 (upd (S6_noun s6_1) (S6_things s6_1).toNatClampNeg a1)) (upd (S6_adjectives (S6_set_noun s6_1 (upd (S6_noun s6_1) (S6_things s6_1).toNatClampNeg a1))) (S6_things (S6_set_noun s6_1 (upd (S6_noun s6_1) (S6_things s6_1).toNatClampNeg a1))).toNatClampNeg a2))) (S6_things (S6_set_adjectives (S6_set_noun s6_1 (upd (S6_noun s6_1) (S6_things s6_1).toNatClampNeg a1)) (upd (S6_adjectives (S6_set_noun s6_1 (upd (S6_noun s6_1) (S6_things s6_1).toNatClampNeg a1))) (S6_things (S6_set_noun s6_1 (upd (S6_noun s6_1) (S6_things s6_1).toNatClampNeg a1))).toNatClampNeg a2))).toNatClampNeg (vp_nar .boolean a3)))) hP
      have hD : va_D A (cf_6 cI cZ h6 h6a1 h6a2 h6a3 h6a4 h6a5 h6a7 h6a17 h6a18 (S6_set_box (S6_set_adjectives (S6_set_noun s6_1 (upd (S6_noun s6_1) (S6_things s6_1).toNatClampNeg a1)) (upd (S6_adjectives (S6_set_noun s6_1 (upd (S6_noun s6_1) (S6_things s6_1).toNatClampNeg a1))) (S6_things (S6_set_noun s6_1 (upd (S6_noun s6_1) (S6_things s6_1).toNatClampNeg a1))).toNatClampNeg a2)) (upd (S6_box (S6_set_adjectives (S6_set_noun s6_1 (upd (S6_noun s6_1) (S6_things s6_1).toNatClampNeg a1)) (upd (S6_adjectives (S6_set_noun s6_1 (upd (S6_noun s6_1) (S6_things s6_1).toNatClampNeg a1))) (S6_things (S6_set_noun s6_1 (upd (S6_noun s6_1) (S6_things s6_1).toNatClampNeg a1))).toNatClampNeg a2))) (S6_things (S6_set_adjectives (S6_set_noun s6_1 (upd (S6_noun s6_1) (S6_things s6_1).toNatClampNeg a1)) (upd (S6_adjectives (S6_set_noun s6_1 (upd (S6_noun s6_1) (S6_things s6_1).toNatClampNeg a1))) (S6_things (S6_set_noun s6_1 (upd (S6_noun s6_1) (S6_things s6_1).toNatClampNeg a1))).toNatClampNeg a2))).toNatClampNeg (vp_nar .boolean a3)))) := Eq.mp (congrArg (fun w => va_D A w) (cs6_box cI cZ h6 h6a1 h6a2 h6a3 h6a4 h6a5 h6a7 h6a17 h6a18 (S6_set_adjectives (S6_set_noun s6_1 (upd (S6_noun s6_1) (S6_things s6_1).toNatClampNeg a1)) (upd (S6_adjectives (S6_set_noun s6_1 (upd (S6_noun s6_1) (S6_things s6_1).toNatClampNeg a1))) (S6_things (S6_set_noun s6_1 (upd (S6_noun s6_1) (S6_things s6_1).toNatClampNeg a1))).toNatClampNeg a2)) (upd (S6_box (S6_set_adjectives (S6_set_noun s6_1 (upd (S6_noun s6_1) (S6_things s6_1).toNatClampNeg a1)) (upd (S6_adjectives (S6_set_noun s6_1 (upd (S6_noun s6_1) (S6_things s6_1).toNatClampNeg a1))) (S6_things (S6_set_noun s6_1 (upd (S6_noun s6_1) (S6_things s6_1).toNatClampNeg a1))).toNatClampNeg a2))) (S6_things (S6_set_adjectives (S6_set_noun s6_1 (upd (S6_noun s6_1) (S6_things s6_1).toNatClampNeg a1)) (upd (S6_adjectives (S6_set_noun s6_1 (upd (S6_noun s6_1) (S6_things s6_1).toNatClampNeg a1))) (S6_things (S6_set_noun s6_1 (upd (S6_noun s6_1) (S6_things s6_1).toNatClampNeg a1))).toNatClampNeg a2))).toNatClampNeg (vp_nar .boolean a3)))) hD
      refine lv_aload_n hx hb dX6_thing_78 rfl (lv_at hl 0 rfl) ?_
      refine va_get (D := (dC, dI)) (ci := 6) (v := .ref h6a5) (C := RX6) (T := TX6) (N := 25) hx hb hts in6 hown hK hP 0 rfl rfl 5 (by decide) fl23 (fun _ h9 => h9) rfl dX6_thing_79 ?_
      refine lv_aload_n hx hb dX6_thing_82 rfl (lv_at hl 0 rfl) ?_
      refine va_get (D := (dC, dI)) (ci := 6) (v := .int (S6_things (S6_set_box (S6_set_adjectives (S6_set_noun s6_1 (upd (S6_noun s6_1) (S6_things s6_1).toNatClampNeg a1)) (upd (S6_adjectives (S6_set_noun s6_1 (upd (S6_noun s6_1) (S6_things s6_1).toNatClampNeg a1))) (S6_things (S6_set_noun s6_1 (upd (S6_noun s6_1) (S6_things s6_1).toNatClampNeg a1))).toNatClampNeg a2)) (upd (S6_box (S6_set_adjectives (S6_set_noun s6_1 (upd (S6_noun s6_1) (S6_things s6_1).toNatClampNeg a1)) (upd (S6_adjectives (S6_set_noun s6_1 (upd (S6_noun s6_1) (S6_things s6_1).toNatClampNeg a1))) (S6_things (S6_set_noun s6_1 (upd (S6_noun s6_1) (S6_things s6_1).toNatClampNeg a1))).toNatClampNeg a2))) (S6_things (S6_set_adjectives (S6_set_noun s6_1 (upd (S6_noun s6_1) (S6_things s6_1).toNatClampNeg a1)) (upd (S6_adjectives (S6_set_noun s6_1 (upd (S6_noun s6_1) (S6_things s6_1).toNatClampNeg a1))) (S6_things (S6_set_noun s6_1 (upd (S6_noun s6_1) (S6_things s6_1).toNatClampNeg a1))).toNatClampNeg a2))).toNatClampNeg (vp_nar .boolean a3))))) (C := RX6) (T := TX6) (N := 25) hx hb hts in6 hown hK hP 0 rfl rfl 0 (by decide) fl57 (fun _ h9 => h9) rfl dX6_thing_83 ?_
      refine lv_bipush (v := (-2)) hx hb dX6_thing_86 (by decide) ?_
      obtain ⟨hi_6, hf⟩ := ai_ok hf
      refine va_iast (n := 12) (f := (S6_place (S6_set_box (S6_set_adjectives (S6_set_noun s6_1 (upd (S6_noun s6_1) (S6_things s6_1).toNatClampNeg a1)) (upd (S6_adjectives (S6_set_noun s6_1 (upd (S6_noun s6_1) (S6_things s6_1).toNatClampNeg a1))) (S6_things (S6_set_noun s6_1 (upd (S6_noun s6_1) (S6_things s6_1).toNatClampNeg a1))).toNatClampNeg a2)) (upd (S6_box (S6_set_adjectives (S6_set_noun s6_1 (upd (S6_noun s6_1) (S6_things s6_1).toNatClampNeg a1)) (upd (S6_adjectives (S6_set_noun s6_1 (upd (S6_noun s6_1) (S6_things s6_1).toNatClampNeg a1))) (S6_things (S6_set_noun s6_1 (upd (S6_noun s6_1) (S6_things s6_1).toNatClampNeg a1))).toNatClampNeg a2))) (S6_things (S6_set_adjectives (S6_set_noun s6_1 (upd (S6_noun s6_1) (S6_things s6_1).toNatClampNeg a1)) (upd (S6_adjectives (S6_set_noun s6_1 (upd (S6_noun s6_1) (S6_things s6_1).toNatClampNeg a1))) (S6_things (S6_set_noun s6_1 (upd (S6_noun s6_1) (S6_things s6_1).toNatClampNeg a1))).toNatClampNeg a2))).toNatClampNeg (vp_nar .boolean a3))))) hx hb hK hP hD hS 5 0 rfl rfl hi_6 dX6_thing_88 (fun H locs hP hD hS => ?_)
      have hP : va_P (dC, dI) vwCl (cf_6 cI cZ h6 h6a1 h6a2 h6a3 h6a4 h6a5 h6a7 h6a17 h6a18 (S6_set_place (S6_set_box (S6_set_adjectives (S6_set_noun s6_1 (upd (S6_noun s6_1) (S6_things s6_1).toNatClampNeg a1)) (upd (S6_adjectives (S6_set_noun s6_1 (upd (S6_noun s6_1) (S6_things s6_1).toNatClampNeg a1))) (S6_things (S6_set_noun s6_1 (upd (S6_noun s6_1) (S6_things s6_1).toNatClampNeg a1))).toNatClampNeg a2)) (upd (S6_box (S6_set_adjectives (S6_set_noun s6_1 (upd (S6_noun s6_1) (S6_things s6_1).toNatClampNeg a1)) (upd (S6_adjectives (S6_set_noun s6_1 (upd (S6_noun s6_1) (S6_things s6_1).toNatClampNeg a1))) (S6_things (S6_set_noun s6_1 (upd (S6_noun s6_1) (S6_things s6_1).toNatClampNeg a1))).toNatClampNeg a2))) (S6_things (S6_set_adjectives (S6_set_noun s6_1 (upd (S6_noun s6_1) (S6_things s6_1).toNatClampNeg a1)) (upd (S6_adjectives (S6_set_noun s6_1 (upd (S6_noun s6_1) (S6_things s6_1).toNatClampNeg a1))) (S6_things (S6_set_noun s6_1 (upd (S6_noun s6_1) (S6_things s6_1).toNatClampNeg a1))).toNatClampNeg a2))).toNatClampNeg (vp_nar .boolean a3))) (upd (S6_place (S6_set_box (S6_set_adjectives (S6_set_noun s6_1 (upd (S6_noun s6_1) (S6_things s6_1).toNatClampNeg a1)) (upd (S6_adjectives (S6_set_noun s6_1 (upd (S6_noun s6_1) (S6_things s6_1).toNatClampNeg a1))) (S6_things (S6_set_noun s6_1 (upd (S6_noun s6_1) (S6_things s6_1).toNatClampNeg a1))).toNatClampNeg a2)) (upd (S6_box (S6_set_adjectives (S6_set_noun s6_1 (upd (S6_noun s6_1) (S6_things s6_1).toNatClampNeg a1)) (upd (S6_adjectives (S6_set_noun s6_1 (upd (S6_noun s6_1) (S6_things s6_1).toNatClampNeg a1))) (S6_things (S6_set_noun s6_1 (upd (S6_noun s6_1) (S6_things s6_1).toNatClampNeg a1))).toNatClampNeg a2))) (S6_things (S6_set_adjectives (S6_set_noun s6_1 (upd (S6_noun s6_1) (S6_things s6_1).toNatClampNeg a1)) (upd (S6_adjectives (S6_set_noun s6_1 (upd (S6_noun s6_1) (S6_things s6_1).toNatClampNeg a1))) (S6_things (S6_set_noun s6_1 (upd (S6_noun s6_1) (S6_things s6_1).toNatClampNeg a1))).toNatClampNeg a2))).toNatClampNeg (vp_nar .boolean a3)))) (S6_things (S6_set_box (S6_set_adjectives (S6_set_noun s6_1 (upd (S6_noun s6_1) (S6_things s6_1).toNatClampNeg a1)) (upd (S6_adjectives (S6_set_noun s6_1 (upd (S6_noun s6_1) (S6_things s6_1).toNatClampNeg a1))) (S6_things (S6_set_noun s6_1 (upd (S6_noun s6_1) (S6_things s6_1).toNatClampNeg a1))).toNatClampNeg a2)) (upd (S6_box (S6_set_adjectives (S6_set_noun s6_1 (upd (S6_noun s6_1) (S6_things s6_1).toNatClampNeg a1)) (upd (S6_adjectives (S6_set_noun s6_1 (upd (S6_noun s6_1) (S6_things s6_1).toNatClampNeg a1))) (S6_things (S6_set_noun s6_1 (upd (S6_noun s6_1) (S6_things s6_1).toNatClampNeg a1))).toNatClampNeg a2))) (S6_things (S6_set_adjectives (S6_set_noun s6_1 (upd (S6_noun s6_1) (S6_things s6_1).toNatClampNeg a1)) (upd (S6_adjectives (S6_set_noun s6_1 (upd (S6_noun s6_1) (S6_things s6_1).toNatClampNeg a1))) (S6_things (S6_set_noun s6_1 (upd (S6_noun s6_1) (S6_things s6_1).toNatClampNeg a1))).toNatClampNeg a2))).toNatClampNeg (vp_nar .boolean a3)))).toNatClampNeg (-2)))) H := Eq.mp (congrArg (fun w => va_P (dC, dI) vwCl w H) (cs6_place cI cZ h6 h6a1 h6a2 h6a3 h6a4 h6a5 h6a7 h6a17 h6a18 (S6_set_box (S6_set_adjectives (S6_set_noun s6_1 (upd (S6_noun s6_1) (S6_things s6_1).toNatClampNeg a1)) (upd (S6_adjectives (S6_set_noun s6_1 (upd (S6_noun s6_1) (S6_things s6_1).toNatClampNeg a1))) (S6_things (S6_set_noun s6_1 (upd (S6_noun s6_1) (S6_things s6_1).toNatClampNeg a1))).toNatClampNeg a2)) (upd (S6_box (S6_set_adjectives (S6_set_noun s6_1 (upd (S6_noun s6_1) (S6_things s6_1).toNatClampNeg a1)) (upd (S6_adjectives (S6_set_noun s6_1 (upd (S6_noun s6_1) (S6_things s6_1).toNatClampNeg a1))) (S6_things (S6_set_noun s6_1 (upd (S6_noun s6_1) (S6_things s6_1).toNatClampNeg a1))).toNatClampNeg a2))) (S6_things (S6_set_adjectives (S6_set_noun s6_1 (upd (S6_noun s6_1) (S6_things s6_1).toNatClampNeg a1)) (upd (S6_adjectives (S6_set_noun s6_1 (upd (S6_noun s6_1) (S6_things s6_1).toNatClampNeg a1))) (S6_things (S6_set_noun s6_1 (upd (S6_noun s6_1) (S6_things s6_1).toNatClampNeg a1))).toNatClampNeg a2))).toNatClampNeg (vp_nar .boolean a3))) (upd (S6_place (S6_set_box (S6_set_adjectives (S6_set_noun s6_1 (upd (S6_noun s6_1) (S6_things s6_1).toNatClampNeg a1)) (upd (S6_adjectives (S6_set_noun s6_1 (upd (S6_noun s6_1) (S6_things s6_1).toNatClampNeg a1))) (S6_things (S6_set_noun s6_1 (upd (S6_noun s6_1) (S6_things s6_1).toNatClampNeg a1))).toNatClampNeg a2)) (upd (S6_box (S6_set_adjectives (S6_set_noun s6_1 (upd (S6_noun s6_1) (S6_things s6_1).toNatClampNeg a1)) (upd (S6_adjectives (S6_set_noun s6_1 (upd (S6_noun s6_1) (S6_things s6_1).toNatClampNeg a1))) (S6_things (S6_set_noun s6_1 (upd (S6_noun s6_1) (S6_things s6_1).toNatClampNeg a1))).toNatClampNeg a2))) (S6_things (S6_set_adjectives (S6_set_noun s6_1 (upd (S6_noun s6_1) (S6_things s6_1).toNatClampNeg a1)) (upd (S6_adjectives (S6_set_noun s6_1 (upd (S6_noun s6_1) (S6_things s6_1).toNatClampNeg a1))) (S6_things (S6_set_noun s6_1 (upd (S6_noun s6_1) (S6_things s6_1).toNatClampNeg a1))).toNatClampNeg a2))).toNatClampNeg (vp_nar .boolean a3)))) (S6_things (S6_set_box (S6_set_adjectives (S6_set_noun s6_1 (upd (S6_noun s6_1) (S6_things s6_1).toNatClampNeg a1)) (upd (S6_adjectives (S6_set_noun s6_1 (upd (S6_noun s6_1) (S6_things s6_1).toNatClampNeg a1))) (S6_things (S6_set_noun s6_1 (upd (S6_noun s6_1) (S6_things s6_1).toNatClampNeg a1))).toNatClampNeg a2)) (upd (S6_box (S6_set_adjectives (S6_set_noun s6_1 (upd (S6_noun s6_1) (S6_things s6_1).toNatClampNeg a1)) (upd (S6_adjectives (S6_set_noun s6_1 (upd (S6_noun s6_1) (S6_things s6_1).toNatClampNeg a1))) (S6_things (S6_set_noun s6_1 (upd (S6_noun s6_1) (S6_things s6_1).toNatClampNeg a1))).toNatClampNeg a2))) (S6_things (S6_set_adjectives (S6_set_noun s6_1 (upd (S6_noun s6_1) (S6_things s6_1).toNatClampNeg a1)) (upd (S6_adjectives (S6_set_noun s6_1 (upd (S6_noun s6_1) (S6_things s6_1).toNatClampNeg a1))) (S6_things (S6_set_noun s6_1 (upd (S6_noun s6_1) (S6_things s6_1).toNatClampNeg a1))).toNatClampNeg a2))).toNatClampNeg (vp_nar .boolean a3)))).toNatClampNeg (-2)))) hP
      have hD : va_D A (cf_6 cI cZ h6 h6a1 h6a2 h6a3 h6a4 h6a5 h6a7 h6a17 h6a18 (S6_set_place (S6_set_box (S6_set_adjectives (S6_set_noun s6_1 (upd (S6_noun s6_1) (S6_things s6_1).toNatClampNeg a1)) (upd (S6_adjectives (S6_set_noun s6_1 (upd (S6_noun s6_1) (S6_things s6_1).toNatClampNeg a1))) (S6_things (S6_set_noun s6_1 (upd (S6_noun s6_1) (S6_things s6_1).toNatClampNeg a1))).toNatClampNeg a2)) (upd (S6_box (S6_set_adjectives (S6_set_noun s6_1 (upd (S6_noun s6_1) (S6_things s6_1).toNatClampNeg a1)) (upd (S6_adjectives (S6_set_noun s6_1 (upd (S6_noun s6_1) (S6_things s6_1).toNatClampNeg a1))) (S6_things (S6_set_noun s6_1 (upd (S6_noun s6_1) (S6_things s6_1).toNatClampNeg a1))).toNatClampNeg a2))) (S6_things (S6_set_adjectives (S6_set_noun s6_1 (upd (S6_noun s6_1) (S6_things s6_1).toNatClampNeg a1)) (upd (S6_adjectives (S6_set_noun s6_1 (upd (S6_noun s6_1) (S6_things s6_1).toNatClampNeg a1))) (S6_things (S6_set_noun s6_1 (upd (S6_noun s6_1) (S6_things s6_1).toNatClampNeg a1))).toNatClampNeg a2))).toNatClampNeg (vp_nar .boolean a3))) (upd (S6_place (S6_set_box (S6_set_adjectives (S6_set_noun s6_1 (upd (S6_noun s6_1) (S6_things s6_1).toNatClampNeg a1)) (upd (S6_adjectives (S6_set_noun s6_1 (upd (S6_noun s6_1) (S6_things s6_1).toNatClampNeg a1))) (S6_things (S6_set_noun s6_1 (upd (S6_noun s6_1) (S6_things s6_1).toNatClampNeg a1))).toNatClampNeg a2)) (upd (S6_box (S6_set_adjectives (S6_set_noun s6_1 (upd (S6_noun s6_1) (S6_things s6_1).toNatClampNeg a1)) (upd (S6_adjectives (S6_set_noun s6_1 (upd (S6_noun s6_1) (S6_things s6_1).toNatClampNeg a1))) (S6_things (S6_set_noun s6_1 (upd (S6_noun s6_1) (S6_things s6_1).toNatClampNeg a1))).toNatClampNeg a2))) (S6_things (S6_set_adjectives (S6_set_noun s6_1 (upd (S6_noun s6_1) (S6_things s6_1).toNatClampNeg a1)) (upd (S6_adjectives (S6_set_noun s6_1 (upd (S6_noun s6_1) (S6_things s6_1).toNatClampNeg a1))) (S6_things (S6_set_noun s6_1 (upd (S6_noun s6_1) (S6_things s6_1).toNatClampNeg a1))).toNatClampNeg a2))).toNatClampNeg (vp_nar .boolean a3)))) (S6_things (S6_set_box (S6_set_adjectives (S6_set_noun s6_1 (upd (S6_noun s6_1) (S6_things s6_1).toNatClampNeg a1)) (upd (S6_adjectives (S6_set_noun s6_1 (upd (S6_noun s6_1) (S6_things s6_1).toNatClampNeg a1))) (S6_things (S6_set_noun s6_1 (upd (S6_noun s6_1) (S6_things s6_1).toNatClampNeg a1))).toNatClampNeg a2)) (upd (S6_box (S6_set_adjectives (S6_set_noun s6_1 (upd (S6_noun s6_1) (S6_things s6_1).toNatClampNeg a1)) (upd (S6_adjectives (S6_set_noun s6_1 (upd (S6_noun s6_1) (S6_things s6_1).toNatClampNeg a1))) (S6_things (S6_set_noun s6_1 (upd (S6_noun s6_1) (S6_things s6_1).toNatClampNeg a1))).toNatClampNeg a2))) (S6_things (S6_set_adjectives (S6_set_noun s6_1 (upd (S6_noun s6_1) (S6_things s6_1).toNatClampNeg a1)) (upd (S6_adjectives (S6_set_noun s6_1 (upd (S6_noun s6_1) (S6_things s6_1).toNatClampNeg a1))) (S6_things (S6_set_noun s6_1 (upd (S6_noun s6_1) (S6_things s6_1).toNatClampNeg a1))).toNatClampNeg a2))).toNatClampNeg (vp_nar .boolean a3)))).toNatClampNeg (-2)))) := Eq.mp (congrArg (fun w => va_D A w) (cs6_place cI cZ h6 h6a1 h6a2 h6a3 h6a4 h6a5 h6a7 h6a17 h6a18 (S6_set_box (S6_set_adjectives (S6_set_noun s6_1 (upd (S6_noun s6_1) (S6_things s6_1).toNatClampNeg a1)) (upd (S6_adjectives (S6_set_noun s6_1 (upd (S6_noun s6_1) (S6_things s6_1).toNatClampNeg a1))) (S6_things (S6_set_noun s6_1 (upd (S6_noun s6_1) (S6_things s6_1).toNatClampNeg a1))).toNatClampNeg a2)) (upd (S6_box (S6_set_adjectives (S6_set_noun s6_1 (upd (S6_noun s6_1) (S6_things s6_1).toNatClampNeg a1)) (upd (S6_adjectives (S6_set_noun s6_1 (upd (S6_noun s6_1) (S6_things s6_1).toNatClampNeg a1))) (S6_things (S6_set_noun s6_1 (upd (S6_noun s6_1) (S6_things s6_1).toNatClampNeg a1))).toNatClampNeg a2))) (S6_things (S6_set_adjectives (S6_set_noun s6_1 (upd (S6_noun s6_1) (S6_things s6_1).toNatClampNeg a1)) (upd (S6_adjectives (S6_set_noun s6_1 (upd (S6_noun s6_1) (S6_things s6_1).toNatClampNeg a1))) (S6_things (S6_set_noun s6_1 (upd (S6_noun s6_1) (S6_things s6_1).toNatClampNeg a1))).toNatClampNeg a2))).toNatClampNeg (vp_nar .boolean a3))) (upd (S6_place (S6_set_box (S6_set_adjectives (S6_set_noun s6_1 (upd (S6_noun s6_1) (S6_things s6_1).toNatClampNeg a1)) (upd (S6_adjectives (S6_set_noun s6_1 (upd (S6_noun s6_1) (S6_things s6_1).toNatClampNeg a1))) (S6_things (S6_set_noun s6_1 (upd (S6_noun s6_1) (S6_things s6_1).toNatClampNeg a1))).toNatClampNeg a2)) (upd (S6_box (S6_set_adjectives (S6_set_noun s6_1 (upd (S6_noun s6_1) (S6_things s6_1).toNatClampNeg a1)) (upd (S6_adjectives (S6_set_noun s6_1 (upd (S6_noun s6_1) (S6_things s6_1).toNatClampNeg a1))) (S6_things (S6_set_noun s6_1 (upd (S6_noun s6_1) (S6_things s6_1).toNatClampNeg a1))).toNatClampNeg a2))) (S6_things (S6_set_adjectives (S6_set_noun s6_1 (upd (S6_noun s6_1) (S6_things s6_1).toNatClampNeg a1)) (upd (S6_adjectives (S6_set_noun s6_1 (upd (S6_noun s6_1) (S6_things s6_1).toNatClampNeg a1))) (S6_things (S6_set_noun s6_1 (upd (S6_noun s6_1) (S6_things s6_1).toNatClampNeg a1))).toNatClampNeg a2))).toNatClampNeg (vp_nar .boolean a3)))) (S6_things (S6_set_box (S6_set_adjectives (S6_set_noun s6_1 (upd (S6_noun s6_1) (S6_things s6_1).toNatClampNeg a1)) (upd (S6_adjectives (S6_set_noun s6_1 (upd (S6_noun s6_1) (S6_things s6_1).toNatClampNeg a1))) (S6_things (S6_set_noun s6_1 (upd (S6_noun s6_1) (S6_things s6_1).toNatClampNeg a1))).toNatClampNeg a2)) (upd (S6_box (S6_set_adjectives (S6_set_noun s6_1 (upd (S6_noun s6_1) (S6_things s6_1).toNatClampNeg a1)) (upd (S6_adjectives (S6_set_noun s6_1 (upd (S6_noun s6_1) (S6_things s6_1).toNatClampNeg a1))) (S6_things (S6_set_noun s6_1 (upd (S6_noun s6_1) (S6_things s6_1).toNatClampNeg a1))).toNatClampNeg a2))) (S6_things (S6_set_adjectives (S6_set_noun s6_1 (upd (S6_noun s6_1) (S6_things s6_1).toNatClampNeg a1)) (upd (S6_adjectives (S6_set_noun s6_1 (upd (S6_noun s6_1) (S6_things s6_1).toNatClampNeg a1))) (S6_things (S6_set_noun s6_1 (upd (S6_noun s6_1) (S6_things s6_1).toNatClampNeg a1))).toNatClampNeg a2))).toNatClampNeg (vp_nar .boolean a3)))).toNatClampNeg (-2)))) hD
      refine lv_aload_n hx hb dX6_thing_89 rfl (lv_at hl 0 rfl) ?_
      refine lv_dup hx hb dX6_thing_90 rfl ?_
      refine va_get (D := (dC, dI)) (ci := 6) (v := .int (S6_things (S6_set_place (S6_set_box (S6_set_adjectives (S6_set_noun s6_1 (upd (S6_noun s6_1) (S6_things s6_1).toNatClampNeg a1)) (upd (S6_adjectives (S6_set_noun s6_1 (upd (S6_noun s6_1) (S6_things s6_1).toNatClampNeg a1))) (S6_things (S6_set_noun s6_1 (upd (S6_noun s6_1) (S6_things s6_1).toNatClampNeg a1))).toNatClampNeg a2)) (upd (S6_box (S6_set_adjectives (S6_set_noun s6_1 (upd (S6_noun s6_1) (S6_things s6_1).toNatClampNeg a1)) (upd (S6_adjectives (S6_set_noun s6_1 (upd (S6_noun s6_1) (S6_things s6_1).toNatClampNeg a1))) (S6_things (S6_set_noun s6_1 (upd (S6_noun s6_1) (S6_things s6_1).toNatClampNeg a1))).toNatClampNeg a2))) (S6_things (S6_set_adjectives (S6_set_noun s6_1 (upd (S6_noun s6_1) (S6_things s6_1).toNatClampNeg a1)) (upd (S6_adjectives (S6_set_noun s6_1 (upd (S6_noun s6_1) (S6_things s6_1).toNatClampNeg a1))) (S6_things (S6_set_noun s6_1 (upd (S6_noun s6_1) (S6_things s6_1).toNatClampNeg a1))).toNatClampNeg a2))).toNatClampNeg (vp_nar .boolean a3))) (upd (S6_place (S6_set_box (S6_set_adjectives (S6_set_noun s6_1 (upd (S6_noun s6_1) (S6_things s6_1).toNatClampNeg a1)) (upd (S6_adjectives (S6_set_noun s6_1 (upd (S6_noun s6_1) (S6_things s6_1).toNatClampNeg a1))) (S6_things (S6_set_noun s6_1 (upd (S6_noun s6_1) (S6_things s6_1).toNatClampNeg a1))).toNatClampNeg a2)) (upd (S6_box (S6_set_adjectives (S6_set_noun s6_1 (upd (S6_noun s6_1) (S6_things s6_1).toNatClampNeg a1)) (upd (S6_adjectives (S6_set_noun s6_1 (upd (S6_noun s6_1) (S6_things s6_1).toNatClampNeg a1))) (S6_things (S6_set_noun s6_1 (upd (S6_noun s6_1) (S6_things s6_1).toNatClampNeg a1))).toNatClampNeg a2))) (S6_things (S6_set_adjectives (S6_set_noun s6_1 (upd (S6_noun s6_1) (S6_things s6_1).toNatClampNeg a1)) (upd (S6_adjectives (S6_set_noun s6_1 (upd (S6_noun s6_1) (S6_things s6_1).toNatClampNeg a1))) (S6_things (S6_set_noun s6_1 (upd (S6_noun s6_1) (S6_things s6_1).toNatClampNeg a1))).toNatClampNeg a2))).toNatClampNeg (vp_nar .boolean a3)))) (S6_things (S6_set_box (S6_set_adjectives (S6_set_noun s6_1 (upd (S6_noun s6_1) (S6_things s6_1).toNatClampNeg a1)) (upd (S6_adjectives (S6_set_noun s6_1 (upd (S6_noun s6_1) (S6_things s6_1).toNatClampNeg a1))) (S6_things (S6_set_noun s6_1 (upd (S6_noun s6_1) (S6_things s6_1).toNatClampNeg a1))).toNatClampNeg a2)) (upd (S6_box (S6_set_adjectives (S6_set_noun s6_1 (upd (S6_noun s6_1) (S6_things s6_1).toNatClampNeg a1)) (upd (S6_adjectives (S6_set_noun s6_1 (upd (S6_noun s6_1) (S6_things s6_1).toNatClampNeg a1))) (S6_things (S6_set_noun s6_1 (upd (S6_noun s6_1) (S6_things s6_1).toNatClampNeg a1))).toNatClampNeg a2))) (S6_things (S6_set_adjectives (S6_set_noun s6_1 (upd (S6_noun s6_1) (S6_things s6_1).toNatClampNeg a1)) (upd (S6_adjectives (S6_set_noun s6_1 (upd (S6_noun s6_1) (S6_things s6_1).toNatClampNeg a1))) (S6_things (S6_set_noun s6_1 (upd (S6_noun s6_1) (S6_things s6_1).toNatClampNeg a1))).toNatClampNeg a2))).toNatClampNeg (vp_nar .boolean a3)))).toNatClampNeg (-2))))) (C := RX6) (T := TX6) (N := 25) hx hb hts in6 hown hK hP 0 rfl rfl 0 (by decide) fl57 (fun _ h9 => h9) rfl dX6_thing_91 ?_
      refine lv_iconst (v := 1) hx hb dX6_thing_94 (by decide) ?_
      refine lv_iadd hx hb dX6_thing_95 ?_
      refine va_put (D := (dC, dI)) (ci := 6) (v := .int ((S6_things (S6_set_place (S6_set_box (S6_set_adjectives (S6_set_noun s6_1 (upd (S6_noun s6_1) (S6_things s6_1).toNatClampNeg a1)) (upd (S6_adjectives (S6_set_noun s6_1 (upd (S6_noun s6_1) (S6_things s6_1).toNatClampNeg a1))) (S6_things (S6_set_noun s6_1 (upd (S6_noun s6_1) (S6_things s6_1).toNatClampNeg a1))).toNatClampNeg a2)) (upd (S6_box (S6_set_adjectives (S6_set_noun s6_1 (upd (S6_noun s6_1) (S6_things s6_1).toNatClampNeg a1)) (upd (S6_adjectives (S6_set_noun s6_1 (upd (S6_noun s6_1) (S6_things s6_1).toNatClampNeg a1))) (S6_things (S6_set_noun s6_1 (upd (S6_noun s6_1) (S6_things s6_1).toNatClampNeg a1))).toNatClampNeg a2))) (S6_things (S6_set_adjectives (S6_set_noun s6_1 (upd (S6_noun s6_1) (S6_things s6_1).toNatClampNeg a1)) (upd (S6_adjectives (S6_set_noun s6_1 (upd (S6_noun s6_1) (S6_things s6_1).toNatClampNeg a1))) (S6_things (S6_set_noun s6_1 (upd (S6_noun s6_1) (S6_things s6_1).toNatClampNeg a1))).toNatClampNeg a2))).toNatClampNeg (vp_nar .boolean a3))) (upd (S6_place (S6_set_box (S6_set_adjectives (S6_set_noun s6_1 (upd (S6_noun s6_1) (S6_things s6_1).toNatClampNeg a1)) (upd (S6_adjectives (S6_set_noun s6_1 (upd (S6_noun s6_1) (S6_things s6_1).toNatClampNeg a1))) (S6_things (S6_set_noun s6_1 (upd (S6_noun s6_1) (S6_things s6_1).toNatClampNeg a1))).toNatClampNeg a2)) (upd (S6_box (S6_set_adjectives (S6_set_noun s6_1 (upd (S6_noun s6_1) (S6_things s6_1).toNatClampNeg a1)) (upd (S6_adjectives (S6_set_noun s6_1 (upd (S6_noun s6_1) (S6_things s6_1).toNatClampNeg a1))) (S6_things (S6_set_noun s6_1 (upd (S6_noun s6_1) (S6_things s6_1).toNatClampNeg a1))).toNatClampNeg a2))) (S6_things (S6_set_adjectives (S6_set_noun s6_1 (upd (S6_noun s6_1) (S6_things s6_1).toNatClampNeg a1)) (upd (S6_adjectives (S6_set_noun s6_1 (upd (S6_noun s6_1) (S6_things s6_1).toNatClampNeg a1))) (S6_things (S6_set_noun s6_1 (upd (S6_noun s6_1) (S6_things s6_1).toNatClampNeg a1))).toNatClampNeg a2))).toNatClampNeg (vp_nar .boolean a3)))) (S6_things (S6_set_box (S6_set_adjectives (S6_set_noun s6_1 (upd (S6_noun s6_1) (S6_things s6_1).toNatClampNeg a1)) (upd (S6_adjectives (S6_set_noun s6_1 (upd (S6_noun s6_1) (S6_things s6_1).toNatClampNeg a1))) (S6_things (S6_set_noun s6_1 (upd (S6_noun s6_1) (S6_things s6_1).toNatClampNeg a1))).toNatClampNeg a2)) (upd (S6_box (S6_set_adjectives (S6_set_noun s6_1 (upd (S6_noun s6_1) (S6_things s6_1).toNatClampNeg a1)) (upd (S6_adjectives (S6_set_noun s6_1 (upd (S6_noun s6_1) (S6_things s6_1).toNatClampNeg a1))) (S6_things (S6_set_noun s6_1 (upd (S6_noun s6_1) (S6_things s6_1).toNatClampNeg a1))).toNatClampNeg a2))) (S6_things (S6_set_adjectives (S6_set_noun s6_1 (upd (S6_noun s6_1) (S6_things s6_1).toNatClampNeg a1)) (upd (S6_adjectives (S6_set_noun s6_1 (upd (S6_noun s6_1) (S6_things s6_1).toNatClampNeg a1))) (S6_things (S6_set_noun s6_1 (upd (S6_noun s6_1) (S6_things s6_1).toNatClampNeg a1))).toNatClampNeg a2))).toNatClampNeg (vp_nar .boolean a3)))).toNatClampNeg (-2)))) + 1)) (ty := .int) (C := RX6) (T := TX6) (N := 25) hx hb hts in6 tyX6 tyX6_ok nmX6 hown hK hP hD hS 0 rfl rfl 0 (by decide) fl57 (fun _ h9 => h9) rfl (by decide +kernel) rfl rfl (Nat.le_of_ble_eq_true rfl) dX6_thing_96 (fun H locs hP hD hS => ?_)
      have hP : va_P (dC, dI) vwCl (cf_6 cI cZ h6 h6a1 h6a2 h6a3 h6a4 h6a5 h6a7 h6a17 h6a18 (S6_set_things (S6_set_place (S6_set_box (S6_set_adjectives (S6_set_noun s6_1 (upd (S6_noun s6_1) (S6_things s6_1).toNatClampNeg a1)) (upd (S6_adjectives (S6_set_noun s6_1 (upd (S6_noun s6_1) (S6_things s6_1).toNatClampNeg a1))) (S6_things (S6_set_noun s6_1 (upd (S6_noun s6_1) (S6_things s6_1).toNatClampNeg a1))).toNatClampNeg a2)) (upd (S6_box (S6_set_adjectives (S6_set_noun s6_1 (upd (S6_noun s6_1) (S6_things s6_1).toNatClampNeg a1)) (upd (S6_adjectives (S6_set_noun s6_1 (upd (S6_noun s6_1) (S6_things s6_1).toNatClampNeg a1))) (S6_things (S6_set_noun s6_1 (upd (S6_noun s6_1) (S6_things s6_1).toNatClampNeg a1))).toNatClampNeg a2))) (S6_things (S6_set_adjectives (S6_set_noun s6_1 (upd (S6_noun s6_1) (S6_things s6_1).toNatClampNeg a1)) (upd (S6_adjectives (S6_set_noun s6_1 (upd (S6_noun s6_1) (S6_things s6_1).toNatClampNeg a1))) (S6_things (S6_set_noun s6_1 (upd (S6_noun s6_1) (S6_things s6_1).toNatClampNeg a1))).toNatClampNeg a2))).toNatClampNeg (vp_nar .boolean a3))) (upd (S6_place (S6_set_box (S6_set_adjectives (S6_set_noun s6_1 (upd (S6_noun s6_1) (S6_things s6_1).toNatClampNeg a1)) (upd (S6_adjectives (S6_set_noun s6_1 (upd (S6_noun s6_1) (S6_things s6_1).toNatClampNeg a1))) (S6_things (S6_set_noun s6_1 (upd (S6_noun s6_1) (S6_things s6_1).toNatClampNeg a1))).toNatClampNeg a2)) (upd (S6_box (S6_set_adjectives (S6_set_noun s6_1 (upd (S6_noun s6_1) (S6_things s6_1).toNatClampNeg a1)) (upd (S6_adjectives (S6_set_noun s6_1 (upd (S6_noun s6_1) (S6_things s6_1).toNatClampNeg a1))) (S6_things (S6_set_noun s6_1 (upd (S6_noun s6_1) (S6_things s6_1).toNatClampNeg a1))).toNatClampNeg a2))) (S6_things (S6_set_adjectives (S6_set_noun s6_1 (upd (S6_noun s6_1) (S6_things s6_1).toNatClampNeg a1)) (upd (S6_adjectives (S6_set_noun s6_1 (upd (S6_noun s6_1) (S6_things s6_1).toNatClampNeg a1))) (S6_things (S6_set_noun s6_1 (upd (S6_noun s6_1) (S6_things s6_1).toNatClampNeg a1))).toNatClampNeg a2))).toNatClampNeg (vp_nar .boolean a3)))) (S6_things (S6_set_box (S6_set_adjectives (S6_set_noun s6_1 (upd (S6_noun s6_1) (S6_things s6_1).toNatClampNeg a1)) (upd (S6_adjectives (S6_set_noun s6_1 (upd (S6_noun s6_1) (S6_things s6_1).toNatClampNeg a1))) (S6_things (S6_set_noun s6_1 (upd (S6_noun s6_1) (S6_things s6_1).toNatClampNeg a1))).toNatClampNeg a2)) (upd (S6_box (S6_set_adjectives (S6_set_noun s6_1 (upd (S6_noun s6_1) (S6_things s6_1).toNatClampNeg a1)) (upd (S6_adjectives (S6_set_noun s6_1 (upd (S6_noun s6_1) (S6_things s6_1).toNatClampNeg a1))) (S6_things (S6_set_noun s6_1 (upd (S6_noun s6_1) (S6_things s6_1).toNatClampNeg a1))).toNatClampNeg a2))) (S6_things (S6_set_adjectives (S6_set_noun s6_1 (upd (S6_noun s6_1) (S6_things s6_1).toNatClampNeg a1)) (upd (S6_adjectives (S6_set_noun s6_1 (upd (S6_noun s6_1) (S6_things s6_1).toNatClampNeg a1))) (S6_things (S6_set_noun s6_1 (upd (S6_noun s6_1) (S6_things s6_1).toNatClampNeg a1))).toNatClampNeg a2))).toNatClampNeg (vp_nar .boolean a3)))).toNatClampNeg (-2))) ((S6_things (S6_set_place (S6_set_box (S6_set_adjectives (S6_set_noun s6_1 (upd (S6_noun s6_1) (S6_things s6_1).toNatClampNeg a1)) (upd (S6_adjectives (S6_set_noun s6_1 (upd (S6_noun s6_1) (S6_things s6_1).toNatClampNeg a1))) (S6_things (S6_set_noun s6_1 (upd (S6_noun s6_1) (S6_things s6_1).toNatClampNeg a1))).toNatClampNeg a2)) (upd (S6_box (S6_set_adjectives (S6_set_noun s6_1 (upd (S6_noun s6_1) (S6_things s6_1).toNatClampNeg a1)) (upd (S6_adjectives (S6_set_noun s6_1 (upd (S6_noun s6_1) (S6_things s6_1).toNatClampNeg a1))) (S6_things (S6_set_noun s6_1 (upd (S6_noun s6_1) (S6_things s6_1).toNatClampNeg a1))).toNatClampNeg a2))) (S6_things (S6_set_adjectives (S6_set_noun s6_1 (upd (S6_noun s6_1) (S6_things s6_1).toNatClampNeg a1)) (upd (S6_adjectives (S6_set_noun s6_1 (upd (S6_noun s6_1) (S6_things s6_1).toNatClampNeg a1))) (S6_things (S6_set_noun s6_1 (upd (S6_noun s6_1) (S6_things s6_1).toNatClampNeg a1))).toNatClampNeg a2))).toNatClampNeg (vp_nar .boolean a3))) (upd (S6_place (S6_set_box (S6_set_adjectives (S6_set_noun s6_1 (upd (S6_noun s6_1) (S6_things s6_1).toNatClampNeg a1)) (upd (S6_adjectives (S6_set_noun s6_1 (upd (S6_noun s6_1) (S6_things s6_1).toNatClampNeg a1))) (S6_things (S6_set_noun s6_1 (upd (S6_noun s6_1) (S6_things s6_1).toNatClampNeg a1))).toNatClampNeg a2)) (upd (S6_box (S6_set_adjectives (S6_set_noun s6_1 (upd (S6_noun s6_1) (S6_things s6_1).toNatClampNeg a1)) (upd (S6_adjectives (S6_set_noun s6_1 (upd (S6_noun s6_1) (S6_things s6_1).toNatClampNeg a1))) (S6_things (S6_set_noun s6_1 (upd (S6_noun s6_1) (S6_things s6_1).toNatClampNeg a1))).toNatClampNeg a2))) (S6_things (S6_set_adjectives (S6_set_noun s6_1 (upd (S6_noun s6_1) (S6_things s6_1).toNatClampNeg a1)) (upd (S6_adjectives (S6_set_noun s6_1 (upd (S6_noun s6_1) (S6_things s6_1).toNatClampNeg a1))) (S6_things (S6_set_noun s6_1 (upd (S6_noun s6_1) (S6_things s6_1).toNatClampNeg a1))).toNatClampNeg a2))).toNatClampNeg (vp_nar .boolean a3)))) (S6_things (S6_set_box (S6_set_adjectives (S6_set_noun s6_1 (upd (S6_noun s6_1) (S6_things s6_1).toNatClampNeg a1)) (upd (S6_adjectives (S6_set_noun s6_1 (upd (S6_noun s6_1) (S6_things s6_1).toNatClampNeg a1))) (S6_things (S6_set_noun s6_1 (upd (S6_noun s6_1) (S6_things s6_1).toNatClampNeg a1))).toNatClampNeg a2)) (upd (S6_box (S6_set_adjectives (S6_set_noun s6_1 (upd (S6_noun s6_1) (S6_things s6_1).toNatClampNeg a1)) (upd (S6_adjectives (S6_set_noun s6_1 (upd (S6_noun s6_1) (S6_things s6_1).toNatClampNeg a1))) (S6_things (S6_set_noun s6_1 (upd (S6_noun s6_1) (S6_things s6_1).toNatClampNeg a1))).toNatClampNeg a2))) (S6_things (S6_set_adjectives (S6_set_noun s6_1 (upd (S6_noun s6_1) (S6_things s6_1).toNatClampNeg a1)) (upd (S6_adjectives (S6_set_noun s6_1 (upd (S6_noun s6_1) (S6_things s6_1).toNatClampNeg a1))) (S6_things (S6_set_noun s6_1 (upd (S6_noun s6_1) (S6_things s6_1).toNatClampNeg a1))).toNatClampNeg a2))).toNatClampNeg (vp_nar .boolean a3)))).toNatClampNeg (-2)))) + 1))) H := Eq.mp (congrArg (fun w => va_P (dC, dI) vwCl w H) (cs6_things cI cZ h6 h6a1 h6a2 h6a3 h6a4 h6a5 h6a7 h6a17 h6a18 (S6_set_place (S6_set_box (S6_set_adjectives (S6_set_noun s6_1 (upd (S6_noun s6_1) (S6_things s6_1).toNatClampNeg a1)) (upd (S6_adjectives (S6_set_noun s6_1 (upd (S6_noun s6_1) (S6_things s6_1).toNatClampNeg a1))) (S6_things (S6_set_noun s6_1 (upd (S6_noun s6_1) (S6_things s6_1).toNatClampNeg a1))).toNatClampNeg a2)) (upd (S6_box (S6_set_adjectives (S6_set_noun s6_1 (upd (S6_noun s6_1) (S6_things s6_1).toNatClampNeg a1)) (upd (S6_adjectives (S6_set_noun s6_1 (upd (S6_noun s6_1) (S6_things s6_1).toNatClampNeg a1))) (S6_things (S6_set_noun s6_1 (upd (S6_noun s6_1) (S6_things s6_1).toNatClampNeg a1))).toNatClampNeg a2))) (S6_things (S6_set_adjectives (S6_set_noun s6_1 (upd (S6_noun s6_1) (S6_things s6_1).toNatClampNeg a1)) (upd (S6_adjectives (S6_set_noun s6_1 (upd (S6_noun s6_1) (S6_things s6_1).toNatClampNeg a1))) (S6_things (S6_set_noun s6_1 (upd (S6_noun s6_1) (S6_things s6_1).toNatClampNeg a1))).toNatClampNeg a2))).toNatClampNeg (vp_nar .boolean a3))) (upd (S6_place (S6_set_box (S6_set_adjectives (S6_set_noun s6_1 (upd (S6_noun s6_1) (S6_things s6_1).toNatClampNeg a1)) (upd (S6_adjectives (S6_set_noun s6_1 (upd (S6_noun s6_1) (S6_things s6_1).toNatClampNeg a1))) (S6_things (S6_set_noun s6_1 (upd (S6_noun s6_1) (S6_things s6_1).toNatClampNeg a1))).toNatClampNeg a2)) (upd (S6_box (S6_set_adjectives (S6_set_noun s6_1 (upd (S6_noun s6_1) (S6_things s6_1).toNatClampNeg a1)) (upd (S6_adjectives (S6_set_noun s6_1 (upd (S6_noun s6_1) (S6_things s6_1).toNatClampNeg a1))) (S6_things (S6_set_noun s6_1 (upd (S6_noun s6_1) (S6_things s6_1).toNatClampNeg a1))).toNatClampNeg a2))) (S6_things (S6_set_adjectives (S6_set_noun s6_1 (upd (S6_noun s6_1) (S6_things s6_1).toNatClampNeg a1)) (upd (S6_adjectives (S6_set_noun s6_1 (upd (S6_noun s6_1) (S6_things s6_1).toNatClampNeg a1))) (S6_things (S6_set_noun s6_1 (upd (S6_noun s6_1) (S6_things s6_1).toNatClampNeg a1))).toNatClampNeg a2))).toNatClampNeg (vp_nar .boolean a3)))) (S6_things (S6_set_box (S6_set_adjectives (S6_set_noun s6_1 (upd (S6_noun s6_1) (S6_things s6_1).toNatClampNeg a1)) (upd (S6_adjectives (S6_set_noun s6_1 (upd (S6_noun s6_1) (S6_things s6_1).toNatClampNeg a1))) (S6_things (S6_set_noun s6_1 (upd (S6_noun s6_1) (S6_things s6_1).toNatClampNeg a1))).toNatClampNeg a2)) (upd (S6_box (S6_set_adjectives (S6_set_noun s6_1 (upd (S6_noun s6_1) (S6_things s6_1).toNatClampNeg a1)) (upd (S6_adjectives (S6_set_noun s6_1 (upd (S6_noun s6_1) (S6_things s6_1).toNatClampNeg a1))) (S6_things (S6_set_noun s6_1 (upd (S6_noun s6_1) (S6_things s6_1).toNatClampNeg a1))).toNatClampNeg a2))) (S6_things (S6_set_adjectives (S6_set_noun s6_1 (upd (S6_noun s6_1) (S6_things s6_1).toNatClampNeg a1)) (upd (S6_adjectives (S6_set_noun s6_1 (upd (S6_noun s6_1) (S6_things s6_1).toNatClampNeg a1))) (S6_things (S6_set_noun s6_1 (upd (S6_noun s6_1) (S6_things s6_1).toNatClampNeg a1))).toNatClampNeg a2))).toNatClampNeg (vp_nar .boolean a3)))).toNatClampNeg (-2))) ((S6_things (S6_set_place (S6_set_box (S6_set_adjectives (S6_set_noun s6_1 (upd (S6_noun s6_1) (S6_things s6_1).toNatClampNeg a1)) (upd (S6_adjectives (S6_set_noun s6_1 (upd (S6_noun s6_1) (S6_things s6_1).toNatClampNeg a1))) (S6_things (S6_set_noun s6_1 (upd (S6_noun s6_1) (S6_things s6_1).toNatClampNeg a1))).toNatClampNeg a2)) (upd (S6_box (S6_set_adjectives (S6_set_noun s6_1 (upd (S6_noun s6_1) (S6_things s6_1).toNatClampNeg a1)) (upd (S6_adjectives (S6_set_noun s6_1 (upd (S6_noun s6_1) (S6_things s6_1).toNatClampNeg a1))) (S6_things (S6_set_noun s6_1 (upd (S6_noun s6_1) (S6_things s6_1).toNatClampNeg a1))).toNatClampNeg a2))) (S6_things (S6_set_adjectives (S6_set_noun s6_1 (upd (S6_noun s6_1) (S6_things s6_1).toNatClampNeg a1)) (upd (S6_adjectives (S6_set_noun s6_1 (upd (S6_noun s6_1) (S6_things s6_1).toNatClampNeg a1))) (S6_things (S6_set_noun s6_1 (upd (S6_noun s6_1) (S6_things s6_1).toNatClampNeg a1))).toNatClampNeg a2))).toNatClampNeg (vp_nar .boolean a3))) (upd (S6_place (S6_set_box (S6_set_adjectives (S6_set_noun s6_1 (upd (S6_noun s6_1) (S6_things s6_1).toNatClampNeg a1)) (upd (S6_adjectives (S6_set_noun s6_1 (upd (S6_noun s6_1) (S6_things s6_1).toNatClampNeg a1))) (S6_things (S6_set_noun s6_1 (upd (S6_noun s6_1) (S6_things s6_1).toNatClampNeg a1))).toNatClampNeg a2)) (upd (S6_box (S6_set_adjectives (S6_set_noun s6_1 (upd (S6_noun s6_1) (S6_things s6_1).toNatClampNeg a1)) (upd (S6_adjectives (S6_set_noun s6_1 (upd (S6_noun s6_1) (S6_things s6_1).toNatClampNeg a1))) (S6_things (S6_set_noun s6_1 (upd (S6_noun s6_1) (S6_things s6_1).toNatClampNeg a1))).toNatClampNeg a2))) (S6_things (S6_set_adjectives (S6_set_noun s6_1 (upd (S6_noun s6_1) (S6_things s6_1).toNatClampNeg a1)) (upd (S6_adjectives (S6_set_noun s6_1 (upd (S6_noun s6_1) (S6_things s6_1).toNatClampNeg a1))) (S6_things (S6_set_noun s6_1 (upd (S6_noun s6_1) (S6_things s6_1).toNatClampNeg a1))).toNatClampNeg a2))).toNatClampNeg (vp_nar .boolean a3)))) (S6_things (S6_set_box (S6_set_adjectives (S6_set_noun s6_1 (upd (S6_noun s6_1) (S6_things s6_1).toNatClampNeg a1)) (upd (S6_adjectives (S6_set_noun s6_1 (upd (S6_noun s6_1) (S6_things s6_1).toNatClampNeg a1))) (S6_things (S6_set_noun s6_1 (upd (S6_noun s6_1) (S6_things s6_1).toNatClampNeg a1))).toNatClampNeg a2)) (upd (S6_box (S6_set_adjectives (S6_set_noun s6_1 (upd (S6_noun s6_1) (S6_things s6_1).toNatClampNeg a1)) (upd (S6_adjectives (S6_set_noun s6_1 (upd (S6_noun s6_1) (S6_things s6_1).toNatClampNeg a1))) (S6_things (S6_set_noun s6_1 (upd (S6_noun s6_1) (S6_things s6_1).toNatClampNeg a1))).toNatClampNeg a2))) (S6_things (S6_set_adjectives (S6_set_noun s6_1 (upd (S6_noun s6_1) (S6_things s6_1).toNatClampNeg a1)) (upd (S6_adjectives (S6_set_noun s6_1 (upd (S6_noun s6_1) (S6_things s6_1).toNatClampNeg a1))) (S6_things (S6_set_noun s6_1 (upd (S6_noun s6_1) (S6_things s6_1).toNatClampNeg a1))).toNatClampNeg a2))).toNatClampNeg (vp_nar .boolean a3)))).toNatClampNeg (-2)))) + 1))) hP
      have hD : va_D A (cf_6 cI cZ h6 h6a1 h6a2 h6a3 h6a4 h6a5 h6a7 h6a17 h6a18 (S6_set_things (S6_set_place (S6_set_box (S6_set_adjectives (S6_set_noun s6_1 (upd (S6_noun s6_1) (S6_things s6_1).toNatClampNeg a1)) (upd (S6_adjectives (S6_set_noun s6_1 (upd (S6_noun s6_1) (S6_things s6_1).toNatClampNeg a1))) (S6_things (S6_set_noun s6_1 (upd (S6_noun s6_1) (S6_things s6_1).toNatClampNeg a1))).toNatClampNeg a2)) (upd (S6_box (S6_set_adjectives (S6_set_noun s6_1 (upd (S6_noun s6_1) (S6_things s6_1).toNatClampNeg a1)) (upd (S6_adjectives (S6_set_noun s6_1 (upd (S6_noun s6_1) (S6_things s6_1).toNatClampNeg a1))) (S6_things (S6_set_noun s6_1 (upd (S6_noun s6_1) (S6_things s6_1).toNatClampNeg a1))).toNatClampNeg a2))) (S6_things (S6_set_adjectives (S6_set_noun s6_1 (upd (S6_noun s6_1) (S6_things s6_1).toNatClampNeg a1)) (upd (S6_adjectives (S6_set_noun s6_1 (upd (S6_noun s6_1) (S6_things s6_1).toNatClampNeg a1))) (S6_things (S6_set_noun s6_1 (upd (S6_noun s6_1) (S6_things s6_1).toNatClampNeg a1))).toNatClampNeg a2))).toNatClampNeg (vp_nar .boolean a3))) (upd (S6_place (S6_set_box (S6_set_adjectives (S6_set_noun s6_1 (upd (S6_noun s6_1) (S6_things s6_1).toNatClampNeg a1)) (upd (S6_adjectives (S6_set_noun s6_1 (upd (S6_noun s6_1) (S6_things s6_1).toNatClampNeg a1))) (S6_things (S6_set_noun s6_1 (upd (S6_noun s6_1) (S6_things s6_1).toNatClampNeg a1))).toNatClampNeg a2)) (upd (S6_box (S6_set_adjectives (S6_set_noun s6_1 (upd (S6_noun s6_1) (S6_things s6_1).toNatClampNeg a1)) (upd (S6_adjectives (S6_set_noun s6_1 (upd (S6_noun s6_1) (S6_things s6_1).toNatClampNeg a1))) (S6_things (S6_set_noun s6_1 (upd (S6_noun s6_1) (S6_things s6_1).toNatClampNeg a1))).toNatClampNeg a2))) (S6_things (S6_set_adjectives (S6_set_noun s6_1 (upd (S6_noun s6_1) (S6_things s6_1).toNatClampNeg a1)) (upd (S6_adjectives (S6_set_noun s6_1 (upd (S6_noun s6_1) (S6_things s6_1).toNatClampNeg a1))) (S6_things (S6_set_noun s6_1 (upd (S6_noun s6_1) (S6_things s6_1).toNatClampNeg a1))).toNatClampNeg a2))).toNatClampNeg (vp_nar .boolean a3)))) (S6_things (S6_set_box (S6_set_adjectives (S6_set_noun s6_1 (upd (S6_noun s6_1) (S6_things s6_1).toNatClampNeg a1)) (upd (S6_adjectives (S6_set_noun s6_1 (upd (S6_noun s6_1) (S6_things s6_1).toNatClampNeg a1))) (S6_things (S6_set_noun s6_1 (upd (S6_noun s6_1) (S6_things s6_1).toNatClampNeg a1))).toNatClampNeg a2)) (upd (S6_box (S6_set_adjectives (S6_set_noun s6_1 (upd (S6_noun s6_1) (S6_things s6_1).toNatClampNeg a1)) (upd (S6_adjectives (S6_set_noun s6_1 (upd (S6_noun s6_1) (S6_things s6_1).toNatClampNeg a1))) (S6_things (S6_set_noun s6_1 (upd (S6_noun s6_1) (S6_things s6_1).toNatClampNeg a1))).toNatClampNeg a2))) (S6_things (S6_set_adjectives (S6_set_noun s6_1 (upd (S6_noun s6_1) (S6_things s6_1).toNatClampNeg a1)) (upd (S6_adjectives (S6_set_noun s6_1 (upd (S6_noun s6_1) (S6_things s6_1).toNatClampNeg a1))) (S6_things (S6_set_noun s6_1 (upd (S6_noun s6_1) (S6_things s6_1).toNatClampNeg a1))).toNatClampNeg a2))).toNatClampNeg (vp_nar .boolean a3)))).toNatClampNeg (-2))) ((S6_things (S6_set_place (S6_set_box (S6_set_adjectives (S6_set_noun s6_1 (upd (S6_noun s6_1) (S6_things s6_1).toNatClampNeg a1)) (upd (S6_adjectives (S6_set_noun s6_1 (upd (S6_noun s6_1) (S6_things s6_1).toNatClampNeg a1))) (S6_things (S6_set_noun s6_1 (upd (S6_noun s6_1) (S6_things s6_1).toNatClampNeg a1))).toNatClampNeg a2)) (upd (S6_box (S6_set_adjectives (S6_set_noun s6_1 (upd (S6_noun s6_1) (S6_things s6_1).toNatClampNeg a1)) (upd (S6_adjectives (S6_set_noun s6_1 (upd (S6_noun s6_1) (S6_things s6_1).toNatClampNeg a1))) (S6_things (S6_set_noun s6_1 (upd (S6_noun s6_1) (S6_things s6_1).toNatClampNeg a1))).toNatClampNeg a2))) (S6_things (S6_set_adjectives (S6_set_noun s6_1 (upd (S6_noun s6_1) (S6_things s6_1).toNatClampNeg a1)) (upd (S6_adjectives (S6_set_noun s6_1 (upd (S6_noun s6_1) (S6_things s6_1).toNatClampNeg a1))) (S6_things (S6_set_noun s6_1 (upd (S6_noun s6_1) (S6_things s6_1).toNatClampNeg a1))).toNatClampNeg a2))).toNatClampNeg (vp_nar .boolean a3))) (upd (S6_place (S6_set_box (S6_set_adjectives (S6_set_noun s6_1 (upd (S6_noun s6_1) (S6_things s6_1).toNatClampNeg a1)) (upd (S6_adjectives (S6_set_noun s6_1 (upd (S6_noun s6_1) (S6_things s6_1).toNatClampNeg a1))) (S6_things (S6_set_noun s6_1 (upd (S6_noun s6_1) (S6_things s6_1).toNatClampNeg a1))).toNatClampNeg a2)) (upd (S6_box (S6_set_adjectives (S6_set_noun s6_1 (upd (S6_noun s6_1) (S6_things s6_1).toNatClampNeg a1)) (upd (S6_adjectives (S6_set_noun s6_1 (upd (S6_noun s6_1) (S6_things s6_1).toNatClampNeg a1))) (S6_things (S6_set_noun s6_1 (upd (S6_noun s6_1) (S6_things s6_1).toNatClampNeg a1))).toNatClampNeg a2))) (S6_things (S6_set_adjectives (S6_set_noun s6_1 (upd (S6_noun s6_1) (S6_things s6_1).toNatClampNeg a1)) (upd (S6_adjectives (S6_set_noun s6_1 (upd (S6_noun s6_1) (S6_things s6_1).toNatClampNeg a1))) (S6_things (S6_set_noun s6_1 (upd (S6_noun s6_1) (S6_things s6_1).toNatClampNeg a1))).toNatClampNeg a2))).toNatClampNeg (vp_nar .boolean a3)))) (S6_things (S6_set_box (S6_set_adjectives (S6_set_noun s6_1 (upd (S6_noun s6_1) (S6_things s6_1).toNatClampNeg a1)) (upd (S6_adjectives (S6_set_noun s6_1 (upd (S6_noun s6_1) (S6_things s6_1).toNatClampNeg a1))) (S6_things (S6_set_noun s6_1 (upd (S6_noun s6_1) (S6_things s6_1).toNatClampNeg a1))).toNatClampNeg a2)) (upd (S6_box (S6_set_adjectives (S6_set_noun s6_1 (upd (S6_noun s6_1) (S6_things s6_1).toNatClampNeg a1)) (upd (S6_adjectives (S6_set_noun s6_1 (upd (S6_noun s6_1) (S6_things s6_1).toNatClampNeg a1))) (S6_things (S6_set_noun s6_1 (upd (S6_noun s6_1) (S6_things s6_1).toNatClampNeg a1))).toNatClampNeg a2))) (S6_things (S6_set_adjectives (S6_set_noun s6_1 (upd (S6_noun s6_1) (S6_things s6_1).toNatClampNeg a1)) (upd (S6_adjectives (S6_set_noun s6_1 (upd (S6_noun s6_1) (S6_things s6_1).toNatClampNeg a1))) (S6_things (S6_set_noun s6_1 (upd (S6_noun s6_1) (S6_things s6_1).toNatClampNeg a1))).toNatClampNeg a2))).toNatClampNeg (vp_nar .boolean a3)))).toNatClampNeg (-2)))) + 1))) := Eq.mp (congrArg (fun w => va_D A w) (cs6_things cI cZ h6 h6a1 h6a2 h6a3 h6a4 h6a5 h6a7 h6a17 h6a18 (S6_set_place (S6_set_box (S6_set_adjectives (S6_set_noun s6_1 (upd (S6_noun s6_1) (S6_things s6_1).toNatClampNeg a1)) (upd (S6_adjectives (S6_set_noun s6_1 (upd (S6_noun s6_1) (S6_things s6_1).toNatClampNeg a1))) (S6_things (S6_set_noun s6_1 (upd (S6_noun s6_1) (S6_things s6_1).toNatClampNeg a1))).toNatClampNeg a2)) (upd (S6_box (S6_set_adjectives (S6_set_noun s6_1 (upd (S6_noun s6_1) (S6_things s6_1).toNatClampNeg a1)) (upd (S6_adjectives (S6_set_noun s6_1 (upd (S6_noun s6_1) (S6_things s6_1).toNatClampNeg a1))) (S6_things (S6_set_noun s6_1 (upd (S6_noun s6_1) (S6_things s6_1).toNatClampNeg a1))).toNatClampNeg a2))) (S6_things (S6_set_adjectives (S6_set_noun s6_1 (upd (S6_noun s6_1) (S6_things s6_1).toNatClampNeg a1)) (upd (S6_adjectives (S6_set_noun s6_1 (upd (S6_noun s6_1) (S6_things s6_1).toNatClampNeg a1))) (S6_things (S6_set_noun s6_1 (upd (S6_noun s6_1) (S6_things s6_1).toNatClampNeg a1))).toNatClampNeg a2))).toNatClampNeg (vp_nar .boolean a3))) (upd (S6_place (S6_set_box (S6_set_adjectives (S6_set_noun s6_1 (upd (S6_noun s6_1) (S6_things s6_1).toNatClampNeg a1)) (upd (S6_adjectives (S6_set_noun s6_1 (upd (S6_noun s6_1) (S6_things s6_1).toNatClampNeg a1))) (S6_things (S6_set_noun s6_1 (upd (S6_noun s6_1) (S6_things s6_1).toNatClampNeg a1))).toNatClampNeg a2)) (upd (S6_box (S6_set_adjectives (S6_set_noun s6_1 (upd (S6_noun s6_1) (S6_things s6_1).toNatClampNeg a1)) (upd (S6_adjectives (S6_set_noun s6_1 (upd (S6_noun s6_1) (S6_things s6_1).toNatClampNeg a1))) (S6_things (S6_set_noun s6_1 (upd (S6_noun s6_1) (S6_things s6_1).toNatClampNeg a1))).toNatClampNeg a2))) (S6_things (S6_set_adjectives (S6_set_noun s6_1 (upd (S6_noun s6_1) (S6_things s6_1).toNatClampNeg a1)) (upd (S6_adjectives (S6_set_noun s6_1 (upd (S6_noun s6_1) (S6_things s6_1).toNatClampNeg a1))) (S6_things (S6_set_noun s6_1 (upd (S6_noun s6_1) (S6_things s6_1).toNatClampNeg a1))).toNatClampNeg a2))).toNatClampNeg (vp_nar .boolean a3)))) (S6_things (S6_set_box (S6_set_adjectives (S6_set_noun s6_1 (upd (S6_noun s6_1) (S6_things s6_1).toNatClampNeg a1)) (upd (S6_adjectives (S6_set_noun s6_1 (upd (S6_noun s6_1) (S6_things s6_1).toNatClampNeg a1))) (S6_things (S6_set_noun s6_1 (upd (S6_noun s6_1) (S6_things s6_1).toNatClampNeg a1))).toNatClampNeg a2)) (upd (S6_box (S6_set_adjectives (S6_set_noun s6_1 (upd (S6_noun s6_1) (S6_things s6_1).toNatClampNeg a1)) (upd (S6_adjectives (S6_set_noun s6_1 (upd (S6_noun s6_1) (S6_things s6_1).toNatClampNeg a1))) (S6_things (S6_set_noun s6_1 (upd (S6_noun s6_1) (S6_things s6_1).toNatClampNeg a1))).toNatClampNeg a2))) (S6_things (S6_set_adjectives (S6_set_noun s6_1 (upd (S6_noun s6_1) (S6_things s6_1).toNatClampNeg a1)) (upd (S6_adjectives (S6_set_noun s6_1 (upd (S6_noun s6_1) (S6_things s6_1).toNatClampNeg a1))) (S6_things (S6_set_noun s6_1 (upd (S6_noun s6_1) (S6_things s6_1).toNatClampNeg a1))).toNatClampNeg a2))).toNatClampNeg (vp_nar .boolean a3)))).toNatClampNeg (-2))) ((S6_things (S6_set_place (S6_set_box (S6_set_adjectives (S6_set_noun s6_1 (upd (S6_noun s6_1) (S6_things s6_1).toNatClampNeg a1)) (upd (S6_adjectives (S6_set_noun s6_1 (upd (S6_noun s6_1) (S6_things s6_1).toNatClampNeg a1))) (S6_things (S6_set_noun s6_1 (upd (S6_noun s6_1) (S6_things s6_1).toNatClampNeg a1))).toNatClampNeg a2)) (upd (S6_box (S6_set_adjectives (S6_set_noun s6_1 (upd (S6_noun s6_1) (S6_things s6_1).toNatClampNeg a1)) (upd (S6_adjectives (S6_set_noun s6_1 (upd (S6_noun s6_1) (S6_things s6_1).toNatClampNeg a1))) (S6_things (S6_set_noun s6_1 (upd (S6_noun s6_1) (S6_things s6_1).toNatClampNeg a1))).toNatClampNeg a2))) (S6_things (S6_set_adjectives (S6_set_noun s6_1 (upd (S6_noun s6_1) (S6_things s6_1).toNatClampNeg a1)) (upd (S6_adjectives (S6_set_noun s6_1 (upd (S6_noun s6_1) (S6_things s6_1).toNatClampNeg a1))) (S6_things (S6_set_noun s6_1 (upd (S6_noun s6_1) (S6_things s6_1).toNatClampNeg a1))).toNatClampNeg a2))).toNatClampNeg (vp_nar .boolean a3))) (upd (S6_place (S6_set_box (S6_set_adjectives (S6_set_noun s6_1 (upd (S6_noun s6_1) (S6_things s6_1).toNatClampNeg a1)) (upd (S6_adjectives (S6_set_noun s6_1 (upd (S6_noun s6_1) (S6_things s6_1).toNatClampNeg a1))) (S6_things (S6_set_noun s6_1 (upd (S6_noun s6_1) (S6_things s6_1).toNatClampNeg a1))).toNatClampNeg a2)) (upd (S6_box (S6_set_adjectives (S6_set_noun s6_1 (upd (S6_noun s6_1) (S6_things s6_1).toNatClampNeg a1)) (upd (S6_adjectives (S6_set_noun s6_1 (upd (S6_noun s6_1) (S6_things s6_1).toNatClampNeg a1))) (S6_things (S6_set_noun s6_1 (upd (S6_noun s6_1) (S6_things s6_1).toNatClampNeg a1))).toNatClampNeg a2))) (S6_things (S6_set_adjectives (S6_set_noun s6_1 (upd (S6_noun s6_1) (S6_things s6_1).toNatClampNeg a1)) (upd (S6_adjectives (S6_set_noun s6_1 (upd (S6_noun s6_1) (S6_things s6_1).toNatClampNeg a1))) (S6_things (S6_set_noun s6_1 (upd (S6_noun s6_1) (S6_things s6_1).toNatClampNeg a1))).toNatClampNeg a2))).toNatClampNeg (vp_nar .boolean a3)))) (S6_things (S6_set_box (S6_set_adjectives (S6_set_noun s6_1 (upd (S6_noun s6_1) (S6_things s6_1).toNatClampNeg a1)) (upd (S6_adjectives (S6_set_noun s6_1 (upd (S6_noun s6_1) (S6_things s6_1).toNatClampNeg a1))) (S6_things (S6_set_noun s6_1 (upd (S6_noun s6_1) (S6_things s6_1).toNatClampNeg a1))).toNatClampNeg a2)) (upd (S6_box (S6_set_adjectives (S6_set_noun s6_1 (upd (S6_noun s6_1) (S6_things s6_1).toNatClampNeg a1)) (upd (S6_adjectives (S6_set_noun s6_1 (upd (S6_noun s6_1) (S6_things s6_1).toNatClampNeg a1))) (S6_things (S6_set_noun s6_1 (upd (S6_noun s6_1) (S6_things s6_1).toNatClampNeg a1))).toNatClampNeg a2))) (S6_things (S6_set_adjectives (S6_set_noun s6_1 (upd (S6_noun s6_1) (S6_things s6_1).toNatClampNeg a1)) (upd (S6_adjectives (S6_set_noun s6_1 (upd (S6_noun s6_1) (S6_things s6_1).toNatClampNeg a1))) (S6_things (S6_set_noun s6_1 (upd (S6_noun s6_1) (S6_things s6_1).toNatClampNeg a1))).toNatClampNeg a2))).toNatClampNeg (vp_nar .boolean a3)))).toNatClampNeg (-2)))) + 1))) hD
      refine lv_aload_n hx hb dX6_thing_99 rfl (lv_at hl 0 rfl) ?_
      refine va_get (D := (dC, dI)) (ci := 6) (v := .int (S6_things (S6_set_things (S6_set_place (S6_set_box (S6_set_adjectives (S6_set_noun s6_1 (upd (S6_noun s6_1) (S6_things s6_1).toNatClampNeg a1)) (upd (S6_adjectives (S6_set_noun s6_1 (upd (S6_noun s6_1) (S6_things s6_1).toNatClampNeg a1))) (S6_things (S6_set_noun s6_1 (upd (S6_noun s6_1) (S6_things s6_1).toNatClampNeg a1))).toNatClampNeg a2)) (upd (S6_box (S6_set_adjectives (S6_set_noun s6_1 (upd (S6_noun s6_1) (S6_things s6_1).toNatClampNeg a1)) (upd (S6_adjectives (S6_set_noun s6_1 (upd (S6_noun s6_1) (S6_things s6_1).toNatClampNeg a1))) (S6_things (S6_set_noun s6_1 (upd (S6_noun s6_1) (S6_things s6_1).toNatClampNeg a1))).toNatClampNeg a2))) (S6_things (S6_set_adjectives (S6_set_noun s6_1 (upd (S6_noun s6_1) (S6_things s6_1).toNatClampNeg a1)) (upd (S6_adjectives (S6_set_noun s6_1 (upd (S6_noun s6_1) (S6_things s6_1).toNatClampNeg a1))) (S6_things (S6_set_noun s6_1 (upd (S6_noun s6_1) (S6_things s6_1).toNatClampNeg a1))).toNatClampNeg a2))).toNatClampNeg (vp_nar .boolean a3))) (upd (S6_place (S6_set_box (S6_set_adjectives (S6_set_noun s6_1 (upd (S6_noun s6_1) (S6_things s6_1).toNatClampNeg a1)) (upd (S6_adjectives (S6_set_noun s6_1 (upd (S6_noun s6_1) (S6_things s6_1).toNatClampNeg a1))) (S6_things (S6_set_noun s6_1 (upd (S6_noun s6_1) (S6_things s6_1).toNatClampNeg a1))).toNatClampNeg a2)) (upd (S6_box (S6_set_adjectives (S6_set_noun s6_1 (upd (S6_noun s6_1) (S6_things s6_1).toNatClampNeg a1)) (upd (S6_adjectives (S6_set_noun s6_1 (upd (S6_noun s6_1) (S6_things s6_1).toNatClampNeg a1))) (S6_things (S6_set_noun s6_1 (upd (S6_noun s6_1) (S6_things s6_1).toNatClampNeg a1))).toNatClampNeg a2))) (S6_things (S6_set_adjectives (S6_set_noun s6_1 (upd (S6_noun s6_1) (S6_things s6_1).toNatClampNeg a1)) (upd (S6_adjectives (S6_set_noun s6_1 (upd (S6_noun s6_1) (S6_things s6_1).toNatClampNeg a1))) (S6_things (S6_set_noun s6_1 (upd (S6_noun s6_1) (S6_things s6_1).toNatClampNeg a1))).toNatClampNeg a2))).toNatClampNeg (vp_nar .boolean a3)))) (S6_things (S6_set_box (S6_set_adjectives (S6_set_noun s6_1 (upd (S6_noun s6_1) (S6_things s6_1).toNatClampNeg a1)) (upd (S6_adjectives (S6_set_noun s6_1 (upd (S6_noun s6_1) (S6_things s6_1).toNatClampNeg a1))) (S6_things (S6_set_noun s6_1 (upd (S6_noun s6_1) (S6_things s6_1).toNatClampNeg a1))).toNatClampNeg a2)) (upd (S6_box (S6_set_adjectives (S6_set_noun s6_1 (upd (S6_noun s6_1) (S6_things s6_1).toNatClampNeg a1)) (upd (S6_adjectives (S6_set_noun s6_1 (upd (S6_noun s6_1) (S6_things s6_1).toNatClampNeg a1))) (S6_things (S6_set_noun s6_1 (upd (S6_noun s6_1) (S6_things s6_1).toNatClampNeg a1))).toNatClampNeg a2))) (S6_things (S6_set_adjectives (S6_set_noun s6_1 (upd (S6_noun s6_1) (S6_things s6_1).toNatClampNeg a1)) (upd (S6_adjectives (S6_set_noun s6_1 (upd (S6_noun s6_1) (S6_things s6_1).toNatClampNeg a1))) (S6_things (S6_set_noun s6_1 (upd (S6_noun s6_1) (S6_things s6_1).toNatClampNeg a1))).toNatClampNeg a2))).toNatClampNeg (vp_nar .boolean a3)))).toNatClampNeg (-2))) ((S6_things (S6_set_place (S6_set_box (S6_set_adjectives (S6_set_noun s6_1 (upd (S6_noun s6_1) (S6_things s6_1).toNatClampNeg a1)) (upd (S6_adjectives (S6_set_noun s6_1 (upd (S6_noun s6_1) (S6_things s6_1).toNatClampNeg a1))) (S6_things (S6_set_noun s6_1 (upd (S6_noun s6_1) (S6_things s6_1).toNatClampNeg a1))).toNatClampNeg a2)) (upd (S6_box (S6_set_adjectives (S6_set_noun s6_1 (upd (S6_noun s6_1) (S6_things s6_1).toNatClampNeg a1)) (upd (S6_adjectives (S6_set_noun s6_1 (upd (S6_noun s6_1) (S6_things s6_1).toNatClampNeg a1))) (S6_things (S6_set_noun s6_1 (upd (S6_noun s6_1) (S6_things s6_1).toNatClampNeg a1))).toNatClampNeg a2))) (S6_things (S6_set_adjectives (S6_set_noun s6_1 (upd (S6_noun s6_1) (S6_things s6_1).toNatClampNeg a1)) (upd (S6_adjectives (S6_set_noun s6_1 (upd (S6_noun s6_1) (S6_things s6_1).toNatClampNeg a1))) (S6_things (S6_set_noun s6_1 (upd (S6_noun s6_1) (S6_things s6_1).toNatClampNeg a1))).toNatClampNeg a2))).toNatClampNeg (vp_nar .boolean a3))) (upd (S6_place (S6_set_box (S6_set_adjectives (S6_set_noun s6_1 (upd (S6_noun s6_1) (S6_things s6_1).toNatClampNeg a1)) (upd (S6_adjectives (S6_set_noun s6_1 (upd (S6_noun s6_1) (S6_things s6_1).toNatClampNeg a1))) (S6_things (S6_set_noun s6_1 (upd (S6_noun s6_1) (S6_things s6_1).toNatClampNeg a1))).toNatClampNeg a2)) (upd (S6_box (S6_set_adjectives (S6_set_noun s6_1 (upd (S6_noun s6_1) (S6_things s6_1).toNatClampNeg a1)) (upd (S6_adjectives (S6_set_noun s6_1 (upd (S6_noun s6_1) (S6_things s6_1).toNatClampNeg a1))) (S6_things (S6_set_noun s6_1 (upd (S6_noun s6_1) (S6_things s6_1).toNatClampNeg a1))).toNatClampNeg a2))) (S6_things (S6_set_adjectives (S6_set_noun s6_1 (upd (S6_noun s6_1) (S6_things s6_1).toNatClampNeg a1)) (upd (S6_adjectives (S6_set_noun s6_1 (upd (S6_noun s6_1) (S6_things s6_1).toNatClampNeg a1))) (S6_things (S6_set_noun s6_1 (upd (S6_noun s6_1) (S6_things s6_1).toNatClampNeg a1))).toNatClampNeg a2))).toNatClampNeg (vp_nar .boolean a3)))) (S6_things (S6_set_box (S6_set_adjectives (S6_set_noun s6_1 (upd (S6_noun s6_1) (S6_things s6_1).toNatClampNeg a1)) (upd (S6_adjectives (S6_set_noun s6_1 (upd (S6_noun s6_1) (S6_things s6_1).toNatClampNeg a1))) (S6_things (S6_set_noun s6_1 (upd (S6_noun s6_1) (S6_things s6_1).toNatClampNeg a1))).toNatClampNeg a2)) (upd (S6_box (S6_set_adjectives (S6_set_noun s6_1 (upd (S6_noun s6_1) (S6_things s6_1).toNatClampNeg a1)) (upd (S6_adjectives (S6_set_noun s6_1 (upd (S6_noun s6_1) (S6_things s6_1).toNatClampNeg a1))) (S6_things (S6_set_noun s6_1 (upd (S6_noun s6_1) (S6_things s6_1).toNatClampNeg a1))).toNatClampNeg a2))) (S6_things (S6_set_adjectives (S6_set_noun s6_1 (upd (S6_noun s6_1) (S6_things s6_1).toNatClampNeg a1)) (upd (S6_adjectives (S6_set_noun s6_1 (upd (S6_noun s6_1) (S6_things s6_1).toNatClampNeg a1))) (S6_things (S6_set_noun s6_1 (upd (S6_noun s6_1) (S6_things s6_1).toNatClampNeg a1))).toNatClampNeg a2))).toNatClampNeg (vp_nar .boolean a3)))).toNatClampNeg (-2)))) + 1)))) (C := RX6) (T := TX6) (N := 25) hx hb hts in6 hown hK hP 0 rfl rfl 0 (by decide) fl57 (fun _ h9 => h9) rfl dX6_thing_100 ?_
      refine lv_iconst (v := 1) hx hb dX6_thing_103 (by decide) ?_
      refine lv_isub hx hb dX6_thing_104 ?_
      have hf : (some (((S6_things (S6_set_things (S6_set_place (S6_set_box (S6_set_adjectives (S6_set_noun s6_1 (upd (S6_noun s6_1) (S6_things s6_1).toNatClampNeg a1)) (upd (S6_adjectives (S6_set_noun s6_1 (upd (S6_noun s6_1) (S6_things s6_1).toNatClampNeg a1))) (S6_things (S6_set_noun s6_1 (upd (S6_noun s6_1) (S6_things s6_1).toNatClampNeg a1))).toNatClampNeg a2)) (upd (S6_box (S6_set_adjectives (S6_set_noun s6_1 (upd (S6_noun s6_1) (S6_things s6_1).toNatClampNeg a1)) (upd (S6_adjectives (S6_set_noun s6_1 (upd (S6_noun s6_1) (S6_things s6_1).toNatClampNeg a1))) (S6_things (S6_set_noun s6_1 (upd (S6_noun s6_1) (S6_things s6_1).toNatClampNeg a1))).toNatClampNeg a2))) (S6_things (S6_set_adjectives (S6_set_noun s6_1 (upd (S6_noun s6_1) (S6_things s6_1).toNatClampNeg a1)) (upd (S6_adjectives (S6_set_noun s6_1 (upd (S6_noun s6_1) (S6_things s6_1).toNatClampNeg a1))) (S6_things (S6_set_noun s6_1 (upd (S6_noun s6_1) (S6_things s6_1).toNatClampNeg a1))).toNatClampNeg a2))).toNatClampNeg (vp_nar .boolean a3))) (upd (S6_place (S6_set_box (S6_set_adjectives (S6_set_noun s6_1 (upd (S6_noun s6_1) (S6_things s6_1).toNatClampNeg a1)) (upd (S6_adjectives (S6_set_noun s6_1 (upd (S6_noun s6_1) (S6_things s6_1).toNatClampNeg a1))) (S6_things (S6_set_noun s6_1 (upd (S6_noun s6_1) (S6_things s6_1).toNatClampNeg a1))).toNatClampNeg a2)) (upd (S6_box (S6_set_adjectives (S6_set_noun s6_1 (upd (S6_noun s6_1) (S6_things s6_1).toNatClampNeg a1)) (upd (S6_adjectives (S6_set_noun s6_1 (upd (S6_noun s6_1) (S6_things s6_1).toNatClampNeg a1))) (S6_things (S6_set_noun s6_1 (upd (S6_noun s6_1) (S6_things s6_1).toNatClampNeg a1))).toNatClampNeg a2))) (S6_things (S6_set_adjectives (S6_set_noun s6_1 (upd (S6_noun s6_1) (S6_things s6_1).toNatClampNeg a1)) (upd (S6_adjectives (S6_set_noun s6_1 (upd (S6_noun s6_1) (S6_things s6_1).toNatClampNeg a1))) (S6_things (S6_set_noun s6_1 (upd (S6_noun s6_1) (S6_things s6_1).toNatClampNeg a1))).toNatClampNeg a2))).toNatClampNeg (vp_nar .boolean a3)))) (S6_things (S6_set_box (S6_set_adjectives (S6_set_noun s6_1 (upd (S6_noun s6_1) (S6_things s6_1).toNatClampNeg a1)) (upd (S6_adjectives (S6_set_noun s6_1 (upd (S6_noun s6_1) (S6_things s6_1).toNatClampNeg a1))) (S6_things (S6_set_noun s6_1 (upd (S6_noun s6_1) (S6_things s6_1).toNatClampNeg a1))).toNatClampNeg a2)) (upd (S6_box (S6_set_adjectives (S6_set_noun s6_1 (upd (S6_noun s6_1) (S6_things s6_1).toNatClampNeg a1)) (upd (S6_adjectives (S6_set_noun s6_1 (upd (S6_noun s6_1) (S6_things s6_1).toNatClampNeg a1))) (S6_things (S6_set_noun s6_1 (upd (S6_noun s6_1) (S6_things s6_1).toNatClampNeg a1))).toNatClampNeg a2))) (S6_things (S6_set_adjectives (S6_set_noun s6_1 (upd (S6_noun s6_1) (S6_things s6_1).toNatClampNeg a1)) (upd (S6_adjectives (S6_set_noun s6_1 (upd (S6_noun s6_1) (S6_things s6_1).toNatClampNeg a1))) (S6_things (S6_set_noun s6_1 (upd (S6_noun s6_1) (S6_things s6_1).toNatClampNeg a1))).toNatClampNeg a2))).toNatClampNeg (vp_nar .boolean a3)))).toNatClampNeg (-2))) ((S6_things (S6_set_place (S6_set_box (S6_set_adjectives (S6_set_noun s6_1 (upd (S6_noun s6_1) (S6_things s6_1).toNatClampNeg a1)) (upd (S6_adjectives (S6_set_noun s6_1 (upd (S6_noun s6_1) (S6_things s6_1).toNatClampNeg a1))) (S6_things (S6_set_noun s6_1 (upd (S6_noun s6_1) (S6_things s6_1).toNatClampNeg a1))).toNatClampNeg a2)) (upd (S6_box (S6_set_adjectives (S6_set_noun s6_1 (upd (S6_noun s6_1) (S6_things s6_1).toNatClampNeg a1)) (upd (S6_adjectives (S6_set_noun s6_1 (upd (S6_noun s6_1) (S6_things s6_1).toNatClampNeg a1))) (S6_things (S6_set_noun s6_1 (upd (S6_noun s6_1) (S6_things s6_1).toNatClampNeg a1))).toNatClampNeg a2))) (S6_things (S6_set_adjectives (S6_set_noun s6_1 (upd (S6_noun s6_1) (S6_things s6_1).toNatClampNeg a1)) (upd (S6_adjectives (S6_set_noun s6_1 (upd (S6_noun s6_1) (S6_things s6_1).toNatClampNeg a1))) (S6_things (S6_set_noun s6_1 (upd (S6_noun s6_1) (S6_things s6_1).toNatClampNeg a1))).toNatClampNeg a2))).toNatClampNeg (vp_nar .boolean a3))) (upd (S6_place (S6_set_box (S6_set_adjectives (S6_set_noun s6_1 (upd (S6_noun s6_1) (S6_things s6_1).toNatClampNeg a1)) (upd (S6_adjectives (S6_set_noun s6_1 (upd (S6_noun s6_1) (S6_things s6_1).toNatClampNeg a1))) (S6_things (S6_set_noun s6_1 (upd (S6_noun s6_1) (S6_things s6_1).toNatClampNeg a1))).toNatClampNeg a2)) (upd (S6_box (S6_set_adjectives (S6_set_noun s6_1 (upd (S6_noun s6_1) (S6_things s6_1).toNatClampNeg a1)) (upd (S6_adjectives (S6_set_noun s6_1 (upd (S6_noun s6_1) (S6_things s6_1).toNatClampNeg a1))) (S6_things (S6_set_noun s6_1 (upd (S6_noun s6_1) (S6_things s6_1).toNatClampNeg a1))).toNatClampNeg a2))) (S6_things (S6_set_adjectives (S6_set_noun s6_1 (upd (S6_noun s6_1) (S6_things s6_1).toNatClampNeg a1)) (upd (S6_adjectives (S6_set_noun s6_1 (upd (S6_noun s6_1) (S6_things s6_1).toNatClampNeg a1))) (S6_things (S6_set_noun s6_1 (upd (S6_noun s6_1) (S6_things s6_1).toNatClampNeg a1))).toNatClampNeg a2))).toNatClampNeg (vp_nar .boolean a3)))) (S6_things (S6_set_box (S6_set_adjectives (S6_set_noun s6_1 (upd (S6_noun s6_1) (S6_things s6_1).toNatClampNeg a1)) (upd (S6_adjectives (S6_set_noun s6_1 (upd (S6_noun s6_1) (S6_things s6_1).toNatClampNeg a1))) (S6_things (S6_set_noun s6_1 (upd (S6_noun s6_1) (S6_things s6_1).toNatClampNeg a1))).toNatClampNeg a2)) (upd (S6_box (S6_set_adjectives (S6_set_noun s6_1 (upd (S6_noun s6_1) (S6_things s6_1).toNatClampNeg a1)) (upd (S6_adjectives (S6_set_noun s6_1 (upd (S6_noun s6_1) (S6_things s6_1).toNatClampNeg a1))) (S6_things (S6_set_noun s6_1 (upd (S6_noun s6_1) (S6_things s6_1).toNatClampNeg a1))).toNatClampNeg a2))) (S6_things (S6_set_adjectives (S6_set_noun s6_1 (upd (S6_noun s6_1) (S6_things s6_1).toNatClampNeg a1)) (upd (S6_adjectives (S6_set_noun s6_1 (upd (S6_noun s6_1) (S6_things s6_1).toNatClampNeg a1))) (S6_things (S6_set_noun s6_1 (upd (S6_noun s6_1) (S6_things s6_1).toNatClampNeg a1))).toNatClampNeg a2))).toNatClampNeg (vp_nar .boolean a3)))).toNatClampNeg (-2)))) + 1))) - 1), (S6_set_things (S6_set_place (S6_set_box (S6_set_adjectives (S6_set_noun s6_1 (upd (S6_noun s6_1) (S6_things s6_1).toNatClampNeg a1)) (upd (S6_adjectives (S6_set_noun s6_1 (upd (S6_noun s6_1) (S6_things s6_1).toNatClampNeg a1))) (S6_things (S6_set_noun s6_1 (upd (S6_noun s6_1) (S6_things s6_1).toNatClampNeg a1))).toNatClampNeg a2)) (upd (S6_box (S6_set_adjectives (S6_set_noun s6_1 (upd (S6_noun s6_1) (S6_things s6_1).toNatClampNeg a1)) (upd (S6_adjectives (S6_set_noun s6_1 (upd (S6_noun s6_1) (S6_things s6_1).toNatClampNeg a1))) (S6_things (S6_set_noun s6_1 (upd (S6_noun s6_1) (S6_things s6_1).toNatClampNeg a1))).toNatClampNeg a2))) (S6_things (S6_set_adjectives (S6_set_noun s6_1 (upd (S6_noun s6_1) (S6_things s6_1).toNatClampNeg a1)) (upd (S6_adjectives (S6_set_noun s6_1 (upd (S6_noun s6_1) (S6_things s6_1).toNatClampNeg a1))) (S6_things (S6_set_noun s6_1 (upd (S6_noun s6_1) (S6_things s6_1).toNatClampNeg a1))).toNatClampNeg a2))).toNatClampNeg (vp_nar .boolean a3))) (upd (S6_place (S6_set_box (S6_set_adjectives (S6_set_noun s6_1 (upd (S6_noun s6_1) (S6_things s6_1).toNatClampNeg a1)) (upd (S6_adjectives (S6_set_noun s6_1 (upd (S6_noun s6_1) (S6_things s6_1).toNatClampNeg a1))) (S6_things (S6_set_noun s6_1 (upd (S6_noun s6_1) (S6_things s6_1).toNatClampNeg a1))).toNatClampNeg a2)) (upd (S6_box (S6_set_adjectives (S6_set_noun s6_1 (upd (S6_noun s6_1) (S6_things s6_1).toNatClampNeg a1)) (upd (S6_adjectives (S6_set_noun s6_1 (upd (S6_noun s6_1) (S6_things s6_1).toNatClampNeg a1))) (S6_things (S6_set_noun s6_1 (upd (S6_noun s6_1) (S6_things s6_1).toNatClampNeg a1))).toNatClampNeg a2))) (S6_things (S6_set_adjectives (S6_set_noun s6_1 (upd (S6_noun s6_1) (S6_things s6_1).toNatClampNeg a1)) (upd (S6_adjectives (S6_set_noun s6_1 (upd (S6_noun s6_1) (S6_things s6_1).toNatClampNeg a1))) (S6_things (S6_set_noun s6_1 (upd (S6_noun s6_1) (S6_things s6_1).toNatClampNeg a1))).toNatClampNeg a2))).toNatClampNeg (vp_nar .boolean a3)))) (S6_things (S6_set_box (S6_set_adjectives (S6_set_noun s6_1 (upd (S6_noun s6_1) (S6_things s6_1).toNatClampNeg a1)) (upd (S6_adjectives (S6_set_noun s6_1 (upd (S6_noun s6_1) (S6_things s6_1).toNatClampNeg a1))) (S6_things (S6_set_noun s6_1 (upd (S6_noun s6_1) (S6_things s6_1).toNatClampNeg a1))).toNatClampNeg a2)) (upd (S6_box (S6_set_adjectives (S6_set_noun s6_1 (upd (S6_noun s6_1) (S6_things s6_1).toNatClampNeg a1)) (upd (S6_adjectives (S6_set_noun s6_1 (upd (S6_noun s6_1) (S6_things s6_1).toNatClampNeg a1))) (S6_things (S6_set_noun s6_1 (upd (S6_noun s6_1) (S6_things s6_1).toNatClampNeg a1))).toNatClampNeg a2))) (S6_things (S6_set_adjectives (S6_set_noun s6_1 (upd (S6_noun s6_1) (S6_things s6_1).toNatClampNeg a1)) (upd (S6_adjectives (S6_set_noun s6_1 (upd (S6_noun s6_1) (S6_things s6_1).toNatClampNeg a1))) (S6_things (S6_set_noun s6_1 (upd (S6_noun s6_1) (S6_things s6_1).toNatClampNeg a1))).toNatClampNeg a2))).toNatClampNeg (vp_nar .boolean a3)))).toNatClampNeg (-2))) ((S6_things (S6_set_place (S6_set_box (S6_set_adjectives (S6_set_noun s6_1 (upd (S6_noun s6_1) (S6_things s6_1).toNatClampNeg a1)) (upd (S6_adjectives (S6_set_noun s6_1 (upd (S6_noun s6_1) (S6_things s6_1).toNatClampNeg a1))) (S6_things (S6_set_noun s6_1 (upd (S6_noun s6_1) (S6_things s6_1).toNatClampNeg a1))).toNatClampNeg a2)) (upd (S6_box (S6_set_adjectives (S6_set_noun s6_1 (upd (S6_noun s6_1) (S6_things s6_1).toNatClampNeg a1)) (upd (S6_adjectives (S6_set_noun s6_1 (upd (S6_noun s6_1) (S6_things s6_1).toNatClampNeg a1))) (S6_things (S6_set_noun s6_1 (upd (S6_noun s6_1) (S6_things s6_1).toNatClampNeg a1))).toNatClampNeg a2))) (S6_things (S6_set_adjectives (S6_set_noun s6_1 (upd (S6_noun s6_1) (S6_things s6_1).toNatClampNeg a1)) (upd (S6_adjectives (S6_set_noun s6_1 (upd (S6_noun s6_1) (S6_things s6_1).toNatClampNeg a1))) (S6_things (S6_set_noun s6_1 (upd (S6_noun s6_1) (S6_things s6_1).toNatClampNeg a1))).toNatClampNeg a2))).toNatClampNeg (vp_nar .boolean a3))) (upd (S6_place (S6_set_box (S6_set_adjectives (S6_set_noun s6_1 (upd (S6_noun s6_1) (S6_things s6_1).toNatClampNeg a1)) (upd (S6_adjectives (S6_set_noun s6_1 (upd (S6_noun s6_1) (S6_things s6_1).toNatClampNeg a1))) (S6_things (S6_set_noun s6_1 (upd (S6_noun s6_1) (S6_things s6_1).toNatClampNeg a1))).toNatClampNeg a2)) (upd (S6_box (S6_set_adjectives (S6_set_noun s6_1 (upd (S6_noun s6_1) (S6_things s6_1).toNatClampNeg a1)) (upd (S6_adjectives (S6_set_noun s6_1 (upd (S6_noun s6_1) (S6_things s6_1).toNatClampNeg a1))) (S6_things (S6_set_noun s6_1 (upd (S6_noun s6_1) (S6_things s6_1).toNatClampNeg a1))).toNatClampNeg a2))) (S6_things (S6_set_adjectives (S6_set_noun s6_1 (upd (S6_noun s6_1) (S6_things s6_1).toNatClampNeg a1)) (upd (S6_adjectives (S6_set_noun s6_1 (upd (S6_noun s6_1) (S6_things s6_1).toNatClampNeg a1))) (S6_things (S6_set_noun s6_1 (upd (S6_noun s6_1) (S6_things s6_1).toNatClampNeg a1))).toNatClampNeg a2))).toNatClampNeg (vp_nar .boolean a3)))) (S6_things (S6_set_box (S6_set_adjectives (S6_set_noun s6_1 (upd (S6_noun s6_1) (S6_things s6_1).toNatClampNeg a1)) (upd (S6_adjectives (S6_set_noun s6_1 (upd (S6_noun s6_1) (S6_things s6_1).toNatClampNeg a1))) (S6_things (S6_set_noun s6_1 (upd (S6_noun s6_1) (S6_things s6_1).toNatClampNeg a1))).toNatClampNeg a2)) (upd (S6_box (S6_set_adjectives (S6_set_noun s6_1 (upd (S6_noun s6_1) (S6_things s6_1).toNatClampNeg a1)) (upd (S6_adjectives (S6_set_noun s6_1 (upd (S6_noun s6_1) (S6_things s6_1).toNatClampNeg a1))) (S6_things (S6_set_noun s6_1 (upd (S6_noun s6_1) (S6_things s6_1).toNatClampNeg a1))).toNatClampNeg a2))) (S6_things (S6_set_adjectives (S6_set_noun s6_1 (upd (S6_noun s6_1) (S6_things s6_1).toNatClampNeg a1)) (upd (S6_adjectives (S6_set_noun s6_1 (upd (S6_noun s6_1) (S6_things s6_1).toNatClampNeg a1))) (S6_things (S6_set_noun s6_1 (upd (S6_noun s6_1) (S6_things s6_1).toNatClampNeg a1))).toNatClampNeg a2))).toNatClampNeg (vp_nar .boolean a3)))).toNatClampNeg (-2)))) + 1))) : Option (Int32 × S6)) = some (r, s6f) := hf
      have he := Option.some.inj hf
      have he0 : ((S6_things (S6_set_things (S6_set_place (S6_set_box (S6_set_adjectives (S6_set_noun s6_1 (upd (S6_noun s6_1) (S6_things s6_1).toNatClampNeg a1)) (upd (S6_adjectives (S6_set_noun s6_1 (upd (S6_noun s6_1) (S6_things s6_1).toNatClampNeg a1))) (S6_things (S6_set_noun s6_1 (upd (S6_noun s6_1) (S6_things s6_1).toNatClampNeg a1))).toNatClampNeg a2)) (upd (S6_box (S6_set_adjectives (S6_set_noun s6_1 (upd (S6_noun s6_1) (S6_things s6_1).toNatClampNeg a1)) (upd (S6_adjectives (S6_set_noun s6_1 (upd (S6_noun s6_1) (S6_things s6_1).toNatClampNeg a1))) (S6_things (S6_set_noun s6_1 (upd (S6_noun s6_1) (S6_things s6_1).toNatClampNeg a1))).toNatClampNeg a2))) (S6_things (S6_set_adjectives (S6_set_noun s6_1 (upd (S6_noun s6_1) (S6_things s6_1).toNatClampNeg a1)) (upd (S6_adjectives (S6_set_noun s6_1 (upd (S6_noun s6_1) (S6_things s6_1).toNatClampNeg a1))) (S6_things (S6_set_noun s6_1 (upd (S6_noun s6_1) (S6_things s6_1).toNatClampNeg a1))).toNatClampNeg a2))).toNatClampNeg (vp_nar .boolean a3))) (upd (S6_place (S6_set_box (S6_set_adjectives (S6_set_noun s6_1 (upd (S6_noun s6_1) (S6_things s6_1).toNatClampNeg a1)) (upd (S6_adjectives (S6_set_noun s6_1 (upd (S6_noun s6_1) (S6_things s6_1).toNatClampNeg a1))) (S6_things (S6_set_noun s6_1 (upd (S6_noun s6_1) (S6_things s6_1).toNatClampNeg a1))).toNatClampNeg a2)) (upd (S6_box (S6_set_adjectives (S6_set_noun s6_1 (upd (S6_noun s6_1) (S6_things s6_1).toNatClampNeg a1)) (upd (S6_adjectives (S6_set_noun s6_1 (upd (S6_noun s6_1) (S6_things s6_1).toNatClampNeg a1))) (S6_things (S6_set_noun s6_1 (upd (S6_noun s6_1) (S6_things s6_1).toNatClampNeg a1))).toNatClampNeg a2))) (S6_things (S6_set_adjectives (S6_set_noun s6_1 (upd (S6_noun s6_1) (S6_things s6_1).toNatClampNeg a1)) (upd (S6_adjectives (S6_set_noun s6_1 (upd (S6_noun s6_1) (S6_things s6_1).toNatClampNeg a1))) (S6_things (S6_set_noun s6_1 (upd (S6_noun s6_1) (S6_things s6_1).toNatClampNeg a1))).toNatClampNeg a2))).toNatClampNeg (vp_nar .boolean a3)))) (S6_things (S6_set_box (S6_set_adjectives (S6_set_noun s6_1 (upd (S6_noun s6_1) (S6_things s6_1).toNatClampNeg a1)) (upd (S6_adjectives (S6_set_noun s6_1 (upd (S6_noun s6_1) (S6_things s6_1).toNatClampNeg a1))) (S6_things (S6_set_noun s6_1 (upd (S6_noun s6_1) (S6_things s6_1).toNatClampNeg a1))).toNatClampNeg a2)) (upd (S6_box (S6_set_adjectives (S6_set_noun s6_1 (upd (S6_noun s6_1) (S6_things s6_1).toNatClampNeg a1)) (upd (S6_adjectives (S6_set_noun s6_1 (upd (S6_noun s6_1) (S6_things s6_1).toNatClampNeg a1))) (S6_things (S6_set_noun s6_1 (upd (S6_noun s6_1) (S6_things s6_1).toNatClampNeg a1))).toNatClampNeg a2))) (S6_things (S6_set_adjectives (S6_set_noun s6_1 (upd (S6_noun s6_1) (S6_things s6_1).toNatClampNeg a1)) (upd (S6_adjectives (S6_set_noun s6_1 (upd (S6_noun s6_1) (S6_things s6_1).toNatClampNeg a1))) (S6_things (S6_set_noun s6_1 (upd (S6_noun s6_1) (S6_things s6_1).toNatClampNeg a1))).toNatClampNeg a2))).toNatClampNeg (vp_nar .boolean a3)))).toNatClampNeg (-2))) ((S6_things (S6_set_place (S6_set_box (S6_set_adjectives (S6_set_noun s6_1 (upd (S6_noun s6_1) (S6_things s6_1).toNatClampNeg a1)) (upd (S6_adjectives (S6_set_noun s6_1 (upd (S6_noun s6_1) (S6_things s6_1).toNatClampNeg a1))) (S6_things (S6_set_noun s6_1 (upd (S6_noun s6_1) (S6_things s6_1).toNatClampNeg a1))).toNatClampNeg a2)) (upd (S6_box (S6_set_adjectives (S6_set_noun s6_1 (upd (S6_noun s6_1) (S6_things s6_1).toNatClampNeg a1)) (upd (S6_adjectives (S6_set_noun s6_1 (upd (S6_noun s6_1) (S6_things s6_1).toNatClampNeg a1))) (S6_things (S6_set_noun s6_1 (upd (S6_noun s6_1) (S6_things s6_1).toNatClampNeg a1))).toNatClampNeg a2))) (S6_things (S6_set_adjectives (S6_set_noun s6_1 (upd (S6_noun s6_1) (S6_things s6_1).toNatClampNeg a1)) (upd (S6_adjectives (S6_set_noun s6_1 (upd (S6_noun s6_1) (S6_things s6_1).toNatClampNeg a1))) (S6_things (S6_set_noun s6_1 (upd (S6_noun s6_1) (S6_things s6_1).toNatClampNeg a1))).toNatClampNeg a2))).toNatClampNeg (vp_nar .boolean a3))) (upd (S6_place (S6_set_box (S6_set_adjectives (S6_set_noun s6_1 (upd (S6_noun s6_1) (S6_things s6_1).toNatClampNeg a1)) (upd (S6_adjectives (S6_set_noun s6_1 (upd (S6_noun s6_1) (S6_things s6_1).toNatClampNeg a1))) (S6_things (S6_set_noun s6_1 (upd (S6_noun s6_1) (S6_things s6_1).toNatClampNeg a1))).toNatClampNeg a2)) (upd (S6_box (S6_set_adjectives (S6_set_noun s6_1 (upd (S6_noun s6_1) (S6_things s6_1).toNatClampNeg a1)) (upd (S6_adjectives (S6_set_noun s6_1 (upd (S6_noun s6_1) (S6_things s6_1).toNatClampNeg a1))) (S6_things (S6_set_noun s6_1 (upd (S6_noun s6_1) (S6_things s6_1).toNatClampNeg a1))).toNatClampNeg a2))) (S6_things (S6_set_adjectives (S6_set_noun s6_1 (upd (S6_noun s6_1) (S6_things s6_1).toNatClampNeg a1)) (upd (S6_adjectives (S6_set_noun s6_1 (upd (S6_noun s6_1) (S6_things s6_1).toNatClampNeg a1))) (S6_things (S6_set_noun s6_1 (upd (S6_noun s6_1) (S6_things s6_1).toNatClampNeg a1))).toNatClampNeg a2))).toNatClampNeg (vp_nar .boolean a3)))) (S6_things (S6_set_box (S6_set_adjectives (S6_set_noun s6_1 (upd (S6_noun s6_1) (S6_things s6_1).toNatClampNeg a1)) (upd (S6_adjectives (S6_set_noun s6_1 (upd (S6_noun s6_1) (S6_things s6_1).toNatClampNeg a1))) (S6_things (S6_set_noun s6_1 (upd (S6_noun s6_1) (S6_things s6_1).toNatClampNeg a1))).toNatClampNeg a2)) (upd (S6_box (S6_set_adjectives (S6_set_noun s6_1 (upd (S6_noun s6_1) (S6_things s6_1).toNatClampNeg a1)) (upd (S6_adjectives (S6_set_noun s6_1 (upd (S6_noun s6_1) (S6_things s6_1).toNatClampNeg a1))) (S6_things (S6_set_noun s6_1 (upd (S6_noun s6_1) (S6_things s6_1).toNatClampNeg a1))).toNatClampNeg a2))) (S6_things (S6_set_adjectives (S6_set_noun s6_1 (upd (S6_noun s6_1) (S6_things s6_1).toNatClampNeg a1)) (upd (S6_adjectives (S6_set_noun s6_1 (upd (S6_noun s6_1) (S6_things s6_1).toNatClampNeg a1))) (S6_things (S6_set_noun s6_1 (upd (S6_noun s6_1) (S6_things s6_1).toNatClampNeg a1))).toNatClampNeg a2))).toNatClampNeg (vp_nar .boolean a3)))).toNatClampNeg (-2)))) + 1))) - 1) = r := congrArg (fun q => q.1) he
      have he1 : (S6_set_things (S6_set_place (S6_set_box (S6_set_adjectives (S6_set_noun s6_1 (upd (S6_noun s6_1) (S6_things s6_1).toNatClampNeg a1)) (upd (S6_adjectives (S6_set_noun s6_1 (upd (S6_noun s6_1) (S6_things s6_1).toNatClampNeg a1))) (S6_things (S6_set_noun s6_1 (upd (S6_noun s6_1) (S6_things s6_1).toNatClampNeg a1))).toNatClampNeg a2)) (upd (S6_box (S6_set_adjectives (S6_set_noun s6_1 (upd (S6_noun s6_1) (S6_things s6_1).toNatClampNeg a1)) (upd (S6_adjectives (S6_set_noun s6_1 (upd (S6_noun s6_1) (S6_things s6_1).toNatClampNeg a1))) (S6_things (S6_set_noun s6_1 (upd (S6_noun s6_1) (S6_things s6_1).toNatClampNeg a1))).toNatClampNeg a2))) (S6_things (S6_set_adjectives (S6_set_noun s6_1 (upd (S6_noun s6_1) (S6_things s6_1).toNatClampNeg a1)) (upd (S6_adjectives (S6_set_noun s6_1 (upd (S6_noun s6_1) (S6_things s6_1).toNatClampNeg a1))) (S6_things (S6_set_noun s6_1 (upd (S6_noun s6_1) (S6_things s6_1).toNatClampNeg a1))).toNatClampNeg a2))).toNatClampNeg (vp_nar .boolean a3))) (upd (S6_place (S6_set_box (S6_set_adjectives (S6_set_noun s6_1 (upd (S6_noun s6_1) (S6_things s6_1).toNatClampNeg a1)) (upd (S6_adjectives (S6_set_noun s6_1 (upd (S6_noun s6_1) (S6_things s6_1).toNatClampNeg a1))) (S6_things (S6_set_noun s6_1 (upd (S6_noun s6_1) (S6_things s6_1).toNatClampNeg a1))).toNatClampNeg a2)) (upd (S6_box (S6_set_adjectives (S6_set_noun s6_1 (upd (S6_noun s6_1) (S6_things s6_1).toNatClampNeg a1)) (upd (S6_adjectives (S6_set_noun s6_1 (upd (S6_noun s6_1) (S6_things s6_1).toNatClampNeg a1))) (S6_things (S6_set_noun s6_1 (upd (S6_noun s6_1) (S6_things s6_1).toNatClampNeg a1))).toNatClampNeg a2))) (S6_things (S6_set_adjectives (S6_set_noun s6_1 (upd (S6_noun s6_1) (S6_things s6_1).toNatClampNeg a1)) (upd (S6_adjectives (S6_set_noun s6_1 (upd (S6_noun s6_1) (S6_things s6_1).toNatClampNeg a1))) (S6_things (S6_set_noun s6_1 (upd (S6_noun s6_1) (S6_things s6_1).toNatClampNeg a1))).toNatClampNeg a2))).toNatClampNeg (vp_nar .boolean a3)))) (S6_things (S6_set_box (S6_set_adjectives (S6_set_noun s6_1 (upd (S6_noun s6_1) (S6_things s6_1).toNatClampNeg a1)) (upd (S6_adjectives (S6_set_noun s6_1 (upd (S6_noun s6_1) (S6_things s6_1).toNatClampNeg a1))) (S6_things (S6_set_noun s6_1 (upd (S6_noun s6_1) (S6_things s6_1).toNatClampNeg a1))).toNatClampNeg a2)) (upd (S6_box (S6_set_adjectives (S6_set_noun s6_1 (upd (S6_noun s6_1) (S6_things s6_1).toNatClampNeg a1)) (upd (S6_adjectives (S6_set_noun s6_1 (upd (S6_noun s6_1) (S6_things s6_1).toNatClampNeg a1))) (S6_things (S6_set_noun s6_1 (upd (S6_noun s6_1) (S6_things s6_1).toNatClampNeg a1))).toNatClampNeg a2))) (S6_things (S6_set_adjectives (S6_set_noun s6_1 (upd (S6_noun s6_1) (S6_things s6_1).toNatClampNeg a1)) (upd (S6_adjectives (S6_set_noun s6_1 (upd (S6_noun s6_1) (S6_things s6_1).toNatClampNeg a1))) (S6_things (S6_set_noun s6_1 (upd (S6_noun s6_1) (S6_things s6_1).toNatClampNeg a1))).toNatClampNeg a2))).toNatClampNeg (vp_nar .boolean a3)))).toNatClampNeg (-2))) ((S6_things (S6_set_place (S6_set_box (S6_set_adjectives (S6_set_noun s6_1 (upd (S6_noun s6_1) (S6_things s6_1).toNatClampNeg a1)) (upd (S6_adjectives (S6_set_noun s6_1 (upd (S6_noun s6_1) (S6_things s6_1).toNatClampNeg a1))) (S6_things (S6_set_noun s6_1 (upd (S6_noun s6_1) (S6_things s6_1).toNatClampNeg a1))).toNatClampNeg a2)) (upd (S6_box (S6_set_adjectives (S6_set_noun s6_1 (upd (S6_noun s6_1) (S6_things s6_1).toNatClampNeg a1)) (upd (S6_adjectives (S6_set_noun s6_1 (upd (S6_noun s6_1) (S6_things s6_1).toNatClampNeg a1))) (S6_things (S6_set_noun s6_1 (upd (S6_noun s6_1) (S6_things s6_1).toNatClampNeg a1))).toNatClampNeg a2))) (S6_things (S6_set_adjectives (S6_set_noun s6_1 (upd (S6_noun s6_1) (S6_things s6_1).toNatClampNeg a1)) (upd (S6_adjectives (S6_set_noun s6_1 (upd (S6_noun s6_1) (S6_things s6_1).toNatClampNeg a1))) (S6_things (S6_set_noun s6_1 (upd (S6_noun s6_1) (S6_things s6_1).toNatClampNeg a1))).toNatClampNeg a2))).toNatClampNeg (vp_nar .boolean a3))) (upd (S6_place (S6_set_box (S6_set_adjectives (S6_set_noun s6_1 (upd (S6_noun s6_1) (S6_things s6_1).toNatClampNeg a1)) (upd (S6_adjectives (S6_set_noun s6_1 (upd (S6_noun s6_1) (S6_things s6_1).toNatClampNeg a1))) (S6_things (S6_set_noun s6_1 (upd (S6_noun s6_1) (S6_things s6_1).toNatClampNeg a1))).toNatClampNeg a2)) (upd (S6_box (S6_set_adjectives (S6_set_noun s6_1 (upd (S6_noun s6_1) (S6_things s6_1).toNatClampNeg a1)) (upd (S6_adjectives (S6_set_noun s6_1 (upd (S6_noun s6_1) (S6_things s6_1).toNatClampNeg a1))) (S6_things (S6_set_noun s6_1 (upd (S6_noun s6_1) (S6_things s6_1).toNatClampNeg a1))).toNatClampNeg a2))) (S6_things (S6_set_adjectives (S6_set_noun s6_1 (upd (S6_noun s6_1) (S6_things s6_1).toNatClampNeg a1)) (upd (S6_adjectives (S6_set_noun s6_1 (upd (S6_noun s6_1) (S6_things s6_1).toNatClampNeg a1))) (S6_things (S6_set_noun s6_1 (upd (S6_noun s6_1) (S6_things s6_1).toNatClampNeg a1))).toNatClampNeg a2))).toNatClampNeg (vp_nar .boolean a3)))) (S6_things (S6_set_box (S6_set_adjectives (S6_set_noun s6_1 (upd (S6_noun s6_1) (S6_things s6_1).toNatClampNeg a1)) (upd (S6_adjectives (S6_set_noun s6_1 (upd (S6_noun s6_1) (S6_things s6_1).toNatClampNeg a1))) (S6_things (S6_set_noun s6_1 (upd (S6_noun s6_1) (S6_things s6_1).toNatClampNeg a1))).toNatClampNeg a2)) (upd (S6_box (S6_set_adjectives (S6_set_noun s6_1 (upd (S6_noun s6_1) (S6_things s6_1).toNatClampNeg a1)) (upd (S6_adjectives (S6_set_noun s6_1 (upd (S6_noun s6_1) (S6_things s6_1).toNatClampNeg a1))) (S6_things (S6_set_noun s6_1 (upd (S6_noun s6_1) (S6_things s6_1).toNatClampNeg a1))).toNatClampNeg a2))) (S6_things (S6_set_adjectives (S6_set_noun s6_1 (upd (S6_noun s6_1) (S6_things s6_1).toNatClampNeg a1)) (upd (S6_adjectives (S6_set_noun s6_1 (upd (S6_noun s6_1) (S6_things s6_1).toNatClampNeg a1))) (S6_things (S6_set_noun s6_1 (upd (S6_noun s6_1) (S6_things s6_1).toNatClampNeg a1))).toNatClampNeg a2))).toNatClampNeg (vp_nar .boolean a3)))).toNatClampNeg (-2)))) + 1)) = s6f := congrArg (fun q => q.2) he
      exact hret _ _ _ _ _ _ he0 (by rw [← he1]) dX6_thing_105 hP hD hS
    · have hf := it_t c_2 hf
      refine lv_iconst (v := 0) hx hb dX6_thing_46 (by decide) ?_
      have hf : (some (0, s6_1) : Option (Int32 × S6)) = some (r, s6f) := hf
      have he := Option.some.inj hf
      have he0 : 0 = r := congrArg (fun q => q.1) he
      have he1 : s6_1 = s6f := congrArg (fun q => q.2) he
      exact hret _ _ _ _ _ _ he0 (by rw [← he1]) dX6_thing_47 hP hD hS
  have J26 : ∀ (s6 : S6) (t1 : Int32) (H : Heap) (locs : List Loc), va_P (dC, dI) vwCl (cf_6 cI cZ h6 h6a1 h6a2 h6a3 h6a4 h6a5 h6a7 h6a17 h6a18 s6) H → va_D A (cf_6 cI cZ h6 h6a1 h6a2 h6a3 h6a4 h6a5 h6a7 h6a17 h6a18 s6) → va_S A s.heap H locs → ∀ (ls : Array Slot), lv_has ls 4 [(0, .ref h6), (1, .int a1), (2, .int a2), (3, .int a3)] → fX6_thing_26 a1 a2 a3 s6 t1 = some (r, s6f) → W p l e rmX6_thing s m ([.ref h6, .int a1, .int a2, .int a3] : List Value).toArray below meth c H locs 0 0 QQ (F0 m 26 ls [.int t1, .ref h6]) := by
    intro  s6 t1 H locs hP hD hS ls hl hf
    unfold fX6_thing_26 at hf
    refine lv_aload_n hx hb dX6_thing_26 rfl (lv_at hl 0 rfl) ?_
    refine va_get (D := (dC, dI)) (ci := 6) (v := .int (S6_things s6)) (C := RX6) (T := TX6) (N := 25) hx hb hts in6 hown hK hP 0 rfl rfl 0 (by decide) fl57 (fun _ h9 => h9) rfl dX6_thing_27 ?_
    refine lv_bipush (v := 12) hx hb dX6_thing_30 (by decide) ?_
    refine lv_icmp_ge (tgt := 39) hx hb dX6_thing_32 (by decide) (fun c_1 => ?_) (fun c_1 => ?_)
    · have hf := it_t c_1 hf
      refine lv_iconst (v := 0) hx hb dX6_thing_39 (by decide) ?_
      exact J40 s6 t1 0 _ _ hP hD hS _ (lv_sub hl [0, 1, 2, 3] rfl) hf
    · have hf := it_f c_1 hf
      refine lv_iconst (v := 1) hx hb dX6_thing_35 (by decide) ?_
      refine lv_goto (tgt := 40) hx hb dX6_thing_36 (by decide) ?_
      exact J40 s6 t1 1 _ _ hP hD hS _ (lv_sub hl [0, 1, 2, 3] rfl) hf
  have J25 : ∀ (s6 : S6) (H : Heap) (locs : List Loc), va_P (dC, dI) vwCl (cf_6 cI cZ h6 h6a1 h6a2 h6a3 h6a4 h6a5 h6a7 h6a17 h6a18 s6) H → va_D A (cf_6 cI cZ h6 h6a1 h6a2 h6a3 h6a4 h6a5 h6a7 h6a17 h6a18 s6) → va_S A s.heap H locs → ∀ (ls : Array Slot), lv_has ls 4 [(0, .ref h6), (1, .int a1), (2, .int a2), (3, .int a3)] → fX6_thing_25 a1 a2 a3 s6 = some (r, s6f) → W p l e rmX6_thing s m ([.ref h6, .int a1, .int a2, .int a3] : List Value).toArray below meth c H locs 0 0 QQ (F0 m 25 ls [.ref h6]) := by
    intro  s6 H locs hP hD hS ls hl hf
    unfold fX6_thing_25 at hf
    refine lv_iconst (v := 0) hx hb dX6_thing_25 (by decide) ?_
    exact J26 s6 0 _ _ hP hD hS _ (lv_sub hl [0, 1, 2, 3] rfl) hf
  unfold fX6_thing at hf
  refine lv_aload_n hx hb dX6_thing_0 rfl (lv_at hl 0 rfl) ?_
  refine lv_iload_n hx hb dX6_thing_1 rfl (lv_at hl 1 rfl) ?_
  refine lv_if_lt (tgt := 25) hx hb dX6_thing_2 (by decide) (fun c_1 => ?_) (fun c_1 => ?_)
  · have hf := it_t c_1 hf
    exact J25 s6 _ _ hP hD hS _ (lv_sub hl [0, 1, 2, 3] rfl) hf
  · have hf := it_f c_1 hf
    refine lv_iload_n hx hb dX6_thing_5 rfl (lv_at hl 1 rfl) ?_
    refine lv_bipush (v := 7) hx hb dX6_thing_6 (by decide) ?_
    refine lv_icmp_gt (tgt := 25) hx hb dX6_thing_8 (by decide) (fun c_2 => ?_) (fun c_2 => ?_)
    · have hf := it_t c_2 hf
      exact J25 s6 _ _ hP hD hS _ (lv_sub hl [0, 1, 2, 3] rfl) hf
    · have hf := it_f c_2 hf
      refine lv_iload_n hx hb dX6_thing_11 rfl (lv_at hl 2 rfl) ?_
      refine lv_if_lt (tgt := 25) hx hb dX6_thing_12 (by decide) (fun c_3 => ?_) (fun c_3 => ?_)
      · have hf := it_t c_3 hf
        exact J25 s6 _ _ hP hD hS _ (lv_sub hl [0, 1, 2, 3] rfl) hf
      · have hf := it_f c_3 hf
        refine lv_iload_n hx hb dX6_thing_15 rfl (lv_at hl 2 rfl) ?_
        refine lv_bipush (v := 63) hx hb dX6_thing_16 (by decide) ?_
        refine lv_icmp_gt (tgt := 25) hx hb dX6_thing_18 (by decide) (fun c_4 => ?_) (fun c_4 => ?_)
        · have hf := it_t c_4 hf
          exact J25 s6 _ _ hP hD hS _ (lv_sub hl [0, 1, 2, 3] rfl) hf
        · have hf := it_f c_4 hf
          refine lv_iconst (v := 1) hx hb dX6_thing_21 (by decide) ?_
          refine lv_goto (tgt := 26) hx hb dX6_thing_22 (by decide) ?_
          exact J26 s6 1 _ _ hP hD hS _ (lv_sub hl [0, 1, 2, 3] rfl) hf
abbrev rmX6_isThing : Room := { frames := 0, cells := 0, slots := 0, locals := 0 }
set_option maxHeartbeats 2000000 in
set_option maxRecDepth 100000 in
theorem ktX6_isThing (l : Launch) (dC : Nat → ClassId) (dI : Nat → Nat → Nat) (cI cZ : ClassId) (h6 h6a1 h6a2 h6a3 h6a4 h6a5 h6a7 h6a17 h6a18 : Nat) (sz : Nat) (s6 : S6) (a1 : Int32) (r : Int32) (hf : fX6_isThing s6 a1 = some r) : Met l yX6_isThing wsX6_isThing rmX6_isThing (va_Pc [.ref h6, .int a1] (pre_w (dC, dI) (cf_6 cI cZ h6 h6a1 h6a2 h6a3 h6a4 h6a5 h6a7 h6a17 h6a18 s6) [(cI, .int), (cZ, .boolean)] sz)) (va_Qi (fun (r' : Int32) (_ : Unit) => r' = r) (post_w (dC, dI) (cf_6 cI cZ h6 h6a1 h6a2 h6a3 h6a4 h6a5 h6a7 h6a17 h6a18 s6) [(cI, .int), (cZ, .boolean)] (va_A (cf_6 cI cZ h6 h6a1 h6a2 h6a3 h6a4 h6a5 h6a7 h6a17 h6a18 s6) sz)) (va_A (cf_6 cI cZ h6 h6a1 h6a2 h6a3 h6a4 h6a5 h6a7 h6a17 h6a18 s6) sz)) 0 0 (va_A (cf_6 cI cZ h6 h6a1 h6a2 h6a3 h6a4 h6a5 h6a7 h6a17 h6a18 s6) sz) := by
  refine gm_z (cc := cX6_isThing) (maxL := 2) (by decide) rfl (Nat.le_of_ble_eq_true rfl) ?_
  intro p e s m below meth c A QQ ls hx hb hml hown hts hK hN hA hP hD hS hl hret
  have hown : s.vm.findClass RX6 = some m.cls := hown
  have hl : lv_has ls 2 [(0, .ref h6), (1, .int a1)] := hl
  have in6 : ∀ w ∈ u_ws RX6 TX6 25, w ∈ wsX6_isThing := by decide +kernel
  have fl57 := hts (.fieldLink RX6 57 "ParserParlourModel" "things" "I") (by decide +kernel)
  have J17 : ∀ (t0 : Int32) (H : Heap) (locs : List Loc), va_P (dC, dI) vwCl (cf_6 cI cZ h6 h6a1 h6a2 h6a3 h6a4 h6a5 h6a7 h6a17 h6a18 s6) H → va_D A (cf_6 cI cZ h6 h6a1 h6a2 h6a3 h6a4 h6a5 h6a7 h6a17 h6a18 s6) → va_S A s.heap H locs → ∀ (ls : Array Slot), lv_has ls 2 [] → fX6_isThing_17 s6 a1 t0 = some r → W p l e rmX6_isThing s m ([.ref h6, .int a1] : List Value).toArray below meth c H locs 0 0 QQ (F0 m 17 ls [.int t0]) := by
    intro  t0 H locs hP hD hS ls hl hf
    unfold fX6_isThing_17 at hf
    obtain ⟨hz_1, hf⟩ := bo_ok hf
    have hf : (some t0 : Option (Int32)) = some r := hf
    have he := Option.some.inj hf
    have he0 : t0 = r := he
    exact hret _ _ _ _ _ _ hz_1 he0 rfl dX6_isThing_17 hP hD hS
  have J16 : ∀ (H : Heap) (locs : List Loc), va_P (dC, dI) vwCl (cf_6 cI cZ h6 h6a1 h6a2 h6a3 h6a4 h6a5 h6a7 h6a17 h6a18 s6) H → va_D A (cf_6 cI cZ h6 h6a1 h6a2 h6a3 h6a4 h6a5 h6a7 h6a17 h6a18 s6) → va_S A s.heap H locs → ∀ (ls : Array Slot), lv_has ls 2 [] → fX6_isThing_16 s6 a1 = some r → W p l e rmX6_isThing s m ([.ref h6, .int a1] : List Value).toArray below meth c H locs 0 0 QQ (F0 m 16 ls []) := by
    intro   H locs hP hD hS ls hl hf
    unfold fX6_isThing_16 at hf
    refine lv_iconst (v := 0) hx hb dX6_isThing_16 (by decide) ?_
    exact J17 0 _ _ hP hD hS _ (lv_sub hl [] rfl) hf
  unfold fX6_isThing at hf
  refine lv_iload_n hx hb dX6_isThing_0 rfl (lv_at hl 1 rfl) ?_
  refine lv_if_lt (tgt := 16) hx hb dX6_isThing_1 (by decide) (fun c_1 => ?_) (fun c_1 => ?_)
  · have hf := it_t c_1 hf
    exact J16 _ _ hP hD hS _ (lv_sub hl [] rfl) hf
  · have hf := it_f c_1 hf
    refine lv_iload_n hx hb dX6_isThing_4 rfl (lv_at hl 1 rfl) ?_
    refine lv_aload_n hx hb dX6_isThing_5 rfl (lv_at hl 0 rfl) ?_
    refine va_get (D := (dC, dI)) (ci := 6) (v := .int (S6_things s6)) (C := RX6) (T := TX6) (N := 25) hx hb hts in6 hown hK hP 0 rfl rfl 0 (by decide) fl57 (fun _ h9 => h9) rfl dX6_isThing_6 ?_
    refine lv_icmp_ge (tgt := 16) hx hb dX6_isThing_9 (by decide) (fun c_2 => ?_) (fun c_2 => ?_)
    · have hf := it_t c_2 hf
      exact J16 _ _ hP hD hS _ (lv_sub hl [] rfl) hf
    · have hf := it_f c_2 hf
      refine lv_iconst (v := 1) hx hb dX6_isThing_12 (by decide) ?_
      refine lv_goto (tgt := 17) hx hb dX6_isThing_13 (by decide) ?_
      exact J17 1 _ _ hP hD hS _ (lv_sub hl [] rfl) hf
abbrev rmX6_placeOf : Room := { frames := 1, cells := 0, slots := 0, locals := 21 }
set_option maxHeartbeats 2000000 in
set_option maxRecDepth 100000 in
theorem ktX6_placeOf (l : Launch) (dC : Nat → ClassId) (dI : Nat → Nat → Nat) (cI cZ : ClassId) (h6 h6a1 h6a2 h6a3 h6a4 h6a5 h6a7 h6a17 h6a18 : Nat) (sz : Nat) (s6 : S6) (a1 : Int32) (r : Int32) (s6f : S6) (hf : fX6_placeOf s6 a1 = some (r, s6f)) : Met l yX6_placeOf wsX6_placeOf rmX6_placeOf (va_Pc [.ref h6, .int a1] (pre_w (dC, dI) (cf_6 cI cZ h6 h6a1 h6a2 h6a3 h6a4 h6a5 h6a7 h6a17 h6a18 s6) [(cI, .int), (cZ, .boolean)] sz)) (va_Qi (fun (r' : Int32) (_ : Unit) => r' = r) (post_w (dC, dI) (cf_6 cI cZ h6 h6a1 h6a2 h6a3 h6a4 h6a5 h6a7 h6a17 h6a18 s6f) [(cI, .int), (cZ, .boolean)] (va_A (cf_6 cI cZ h6 h6a1 h6a2 h6a3 h6a4 h6a5 h6a7 h6a17 h6a18 s6) sz)) (va_A (cf_6 cI cZ h6 h6a1 h6a2 h6a3 h6a4 h6a5 h6a7 h6a17 h6a18 s6) sz)) 0 0 (va_A (cf_6 cI cZ h6 h6a1 h6a2 h6a3 h6a4 h6a5 h6a7 h6a17 h6a18 s6) sz) := by
  refine gm_i (cc := cX6_placeOf) (maxL := 2) (by decide) rfl (Nat.le_of_ble_eq_true rfl) ?_
  intro p e s m below meth c A QQ ls hx hb hml hown hts hK hN hA hP hD hS hl hret
  have hown : s.vm.findClass RX6 = some m.cls := hown
  have hl : lv_has ls 2 [(0, .ref h6), (1, .int a1)] := hl
  have in6 : ∀ w ∈ u_ws RX6 TX6 25, w ∈ wsX6_placeOf := by decide +kernel
  have fl23 := hts (.fieldLink RX6 23 "ParserParlourModel" "place" "[I") (by decide +kernel)
  have J22 : ∀ (s6 : S6) (t0 : Int32) (H : Heap) (locs : List Loc), va_P (dC, dI) vwCl (cf_6 cI cZ h6 h6a1 h6a2 h6a3 h6a4 h6a5 h6a7 h6a17 h6a18 s6) H → va_D A (cf_6 cI cZ h6 h6a1 h6a2 h6a3 h6a4 h6a5 h6a7 h6a17 h6a18 s6) → va_S A s.heap H locs → ∀ (ls : Array Slot), lv_has ls 2 [] → fX6_placeOf_22 a1 s6 t0 = some (r, s6f) → W p l e rmX6_placeOf s m ([.ref h6, .int a1] : List Value).toArray below meth c H locs 0 0 QQ (F0 m 22 ls [.int t0]) := by
    intro  s6 t0 H locs hP hD hS ls hl hf
    unfold fX6_placeOf_22 at hf
    have hf : (some (t0, s6) : Option (Int32 × S6)) = some (r, s6f) := hf
    have he := Option.some.inj hf
    have he0 : t0 = r := congrArg (fun q => q.1) he
    have he1 : s6 = s6f := congrArg (fun q => q.2) he
    exact hret _ _ _ _ _ _ he0 (by rw [← he1]) dX6_placeOf_22 hP hD hS
  unfold fX6_placeOf at hf
  refine lv_aload_n hx hb dX6_placeOf_0 rfl (lv_at hl 0 rfl) ?_
  refine lv_aload_n hx hb dX6_placeOf_1 rfl (lv_at hl 0 rfl) ?_
  refine lv_iload_n hx hb dX6_placeOf_2 rfl (lv_at hl 1 rfl) ?_
  obtain ⟨r_1, hc_1, hf⟩ := bn1_ok hf
  refine gc_i (wc := (cf_6 cI cZ h6 h6a1 h6a2 h6a3 h6a4 h6a5 h6a7 h6a17 h6a18 s6)) (wr := ([] : va_W)) (w1 := (cf_6 cI cZ h6 h6a1 h6a2 h6a3 h6a4 h6a5 h6a7 h6a17 h6a18 s6)) (ws' := (cf_6 cI cZ h6 h6a1 h6a2 h6a3 h6a4 h6a5 h6a7 h6a17 h6a18 s6)) hP hD hS hA [0, 1, 2, 3, 4, 5, 6, 7, 8] [] [0, 1, 2, 3, 4, 5, 6, 7, 8] rfl rfl (by decide) (by decide) rfl (by decide) (va_runV (As := [.int a1]) (rest := [.ref h6]) ⟨hx, hb, hml, hown, hts⟩ (ktX6_isThing l dC dI cI cZ h6 h6a1 h6a2 h6a3 h6a4 h6a5 h6a7 h6a17 h6a18 _ s6 a1 r_1 hc_1) (cwV 1 hts gX6_placeOf_X6_isThing rfl rfl rfl (by decide +kernel) ⟨Nat.le_of_ble_eq_true rfl, Nat.le_of_ble_eq_true rfl⟩) (gc_V (ci := 6) (q0 := 0) (C := RX6) (T := TX6) (N := 25) (hP.sub (ws' := (cf_6 cI cZ h6 h6a1 h6a2 h6a3 h6a4 h6a5 h6a7 h6a17 h6a18 s6)) [0, 1, 2, 3, 4, 5, 6, 7, 8] rfl) (hK.sub (tys' := [(cI, .int), (cZ, .boolean)]) [0, 1] rfl) (hD.sub (ws' := (cf_6 cI cZ h6 h6a1 h6a2 h6a3 h6a4 h6a5 h6a7 h6a17 h6a18 s6)) [0, 1, 2, 3, 4, 5, 6, 7, 8] (by decide) rfl) hN rfl rfl) rfl rfl hl.1 rfl (lv_room (Nat.le_of_ble_eq_true rfl)) dX6_placeOf_3 ⟨Nat.zero_le _, Nat.zero_le _⟩) (fun H locs hP hD hS => ?_)
  obtain ⟨r_2, s6_2, hc_2, hf⟩ := bn2_ok hf
  refine gc_i (wc := (cf_6 cI cZ h6 h6a1 h6a2 h6a3 h6a4 h6a5 h6a7 h6a17 h6a18 s6)) (wr := ([] : va_W)) (w1 := (cf_6 cI cZ h6 h6a1 h6a2 h6a3 h6a4 h6a5 h6a7 h6a17 h6a18 s6_2)) (ws' := (cf_6 cI cZ h6 h6a1 h6a2 h6a3 h6a4 h6a5 h6a7 h6a17 h6a18 s6_2)) hP hD hS hA [0, 1, 2, 3, 4, 5, 6, 7, 8] [] [0, 1, 2, 3, 4, 5, 6, 7, 8] rfl rfl (by decide) (by decide) rfl (by decide) (va_runV (As := [.int r_1]) (rest := []) ⟨hx, hb, hml, hown, hts⟩ (ktX6_may l dC dI cI cZ h6 h6a1 h6a2 h6a3 h6a4 h6a5 h6a7 h6a17 h6a18 _ s6 r_1 r_2 s6_2 hc_2) (cwV 1 hts gX6_placeOf_X6_may rfl rfl rfl (by decide +kernel) ⟨Nat.le_of_ble_eq_true rfl, Nat.le_of_ble_eq_true rfl⟩) (gc_V (ci := 6) (q0 := 0) (C := RX6) (T := TX6) (N := 25) (hP.sub (ws' := (cf_6 cI cZ h6 h6a1 h6a2 h6a3 h6a4 h6a5 h6a7 h6a17 h6a18 s6)) [0, 1, 2, 3, 4, 5, 6, 7, 8] rfl) (hK.sub (tys' := [(cI, .int), (cZ, .boolean)]) [0, 1] rfl) (hD.sub (ws' := (cf_6 cI cZ h6 h6a1 h6a2 h6a3 h6a4 h6a5 h6a7 h6a17 h6a18 s6)) [0, 1, 2, 3, 4, 5, 6, 7, 8] (by decide) rfl) hN rfl rfl) rfl rfl hl.1 rfl (lv_room (Nat.le_of_ble_eq_true rfl)) dX6_placeOf_6 ⟨Nat.zero_le _, Nat.zero_le _⟩) (fun H locs hP hD hS => ?_)
  refine lv_if_eq (tgt := 21) hx hb dX6_placeOf_9 (by decide) (fun c_3 => ?_) (fun c_3 => ?_)
  · have hf := it_t c_3 hf
    refine lv_iconst (v := 0) hx hb dX6_placeOf_21 (by decide) ?_
    exact J22 s6_2 0 _ _ hP hD hS _ (lv_sub hl [] rfl) hf
  · have hf := it_f c_3 hf
    refine lv_aload_n hx hb dX6_placeOf_12 rfl (lv_at hl 0 rfl) ?_
    refine va_get (D := (dC, dI)) (ci := 6) (v := .ref h6a5) (C := RX6) (T := TX6) (N := 25) hx hb hts in6 hown hK hP 0 rfl rfl 5 (by decide) fl23 (fun _ h9 => h9) rfl dX6_placeOf_13 ?_
    refine lv_iload_n hx hb dX6_placeOf_16 rfl (lv_at hl 1 rfl) ?_
    obtain ⟨hi_4, hf⟩ := ai_ok hf
    refine va_iald (n := 12) (f := (S6_place s6_2)) hx hb hK hP 5 0 rfl rfl hi_4 dX6_placeOf_17 ?_
    refine lv_goto (tgt := 22) hx hb dX6_placeOf_18 (by decide) ?_
    exact J22 s6_2 ((S6_place s6_2) a1.toNatClampNeg) _ _ hP hD hS _ (lv_sub hl [] rfl) hf
abbrev rmX6_isOpen : Room := { frames := 1, cells := 0, slots := 0, locals := 21 }
set_option maxHeartbeats 2000000 in
set_option maxRecDepth 100000 in
theorem ktX6_isOpen (l : Launch) (dC : Nat → ClassId) (dI : Nat → Nat → Nat) (cI cZ : ClassId) (h6 h6a1 h6a2 h6a3 h6a4 h6a5 h6a7 h6a17 h6a18 : Nat) (sz : Nat) (s6 : S6) (a1 : Int32) (r : Int32) (s6f : S6) (hf : fX6_isOpen s6 a1 = some (r, s6f)) : Met l yX6_isOpen wsX6_isOpen rmX6_isOpen (va_Pc [.ref h6, .int a1] (pre_w (dC, dI) (cf_6 cI cZ h6 h6a1 h6a2 h6a3 h6a4 h6a5 h6a7 h6a17 h6a18 s6) [(cI, .int), (cZ, .boolean)] sz)) (va_Qi (fun (r' : Int32) (_ : Unit) => r' = r) (post_w (dC, dI) (cf_6 cI cZ h6 h6a1 h6a2 h6a3 h6a4 h6a5 h6a7 h6a17 h6a18 s6f) [(cI, .int), (cZ, .boolean)] (va_A (cf_6 cI cZ h6 h6a1 h6a2 h6a3 h6a4 h6a5 h6a7 h6a17 h6a18 s6) sz)) (va_A (cf_6 cI cZ h6 h6a1 h6a2 h6a3 h6a4 h6a5 h6a7 h6a17 h6a18 s6) sz)) 0 0 (va_A (cf_6 cI cZ h6 h6a1 h6a2 h6a3 h6a4 h6a5 h6a7 h6a17 h6a18 s6) sz) := by
  refine gm_z (cc := cX6_isOpen) (maxL := 2) (by decide) rfl (Nat.le_of_ble_eq_true rfl) ?_
  intro p e s m below meth c A QQ ls hx hb hml hown hts hK hN hA hP hD hS hl hret
  have hown : s.vm.findClass RX6 = some m.cls := hown
  have hl : lv_has ls 2 [(0, .ref h6), (1, .int a1)] := hl
  have in6 : ∀ w ∈ u_ws RX6 TX6 25, w ∈ wsX6_isOpen := by decide +kernel
  have fl20 := hts (.fieldLink RX6 20 "ParserParlourModel" "open" "[Z") (by decide +kernel)
  have J26 : ∀ (s6 : S6) (t0 : Int32) (H : Heap) (locs : List Loc), va_P (dC, dI) vwCl (cf_6 cI cZ h6 h6a1 h6a2 h6a3 h6a4 h6a5 h6a7 h6a17 h6a18 s6) H → va_D A (cf_6 cI cZ h6 h6a1 h6a2 h6a3 h6a4 h6a5 h6a7 h6a17 h6a18 s6) → va_S A s.heap H locs → ∀ (ls : Array Slot), lv_has ls 2 [] → fX6_isOpen_26 a1 s6 t0 = some (r, s6f) → W p l e rmX6_isOpen s m ([.ref h6, .int a1] : List Value).toArray below meth c H locs 0 0 QQ (F0 m 26 ls [.int t0]) := by
    intro  s6 t0 H locs hP hD hS ls hl hf
    unfold fX6_isOpen_26 at hf
    obtain ⟨hz_1, hf⟩ := bo_ok hf
    have hf : (some (t0, s6) : Option (Int32 × S6)) = some (r, s6f) := hf
    have he := Option.some.inj hf
    have he0 : t0 = r := congrArg (fun q => q.1) he
    have he1 : s6 = s6f := congrArg (fun q => q.2) he
    exact hret _ _ _ _ _ _ hz_1 he0 (by rw [← he1]) dX6_isOpen_26 hP hD hS
  have J25 : ∀ (s6 : S6) (H : Heap) (locs : List Loc), va_P (dC, dI) vwCl (cf_6 cI cZ h6 h6a1 h6a2 h6a3 h6a4 h6a5 h6a7 h6a17 h6a18 s6) H → va_D A (cf_6 cI cZ h6 h6a1 h6a2 h6a3 h6a4 h6a5 h6a7 h6a17 h6a18 s6) → va_S A s.heap H locs → ∀ (ls : Array Slot), lv_has ls 2 [] → fX6_isOpen_25 a1 s6 = some (r, s6f) → W p l e rmX6_isOpen s m ([.ref h6, .int a1] : List Value).toArray below meth c H locs 0 0 QQ (F0 m 25 ls []) := by
    intro  s6 H locs hP hD hS ls hl hf
    unfold fX6_isOpen_25 at hf
    refine lv_iconst (v := 0) hx hb dX6_isOpen_25 (by decide) ?_
    exact J26 s6 0 _ _ hP hD hS _ (lv_sub hl [] rfl) hf
  unfold fX6_isOpen at hf
  refine lv_aload_n hx hb dX6_isOpen_0 rfl (lv_at hl 0 rfl) ?_
  refine lv_aload_n hx hb dX6_isOpen_1 rfl (lv_at hl 0 rfl) ?_
  refine lv_iload_n hx hb dX6_isOpen_2 rfl (lv_at hl 1 rfl) ?_
  obtain ⟨r_1, hc_1, hf⟩ := bn1_ok hf
  refine gc_i (wc := (cf_6 cI cZ h6 h6a1 h6a2 h6a3 h6a4 h6a5 h6a7 h6a17 h6a18 s6)) (wr := ([] : va_W)) (w1 := (cf_6 cI cZ h6 h6a1 h6a2 h6a3 h6a4 h6a5 h6a7 h6a17 h6a18 s6)) (ws' := (cf_6 cI cZ h6 h6a1 h6a2 h6a3 h6a4 h6a5 h6a7 h6a17 h6a18 s6)) hP hD hS hA [0, 1, 2, 3, 4, 5, 6, 7, 8] [] [0, 1, 2, 3, 4, 5, 6, 7, 8] rfl rfl (by decide) (by decide) rfl (by decide) (va_runV (As := [.int a1]) (rest := [.ref h6]) ⟨hx, hb, hml, hown, hts⟩ (ktX6_isThing l dC dI cI cZ h6 h6a1 h6a2 h6a3 h6a4 h6a5 h6a7 h6a17 h6a18 _ s6 a1 r_1 hc_1) (cwV 1 hts gX6_isOpen_X6_isThing rfl rfl rfl (by decide +kernel) ⟨Nat.le_of_ble_eq_true rfl, Nat.le_of_ble_eq_true rfl⟩) (gc_V (ci := 6) (q0 := 0) (C := RX6) (T := TX6) (N := 25) (hP.sub (ws' := (cf_6 cI cZ h6 h6a1 h6a2 h6a3 h6a4 h6a5 h6a7 h6a17 h6a18 s6)) [0, 1, 2, 3, 4, 5, 6, 7, 8] rfl) (hK.sub (tys' := [(cI, .int), (cZ, .boolean)]) [0, 1] rfl) (hD.sub (ws' := (cf_6 cI cZ h6 h6a1 h6a2 h6a3 h6a4 h6a5 h6a7 h6a17 h6a18 s6)) [0, 1, 2, 3, 4, 5, 6, 7, 8] (by decide) rfl) hN rfl rfl) rfl rfl hl.1 rfl (lv_room (Nat.le_of_ble_eq_true rfl)) dX6_isOpen_3 ⟨Nat.zero_le _, Nat.zero_le _⟩) (fun H locs hP hD hS => ?_)
  obtain ⟨r_2, s6_2, hc_2, hf⟩ := bn2_ok hf
  refine gc_i (wc := (cf_6 cI cZ h6 h6a1 h6a2 h6a3 h6a4 h6a5 h6a7 h6a17 h6a18 s6)) (wr := ([] : va_W)) (w1 := (cf_6 cI cZ h6 h6a1 h6a2 h6a3 h6a4 h6a5 h6a7 h6a17 h6a18 s6_2)) (ws' := (cf_6 cI cZ h6 h6a1 h6a2 h6a3 h6a4 h6a5 h6a7 h6a17 h6a18 s6_2)) hP hD hS hA [0, 1, 2, 3, 4, 5, 6, 7, 8] [] [0, 1, 2, 3, 4, 5, 6, 7, 8] rfl rfl (by decide) (by decide) rfl (by decide) (va_runV (As := [.int r_1]) (rest := []) ⟨hx, hb, hml, hown, hts⟩ (ktX6_may l dC dI cI cZ h6 h6a1 h6a2 h6a3 h6a4 h6a5 h6a7 h6a17 h6a18 _ s6 r_1 r_2 s6_2 hc_2) (cwV 1 hts gX6_isOpen_X6_may rfl rfl rfl (by decide +kernel) ⟨Nat.le_of_ble_eq_true rfl, Nat.le_of_ble_eq_true rfl⟩) (gc_V (ci := 6) (q0 := 0) (C := RX6) (T := TX6) (N := 25) (hP.sub (ws' := (cf_6 cI cZ h6 h6a1 h6a2 h6a3 h6a4 h6a5 h6a7 h6a17 h6a18 s6)) [0, 1, 2, 3, 4, 5, 6, 7, 8] rfl) (hK.sub (tys' := [(cI, .int), (cZ, .boolean)]) [0, 1] rfl) (hD.sub (ws' := (cf_6 cI cZ h6 h6a1 h6a2 h6a3 h6a4 h6a5 h6a7 h6a17 h6a18 s6)) [0, 1, 2, 3, 4, 5, 6, 7, 8] (by decide) rfl) hN rfl rfl) rfl rfl hl.1 rfl (lv_room (Nat.le_of_ble_eq_true rfl)) dX6_isOpen_6 ⟨Nat.zero_le _, Nat.zero_le _⟩) (fun H locs hP hD hS => ?_)
  refine lv_if_eq (tgt := 25) hx hb dX6_isOpen_9 (by decide) (fun c_3 => ?_) (fun c_3 => ?_)
  · have hf := it_t c_3 hf
    exact J25 s6_2 _ _ hP hD hS _ (lv_sub hl [] rfl) hf
  · have hf := it_f c_3 hf
    refine lv_aload_n hx hb dX6_isOpen_12 rfl (lv_at hl 0 rfl) ?_
    refine va_get (D := (dC, dI)) (ci := 6) (v := .ref h6a4) (C := RX6) (T := TX6) (N := 25) hx hb hts in6 hown hK hP 0 rfl rfl 4 (by decide) fl20 (fun _ h9 => h9) rfl dX6_isOpen_13 ?_
    refine lv_iload_n hx hb dX6_isOpen_16 rfl (lv_at hl 1 rfl) ?_
    obtain ⟨hi_4, hf⟩ := ai_ok hf
    refine va_zald (n := 12) (f := (S6_open s6_2)) hx hb hK hP 4 1 rfl rfl hi_4 dX6_isOpen_17 ?_
    refine lv_if_eq (tgt := 25) hx hb dX6_isOpen_18 (by decide) (fun c_5 => ?_) (fun c_5 => ?_)
    · have hf := it_t c_5 hf
      exact J25 s6_2 _ _ hP hD hS _ (lv_sub hl [] rfl) hf
    · have hf := it_f c_5 hf
      refine lv_iconst (v := 1) hx hb dX6_isOpen_21 (by decide) ?_
      refine lv_goto (tgt := 26) hx hb dX6_isOpen_22 (by decide) ?_
      exact J26 s6_2 1 _ _ hP hD hS _ (lv_sub hl [] rfl) hf
abbrev rmX6_reaches : Room := { frames := 0, cells := 0, slots := 0, locals := 0 }
set_option maxHeartbeats 2000000 in
set_option maxRecDepth 100000 in
theorem ktX6_reaches (l : Launch) (dC : Nat → ClassId) (dI : Nat → Nat → Nat) (cI cZ : ClassId) (h6 h6a1 h6a2 h6a3 h6a4 h6a5 h6a7 h6a17 h6a18 : Nat) (sz : Nat) (s6 : S6) (a1 : Int32) (r : Int32) (hf : fX6_reaches s6 a1 = some r) : Met l yX6_reaches wsX6_reaches rmX6_reaches (va_Pc [.ref h6, .int a1] (pre_w (dC, dI) (cf_6 cI cZ h6 h6a1 h6a2 h6a3 h6a4 h6a5 h6a7 h6a17 h6a18 s6) [(cI, .int), (cZ, .boolean)] sz)) (va_Qi (fun (r' : Int32) (_ : Unit) => r' = r) (post_w (dC, dI) (cf_6 cI cZ h6 h6a1 h6a2 h6a3 h6a4 h6a5 h6a7 h6a17 h6a18 s6) [(cI, .int), (cZ, .boolean)] (va_A (cf_6 cI cZ h6 h6a1 h6a2 h6a3 h6a4 h6a5 h6a7 h6a17 h6a18 s6) sz)) (va_A (cf_6 cI cZ h6 h6a1 h6a2 h6a3 h6a4 h6a5 h6a7 h6a17 h6a18 s6) sz)) 0 0 (va_A (cf_6 cI cZ h6 h6a1 h6a2 h6a3 h6a4 h6a5 h6a7 h6a17 h6a18 s6) sz) := by
  refine gm_z (cc := cX6_reaches) (maxL := 3) (by decide) rfl (Nat.le_of_ble_eq_true rfl) ?_
  intro p e s m below meth c A QQ ls hx hb hml hown hts hK hN hA hP hD hS hl hret
  have hown : s.vm.findClass RX6 = some m.cls := hown
  have hl : lv_has ls 3 [(0, .ref h6), (1, .int a1)] := hl
  have in6 : ∀ w ∈ u_ws RX6 TX6 25, w ∈ wsX6_reaches := by decide +kernel
  have fl23 := hts (.fieldLink RX6 23 "ParserParlourModel" "place" "[I") (by decide +kernel)
  have fl20 := hts (.fieldLink RX6 20 "ParserParlourModel" "open" "[Z") (by decide +kernel)
  have J7 : ∀ (n : Nat) (x2 : Int32) (H : Heap) (locs : List Loc), va_P (dC, dI) vwCl (cf_6 cI cZ h6 h6a1 h6a2 h6a3 h6a4 h6a5 h6a7 h6a17 h6a18 s6) H → va_D A (cf_6 cI cZ h6 h6a1 h6a2 h6a3 h6a4 h6a5 h6a7 h6a17 h6a18 s6) → va_S A s.heap H locs → ∀ (ls : Array Slot), lv_has ls 3 [(0, .ref h6), (2, .int x2)] → fX6_reaches_7 s6 a1 n x2 = some r → W p l e rmX6_reaches s m ([.ref h6, .int a1] : List Value).toArray below meth c H locs 0 0 QQ (F0 m 7 ls []) := by
    intro n
    induction n with
    | zero =>
      intro x2 H locs hP hD hS ls hl hf
      cases hf
    | succ n ih =>
      intro x2 H locs hP hD hS ls hl hf
      rw [fX6_reaches_7] at hf
      refine lv_iload_n hx hb dX6_reaches_7 rfl (lv_at hl 1 rfl) ?_
      refine lv_if_lt (tgt := 32) hx hb dX6_reaches_8 (by decide) (fun c_1 => ?_) (fun c_1 => ?_)
      · have hf := it_t c_1 hf
        refine lv_iconst (v := 1) hx hb dX6_reaches_32 (by decide) ?_
        have hf : (some 1 : Option (Int32)) = some r := hf
        have he := Option.some.inj hf
        have he0 : 1 = r := he
        exact hret _ _ _ _ _ _ rfl he0 rfl dX6_reaches_33 hP hD hS
      · have hf := it_f c_1 hf
        refine lv_aload_n hx hb dX6_reaches_11 rfl (lv_at hl 0 rfl) ?_
        refine va_get (D := (dC, dI)) (ci := 6) (v := .ref h6a4) (C := RX6) (T := TX6) (N := 25) hx hb hts in6 hown hK hP 0 rfl rfl 4 (by decide) fl20 (fun _ h9 => h9) rfl dX6_reaches_12 ?_
        refine lv_iload_n hx hb dX6_reaches_15 rfl (lv_at hl 1 rfl) ?_
        obtain ⟨hi_2, hf⟩ := ai_ok hf
        refine va_zald (n := 12) (f := (S6_open s6)) hx hb hK hP 4 1 rfl rfl hi_2 dX6_reaches_16 ?_
        refine lv_if_ne (tgt := 22) hx hb dX6_reaches_17 (by decide) (fun c_3 => ?_) (fun c_3 => ?_)
        · have hf := it_f c_3 hf
          refine lv_aload_n hx hb dX6_reaches_22 rfl (lv_at hl 0 rfl) ?_
          refine va_get (D := (dC, dI)) (ci := 6) (v := .ref h6a5) (C := RX6) (T := TX6) (N := 25) hx hb hts in6 hown hK hP 0 rfl rfl 5 (by decide) fl23 (fun _ h9 => h9) rfl dX6_reaches_23 ?_
          refine lv_iload_n hx hb dX6_reaches_26 rfl (lv_at hl 1 rfl) ?_
          obtain ⟨hi_4, hf⟩ := ai_ok hf
          refine va_iald (n := 12) (f := (S6_place s6)) hx hb hK hP 5 0 rfl rfl hi_4 dX6_reaches_27 ?_
          refine lv_istore_n (lv' := [(2, .int ((S6_place s6) x2.toNatClampNeg)), (0, .ref h6)]) hx hb dX6_reaches_28 rfl hl (by decide) rfl (fun ls hl => ?_)
          refine lv_goto (tgt := 7) hx hb dX6_reaches_29 (by decide) ?_
          exact ih ((S6_place s6) x2.toNatClampNeg) _ _ hP hD hS _ (lv_sub hl [1, 0] rfl) hf
        · have hf := it_t c_3 hf
          refine lv_iconst (v := 0) hx hb dX6_reaches_20 (by decide) ?_
          have hf : (some 0 : Option (Int32)) = some r := hf
          have he := Option.some.inj hf
          have he0 : 0 = r := he
          exact hret _ _ _ _ _ _ rfl he0 rfl dX6_reaches_21 hP hD hS
  unfold fX6_reaches at hf
  refine lv_aload_n hx hb dX6_reaches_0 rfl (lv_at hl 0 rfl) ?_
  refine va_get (D := (dC, dI)) (ci := 6) (v := .ref h6a5) (C := RX6) (T := TX6) (N := 25) hx hb hts in6 hown hK hP 0 rfl rfl 5 (by decide) fl23 (fun _ h9 => h9) rfl dX6_reaches_1 ?_
  refine lv_iload_n hx hb dX6_reaches_4 rfl (lv_at hl 1 rfl) ?_
  obtain ⟨hi_1, hf⟩ := ai_ok hf
  refine va_iald (n := 12) (f := (S6_place s6)) hx hb hK hP 5 0 rfl rfl hi_1 dX6_reaches_5 ?_
  refine lv_istore_n (lv' := [(2, .int ((S6_place s6) a1.toNatClampNeg)), (0, .ref h6), (1, .int a1)]) hx hb dX6_reaches_6 rfl hl (by decide) rfl (fun ls hl => ?_)
  exact J7 64 ((S6_place s6) a1.toNatClampNeg) _ _ hP hD hS _ (lv_sub hl [1, 0] rfl) hf
abbrev rmX6_isInside : Room := { frames := 0, cells := 0, slots := 0, locals := 0 }
set_option maxHeartbeats 2000000 in
set_option maxRecDepth 100000 in
theorem ktX6_isInside (l : Launch) (dC : Nat → ClassId) (dI : Nat → Nat → Nat) (cI cZ : ClassId) (h6 h6a1 h6a2 h6a3 h6a4 h6a5 h6a7 h6a17 h6a18 : Nat) (sz : Nat) (s6 : S6) (a1 : Int32) (a2 : Int32) (r : Int32) (hf : fX6_isInside s6 a1 a2 = some r) : Met l yX6_isInside wsX6_isInside rmX6_isInside (va_Pc [.ref h6, .int a1, .int a2] (pre_w (dC, dI) (cf_6 cI cZ h6 h6a1 h6a2 h6a3 h6a4 h6a5 h6a7 h6a17 h6a18 s6) [(cI, .int), (cZ, .boolean)] sz)) (va_Qi (fun (r' : Int32) (_ : Unit) => r' = r) (post_w (dC, dI) (cf_6 cI cZ h6 h6a1 h6a2 h6a3 h6a4 h6a5 h6a7 h6a17 h6a18 s6) [(cI, .int), (cZ, .boolean)] (va_A (cf_6 cI cZ h6 h6a1 h6a2 h6a3 h6a4 h6a5 h6a7 h6a17 h6a18 s6) sz)) (va_A (cf_6 cI cZ h6 h6a1 h6a2 h6a3 h6a4 h6a5 h6a7 h6a17 h6a18 s6) sz)) 0 0 (va_A (cf_6 cI cZ h6 h6a1 h6a2 h6a3 h6a4 h6a5 h6a7 h6a17 h6a18 s6) sz) := by
  refine gm_z (cc := cX6_isInside) (maxL := 4) (by decide) rfl (Nat.le_of_ble_eq_true rfl) ?_
  intro p e s m below meth c A QQ ls hx hb hml hown hts hK hN hA hP hD hS hl hret
  have hown : s.vm.findClass RX6 = some m.cls := hown
  have hl : lv_has ls 4 [(0, .ref h6), (1, .int a1), (2, .int a2)] := hl
  have in6 : ∀ w ∈ u_ws RX6 TX6 25, w ∈ wsX6_isInside := by decide +kernel
  have fl23 := hts (.fieldLink RX6 23 "ParserParlourModel" "place" "[I") (by decide +kernel)
  have J36 : ∀ (t0 : Int32) (H : Heap) (locs : List Loc), va_P (dC, dI) vwCl (cf_6 cI cZ h6 h6a1 h6a2 h6a3 h6a4 h6a5 h6a7 h6a17 h6a18 s6) H → va_D A (cf_6 cI cZ h6 h6a1 h6a2 h6a3 h6a4 h6a5 h6a7 h6a17 h6a18 s6) → va_S A s.heap H locs → ∀ (ls : Array Slot), lv_has ls 4 [] → fX6_isInside_36 s6 a1 a2 t0 = some r → W p l e rmX6_isInside s m ([.ref h6, .int a1, .int a2] : List Value).toArray below meth c H locs 0 0 QQ (F0 m 36 ls [.int t0]) := by
    intro  t0 H locs hP hD hS ls hl hf
    unfold fX6_isInside_36 at hf
    obtain ⟨hz_1, hf⟩ := bo_ok hf
    have hf : (some t0 : Option (Int32)) = some r := hf
    have he := Option.some.inj hf
    have he0 : t0 = r := he
    exact hret _ _ _ _ _ _ hz_1 he0 rfl dX6_isInside_36 hP hD hS
  have J26 : ∀ (x3 : Int32) (H : Heap) (locs : List Loc), va_P (dC, dI) vwCl (cf_6 cI cZ h6 h6a1 h6a2 h6a3 h6a4 h6a5 h6a7 h6a17 h6a18 s6) H → va_D A (cf_6 cI cZ h6 h6a1 h6a2 h6a3 h6a4 h6a5 h6a7 h6a17 h6a18 s6) → va_S A s.heap H locs → ∀ (ls : Array Slot), lv_has ls 4 [(2, .int a2), (3, .int x3)] → fX6_isInside_26 s6 a1 a2 x3 = some r → W p l e rmX6_isInside s m ([.ref h6, .int a1, .int a2] : List Value).toArray below meth c H locs 0 0 QQ (F0 m 26 ls []) := by
    intro  x3 H locs hP hD hS ls hl hf
    unfold fX6_isInside_26 at hf
    refine lv_iload_n hx hb dX6_isInside_26 rfl (lv_at hl 1 rfl) ?_
    refine lv_iload_n hx hb dX6_isInside_27 rfl (lv_at hl 0 rfl) ?_
    refine lv_icmp_ne (tgt := 35) hx hb dX6_isInside_28 (by decide) (fun c_1 => ?_) (fun c_1 => ?_)
    · have hf := it_f c_1 hf
      refine lv_iconst (v := 0) hx hb dX6_isInside_35 (by decide) ?_
      exact J36 0 _ _ hP hD hS _ (lv_sub hl [] rfl) hf
    · have hf := it_t c_1 hf
      refine lv_iconst (v := 1) hx hb dX6_isInside_31 (by decide) ?_
      refine lv_goto (tgt := 36) hx hb dX6_isInside_32 (by decide) ?_
      exact J36 1 _ _ hP hD hS _ (lv_sub hl [] rfl) hf
  have J7 : ∀ (n : Nat) (x3 : Int32) (H : Heap) (locs : List Loc), va_P (dC, dI) vwCl (cf_6 cI cZ h6 h6a1 h6a2 h6a3 h6a4 h6a5 h6a7 h6a17 h6a18 s6) H → va_D A (cf_6 cI cZ h6 h6a1 h6a2 h6a3 h6a4 h6a5 h6a7 h6a17 h6a18 s6) → va_S A s.heap H locs → ∀ (ls : Array Slot), lv_has ls 4 [(0, .ref h6), (2, .int a2), (3, .int x3)] → fX6_isInside_7 s6 a1 a2 n x3 = some r → W p l e rmX6_isInside s m ([.ref h6, .int a1, .int a2] : List Value).toArray below meth c H locs 0 0 QQ (F0 m 7 ls []) := by
    intro n
    induction n with
    | zero =>
      intro x3 H locs hP hD hS ls hl hf
      cases hf
    | succ n ih =>
      intro x3 H locs hP hD hS ls hl hf
      rw [fX6_isInside_7] at hf
      refine lv_iload_n hx hb dX6_isInside_7 rfl (lv_at hl 2 rfl) ?_
      refine lv_if_lt (tgt := 26) hx hb dX6_isInside_8 (by decide) (fun c_1 => ?_) (fun c_1 => ?_)
      · have hf := it_t c_1 hf
        exact J26 x3 _ _ hP hD hS _ (lv_sub hl [1, 2] rfl) hf
      · have hf := it_f c_1 hf
        refine lv_iload_n hx hb dX6_isInside_11 rfl (lv_at hl 2 rfl) ?_
        refine lv_iload_n hx hb dX6_isInside_12 rfl (lv_at hl 1 rfl) ?_
        refine lv_icmp_eq (tgt := 26) hx hb dX6_isInside_13 (by decide) (fun c_2 => ?_) (fun c_2 => ?_)
        · have hf := it_t c_2 hf
          exact J26 x3 _ _ hP hD hS _ (lv_sub hl [1, 2] rfl) hf
        · have hf := it_f c_2 hf
          refine lv_aload_n hx hb dX6_isInside_16 rfl (lv_at hl 0 rfl) ?_
          refine va_get (D := (dC, dI)) (ci := 6) (v := .ref h6a5) (C := RX6) (T := TX6) (N := 25) hx hb hts in6 hown hK hP 0 rfl rfl 5 (by decide) fl23 (fun _ h9 => h9) rfl dX6_isInside_17 ?_
          refine lv_iload_n hx hb dX6_isInside_20 rfl (lv_at hl 2 rfl) ?_
          obtain ⟨hi_3, hf⟩ := ai_ok hf
          refine va_iald (n := 12) (f := (S6_place s6)) hx hb hK hP 5 0 rfl rfl hi_3 dX6_isInside_21 ?_
          refine lv_istore_n (lv' := [(3, .int ((S6_place s6) x3.toNatClampNeg)), (0, .ref h6), (2, .int a2)]) hx hb dX6_isInside_22 rfl hl (by decide) rfl (fun ls hl => ?_)
          refine lv_goto (tgt := 7) hx hb dX6_isInside_23 (by decide) ?_
          exact ih ((S6_place s6) x3.toNatClampNeg) _ _ hP hD hS _ (lv_sub hl [1, 2, 0] rfl) hf
  unfold fX6_isInside at hf
  refine lv_aload_n hx hb dX6_isInside_0 rfl (lv_at hl 0 rfl) ?_
  refine va_get (D := (dC, dI)) (ci := 6) (v := .ref h6a5) (C := RX6) (T := TX6) (N := 25) hx hb hts in6 hown hK hP 0 rfl rfl 5 (by decide) fl23 (fun _ h9 => h9) rfl dX6_isInside_1 ?_
  refine lv_iload_n hx hb dX6_isInside_4 rfl (lv_at hl 1 rfl) ?_
  obtain ⟨hi_1, hf⟩ := ai_ok hf
  refine va_iald (n := 12) (f := (S6_place s6)) hx hb hK hP 5 0 rfl rfl hi_1 dX6_isInside_5 ?_
  refine lv_istore_n (lv' := [(3, .int ((S6_place s6) a1.toNatClampNeg)), (0, .ref h6), (1, .int a1), (2, .int a2)]) hx hb dX6_isInside_6 rfl hl (by decide) rfl (fun ls hl => ?_)
  exact J7 64 ((S6_place s6) a1.toNatClampNeg) _ _ hP hD hS _ (lv_sub hl [1, 3, 0] rfl) hf
abbrev rmX6_reachable : Room := { frames := 1, cells := 0, slots := 0, locals := 22 }
set_option maxHeartbeats 2000000 in
set_option maxRecDepth 100000 in
theorem ktX6_reachable (l : Launch) (dC : Nat → ClassId) (dI : Nat → Nat → Nat) (cI cZ : ClassId) (h6 h6a1 h6a2 h6a3 h6a4 h6a5 h6a7 h6a17 h6a18 : Nat) (sz : Nat) (s6 : S6) (r : Int32) (hf : fX6_reachable s6 = some r) : Met l yX6_reachable wsX6_reachable rmX6_reachable (va_Pc [.ref h6] (pre_w (dC, dI) (cf_6 cI cZ h6 h6a1 h6a2 h6a3 h6a4 h6a5 h6a7 h6a17 h6a18 s6) [(cI, .int), (cZ, .boolean)] sz)) (va_Qi (fun (r' : Int32) (_ : Unit) => r' = r) (post_w (dC, dI) (cf_6 cI cZ h6 h6a1 h6a2 h6a3 h6a4 h6a5 h6a7 h6a17 h6a18 s6) [(cI, .int), (cZ, .boolean)] (va_A (cf_6 cI cZ h6 h6a1 h6a2 h6a3 h6a4 h6a5 h6a7 h6a17 h6a18 s6) sz)) (va_A (cf_6 cI cZ h6 h6a1 h6a2 h6a3 h6a4 h6a5 h6a7 h6a17 h6a18 s6) sz)) 0 0 (va_A (cf_6 cI cZ h6 h6a1 h6a2 h6a3 h6a4 h6a5 h6a7 h6a17 h6a18 s6) sz) := by
  refine gm_i (cc := cX6_reachable) (maxL := 3) (by decide) rfl (Nat.le_of_ble_eq_true rfl) ?_
  intro p e s m below meth c A QQ ls hx hb hml hown hts hK hN hA hP hD hS hl hret
  have hown : s.vm.findClass RX6 = some m.cls := hown
  have hl : lv_has ls 3 [(0, .ref h6)] := hl
  have in6 : ∀ w ∈ u_ws RX6 TX6 25, w ∈ wsX6_reachable := by decide +kernel
  have fl57 := hts (.fieldLink RX6 57 "ParserParlourModel" "things" "I") (by decide +kernel)
  have J28 : ∀ (k4 : Int32 → Int32 → Option (Int32)) (hk4 : ∀ (x1 : Int32) (x2 : Int32) (H : Heap) (locs : List Loc), va_P (dC, dI) vwCl (cf_6 cI cZ h6 h6a1 h6a2 h6a3 h6a4 h6a5 h6a7 h6a17 h6a18 s6) H → va_D A (cf_6 cI cZ h6 h6a1 h6a2 h6a3 h6a4 h6a5 h6a7 h6a17 h6a18 s6) → va_S A s.heap H locs → ∀ (ls : Array Slot), lv_has ls 3 [(0, .ref h6), (1, .int x1), (2, .int x2)] → k4 x1 x2 = some r → W p l e rmX6_reachable s m ([.ref h6] : List Value).toArray below meth c H locs 0 0 QQ (F0 m 4 ls [])) (x2 : Int32) (t0 : Int32) (t1 : Int32) (H : Heap) (locs : List Loc), va_P (dC, dI) vwCl (cf_6 cI cZ h6 h6a1 h6a2 h6a3 h6a4 h6a5 h6a7 h6a17 h6a18 s6) H → va_D A (cf_6 cI cZ h6 h6a1 h6a2 h6a3 h6a4 h6a5 h6a7 h6a17 h6a18 s6) → va_S A s.heap H locs → ∀ (ls : Array Slot), lv_has ls 3 [(0, .ref h6), (2, .int x2)] → fX6_reachable_28 s6 k4 x2 t0 t1 = some r → W p l e rmX6_reachable s m ([.ref h6] : List Value).toArray below meth c H locs 0 0 QQ (F0 m 28 ls [.int t1, .int t0]) := by
    intro k4 hk4 x2 t0 t1 H locs hP hD hS ls hl hf
    unfold fX6_reachable_28 at hf
    refine lv_ior hx hb dX6_reachable_28 ?_
    refine lv_istore_n (lv' := [(1, .int (t0 ||| t1)), (0, .ref h6), (2, .int x2)]) hx hb dX6_reachable_29 rfl hl (by decide) rfl (fun ls hl => ?_)
    refine lv_iinc (v := (x2 + 1)) (lv' := [(2, .int (x2 + 1)), (1, .int (t0 ||| t1)), (0, .ref h6)]) hx hb dX6_reachable_30 hl (k := 2) rfl rfl (by decide) rfl (fun ls hl => ?_)
    refine lv_goto (tgt := 4) hx hb dX6_reachable_33 (by decide) ?_
    exact hk4 (t0 ||| t1) (x2 + 1) _ _ hP hD hS _ (lv_sub hl [2, 1, 0] rfl) hf
  have J4 : ∀ (n : Nat) (x1 : Int32) (x2 : Int32) (H : Heap) (locs : List Loc), va_P (dC, dI) vwCl (cf_6 cI cZ h6 h6a1 h6a2 h6a3 h6a4 h6a5 h6a7 h6a17 h6a18 s6) H → va_D A (cf_6 cI cZ h6 h6a1 h6a2 h6a3 h6a4 h6a5 h6a7 h6a17 h6a18 s6) → va_S A s.heap H locs → ∀ (ls : Array Slot), lv_has ls 3 [(0, .ref h6), (1, .int x1), (2, .int x2)] → fX6_reachable_4 s6 n x1 x2 = some r → W p l e rmX6_reachable s m ([.ref h6] : List Value).toArray below meth c H locs 0 0 QQ (F0 m 4 ls []) := by
    intro n
    induction n with
    | zero =>
      intro x1 x2 H locs hP hD hS ls hl hf
      cases hf
    | succ n ih =>
      intro x1 x2 H locs hP hD hS ls hl hf
      rw [fX6_reachable_4] at hf
      refine lv_iload_n hx hb dX6_reachable_4 rfl (lv_at hl 2 rfl) ?_
      refine lv_aload_n hx hb dX6_reachable_5 rfl (lv_at hl 0 rfl) ?_
      refine va_get (D := (dC, dI)) (ci := 6) (v := .int (S6_things s6)) (C := RX6) (T := TX6) (N := 25) hx hb hts in6 hown hK hP 0 rfl rfl 0 (by decide) fl57 (fun _ h9 => h9) rfl dX6_reachable_6 ?_
      refine lv_icmp_ge (tgt := 36) hx hb dX6_reachable_9 (by decide) (fun c_1 => ?_) (fun c_1 => ?_)
      · have hf := it_t c_1 hf
        refine lv_iload_n hx hb dX6_reachable_36 rfl (lv_at hl 1 rfl) ?_
        have hf : (some x1 : Option (Int32)) = some r := hf
        have he := Option.some.inj hf
        have he0 : x1 = r := he
        exact hret _ _ _ _ _ _ he0 rfl dX6_reachable_37 hP hD hS
      · have hf := it_f c_1 hf
        refine lv_iload_n hx hb dX6_reachable_12 rfl (lv_at hl 1 rfl) ?_
        refine lv_aload_n hx hb dX6_reachable_13 rfl (lv_at hl 0 rfl) ?_
        refine lv_iload_n hx hb dX6_reachable_14 rfl (lv_at hl 2 rfl) ?_
        obtain ⟨r_2, hc_2, hf⟩ := bn1_ok hf
        refine gc_i (wc := (cf_6 cI cZ h6 h6a1 h6a2 h6a3 h6a4 h6a5 h6a7 h6a17 h6a18 s6)) (wr := ([] : va_W)) (w1 := (cf_6 cI cZ h6 h6a1 h6a2 h6a3 h6a4 h6a5 h6a7 h6a17 h6a18 s6)) (ws' := (cf_6 cI cZ h6 h6a1 h6a2 h6a3 h6a4 h6a5 h6a7 h6a17 h6a18 s6)) hP hD hS hA [0, 1, 2, 3, 4, 5, 6, 7, 8] [] [0, 1, 2, 3, 4, 5, 6, 7, 8] rfl rfl (by decide) (by decide) rfl (by decide) (va_runV (As := [.int x2]) (rest := [.int x1]) ⟨hx, hb, hml, hown, hts⟩ (ktX6_reaches l dC dI cI cZ h6 h6a1 h6a2 h6a3 h6a4 h6a5 h6a7 h6a17 h6a18 _ s6 x2 r_2 hc_2) (cwV 1 hts gX6_reachable_X6_reaches rfl rfl rfl (by decide +kernel) ⟨Nat.le_of_ble_eq_true rfl, Nat.le_of_ble_eq_true rfl⟩) (gc_V (ci := 6) (q0 := 0) (C := RX6) (T := TX6) (N := 25) (hP.sub (ws' := (cf_6 cI cZ h6 h6a1 h6a2 h6a3 h6a4 h6a5 h6a7 h6a17 h6a18 s6)) [0, 1, 2, 3, 4, 5, 6, 7, 8] rfl) (hK.sub (tys' := [(cI, .int), (cZ, .boolean)]) [0, 1] rfl) (hD.sub (ws' := (cf_6 cI cZ h6 h6a1 h6a2 h6a3 h6a4 h6a5 h6a7 h6a17 h6a18 s6)) [0, 1, 2, 3, 4, 5, 6, 7, 8] (by decide) rfl) hN rfl rfl) rfl rfl hl.1 rfl (lv_room (Nat.le_of_ble_eq_true rfl)) dX6_reachable_15 ⟨Nat.zero_le _, Nat.zero_le _⟩) (fun H locs hP hD hS => ?_)
        refine lv_if_eq (tgt := 27) hx hb dX6_reachable_18 (by decide) (fun c_3 => ?_) (fun c_3 => ?_)
        · have hf := it_t c_3 hf
          refine lv_iconst (v := 0) hx hb dX6_reachable_27 (by decide) ?_
          exact J28 (fun x1 x2 => fX6_reachable_4 s6 n x1 x2) (fun x1 x2 H locs hP hD hS ls hl hf => ih x1 x2 H locs hP hD hS ls hl hf) x2 x1 0 _ _ hP hD hS _ (lv_sub hl [0, 2] rfl) hf
        · have hf := it_f c_3 hf
          refine lv_iconst (v := 1) hx hb dX6_reachable_21 (by decide) ?_
          refine lv_iload_n hx hb dX6_reachable_22 rfl (lv_at hl 2 rfl) ?_
          refine lv_ishl hx hb dX6_reachable_23 ?_
          refine lv_goto (tgt := 28) hx hb dX6_reachable_24 (by decide) ?_
          exact J28 (fun x1 x2 => fX6_reachable_4 s6 n x1 x2) (fun x1 x2 H locs hP hD hS ls hl hf => ih x1 x2 H locs hP hD hS ls hl hf) x2 x1 ((1 : Int32) <<< (x2 &&& 31)) _ _ hP hD hS _ (lv_sub hl [0, 2] rfl) hf
  unfold fX6_reachable at hf
  refine lv_iconst (v := 0) hx hb dX6_reachable_0 (by decide) ?_
  refine lv_istore_n (lv' := [(1, .int 0), (0, .ref h6)]) hx hb dX6_reachable_1 rfl hl (by decide) rfl (fun ls hl => ?_)
  refine lv_iconst (v := 0) hx hb dX6_reachable_2 (by decide) ?_
  refine lv_istore_n (lv' := [(2, .int 0), (1, .int 0), (0, .ref h6)]) hx hb dX6_reachable_3 rfl hl (by decide) rfl (fun ls hl => ?_)
  exact J4 64 0 0 _ _ hP hD hS _ (lv_sub hl [2, 1, 0] rfl) hf
abbrev rmX6_inReach : Room := { frames := 2, cells := 0, slots := 0, locals := 44 }
set_option maxHeartbeats 2000000 in
set_option maxRecDepth 100000 in
theorem ktX6_inReach (l : Launch) (dC : Nat → ClassId) (dI : Nat → Nat → Nat) (cI cZ : ClassId) (h6 h6a1 h6a2 h6a3 h6a4 h6a5 h6a7 h6a17 h6a18 : Nat) (sz : Nat) (s6 : S6) (r : Int32) (s6f : S6) (hf : fX6_inReach s6 = some (r, s6f)) : Met l yX6_inReach wsX6_inReach rmX6_inReach (va_Pc [.ref h6] (pre_w (dC, dI) (cf_6 cI cZ h6 h6a1 h6a2 h6a3 h6a4 h6a5 h6a7 h6a17 h6a18 s6) [(cI, .int), (cZ, .boolean)] sz)) (va_Qi (fun (r' : Int32) (_ : Unit) => r' = r) (post_w (dC, dI) (cf_6 cI cZ h6 h6a1 h6a2 h6a3 h6a4 h6a5 h6a7 h6a17 h6a18 s6f) [(cI, .int), (cZ, .boolean)] (va_A (cf_6 cI cZ h6 h6a1 h6a2 h6a3 h6a4 h6a5 h6a7 h6a17 h6a18 s6) sz)) (va_A (cf_6 cI cZ h6 h6a1 h6a2 h6a3 h6a4 h6a5 h6a7 h6a17 h6a18 s6) sz)) 0 0 (va_A (cf_6 cI cZ h6 h6a1 h6a2 h6a3 h6a4 h6a5 h6a7 h6a17 h6a18 s6) sz) := by
  refine gm_i (cc := cX6_inReach) (maxL := 1) (by decide) rfl (Nat.le_of_ble_eq_true rfl) ?_
  intro p e s m below meth c A QQ ls hx hb hml hown hts hK hN hA hP hD hS hl hret
  have hown : s.vm.findClass RX6 = some m.cls := hown
  have hl : lv_has ls 1 [(0, .ref h6)] := hl
  have in6 : ∀ w ∈ u_ws RX6 TX6 25, w ∈ wsX6_inReach := by decide +kernel
  have fl54 := hts (.fieldLink RX6 54 "ParserParlourModel" "thrown" "I") (by decide +kernel)
  unfold fX6_inReach at hf
  refine lv_aload_n hx hb dX6_inReach_0 rfl (lv_at hl 0 rfl) ?_
  refine lv_iconst (v := 0) hx hb dX6_inReach_1 (by decide) ?_
  refine va_put (D := (dC, dI)) (ci := 6) (v := .int 0) (ty := .int) (C := RX6) (T := TX6) (N := 25) hx hb hts in6 tyX6 tyX6_ok nmX6 hown hK hP hD hS 0 rfl rfl 24 (by decide) fl54 (fun _ h9 => h9) rfl (by decide +kernel) rfl rfl (Nat.le_of_ble_eq_true rfl) dX6_inReach_2 (fun H locs hP hD hS => ?_)
  have hP : va_P (dC, dI) vwCl (cf_6 cI cZ h6 h6a1 h6a2 h6a3 h6a4 h6a5 h6a7 h6a17 h6a18 (S6_set_thrown s6 0)) H := Eq.mp (congrArg (fun w => va_P (dC, dI) vwCl w H) (cs6_thrown cI cZ h6 h6a1 h6a2 h6a3 h6a4 h6a5 h6a7 h6a17 h6a18 s6 0)) hP
  have hD : va_D A (cf_6 cI cZ h6 h6a1 h6a2 h6a3 h6a4 h6a5 h6a7 h6a17 h6a18 (S6_set_thrown s6 0)) := Eq.mp (congrArg (fun w => va_D A w) (cs6_thrown cI cZ h6 h6a1 h6a2 h6a3 h6a4 h6a5 h6a7 h6a17 h6a18 s6 0)) hD
  refine lv_aload_n hx hb dX6_inReach_5 rfl (lv_at hl 0 rfl) ?_
  obtain ⟨r_1, hc_1, hf⟩ := bn1_ok hf
  refine gc_i (wc := (cf_6 cI cZ h6 h6a1 h6a2 h6a3 h6a4 h6a5 h6a7 h6a17 h6a18 (S6_set_thrown s6 0))) (wr := ([] : va_W)) (w1 := (cf_6 cI cZ h6 h6a1 h6a2 h6a3 h6a4 h6a5 h6a7 h6a17 h6a18 (S6_set_thrown s6 0))) (ws' := (cf_6 cI cZ h6 h6a1 h6a2 h6a3 h6a4 h6a5 h6a7 h6a17 h6a18 (S6_set_thrown s6 0))) hP hD hS hA [0, 1, 2, 3, 4, 5, 6, 7, 8] [] [0, 1, 2, 3, 4, 5, 6, 7, 8] rfl rfl (by decide) (by decide) rfl (by decide) (va_runV (As := []) (rest := []) ⟨hx, hb, hml, hown, hts⟩ (ktX6_reachable l dC dI cI cZ h6 h6a1 h6a2 h6a3 h6a4 h6a5 h6a7 h6a17 h6a18 _ (S6_set_thrown s6 0) r_1 hc_1) (cwV 0 hts gX6_inReach_X6_reachable rfl rfl rfl (by decide +kernel) ⟨Nat.le_of_ble_eq_true rfl, Nat.le_of_ble_eq_true rfl⟩) (gc_V (ci := 6) (q0 := 0) (C := RX6) (T := TX6) (N := 25) (hP.sub (ws' := (cf_6 cI cZ h6 h6a1 h6a2 h6a3 h6a4 h6a5 h6a7 h6a17 h6a18 (S6_set_thrown s6 0))) [0, 1, 2, 3, 4, 5, 6, 7, 8] rfl) (hK.sub (tys' := [(cI, .int), (cZ, .boolean)]) [0, 1] rfl) (hD.sub (ws' := (cf_6 cI cZ h6 h6a1 h6a2 h6a3 h6a4 h6a5 h6a7 h6a17 h6a18 (S6_set_thrown s6 0))) [0, 1, 2, 3, 4, 5, 6, 7, 8] (by decide) rfl) hN rfl rfl) rfl rfl hl.1 rfl (lv_room (Nat.le_of_ble_eq_true rfl)) dX6_inReach_6 ⟨Nat.zero_le _, Nat.zero_le _⟩) (fun H locs hP hD hS => ?_)
  have hf : (some (r_1, (S6_set_thrown s6 0)) : Option (Int32 × S6)) = some (r, s6f) := hf
  have he := Option.some.inj hf
  have he0 : r_1 = r := congrArg (fun q => q.1) he
  have he1 : (S6_set_thrown s6 0) = s6f := congrArg (fun q => q.2) he
  exact hret _ _ _ _ _ _ he0 (by rw [← he1]) dX6_inReach_9 hP hD hS
abbrev rmX6_suits : Room := { frames := 1, cells := 0, slots := 0, locals := 22 }
set_option maxHeartbeats 2000000 in
set_option maxRecDepth 100000 in
theorem ktX6_suits (l : Launch) (dC : Nat → ClassId) (dI : Nat → Nat → Nat) (cI cZ : ClassId) (h6 h6a1 h6a2 h6a3 h6a4 h6a5 h6a7 h6a17 h6a18 : Nat) (sz : Nat) (s6 : S6) (a1 : Int32) (a2 : Int32) (r : Int32) (hf : fX6_suits s6 a1 a2 = some r) : Met l yX6_suits wsX6_suits rmX6_suits (va_Pc [.ref h6, .int a1, .int a2] (pre_w (dC, dI) (cf_6 cI cZ h6 h6a1 h6a2 h6a3 h6a4 h6a5 h6a7 h6a17 h6a18 s6) [(cI, .int), (cZ, .boolean)] sz)) (va_Qi (fun (r' : Int32) (_ : Unit) => r' = r) (post_w (dC, dI) (cf_6 cI cZ h6 h6a1 h6a2 h6a3 h6a4 h6a5 h6a7 h6a17 h6a18 s6) [(cI, .int), (cZ, .boolean)] (va_A (cf_6 cI cZ h6 h6a1 h6a2 h6a3 h6a4 h6a5 h6a7 h6a17 h6a18 s6) sz)) (va_A (cf_6 cI cZ h6 h6a1 h6a2 h6a3 h6a4 h6a5 h6a7 h6a17 h6a18 s6) sz)) 0 0 (va_A (cf_6 cI cZ h6 h6a1 h6a2 h6a3 h6a4 h6a5 h6a7 h6a17 h6a18 s6) sz) := by
  refine gm_z (cc := cX6_suits) (maxL := 4) (by decide) rfl (Nat.le_of_ble_eq_true rfl) ?_
  intro p e s m below meth c A QQ ls hx hb hml hown hts hK hN hA hP hD hS hl hret
  have hown : s.vm.findClass RX6 = some m.cls := hown
  have hl : lv_has ls 4 [(0, .ref h6), (1, .int a1), (2, .int a2)] := hl
  have in6 : ∀ w ∈ u_ws RX6 TX6 25, w ∈ wsX6_suits := by decide +kernel
  have fl23 := hts (.fieldLink RX6 23 "ParserParlourModel" "place" "[I") (by decide +kernel)
  have fl16 := hts (.fieldLink RX6 16 "ParserParlourModel" "box" "[Z") (by decide +kernel)
  have fl20 := hts (.fieldLink RX6 20 "ParserParlourModel" "open" "[Z") (by decide +kernel)
  have J94 : ∀ (t0 : Int32) (H : Heap) (locs : List Loc), va_P (dC, dI) vwCl (cf_6 cI cZ h6 h6a1 h6a2 h6a3 h6a4 h6a5 h6a7 h6a17 h6a18 s6) H → va_D A (cf_6 cI cZ h6 h6a1 h6a2 h6a3 h6a4 h6a5 h6a7 h6a17 h6a18 s6) → va_S A s.heap H locs → ∀ (ls : Array Slot), lv_has ls 4 [] → fX6_suits_94 s6 a1 a2 t0 = some r → W p l e rmX6_suits s m ([.ref h6, .int a1, .int a2] : List Value).toArray below meth c H locs 0 0 QQ (F0 m 94 ls [.int t0]) := by
    intro  t0 H locs hP hD hS ls hl hf
    unfold fX6_suits_94 at hf
    obtain ⟨hz_1, hf⟩ := bo_ok hf
    have hf : (some t0 : Option (Int32)) = some r := hf
    have he := Option.some.inj hf
    have he0 : t0 = r := he
    exact hret _ _ _ _ _ _ hz_1 he0 rfl dX6_suits_94 hP hD hS
  have J53 : ∀ (x3 : Int32) (H : Heap) (locs : List Loc), va_P (dC, dI) vwCl (cf_6 cI cZ h6 h6a1 h6a2 h6a3 h6a4 h6a5 h6a7 h6a17 h6a18 s6) H → va_D A (cf_6 cI cZ h6 h6a1 h6a2 h6a3 h6a4 h6a5 h6a7 h6a17 h6a18 s6) → va_S A s.heap H locs → ∀ (ls : Array Slot), lv_has ls 4 [(3, .int x3)] → fX6_suits_53 s6 a1 a2 x3 = some r → W p l e rmX6_suits s m ([.ref h6, .int a1, .int a2] : List Value).toArray below meth c H locs 0 0 QQ (F0 m 53 ls []) := by
    intro  x3 H locs hP hD hS ls hl hf
    unfold fX6_suits_53 at hf
    refine lv_iload_n hx hb dX6_suits_53 rfl (lv_at hl 0 rfl) ?_
    refine lv_goto (tgt := 94) hx hb dX6_suits_54 (by decide) ?_
    exact J94 x3 _ _ hP hD hS _ (lv_sub hl [] rfl) hf
  have J84 : ∀ (H : Heap) (locs : List Loc), va_P (dC, dI) vwCl (cf_6 cI cZ h6 h6a1 h6a2 h6a3 h6a4 h6a5 h6a7 h6a17 h6a18 s6) H → va_D A (cf_6 cI cZ h6 h6a1 h6a2 h6a3 h6a4 h6a5 h6a7 h6a17 h6a18 s6) → va_S A s.heap H locs → ∀ (ls : Array Slot), lv_has ls 4 [] → fX6_suits_84 s6 a1 a2 = some r → W p l e rmX6_suits s m ([.ref h6, .int a1, .int a2] : List Value).toArray below meth c H locs 0 0 QQ (F0 m 84 ls []) := by
    intro   H locs hP hD hS ls hl hf
    unfold fX6_suits_84 at hf
    refine lv_iconst (v := 0) hx hb dX6_suits_84 (by decide) ?_
    refine lv_goto (tgt := 94) hx hb dX6_suits_85 (by decide) ?_
    exact J94 0 _ _ hP hD hS _ (lv_sub hl [] rfl) hf
  have J26 : ∀ (t0 : Int32) (H : Heap) (locs : List Loc), va_P (dC, dI) vwCl (cf_6 cI cZ h6 h6a1 h6a2 h6a3 h6a4 h6a5 h6a7 h6a17 h6a18 s6) H → va_D A (cf_6 cI cZ h6 h6a1 h6a2 h6a3 h6a4 h6a5 h6a7 h6a17 h6a18 s6) → va_S A s.heap H locs → ∀ (ls : Array Slot), lv_has ls 4 [(0, .ref h6), (1, .int a1), (2, .int a2)] → fX6_suits_26 s6 a1 a2 t0 = some r → W p l e rmX6_suits s m ([.ref h6, .int a1, .int a2] : List Value).toArray below meth c H locs 0 0 QQ (F0 m 26 ls [.int t0]) := by
    intro  t0 H locs hP hD hS ls hl hf
    unfold fX6_suits_26 at hf
    refine lv_istore_n (lv' := [(3, .int t0), (0, .ref h6), (1, .int a1), (2, .int a2)]) hx hb dX6_suits_26 rfl hl (by decide) rfl (fun ls hl => ?_)
    refine lv_iload_n hx hb dX6_suits_27 rfl (lv_at hl 2 rfl) ?_
    refine lv_if_ne (tgt := 43) hx hb dX6_suits_28 (by decide) (fun c_1 => ?_) (fun c_1 => ?_)
    · have hf := it_f c_1 hf
      refine lv_iload_n hx hb dX6_suits_43 rfl (lv_at hl 2 rfl) ?_
      refine lv_iconst (v := 1) hx hb dX6_suits_44 (by decide) ?_
      refine lv_icmp_eq (tgt := 53) hx hb dX6_suits_45 (by decide) (fun c_2 => ?_) (fun c_2 => ?_)
      · have hf := it_t c_2 hf
        exact J53 t0 _ _ hP hD hS _ (lv_sub hl [0] rfl) hf
      · have hf := it_f c_2 hf
        refine lv_iload_n hx hb dX6_suits_48 rfl (lv_at hl 2 rfl) ?_
        refine lv_iconst (v := 2) hx hb dX6_suits_49 (by decide) ?_
        refine lv_icmp_ne (tgt := 57) hx hb dX6_suits_50 (by decide) (fun c_3 => ?_) (fun c_3 => ?_)
        · have hf := it_f c_3 hf
          refine lv_iload_n hx hb dX6_suits_57 rfl (lv_at hl 2 rfl) ?_
          refine lv_iconst (v := 3) hx hb dX6_suits_58 (by decide) ?_
          refine lv_icmp_ne (tgt := 88) hx hb dX6_suits_59 (by decide) (fun c_4 => ?_) (fun c_4 => ?_)
          · have hf := it_f c_4 hf
            refine lv_aload_n hx hb dX6_suits_88 rfl (lv_at hl 1 rfl) ?_
            refine va_get (D := (dC, dI)) (ci := 6) (v := .ref h6a4) (C := RX6) (T := TX6) (N := 25) hx hb hts in6 hown hK hP 0 rfl rfl 4 (by decide) fl20 (fun _ h9 => h9) rfl dX6_suits_89 ?_
            refine lv_iload_n hx hb dX6_suits_92 rfl (lv_at hl 3 rfl) ?_
            obtain ⟨hi_5, hf⟩ := ai_ok hf
            refine va_zald (n := 12) (f := (S6_open s6)) hx hb hK hP 4 1 rfl rfl hi_5 dX6_suits_93 ?_
            exact J94 ((S6_open s6) a2.toNatClampNeg) _ _ hP hD hS _ (lv_sub hl [] rfl) hf
          · have hf := it_t c_4 hf
            refine lv_aload_n hx hb dX6_suits_62 rfl (lv_at hl 1 rfl) ?_
            refine va_get (D := (dC, dI)) (ci := 6) (v := .ref h6a3) (C := RX6) (T := TX6) (N := 25) hx hb hts in6 hown hK hP 0 rfl rfl 3 (by decide) fl16 (fun _ h9 => h9) rfl dX6_suits_63 ?_
            refine lv_iload_n hx hb dX6_suits_66 rfl (lv_at hl 3 rfl) ?_
            obtain ⟨hi_6, hf⟩ := ai_ok hf
            refine va_zald (n := 12) (f := (S6_box s6)) hx hb hK hP 3 1 rfl rfl hi_6 dX6_suits_67 ?_
            refine lv_if_eq (tgt := 84) hx hb dX6_suits_68 (by decide) (fun c_7 => ?_) (fun c_7 => ?_)
            · have hf := it_t c_7 hf
              exact J84 _ _ hP hD hS _ (lv_sub hl [] rfl) hf
            · have hf := it_f c_7 hf
              refine lv_aload_n hx hb dX6_suits_71 rfl (lv_at hl 1 rfl) ?_
              refine va_get (D := (dC, dI)) (ci := 6) (v := .ref h6a4) (C := RX6) (T := TX6) (N := 25) hx hb hts in6 hown hK hP 0 rfl rfl 4 (by decide) fl20 (fun _ h9 => h9) rfl dX6_suits_72 ?_
              refine lv_iload_n hx hb dX6_suits_75 rfl (lv_at hl 3 rfl) ?_
              obtain ⟨hi_8, hf⟩ := ai_ok hf
              refine va_zald (n := 12) (f := (S6_open s6)) hx hb hK hP 4 1 rfl rfl hi_8 dX6_suits_76 ?_
              refine lv_if_ne (tgt := 84) hx hb dX6_suits_77 (by decide) (fun c_9 => ?_) (fun c_9 => ?_)
              · have hf := it_f c_9 hf
                exact J84 _ _ hP hD hS _ (lv_sub hl [] rfl) hf
              · have hf := it_t c_9 hf
                refine lv_iconst (v := 1) hx hb dX6_suits_80 (by decide) ?_
                refine lv_goto (tgt := 94) hx hb dX6_suits_81 (by decide) ?_
                exact J94 1 _ _ hP hD hS _ (lv_sub hl [] rfl) hf
        · have hf := it_t c_3 hf
          exact J53 t0 _ _ hP hD hS _ (lv_sub hl [0] rfl) hf
    · have hf := it_t c_1 hf
      refine lv_iload_n hx hb dX6_suits_31 rfl (lv_at hl 0 rfl) ?_
      refine lv_if_ne (tgt := 39) hx hb dX6_suits_32 (by decide) (fun c_10 => ?_) (fun c_10 => ?_)
      · have hf := it_f c_10 hf
        refine lv_iconst (v := 0) hx hb dX6_suits_39 (by decide) ?_
        refine lv_goto (tgt := 94) hx hb dX6_suits_40 (by decide) ?_
        exact J94 0 _ _ hP hD hS _ (lv_sub hl [] rfl) hf
      · have hf := it_t c_10 hf
        refine lv_iconst (v := 1) hx hb dX6_suits_35 (by decide) ?_
        refine lv_goto (tgt := 94) hx hb dX6_suits_36 (by decide) ?_
        exact J94 1 _ _ hP hD hS _ (lv_sub hl [] rfl) hf
  unfold fX6_suits at hf
  refine lv_aload_n hx hb dX6_suits_0 rfl (lv_at hl 0 rfl) ?_
  refine lv_iload_n hx hb dX6_suits_1 rfl (lv_at hl 2 rfl) ?_
  obtain ⟨r_1, hc_1, hf⟩ := bn1_ok hf
  refine gc_i (wc := (cf_6 cI cZ h6 h6a1 h6a2 h6a3 h6a4 h6a5 h6a7 h6a17 h6a18 s6)) (wr := ([] : va_W)) (w1 := (cf_6 cI cZ h6 h6a1 h6a2 h6a3 h6a4 h6a5 h6a7 h6a17 h6a18 s6)) (ws' := (cf_6 cI cZ h6 h6a1 h6a2 h6a3 h6a4 h6a5 h6a7 h6a17 h6a18 s6)) hP hD hS hA [0, 1, 2, 3, 4, 5, 6, 7, 8] [] [0, 1, 2, 3, 4, 5, 6, 7, 8] rfl rfl (by decide) (by decide) rfl (by decide) (va_runV (As := [.int a2]) (rest := []) ⟨hx, hb, hml, hown, hts⟩ (ktX6_reaches l dC dI cI cZ h6 h6a1 h6a2 h6a3 h6a4 h6a5 h6a7 h6a17 h6a18 _ s6 a2 r_1 hc_1) (cwV 1 hts gX6_suits_X6_reaches rfl rfl rfl (by decide +kernel) ⟨Nat.le_of_ble_eq_true rfl, Nat.le_of_ble_eq_true rfl⟩) (gc_V (ci := 6) (q0 := 0) (C := RX6) (T := TX6) (N := 25) (hP.sub (ws' := (cf_6 cI cZ h6 h6a1 h6a2 h6a3 h6a4 h6a5 h6a7 h6a17 h6a18 s6)) [0, 1, 2, 3, 4, 5, 6, 7, 8] rfl) (hK.sub (tys' := [(cI, .int), (cZ, .boolean)]) [0, 1] rfl) (hD.sub (ws' := (cf_6 cI cZ h6 h6a1 h6a2 h6a3 h6a4 h6a5 h6a7 h6a17 h6a18 s6)) [0, 1, 2, 3, 4, 5, 6, 7, 8] (by decide) rfl) hN rfl rfl) rfl rfl hl.1 rfl (lv_room (Nat.le_of_ble_eq_true rfl)) dX6_suits_2 ⟨Nat.zero_le _, Nat.zero_le _⟩) (fun H locs hP hD hS => ?_)
  refine lv_if_ne (tgt := 10) hx hb dX6_suits_5 (by decide) (fun c_2 => ?_) (fun c_2 => ?_)
  · have hf := it_f c_2 hf
    refine lv_aload_n hx hb dX6_suits_10 rfl (lv_at hl 0 rfl) ?_
    refine va_get (D := (dC, dI)) (ci := 6) (v := .ref h6a5) (C := RX6) (T := TX6) (N := 25) hx hb hts in6 hown hK hP 0 rfl rfl 5 (by decide) fl23 (fun _ h9 => h9) rfl dX6_suits_11 ?_
    refine lv_iload_n hx hb dX6_suits_14 rfl (lv_at hl 2 rfl) ?_
    obtain ⟨hi_3, hf⟩ := ai_ok hf
    refine va_iald (n := 12) (f := (S6_place s6)) hx hb hK hP 5 0 rfl rfl hi_3 dX6_suits_15 ?_
    refine lv_bipush (v := (-3)) hx hb dX6_suits_16 (by decide) ?_
    refine lv_icmp_ne (tgt := 25) hx hb dX6_suits_18 (by decide) (fun c_4 => ?_) (fun c_4 => ?_)
    · have hf := it_f c_4 hf
      refine lv_iconst (v := 0) hx hb dX6_suits_25 (by decide) ?_
      exact J26 0 _ _ hP hD hS _ (lv_sub hl [0, 1, 2] rfl) hf
    · have hf := it_t c_4 hf
      refine lv_iconst (v := 1) hx hb dX6_suits_21 (by decide) ?_
      refine lv_goto (tgt := 26) hx hb dX6_suits_22 (by decide) ?_
      exact J26 1 _ _ hP hD hS _ (lv_sub hl [0, 1, 2] rfl) hf
  · have hf := it_t c_2 hf
    refine lv_iconst (v := 0) hx hb dX6_suits_8 (by decide) ?_
    have hf : (some 0 : Option (Int32)) = some r := hf
    have he := Option.some.inj hf
    have he0 : 0 = r := he
    exact hret _ _ _ _ _ _ rfl he0 rfl dX6_suits_9 hP hD hS
abbrev rmX6_suited : Room := { frames := 2, cells := 0, slots := 0, locals := 45 }
set_option maxHeartbeats 2000000 in
set_option maxRecDepth 100000 in
theorem ktX6_suited (l : Launch) (dC : Nat → ClassId) (dI : Nat → Nat → Nat) (cI cZ : ClassId) (h6 h6a1 h6a2 h6a3 h6a4 h6a5 h6a7 h6a17 h6a18 : Nat) (sz : Nat) (s6 : S6) (a1 : Int32) (a2 : Int32) (r : Int32) (hf : fX6_suited s6 a1 a2 = some r) : Met l yX6_suited wsX6_suited rmX6_suited (va_Pc [.ref h6, .int a1, .int a2] (pre_w (dC, dI) (cf_6 cI cZ h6 h6a1 h6a2 h6a3 h6a4 h6a5 h6a7 h6a17 h6a18 s6) [(cI, .int), (cZ, .boolean)] sz)) (va_Qi (fun (r' : Int32) (_ : Unit) => r' = r) (post_w (dC, dI) (cf_6 cI cZ h6 h6a1 h6a2 h6a3 h6a4 h6a5 h6a7 h6a17 h6a18 s6) [(cI, .int), (cZ, .boolean)] (va_A (cf_6 cI cZ h6 h6a1 h6a2 h6a3 h6a4 h6a5 h6a7 h6a17 h6a18 s6) sz)) (va_A (cf_6 cI cZ h6 h6a1 h6a2 h6a3 h6a4 h6a5 h6a7 h6a17 h6a18 s6) sz)) 0 0 (va_A (cf_6 cI cZ h6 h6a1 h6a2 h6a3 h6a4 h6a5 h6a7 h6a17 h6a18 s6) sz) := by
  refine gm_i (cc := cX6_suited) (maxL := 5) (by decide) rfl (Nat.le_of_ble_eq_true rfl) ?_
  intro p e s m below meth c A QQ ls hx hb hml hown hts hK hN hA hP hD hS hl hret
  have hown : s.vm.findClass RX6 = some m.cls := hown
  have hl : lv_has ls 5 [(0, .ref h6), (1, .int a1), (2, .int a2)] := hl
  have in6 : ∀ w ∈ u_ws RX6 TX6 25, w ∈ wsX6_suited := by decide +kernel
  have fl57 := hts (.fieldLink RX6 57 "ParserParlourModel" "things" "I") (by decide +kernel)
  have J43 : ∀ (k5 : Int32 → Int32 → Option (Int32)) (hk5 : ∀ (x3 : Int32) (x4 : Int32) (H : Heap) (locs : List Loc), va_P (dC, dI) vwCl (cf_6 cI cZ h6 h6a1 h6a2 h6a3 h6a4 h6a5 h6a7 h6a17 h6a18 s6) H → va_D A (cf_6 cI cZ h6 h6a1 h6a2 h6a3 h6a4 h6a5 h6a7 h6a17 h6a18 s6) → va_S A s.heap H locs → ∀ (ls : Array Slot), lv_has ls 5 [(0, .ref h6), (1, .int a1), (2, .int a2), (3, .int x3), (4, .int x4)] → k5 x3 x4 = some r → W p l e rmX6_suited s m ([.ref h6, .int a1, .int a2] : List Value).toArray below meth c H locs 0 0 QQ (F0 m 5 ls [])) (x4 : Int32) (t0 : Int32) (t1 : Int32) (H : Heap) (locs : List Loc), va_P (dC, dI) vwCl (cf_6 cI cZ h6 h6a1 h6a2 h6a3 h6a4 h6a5 h6a7 h6a17 h6a18 s6) H → va_D A (cf_6 cI cZ h6 h6a1 h6a2 h6a3 h6a4 h6a5 h6a7 h6a17 h6a18 s6) → va_S A s.heap H locs → ∀ (ls : Array Slot), lv_has ls 5 [(0, .ref h6), (1, .int a1), (2, .int a2), (4, .int x4)] → fX6_suited_43 s6 a1 a2 k5 x4 t0 t1 = some r → W p l e rmX6_suited s m ([.ref h6, .int a1, .int a2] : List Value).toArray below meth c H locs 0 0 QQ (F0 m 43 ls [.int t1, .int t0]) := by
    intro k5 hk5 x4 t0 t1 H locs hP hD hS ls hl hf
    unfold fX6_suited_43 at hf
    refine lv_ior hx hb dX6_suited_43 ?_
    refine lv_istore_n (lv' := [(3, .int (t0 ||| t1)), (0, .ref h6), (1, .int a1), (2, .int a2), (4, .int x4)]) hx hb dX6_suited_44 rfl hl (by decide) rfl (fun ls hl => ?_)
    refine lv_iinc (v := (x4 + 1)) (lv' := [(4, .int (x4 + 1)), (3, .int (t0 ||| t1)), (0, .ref h6), (1, .int a1), (2, .int a2)]) hx hb dX6_suited_45 hl (k := 4) rfl rfl (by decide) rfl (fun ls hl => ?_)
    refine lv_goto (tgt := 5) hx hb dX6_suited_48 (by decide) ?_
    exact hk5 (t0 ||| t1) (x4 + 1) _ _ hP hD hS _ (lv_sub hl [2, 3, 4, 1, 0] rfl) hf
  have J42 : ∀ (k5 : Int32 → Int32 → Option (Int32)) (hk5 : ∀ (x3 : Int32) (x4 : Int32) (H : Heap) (locs : List Loc), va_P (dC, dI) vwCl (cf_6 cI cZ h6 h6a1 h6a2 h6a3 h6a4 h6a5 h6a7 h6a17 h6a18 s6) H → va_D A (cf_6 cI cZ h6 h6a1 h6a2 h6a3 h6a4 h6a5 h6a7 h6a17 h6a18 s6) → va_S A s.heap H locs → ∀ (ls : Array Slot), lv_has ls 5 [(0, .ref h6), (1, .int a1), (2, .int a2), (3, .int x3), (4, .int x4)] → k5 x3 x4 = some r → W p l e rmX6_suited s m ([.ref h6, .int a1, .int a2] : List Value).toArray below meth c H locs 0 0 QQ (F0 m 5 ls [])) (x4 : Int32) (t0 : Int32) (H : Heap) (locs : List Loc), va_P (dC, dI) vwCl (cf_6 cI cZ h6 h6a1 h6a2 h6a3 h6a4 h6a5 h6a7 h6a17 h6a18 s6) H → va_D A (cf_6 cI cZ h6 h6a1 h6a2 h6a3 h6a4 h6a5 h6a7 h6a17 h6a18 s6) → va_S A s.heap H locs → ∀ (ls : Array Slot), lv_has ls 5 [(0, .ref h6), (1, .int a1), (2, .int a2), (4, .int x4)] → fX6_suited_42 s6 a1 a2 k5 x4 t0 = some r → W p l e rmX6_suited s m ([.ref h6, .int a1, .int a2] : List Value).toArray below meth c H locs 0 0 QQ (F0 m 42 ls [.int t0]) := by
    intro k5 hk5 x4 t0 H locs hP hD hS ls hl hf
    unfold fX6_suited_42 at hf
    refine lv_iconst (v := 0) hx hb dX6_suited_42 (by decide) ?_
    exact J43 k5 hk5 x4 t0 0 _ _ hP hD hS _ (lv_sub hl [0, 1, 2, 3] rfl) hf
  have J5 : ∀ (n : Nat) (x3 : Int32) (x4 : Int32) (H : Heap) (locs : List Loc), va_P (dC, dI) vwCl (cf_6 cI cZ h6 h6a1 h6a2 h6a3 h6a4 h6a5 h6a7 h6a17 h6a18 s6) H → va_D A (cf_6 cI cZ h6 h6a1 h6a2 h6a3 h6a4 h6a5 h6a7 h6a17 h6a18 s6) → va_S A s.heap H locs → ∀ (ls : Array Slot), lv_has ls 5 [(0, .ref h6), (1, .int a1), (2, .int a2), (3, .int x3), (4, .int x4)] → fX6_suited_5 s6 a1 a2 n x3 x4 = some r → W p l e rmX6_suited s m ([.ref h6, .int a1, .int a2] : List Value).toArray below meth c H locs 0 0 QQ (F0 m 5 ls []) := by
    intro n
    induction n with
    | zero =>
      intro x3 x4 H locs hP hD hS ls hl hf
      cases hf
    | succ n ih =>
      intro x3 x4 H locs hP hD hS ls hl hf
      rw [fX6_suited_5] at hf
      refine lv_iload hx hb dX6_suited_5 (lv_at hl 4 rfl) ?_
      refine lv_aload_n hx hb dX6_suited_7 rfl (lv_at hl 0 rfl) ?_
      refine va_get (D := (dC, dI)) (ci := 6) (v := .int (S6_things s6)) (C := RX6) (T := TX6) (N := 25) hx hb hts in6 hown hK hP 0 rfl rfl 0 (by decide) fl57 (fun _ h9 => h9) rfl dX6_suited_8 ?_
      refine lv_icmp_ge (tgt := 51) hx hb dX6_suited_11 (by decide) (fun c_1 => ?_) (fun c_1 => ?_)
      · have hf := it_t c_1 hf
        refine lv_iload_n hx hb dX6_suited_51 rfl (lv_at hl 3 rfl) ?_
        have hf : (some x3 : Option (Int32)) = some r := hf
        have he := Option.some.inj hf
        have he0 : x3 = r := he
        exact hret _ _ _ _ _ _ he0 rfl dX6_suited_52 hP hD hS
      · have hf := it_f c_1 hf
        refine lv_iload_n hx hb dX6_suited_14 rfl (lv_at hl 3 rfl) ?_
        refine lv_iload_n hx hb dX6_suited_15 rfl (lv_at hl 2 rfl) ?_
        refine lv_iload hx hb dX6_suited_16 (lv_at hl 4 rfl) ?_
        refine lv_ishr hx hb dX6_suited_18 ?_
        refine lv_iconst (v := 1) hx hb dX6_suited_19 (by decide) ?_
        refine lv_iand hx hb dX6_suited_20 ?_
        refine lv_iconst (v := 1) hx hb dX6_suited_21 (by decide) ?_
        refine lv_icmp_ne (tgt := 42) hx hb dX6_suited_22 (by decide) (fun c_2 => ?_) (fun c_2 => ?_)
        · have hf := it_f c_2 hf
          exact J42 (fun x3 x4 => fX6_suited_5 s6 a1 a2 n x3 x4) (fun x3 x4 H locs hP hD hS ls hl hf => ih x3 x4 H locs hP hD hS ls hl hf) x4 x3 _ _ hP hD hS _ (lv_sub hl [0, 1, 2, 4] rfl) hf
        · have hf := it_t c_2 hf
          refine lv_aload_n hx hb dX6_suited_25 rfl (lv_at hl 0 rfl) ?_
          refine lv_iload_n hx hb dX6_suited_26 rfl (lv_at hl 1 rfl) ?_
          refine lv_iload hx hb dX6_suited_27 (lv_at hl 4 rfl) ?_
          obtain ⟨r_3, hc_3, hf⟩ := bn1_ok hf
          refine gc_i (wc := (cf_6 cI cZ h6 h6a1 h6a2 h6a3 h6a4 h6a5 h6a7 h6a17 h6a18 s6)) (wr := ([] : va_W)) (w1 := (cf_6 cI cZ h6 h6a1 h6a2 h6a3 h6a4 h6a5 h6a7 h6a17 h6a18 s6)) (ws' := (cf_6 cI cZ h6 h6a1 h6a2 h6a3 h6a4 h6a5 h6a7 h6a17 h6a18 s6)) hP hD hS hA [0, 1, 2, 3, 4, 5, 6, 7, 8] [] [0, 1, 2, 3, 4, 5, 6, 7, 8] rfl rfl (by decide) (by decide) rfl (by decide) (va_runV (As := [.int a1, .int x4]) (rest := [.int x3]) ⟨hx, hb, hml, hown, hts⟩ (ktX6_suits l dC dI cI cZ h6 h6a1 h6a2 h6a3 h6a4 h6a5 h6a7 h6a17 h6a18 _ s6 a1 x4 r_3 hc_3) (cwV 2 hts gX6_suited_X6_suits rfl rfl rfl (by decide +kernel) ⟨Nat.le_of_ble_eq_true rfl, Nat.le_of_ble_eq_true rfl⟩) (gc_V (ci := 6) (q0 := 0) (C := RX6) (T := TX6) (N := 25) (hP.sub (ws' := (cf_6 cI cZ h6 h6a1 h6a2 h6a3 h6a4 h6a5 h6a7 h6a17 h6a18 s6)) [0, 1, 2, 3, 4, 5, 6, 7, 8] rfl) (hK.sub (tys' := [(cI, .int), (cZ, .boolean)]) [0, 1] rfl) (hD.sub (ws' := (cf_6 cI cZ h6 h6a1 h6a2 h6a3 h6a4 h6a5 h6a7 h6a17 h6a18 s6)) [0, 1, 2, 3, 4, 5, 6, 7, 8] (by decide) rfl) hN rfl rfl) rfl rfl hl.1 rfl (lv_room (Nat.le_of_ble_eq_true rfl)) dX6_suited_29 ⟨Nat.zero_le _, Nat.zero_le _⟩) (fun H locs hP hD hS => ?_)
          refine lv_if_eq (tgt := 42) hx hb dX6_suited_32 (by decide) (fun c_4 => ?_) (fun c_4 => ?_)
          · have hf := it_t c_4 hf
            exact J42 (fun x3 x4 => fX6_suited_5 s6 a1 a2 n x3 x4) (fun x3 x4 H locs hP hD hS ls hl hf => ih x3 x4 H locs hP hD hS ls hl hf) x4 x3 _ _ hP hD hS _ (lv_sub hl [0, 1, 2, 4] rfl) hf
          · have hf := it_f c_4 hf
            refine lv_iconst (v := 1) hx hb dX6_suited_35 (by decide) ?_
            refine lv_iload hx hb dX6_suited_36 (lv_at hl 4 rfl) ?_
            refine lv_ishl hx hb dX6_suited_38 ?_
            refine lv_goto (tgt := 43) hx hb dX6_suited_39 (by decide) ?_
            exact J43 (fun x3 x4 => fX6_suited_5 s6 a1 a2 n x3 x4) (fun x3 x4 H locs hP hD hS ls hl hf => ih x3 x4 H locs hP hD hS ls hl hf) x4 x3 ((1 : Int32) <<< (x4 &&& 31)) _ _ hP hD hS _ (lv_sub hl [0, 1, 2, 4] rfl) hf
  unfold fX6_suited at hf
  refine lv_iconst (v := 0) hx hb dX6_suited_0 (by decide) ?_
  refine lv_istore_n (lv' := [(3, .int 0), (0, .ref h6), (1, .int a1), (2, .int a2)]) hx hb dX6_suited_1 rfl hl (by decide) rfl (fun ls hl => ?_)
  refine lv_iconst (v := 0) hx hb dX6_suited_2 (by decide) ?_
  refine lv_istore (lv' := [(4, .int 0), (3, .int 0), (0, .ref h6), (1, .int a1), (2, .int a2)]) hx hb dX6_suited_3 hl (by decide) rfl (fun ls hl => ?_)
  exact J5 64 0 0 _ _ hP hD hS _ (lv_sub hl [2, 3, 4, 1, 0] rfl) hf
abbrev rmX6_having : Room := { frames := 0, cells := 0, slots := 0, locals := 0 }
set_option maxHeartbeats 2000000 in
set_option maxRecDepth 100000 in
theorem ktX6_having (l : Launch) (dC : Nat → ClassId) (dI : Nat → Nat → Nat) (cI cZ : ClassId) (h6 h6a1 h6a2 h6a3 h6a4 h6a5 h6a7 h6a17 h6a18 : Nat) (sz : Nat) (s6 : S6) (a1 : Int32) (a2 : Int32) (a3 : Int32) (r : Int32) (hf : fX6_having s6 a1 a2 a3 = some r) : Met l yX6_having wsX6_having rmX6_having (va_Pc [.ref h6, .int a1, .int a2, .int a3] (pre_w (dC, dI) (cf_6 cI cZ h6 h6a1 h6a2 h6a3 h6a4 h6a5 h6a7 h6a17 h6a18 s6) [(cI, .int), (cZ, .boolean)] sz)) (va_Qi (fun (r' : Int32) (_ : Unit) => r' = r) (post_w (dC, dI) (cf_6 cI cZ h6 h6a1 h6a2 h6a3 h6a4 h6a5 h6a7 h6a17 h6a18 s6) [(cI, .int), (cZ, .boolean)] (va_A (cf_6 cI cZ h6 h6a1 h6a2 h6a3 h6a4 h6a5 h6a7 h6a17 h6a18 s6) sz)) (va_A (cf_6 cI cZ h6 h6a1 h6a2 h6a3 h6a4 h6a5 h6a7 h6a17 h6a18 s6) sz)) 0 0 (va_A (cf_6 cI cZ h6 h6a1 h6a2 h6a3 h6a4 h6a5 h6a7 h6a17 h6a18 s6) sz) := by
  refine gm_i (cc := cX6_having) (maxL := 7) (by decide) rfl (Nat.le_of_ble_eq_true rfl) ?_
  intro p e s m below meth c A QQ ls hx hb hml hown hts hK hN hA hP hD hS hl hret
  have hown : s.vm.findClass RX6 = some m.cls := hown
  have hl : lv_has ls 7 [(0, .ref h6), (1, .int a1), (2, .int a2), (3, .int a3)] := hl
  have in6 : ∀ w ∈ u_ws RX6 TX6 25, w ∈ wsX6_having := by decide +kernel
  have fl57 := hts (.fieldLink RX6 57 "ParserParlourModel" "things" "I") (by decide +kernel)
  have fl13 := hts (.fieldLink RX6 13 "ParserParlourModel" "adjectives" "[I") (by decide +kernel)
  have fl7 := hts (.fieldLink RX6 7 "ParserParlourModel" "noun" "[I") (by decide +kernel)
  have J76 : ∀ (k6 : Int32 → Int32 → Option (Int32)) (hk6 : ∀ (x4 : Int32) (x5 : Int32) (H : Heap) (locs : List Loc), va_P (dC, dI) vwCl (cf_6 cI cZ h6 h6a1 h6a2 h6a3 h6a4 h6a5 h6a7 h6a17 h6a18 s6) H → va_D A (cf_6 cI cZ h6 h6a1 h6a2 h6a3 h6a4 h6a5 h6a7 h6a17 h6a18 s6) → va_S A s.heap H locs → ∀ (ls : Array Slot), lv_has ls 7 [(0, .ref h6), (1, .int a1), (2, .int a2), (3, .int a3), (4, .int x4), (5, .int x5)] → k6 x4 x5 = some r → W p l e rmX6_having s m ([.ref h6, .int a1, .int a2, .int a3] : List Value).toArray below meth c H locs 0 0 QQ (F0 m 6 ls [])) (x5 : Int32) (t0 : Int32) (t1 : Int32) (H : Heap) (locs : List Loc), va_P (dC, dI) vwCl (cf_6 cI cZ h6 h6a1 h6a2 h6a3 h6a4 h6a5 h6a7 h6a17 h6a18 s6) H → va_D A (cf_6 cI cZ h6 h6a1 h6a2 h6a3 h6a4 h6a5 h6a7 h6a17 h6a18 s6) → va_S A s.heap H locs → ∀ (ls : Array Slot), lv_has ls 7 [(0, .ref h6), (1, .int a1), (2, .int a2), (3, .int a3), (5, .int x5)] → fX6_having_76 s6 a1 a2 a3 k6 x5 t0 t1 = some r → W p l e rmX6_having s m ([.ref h6, .int a1, .int a2, .int a3] : List Value).toArray below meth c H locs 0 0 QQ (F0 m 76 ls [.int t1, .int t0]) := by
    intro k6 hk6 x5 t0 t1 H locs hP hD hS ls hl hf
    unfold fX6_having_76 at hf
    refine lv_ior hx hb dX6_having_76 ?_
    refine lv_istore (lv' := [(4, .int (t0 ||| t1)), (0, .ref h6), (1, .int a1), (2, .int a2), (3, .int a3), (5, .int x5)]) hx hb dX6_having_77 hl (by decide) rfl (fun ls hl => ?_)
    refine lv_iinc (v := (x5 + 1)) (lv' := [(5, .int (x5 + 1)), (4, .int (t0 ||| t1)), (0, .ref h6), (1, .int a1), (2, .int a2), (3, .int a3)]) hx hb dX6_having_79 hl (k := 5) rfl rfl (by decide) rfl (fun ls hl => ?_)
    refine lv_goto (tgt := 6) hx hb dX6_having_82 (by decide) ?_
    exact hk6 (t0 ||| t1) (x5 + 1) _ _ hP hD hS _ (lv_sub hl [2, 3, 4, 5, 1, 0] rfl) hf
  have J75 : ∀ (k6 : Int32 → Int32 → Option (Int32)) (hk6 : ∀ (x4 : Int32) (x5 : Int32) (H : Heap) (locs : List Loc), va_P (dC, dI) vwCl (cf_6 cI cZ h6 h6a1 h6a2 h6a3 h6a4 h6a5 h6a7 h6a17 h6a18 s6) H → va_D A (cf_6 cI cZ h6 h6a1 h6a2 h6a3 h6a4 h6a5 h6a7 h6a17 h6a18 s6) → va_S A s.heap H locs → ∀ (ls : Array Slot), lv_has ls 7 [(0, .ref h6), (1, .int a1), (2, .int a2), (3, .int a3), (4, .int x4), (5, .int x5)] → k6 x4 x5 = some r → W p l e rmX6_having s m ([.ref h6, .int a1, .int a2, .int a3] : List Value).toArray below meth c H locs 0 0 QQ (F0 m 6 ls [])) (x5 : Int32) (t0 : Int32) (H : Heap) (locs : List Loc), va_P (dC, dI) vwCl (cf_6 cI cZ h6 h6a1 h6a2 h6a3 h6a4 h6a5 h6a7 h6a17 h6a18 s6) H → va_D A (cf_6 cI cZ h6 h6a1 h6a2 h6a3 h6a4 h6a5 h6a7 h6a17 h6a18 s6) → va_S A s.heap H locs → ∀ (ls : Array Slot), lv_has ls 7 [(0, .ref h6), (1, .int a1), (2, .int a2), (3, .int a3), (5, .int x5)] → fX6_having_75 s6 a1 a2 a3 k6 x5 t0 = some r → W p l e rmX6_having s m ([.ref h6, .int a1, .int a2, .int a3] : List Value).toArray below meth c H locs 0 0 QQ (F0 m 75 ls [.int t0]) := by
    intro k6 hk6 x5 t0 H locs hP hD hS ls hl hf
    unfold fX6_having_75 at hf
    refine lv_iconst (v := 0) hx hb dX6_having_75 (by decide) ?_
    exact J76 k6 hk6 x5 t0 0 _ _ hP hD hS _ (lv_sub hl [0, 1, 2, 3, 4] rfl) hf
  have J49 : ∀ (k6 : Int32 → Int32 → Option (Int32)) (hk6 : ∀ (x4 : Int32) (x5 : Int32) (H : Heap) (locs : List Loc), va_P (dC, dI) vwCl (cf_6 cI cZ h6 h6a1 h6a2 h6a3 h6a4 h6a5 h6a7 h6a17 h6a18 s6) H → va_D A (cf_6 cI cZ h6 h6a1 h6a2 h6a3 h6a4 h6a5 h6a7 h6a17 h6a18 s6) → va_S A s.heap H locs → ∀ (ls : Array Slot), lv_has ls 7 [(0, .ref h6), (1, .int a1), (2, .int a2), (3, .int a3), (4, .int x4), (5, .int x5)] → k6 x4 x5 = some r → W p l e rmX6_having s m ([.ref h6, .int a1, .int a2, .int a3] : List Value).toArray below meth c H locs 0 0 QQ (F0 m 6 ls [])) (x4 : Int32) (x5 : Int32) (t0 : Int32) (H : Heap) (locs : List Loc), va_P (dC, dI) vwCl (cf_6 cI cZ h6 h6a1 h6a2 h6a3 h6a4 h6a5 h6a7 h6a17 h6a18 s6) H → va_D A (cf_6 cI cZ h6 h6a1 h6a2 h6a3 h6a4 h6a5 h6a7 h6a17 h6a18 s6) → va_S A s.heap H locs → ∀ (ls : Array Slot), lv_has ls 7 [(0, .ref h6), (1, .int a1), (2, .int a2), (3, .int a3), (4, .int x4), (5, .int x5)] → fX6_having_49 s6 a1 a2 a3 k6 x4 x5 t0 = some r → W p l e rmX6_having s m ([.ref h6, .int a1, .int a2, .int a3] : List Value).toArray below meth c H locs 0 0 QQ (F0 m 49 ls [.int t0]) := by
    intro k6 hk6 x4 x5 t0 H locs hP hD hS ls hl hf
    unfold fX6_having_49 at hf
    refine lv_istore (lv' := [(6, .int t0), (0, .ref h6), (1, .int a1), (2, .int a2), (3, .int a3), (4, .int x4), (5, .int x5)]) hx hb dX6_having_49 hl (by decide) rfl (fun ls hl => ?_)
    refine lv_iload hx hb dX6_having_51 (lv_at hl 5 rfl) ?_
    refine lv_iload_n hx hb dX6_having_53 rfl (lv_at hl 2 rfl) ?_
    refine lv_iload hx hb dX6_having_54 (lv_at hl 6 rfl) ?_
    refine lv_ishr hx hb dX6_having_56 ?_
    refine lv_iconst (v := 1) hx hb dX6_having_57 (by decide) ?_
    refine lv_iand hx hb dX6_having_58 ?_
    refine lv_iconst (v := 1) hx hb dX6_having_59 (by decide) ?_
    refine lv_icmp_ne (tgt := 75) hx hb dX6_having_60 (by decide) (fun c_1 => ?_) (fun c_1 => ?_)
    · have hf := it_f c_1 hf
      exact J75 k6 hk6 x5 x4 _ _ hP hD hS _ (lv_sub hl [1, 2, 3, 4, 6] rfl) hf
    · have hf := it_t c_1 hf
      refine lv_iload hx hb dX6_having_63 (lv_at hl 0 rfl) ?_
      refine lv_if_eq (tgt := 75) hx hb dX6_having_65 (by decide) (fun c_2 => ?_) (fun c_2 => ?_)
      · have hf := it_t c_2 hf
        exact J75 k6 hk6 x5 x4 _ _ hP hD hS _ (lv_sub hl [1, 2, 3, 4, 6] rfl) hf
      · have hf := it_f c_2 hf
        refine lv_iconst (v := 1) hx hb dX6_having_68 (by decide) ?_
        refine lv_iload hx hb dX6_having_69 (lv_at hl 6 rfl) ?_
        refine lv_ishl hx hb dX6_having_71 ?_
        refine lv_goto (tgt := 76) hx hb dX6_having_72 (by decide) ?_
        exact J76 k6 hk6 x5 x4 ((1 : Int32) <<< (x5 &&& 31)) _ _ hP hD hS _ (lv_sub hl [1, 2, 3, 4, 6] rfl) hf
  have J48 : ∀ (k6 : Int32 → Int32 → Option (Int32)) (hk6 : ∀ (x4 : Int32) (x5 : Int32) (H : Heap) (locs : List Loc), va_P (dC, dI) vwCl (cf_6 cI cZ h6 h6a1 h6a2 h6a3 h6a4 h6a5 h6a7 h6a17 h6a18 s6) H → va_D A (cf_6 cI cZ h6 h6a1 h6a2 h6a3 h6a4 h6a5 h6a7 h6a17 h6a18 s6) → va_S A s.heap H locs → ∀ (ls : Array Slot), lv_has ls 7 [(0, .ref h6), (1, .int a1), (2, .int a2), (3, .int a3), (4, .int x4), (5, .int x5)] → k6 x4 x5 = some r → W p l e rmX6_having s m ([.ref h6, .int a1, .int a2, .int a3] : List Value).toArray below meth c H locs 0 0 QQ (F0 m 6 ls [])) (x4 : Int32) (x5 : Int32) (H : Heap) (locs : List Loc), va_P (dC, dI) vwCl (cf_6 cI cZ h6 h6a1 h6a2 h6a3 h6a4 h6a5 h6a7 h6a17 h6a18 s6) H → va_D A (cf_6 cI cZ h6 h6a1 h6a2 h6a3 h6a4 h6a5 h6a7 h6a17 h6a18 s6) → va_S A s.heap H locs → ∀ (ls : Array Slot), lv_has ls 7 [(0, .ref h6), (1, .int a1), (2, .int a2), (3, .int a3), (4, .int x4), (5, .int x5)] → fX6_having_48 s6 a1 a2 a3 k6 x4 x5 = some r → W p l e rmX6_having s m ([.ref h6, .int a1, .int a2, .int a3] : List Value).toArray below meth c H locs 0 0 QQ (F0 m 48 ls []) := by
    intro k6 hk6 x4 x5 H locs hP hD hS ls hl hf
    unfold fX6_having_48 at hf
    refine lv_iconst (v := 0) hx hb dX6_having_48 (by decide) ?_
    exact J49 k6 hk6 x4 x5 0 _ _ hP hD hS _ (lv_sub hl [0, 1, 2, 3, 4, 5] rfl) hf
  have J44 : ∀ (k6 : Int32 → Int32 → Option (Int32)) (hk6 : ∀ (x4 : Int32) (x5 : Int32) (H : Heap) (locs : List Loc), va_P (dC, dI) vwCl (cf_6 cI cZ h6 h6a1 h6a2 h6a3 h6a4 h6a5 h6a7 h6a17 h6a18 s6) H → va_D A (cf_6 cI cZ h6 h6a1 h6a2 h6a3 h6a4 h6a5 h6a7 h6a17 h6a18 s6) → va_S A s.heap H locs → ∀ (ls : Array Slot), lv_has ls 7 [(0, .ref h6), (1, .int a1), (2, .int a2), (3, .int a3), (4, .int x4), (5, .int x5)] → k6 x4 x5 = some r → W p l e rmX6_having s m ([.ref h6, .int a1, .int a2, .int a3] : List Value).toArray below meth c H locs 0 0 QQ (F0 m 6 ls [])) (x4 : Int32) (x5 : Int32) (H : Heap) (locs : List Loc), va_P (dC, dI) vwCl (cf_6 cI cZ h6 h6a1 h6a2 h6a3 h6a4 h6a5 h6a7 h6a17 h6a18 s6) H → va_D A (cf_6 cI cZ h6 h6a1 h6a2 h6a3 h6a4 h6a5 h6a7 h6a17 h6a18 s6) → va_S A s.heap H locs → ∀ (ls : Array Slot), lv_has ls 7 [(0, .ref h6), (1, .int a1), (2, .int a2), (3, .int a3), (4, .int x4), (5, .int x5)] → fX6_having_44 s6 a1 a2 a3 k6 x4 x5 = some r → W p l e rmX6_having s m ([.ref h6, .int a1, .int a2, .int a3] : List Value).toArray below meth c H locs 0 0 QQ (F0 m 44 ls []) := by
    intro k6 hk6 x4 x5 H locs hP hD hS ls hl hf
    unfold fX6_having_44 at hf
    refine lv_iconst (v := 1) hx hb dX6_having_44 (by decide) ?_
    refine lv_goto (tgt := 49) hx hb dX6_having_45 (by decide) ?_
    exact J49 k6 hk6 x4 x5 1 _ _ hP hD hS _ (lv_sub hl [0, 1, 2, 3, 4, 5] rfl) hf
  have J6 : ∀ (n : Nat) (x4 : Int32) (x5 : Int32) (H : Heap) (locs : List Loc), va_P (dC, dI) vwCl (cf_6 cI cZ h6 h6a1 h6a2 h6a3 h6a4 h6a5 h6a7 h6a17 h6a18 s6) H → va_D A (cf_6 cI cZ h6 h6a1 h6a2 h6a3 h6a4 h6a5 h6a7 h6a17 h6a18 s6) → va_S A s.heap H locs → ∀ (ls : Array Slot), lv_has ls 7 [(0, .ref h6), (1, .int a1), (2, .int a2), (3, .int a3), (4, .int x4), (5, .int x5)] → fX6_having_6 s6 a1 a2 a3 n x4 x5 = some r → W p l e rmX6_having s m ([.ref h6, .int a1, .int a2, .int a3] : List Value).toArray below meth c H locs 0 0 QQ (F0 m 6 ls []) := by
    intro n
    induction n with
    | zero =>
      intro x4 x5 H locs hP hD hS ls hl hf
      cases hf
    | succ n ih =>
      intro x4 x5 H locs hP hD hS ls hl hf
      rw [fX6_having_6] at hf
      refine lv_iload hx hb dX6_having_6 (lv_at hl 5 rfl) ?_
      refine lv_aload_n hx hb dX6_having_8 rfl (lv_at hl 0 rfl) ?_
      refine va_get (D := (dC, dI)) (ci := 6) (v := .int (S6_things s6)) (C := RX6) (T := TX6) (N := 25) hx hb hts in6 hown hK hP 0 rfl rfl 0 (by decide) fl57 (fun _ h9 => h9) rfl dX6_having_9 ?_
      refine lv_icmp_ge (tgt := 85) hx hb dX6_having_12 (by decide) (fun c_1 => ?_) (fun c_1 => ?_)
      · have hf := it_t c_1 hf
        refine lv_iload hx hb dX6_having_85 (lv_at hl 4 rfl) ?_
        have hf : (some x4 : Option (Int32)) = some r := hf
        have he := Option.some.inj hf
        have he0 : x4 = r := he
        exact hret _ _ _ _ _ _ he0 rfl dX6_having_87 hP hD hS
      · have hf := it_f c_1 hf
        refine lv_aload_n hx hb dX6_having_15 rfl (lv_at hl 0 rfl) ?_
        refine va_get (D := (dC, dI)) (ci := 6) (v := .ref h6a2) (C := RX6) (T := TX6) (N := 25) hx hb hts in6 hown hK hP 0 rfl rfl 2 (by decide) fl13 (fun _ h9 => h9) rfl dX6_having_16 ?_
        refine lv_iload hx hb dX6_having_19 (lv_at hl 5 rfl) ?_
        obtain ⟨hi_2, hf⟩ := ai_ok hf
        refine va_iald (n := 12) (f := (S6_adjectives s6)) hx hb hK hP 2 0 rfl rfl hi_2 dX6_having_21 ?_
        refine lv_iload_n hx hb dX6_having_22 rfl (lv_at hl 2 rfl) ?_
        refine lv_iand hx hb dX6_having_23 ?_
        refine lv_iload_n hx hb dX6_having_24 rfl (lv_at hl 2 rfl) ?_
        refine lv_icmp_ne (tgt := 48) hx hb dX6_having_25 (by decide) (fun c_3 => ?_) (fun c_3 => ?_)
        · have hf := it_f c_3 hf
          exact J48 (fun x4 x5 => fX6_having_6 s6 a1 a2 a3 n x4 x5) (fun x4 x5 H locs hP hD hS ls hl hf => ih x4 x5 H locs hP hD hS ls hl hf) x4 x5 _ _ hP hD hS _ (lv_sub hl [0, 1, 2, 3, 4, 5] rfl) hf
        · have hf := it_t c_3 hf
          refine lv_iload_n hx hb dX6_having_28 rfl (lv_at hl 3 rfl) ?_
          refine lv_iconst (v := (-1)) hx hb dX6_having_29 (by decide) ?_
          refine lv_icmp_eq (tgt := 44) hx hb dX6_having_30 (by decide) (fun c_4 => ?_) (fun c_4 => ?_)
          · have hf := it_t c_4 hf
            exact J44 (fun x4 x5 => fX6_having_6 s6 a1 a2 a3 n x4 x5) (fun x4 x5 H locs hP hD hS ls hl hf => ih x4 x5 H locs hP hD hS ls hl hf) x4 x5 _ _ hP hD hS _ (lv_sub hl [0, 1, 2, 3, 4, 5] rfl) hf
          · have hf := it_f c_4 hf
            refine lv_aload_n hx hb dX6_having_33 rfl (lv_at hl 0 rfl) ?_
            refine va_get (D := (dC, dI)) (ci := 6) (v := .ref h6a1) (C := RX6) (T := TX6) (N := 25) hx hb hts in6 hown hK hP 0 rfl rfl 1 (by decide) fl7 (fun _ h9 => h9) rfl dX6_having_34 ?_
            refine lv_iload hx hb dX6_having_37 (lv_at hl 5 rfl) ?_
            obtain ⟨hi_5, hf⟩ := ai_ok hf
            refine va_iald (n := 12) (f := (S6_noun s6)) hx hb hK hP 1 0 rfl rfl hi_5 dX6_having_39 ?_
            refine lv_iload_n hx hb dX6_having_40 rfl (lv_at hl 3 rfl) ?_
            refine lv_icmp_ne (tgt := 48) hx hb dX6_having_41 (by decide) (fun c_6 => ?_) (fun c_6 => ?_)
            · have hf := it_f c_6 hf
              exact J48 (fun x4 x5 => fX6_having_6 s6 a1 a2 a3 n x4 x5) (fun x4 x5 H locs hP hD hS ls hl hf => ih x4 x5 H locs hP hD hS ls hl hf) x4 x5 _ _ hP hD hS _ (lv_sub hl [0, 1, 2, 3, 4, 5] rfl) hf
            · have hf := it_t c_6 hf
              exact J44 (fun x4 x5 => fX6_having_6 s6 a1 a2 a3 n x4 x5) (fun x4 x5 H locs hP hD hS ls hl hf => ih x4 x5 H locs hP hD hS ls hl hf) x4 x5 _ _ hP hD hS _ (lv_sub hl [0, 1, 2, 3, 4, 5] rfl) hf
  unfold fX6_having at hf
  refine lv_iconst (v := 0) hx hb dX6_having_0 (by decide) ?_
  refine lv_istore (lv' := [(4, .int 0), (0, .ref h6), (1, .int a1), (2, .int a2), (3, .int a3)]) hx hb dX6_having_1 hl (by decide) rfl (fun ls hl => ?_)
  refine lv_iconst (v := 0) hx hb dX6_having_3 (by decide) ?_
  refine lv_istore (lv' := [(5, .int 0), (4, .int 0), (0, .ref h6), (1, .int a1), (2, .int a2), (3, .int a3)]) hx hb dX6_having_4 hl (by decide) rfl (fun ls hl => ?_)
  exact J6 64 0 0 _ _ hP hD hS _ (lv_sub hl [2, 3, 4, 5, 1, 0] rfl) hf
abbrev rmX6_word : Room := { frames := 1, cells := 0, slots := 0, locals := 22 }
set_option maxHeartbeats 2000000 in
set_option maxRecDepth 100000 in
theorem ktX6_word (l : Launch) (dC : Nat → ClassId) (dI : Nat → Nat → Nat) (cI cZ : ClassId) (h6 h6a1 h6a2 h6a3 h6a4 h6a5 h6a7 h6a17 h6a18 : Nat) (sz : Nat) (s6 : S6) (a1 : Int32) (r : Int32) (s6f : S6) (hf : fX6_word s6 a1 = some (r, s6f)) : Met l yX6_word wsX6_word rmX6_word (va_Pc [.ref h6, .int a1] (pre_w (dC, dI) (cf_6 cI cZ h6 h6a1 h6a2 h6a3 h6a4 h6a5 h6a7 h6a17 h6a18 s6) [(cI, .int), (cZ, .boolean)] sz)) (va_Qi (fun (r' : Int32) (_ : Unit) => r' = r) (post_w (dC, dI) (cf_6 cI cZ h6 h6a1 h6a2 h6a3 h6a4 h6a5 h6a7 h6a17 h6a18 s6f) [(cI, .int), (cZ, .boolean)] (va_A (cf_6 cI cZ h6 h6a1 h6a2 h6a3 h6a4 h6a5 h6a7 h6a17 h6a18 s6) sz)) (va_A (cf_6 cI cZ h6 h6a1 h6a2 h6a3 h6a4 h6a5 h6a7 h6a17 h6a18 s6) sz)) 0 0 (va_A (cf_6 cI cZ h6 h6a1 h6a2 h6a3 h6a4 h6a5 h6a7 h6a17 h6a18 s6) sz) := by
  refine gm_i (cc := cX6_word) (maxL := 3) (by decide) rfl (Nat.le_of_ble_eq_true rfl) ?_
  intro p e s m below meth c A QQ ls hx hb hml hown hts hK hN hA hP hD hS hl hret
  have hown : s.vm.findClass RX6 = some m.cls := hown
  have hl : lv_has ls 3 [(0, .ref h6), (1, .int a1)] := hl
  have in6 : ∀ w ∈ u_ws RX6 TX6 25, w ∈ wsX6_word := by decide +kernel
  have fl95 := hts (.fieldLink RX6 95 "ParserParlourModel" "count" "I") (by decide +kernel)
  have fl26 := hts (.fieldLink RX6 26 "ParserParlourModel" "words" "[I") (by decide +kernel)
  have J62 : ∀ (s6 : S6) (t1 : Int32) (t2 : Int32) (H : Heap) (locs : List Loc), va_P (dC, dI) vwCl (cf_6 cI cZ h6 h6a1 h6a2 h6a3 h6a4 h6a5 h6a7 h6a17 h6a18 s6) H → va_D A (cf_6 cI cZ h6 h6a1 h6a2 h6a3 h6a4 h6a5 h6a7 h6a17 h6a18 s6) → va_S A s.heap H locs → ∀ (ls : Array Slot), lv_has ls 3 [(0, .ref h6), (1, .int a1)] → fX6_word_62 a1 s6 t1 t2 = some (r, s6f) → W p l e rmX6_word s m ([.ref h6, .int a1] : List Value).toArray below meth c H locs 0 0 QQ (F0 m 62 ls [.int t2, .int t1, .ref h6]) := by
    intro  s6 t1 t2 H locs hP hD hS ls hl hf
    unfold fX6_word_62 at hf
    obtain ⟨r_1, s6_1, hc_1, hf⟩ := bn2_ok hf
    refine gc_i (wc := (cf_6 cI cZ h6 h6a1 h6a2 h6a3 h6a4 h6a5 h6a7 h6a17 h6a18 s6)) (wr := ([] : va_W)) (w1 := (cf_6 cI cZ h6 h6a1 h6a2 h6a3 h6a4 h6a5 h6a7 h6a17 h6a18 s6_1)) (ws' := (cf_6 cI cZ h6 h6a1 h6a2 h6a3 h6a4 h6a5 h6a7 h6a17 h6a18 s6_1)) hP hD hS hA [0, 1, 2, 3, 4, 5, 6, 7, 8] [] [0, 1, 2, 3, 4, 5, 6, 7, 8] rfl rfl (by decide) (by decide) rfl (by decide) (va_runV (As := [.int t1, .int t2]) (rest := []) ⟨hx, hb, hml, hown, hts⟩ (ktX6_mayBoth l dC dI cI cZ h6 h6a1 h6a2 h6a3 h6a4 h6a5 h6a7 h6a17 h6a18 _ s6 t1 t2 r_1 s6_1 hc_1) (cwV 2 hts gX6_word_X6_mayBoth rfl rfl rfl (by decide +kernel) ⟨Nat.le_of_ble_eq_true rfl, Nat.le_of_ble_eq_true rfl⟩) (gc_V (ci := 6) (q0 := 0) (C := RX6) (T := TX6) (N := 25) (hP.sub (ws' := (cf_6 cI cZ h6 h6a1 h6a2 h6a3 h6a4 h6a5 h6a7 h6a17 h6a18 s6)) [0, 1, 2, 3, 4, 5, 6, 7, 8] rfl) (hK.sub (tys' := [(cI, .int), (cZ, .boolean)]) [0, 1] rfl) (hD.sub (ws' := (cf_6 cI cZ h6 h6a1 h6a2 h6a3 h6a4 h6a5 h6a7 h6a17 h6a18 s6)) [0, 1, 2, 3, 4, 5, 6, 7, 8] (by decide) rfl) hN rfl rfl) rfl rfl hl.1 rfl (lv_room (Nat.le_of_ble_eq_true rfl)) dX6_word_62 ⟨Nat.zero_le _, Nat.zero_le _⟩) (fun H locs hP hD hS => ?_)
    refine lv_if_ne (tgt := 70) hx hb dX6_word_65 (by decide) (fun c_2 => ?_) (fun c_2 => ?_)
    · have hf := it_f c_2 hf
      refine lv_aload_n hx hb dX6_word_70 rfl (lv_at hl 0 rfl) ?_
      refine va_get (D := (dC, dI)) (ci := 6) (v := .ref h6a7) (C := RX6) (T := TX6) (N := 25) hx hb hts in6 hown hK hP 0 rfl rfl 7 (by decide) fl26 (fun _ h9 => h9) rfl dX6_word_71 ?_
      refine lv_aload_n hx hb dX6_word_74 rfl (lv_at hl 0 rfl) ?_
      refine va_get (D := (dC, dI)) (ci := 6) (v := .int (S6_count s6_1)) (C := RX6) (T := TX6) (N := 25) hx hb hts in6 hown hK hP 0 rfl rfl 6 (by decide) fl95 (fun _ h9 => h9) rfl dX6_word_75 ?_
      refine lv_iload_n hx hb dX6_word_78 rfl (lv_at hl 1 rfl) ?_
      obtain ⟨hi_3, hf⟩ := ai_ok hf
      refine va_iast (n := 24) (f := (S6_words s6_1)) hx hb hK hP hD hS 6 0 rfl rfl hi_3 dX6_word_79 (fun H locs hP hD hS => ?_)
      have hP : va_P (dC, dI) vwCl (cf_6 cI cZ h6 h6a1 h6a2 h6a3 h6a4 h6a5 h6a7 h6a17 h6a18 (S6_set_words s6_1 (upd (S6_words s6_1) (S6_count s6_1).toNatClampNeg a1))) H := Eq.mp (congrArg (fun w => va_P (dC, dI) vwCl w H) (cs6_words cI cZ h6 h6a1 h6a2 h6a3 h6a4 h6a5 h6a7 h6a17 h6a18 s6_1 (upd (S6_words s6_1) (S6_count s6_1).toNatClampNeg a1))) hP
      have hD : va_D A (cf_6 cI cZ h6 h6a1 h6a2 h6a3 h6a4 h6a5 h6a7 h6a17 h6a18 (S6_set_words s6_1 (upd (S6_words s6_1) (S6_count s6_1).toNatClampNeg a1))) := Eq.mp (congrArg (fun w => va_D A w) (cs6_words cI cZ h6 h6a1 h6a2 h6a3 h6a4 h6a5 h6a7 h6a17 h6a18 s6_1 (upd (S6_words s6_1) (S6_count s6_1).toNatClampNeg a1))) hD
      refine lv_aload_n hx hb dX6_word_80 rfl (lv_at hl 0 rfl) ?_
      refine lv_dup hx hb dX6_word_81 rfl ?_
      refine va_get (D := (dC, dI)) (ci := 6) (v := .int (S6_count (S6_set_words s6_1 (upd (S6_words s6_1) (S6_count s6_1).toNatClampNeg a1)))) (C := RX6) (T := TX6) (N := 25) hx hb hts in6 hown hK hP 0 rfl rfl 6 (by decide) fl95 (fun _ h9 => h9) rfl dX6_word_82 ?_
      refine lv_iconst (v := 1) hx hb dX6_word_85 (by decide) ?_
      refine lv_iadd hx hb dX6_word_86 ?_
      refine va_put (D := (dC, dI)) (ci := 6) (v := .int ((S6_count (S6_set_words s6_1 (upd (S6_words s6_1) (S6_count s6_1).toNatClampNeg a1))) + 1)) (ty := .int) (C := RX6) (T := TX6) (N := 25) hx hb hts in6 tyX6 tyX6_ok nmX6 hown hK hP hD hS 0 rfl rfl 6 (by decide) fl95 (fun _ h9 => h9) rfl (by decide +kernel) rfl rfl (Nat.le_of_ble_eq_true rfl) dX6_word_87 (fun H locs hP hD hS => ?_)
      have hP : va_P (dC, dI) vwCl (cf_6 cI cZ h6 h6a1 h6a2 h6a3 h6a4 h6a5 h6a7 h6a17 h6a18 (S6_set_count (S6_set_words s6_1 (upd (S6_words s6_1) (S6_count s6_1).toNatClampNeg a1)) ((S6_count (S6_set_words s6_1 (upd (S6_words s6_1) (S6_count s6_1).toNatClampNeg a1))) + 1))) H := Eq.mp (congrArg (fun w => va_P (dC, dI) vwCl w H) (cs6_count cI cZ h6 h6a1 h6a2 h6a3 h6a4 h6a5 h6a7 h6a17 h6a18 (S6_set_words s6_1 (upd (S6_words s6_1) (S6_count s6_1).toNatClampNeg a1)) ((S6_count (S6_set_words s6_1 (upd (S6_words s6_1) (S6_count s6_1).toNatClampNeg a1))) + 1))) hP
      have hD : va_D A (cf_6 cI cZ h6 h6a1 h6a2 h6a3 h6a4 h6a5 h6a7 h6a17 h6a18 (S6_set_count (S6_set_words s6_1 (upd (S6_words s6_1) (S6_count s6_1).toNatClampNeg a1)) ((S6_count (S6_set_words s6_1 (upd (S6_words s6_1) (S6_count s6_1).toNatClampNeg a1))) + 1))) := Eq.mp (congrArg (fun w => va_D A w) (cs6_count cI cZ h6 h6a1 h6a2 h6a3 h6a4 h6a5 h6a7 h6a17 h6a18 (S6_set_words s6_1 (upd (S6_words s6_1) (S6_count s6_1).toNatClampNeg a1)) ((S6_count (S6_set_words s6_1 (upd (S6_words s6_1) (S6_count s6_1).toNatClampNeg a1))) + 1))) hD
      refine lv_aload_n hx hb dX6_word_90 rfl (lv_at hl 0 rfl) ?_
      refine va_get (D := (dC, dI)) (ci := 6) (v := .int (S6_count (S6_set_count (S6_set_words s6_1 (upd (S6_words s6_1) (S6_count s6_1).toNatClampNeg a1)) ((S6_count (S6_set_words s6_1 (upd (S6_words s6_1) (S6_count s6_1).toNatClampNeg a1))) + 1)))) (C := RX6) (T := TX6) (N := 25) hx hb hts in6 hown hK hP 0 rfl rfl 6 (by decide) fl95 (fun _ h9 => h9) rfl dX6_word_91 ?_
      have hf : (some ((S6_count (S6_set_count (S6_set_words s6_1 (upd (S6_words s6_1) (S6_count s6_1).toNatClampNeg a1)) ((S6_count (S6_set_words s6_1 (upd (S6_words s6_1) (S6_count s6_1).toNatClampNeg a1))) + 1))), (S6_set_count (S6_set_words s6_1 (upd (S6_words s6_1) (S6_count s6_1).toNatClampNeg a1)) ((S6_count (S6_set_words s6_1 (upd (S6_words s6_1) (S6_count s6_1).toNatClampNeg a1))) + 1))) : Option (Int32 × S6)) = some (r, s6f) := hf
      have he := Option.some.inj hf
      have he0 : (S6_count (S6_set_count (S6_set_words s6_1 (upd (S6_words s6_1) (S6_count s6_1).toNatClampNeg a1)) ((S6_count (S6_set_words s6_1 (upd (S6_words s6_1) (S6_count s6_1).toNatClampNeg a1))) + 1))) = r := congrArg (fun q => q.1) he
      have he1 : (S6_set_count (S6_set_words s6_1 (upd (S6_words s6_1) (S6_count s6_1).toNatClampNeg a1)) ((S6_count (S6_set_words s6_1 (upd (S6_words s6_1) (S6_count s6_1).toNatClampNeg a1))) + 1)) = s6f := congrArg (fun q => q.2) he
      exact hret _ _ _ _ _ _ he0 (by rw [← he1]) dX6_word_94 hP hD hS
    · have hf := it_t c_2 hf
      refine lv_iconst (v := 0) hx hb dX6_word_68 (by decide) ?_
      have hf : (some (0, s6_1) : Option (Int32 × S6)) = some (r, s6f) := hf
      have he := Option.some.inj hf
      have he0 : 0 = r := congrArg (fun q => q.1) he
      have he1 : s6_1 = s6f := congrArg (fun q => q.2) he
      exact hret _ _ _ _ _ _ he0 (by rw [← he1]) dX6_word_69 hP hD hS
  have J45 : ∀ (s6 : S6) (t0 : Int32) (H : Heap) (locs : List Loc), va_P (dC, dI) vwCl (cf_6 cI cZ h6 h6a1 h6a2 h6a3 h6a4 h6a5 h6a7 h6a17 h6a18 s6) H → va_D A (cf_6 cI cZ h6 h6a1 h6a2 h6a3 h6a4 h6a5 h6a7 h6a17 h6a18 s6) → va_S A s.heap H locs → ∀ (ls : Array Slot), lv_has ls 3 [(0, .ref h6), (1, .int a1)] → fX6_word_45 a1 s6 t0 = some (r, s6f) → W p l e rmX6_word s m ([.ref h6, .int a1] : List Value).toArray below meth c H locs 0 0 QQ (F0 m 45 ls [.int t0]) := by
    intro  s6 t0 H locs hP hD hS ls hl hf
    unfold fX6_word_45 at hf
    refine lv_istore_n (lv' := [(2, .int t0), (0, .ref h6), (1, .int a1)]) hx hb dX6_word_45 rfl hl (by decide) rfl (fun ls hl => ?_)
    refine lv_aload_n hx hb dX6_word_46 rfl (lv_at hl 1 rfl) ?_
    refine lv_iload_n hx hb dX6_word_47 rfl (lv_at hl 0 rfl) ?_
    refine lv_aload_n hx hb dX6_word_48 rfl (lv_at hl 1 rfl) ?_
    refine va_get (D := (dC, dI)) (ci := 6) (v := .int (S6_count s6)) (C := RX6) (T := TX6) (N := 25) hx hb hts in6 hown hK hP 0 rfl rfl 6 (by decide) fl95 (fun _ h9 => h9) rfl dX6_word_49 ?_
    refine lv_bipush (v := 24) hx hb dX6_word_52 (by decide) ?_
    refine lv_icmp_ge (tgt := 61) hx hb dX6_word_54 (by decide) (fun c_1 => ?_) (fun c_1 => ?_)
    · have hf := it_t c_1 hf
      refine lv_iconst (v := 0) hx hb dX6_word_61 (by decide) ?_
      exact J62 s6 t0 0 _ _ hP hD hS _ (lv_sub hl [1, 2] rfl) hf
    · have hf := it_f c_1 hf
      refine lv_iconst (v := 1) hx hb dX6_word_57 (by decide) ?_
      refine lv_goto (tgt := 62) hx hb dX6_word_58 (by decide) ?_
      exact J62 s6 t0 1 _ _ hP hD hS _ (lv_sub hl [1, 2] rfl) hf
  have J40 : ∀ (s6 : S6) (H : Heap) (locs : List Loc), va_P (dC, dI) vwCl (cf_6 cI cZ h6 h6a1 h6a2 h6a3 h6a4 h6a5 h6a7 h6a17 h6a18 s6) H → va_D A (cf_6 cI cZ h6 h6a1 h6a2 h6a3 h6a4 h6a5 h6a7 h6a17 h6a18 s6) → va_S A s.heap H locs → ∀ (ls : Array Slot), lv_has ls 3 [(0, .ref h6), (1, .int a1)] → fX6_word_40 a1 s6 = some (r, s6f) → W p l e rmX6_word s m ([.ref h6, .int a1] : List Value).toArray below meth c H locs 0 0 QQ (F0 m 40 ls []) := by
    intro  s6 H locs hP hD hS ls hl hf
    unfold fX6_word_40 at hf
    refine lv_iconst (v := 1) hx hb dX6_word_40 (by decide) ?_
    refine lv_goto (tgt := 45) hx hb dX6_word_41 (by decide) ?_
    exact J45 s6 1 _ _ hP hD hS _ (lv_sub hl [0, 1] rfl) hf
  have J19 : ∀ (s6 : S6) (H : Heap) (locs : List Loc), va_P (dC, dI) vwCl (cf_6 cI cZ h6 h6a1 h6a2 h6a3 h6a4 h6a5 h6a7 h6a17 h6a18 s6) H → va_D A (cf_6 cI cZ h6 h6a1 h6a2 h6a3 h6a4 h6a5 h6a7 h6a17 h6a18 s6) → va_S A s.heap H locs → ∀ (ls : Array Slot), lv_has ls 3 [(0, .ref h6), (1, .int a1)] → fX6_word_19 a1 s6 = some (r, s6f) → W p l e rmX6_word s m ([.ref h6, .int a1] : List Value).toArray below meth c H locs 0 0 QQ (F0 m 19 ls []) := by
    intro  s6 H locs hP hD hS ls hl hf
    unfold fX6_word_19 at hf
    refine lv_iload_n hx hb dX6_word_19 rfl (lv_at hl 1 rfl) ?_
    obtain ⟨r_1, hc_1, hf⟩ := bn1_ok hf
    refine gc_i (wc := ([] : va_W)) (wr := (cf_6 cI cZ h6 h6a1 h6a2 h6a3 h6a4 h6a5 h6a7 h6a17 h6a18 s6)) (w1 := ([] : va_W)) (ws' := (cf_6 cI cZ h6 h6a1 h6a2 h6a3 h6a4 h6a5 h6a7 h6a17 h6a18 s6)) hP hD hS hA [] [0, 1, 2, 3, 4, 5, 6, 7, 8] [0, 1, 2, 3, 4, 5, 6, 7, 8] rfl rfl (by decide) (by decide) rfl (by decide) (va_runS (As := [.int a1]) (rest := []) ⟨hx, hb, hml, hown, hts⟩ (ktX6_isAdjective l dC dI _ a1 r_1 hc_1) (va_cwS 1 hts gX6_word_X6_isAdjective rfl rfl rfl (by decide +kernel) ⟨Nat.le_of_ble_eq_true rfl, Nat.le_of_ble_eq_true rfl⟩) (gc_S (hP.sub (ws' := ([] : va_W)) [] rfl) (hK.sub (tys' := []) [] rfl) (hD.sub (ws' := ([] : va_W)) [] (by decide) rfl) hN) rfl rfl hl.1 rfl (lv_room (Nat.le_of_ble_eq_true rfl)) dX6_word_20 ⟨Nat.zero_le _, Nat.zero_le _⟩) (fun H locs hP hD hS => ?_)
    refine lv_if_ne (tgt := 40) hx hb dX6_word_23 (by decide) (fun c_2 => ?_) (fun c_2 => ?_)
    · have hf := it_f c_2 hf
      exact J40 s6 _ _ hP hD hS _ (lv_sub hl [0, 1] rfl) hf
    · have hf := it_t c_2 hf
      refine lv_iload_n hx hb dX6_word_26 rfl (lv_at hl 1 rfl) ?_
      obtain ⟨r_3, hc_3, hf⟩ := bn1_ok hf
      refine gc_i (wc := ([] : va_W)) (wr := (cf_6 cI cZ h6 h6a1 h6a2 h6a3 h6a4 h6a5 h6a7 h6a17 h6a18 s6)) (w1 := ([] : va_W)) (ws' := (cf_6 cI cZ h6 h6a1 h6a2 h6a3 h6a4 h6a5 h6a7 h6a17 h6a18 s6)) hP hD hS hA [] [0, 1, 2, 3, 4, 5, 6, 7, 8] [0, 1, 2, 3, 4, 5, 6, 7, 8] rfl rfl (by decide) (by decide) rfl (by decide) (va_runS (As := [.int a1]) (rest := []) ⟨hx, hb, hml, hown, hts⟩ (ktX6_isNoun l dC dI _ a1 r_3 hc_3) (va_cwS 1 hts gX6_word_X6_isNoun rfl rfl rfl (by decide +kernel) ⟨Nat.le_of_ble_eq_true rfl, Nat.le_of_ble_eq_true rfl⟩) (gc_S (hP.sub (ws' := ([] : va_W)) [] rfl) (hK.sub (tys' := []) [] rfl) (hD.sub (ws' := ([] : va_W)) [] (by decide) rfl) hN) rfl rfl hl.1 rfl (lv_room (Nat.le_of_ble_eq_true rfl)) dX6_word_27 ⟨Nat.zero_le _, Nat.zero_le _⟩) (fun H locs hP hD hS => ?_)
      refine lv_if_ne (tgt := 40) hx hb dX6_word_30 (by decide) (fun c_4 => ?_) (fun c_4 => ?_)
      · have hf := it_f c_4 hf
        exact J40 s6 _ _ hP hD hS _ (lv_sub hl [0, 1] rfl) hf
      · have hf := it_t c_4 hf
        refine lv_iload_n hx hb dX6_word_33 rfl (lv_at hl 1 rfl) ?_
        obtain ⟨r_5, hc_5, hf⟩ := bn1_ok hf
        refine gc_i (wc := ([] : va_W)) (wr := (cf_6 cI cZ h6 h6a1 h6a2 h6a3 h6a4 h6a5 h6a7 h6a17 h6a18 s6)) (w1 := ([] : va_W)) (ws' := (cf_6 cI cZ h6 h6a1 h6a2 h6a3 h6a4 h6a5 h6a7 h6a17 h6a18 s6)) hP hD hS hA [] [0, 1, 2, 3, 4, 5, 6, 7, 8] [0, 1, 2, 3, 4, 5, 6, 7, 8] rfl rfl (by decide) (by decide) rfl (by decide) (va_runS (As := [.int a1]) (rest := []) ⟨hx, hb, hml, hown, hts⟩ (ktX6_isPlural l dC dI _ a1 r_5 hc_5) (va_cwS 1 hts gX6_word_X6_isPlural rfl rfl rfl (by decide +kernel) ⟨Nat.le_of_ble_eq_true rfl, Nat.le_of_ble_eq_true rfl⟩) (gc_S (hP.sub (ws' := ([] : va_W)) [] rfl) (hK.sub (tys' := []) [] rfl) (hD.sub (ws' := ([] : va_W)) [] (by decide) rfl) hN) rfl rfl hl.1 rfl (lv_room (Nat.le_of_ble_eq_true rfl)) dX6_word_34 ⟨Nat.zero_le _, Nat.zero_le _⟩) (fun H locs hP hD hS => ?_)
        refine lv_if_eq (tgt := 44) hx hb dX6_word_37 (by decide) (fun c_6 => ?_) (fun c_6 => ?_)
        · have hf := it_t c_6 hf
          refine lv_iconst (v := 0) hx hb dX6_word_44 (by decide) ?_
          exact J45 s6 0 _ _ hP hD hS _ (lv_sub hl [0, 1] rfl) hf
        · have hf := it_f c_6 hf
          exact J40 s6 _ _ hP hD hS _ (lv_sub hl [0, 1] rfl) hf
  unfold fX6_word at hf
  refine lv_iload_n hx hb dX6_word_0 rfl (lv_at hl 1 rfl) ?_
  obtain ⟨r_1, hc_1, hf⟩ := bn1_ok hf
  refine gc_i (wc := ([] : va_W)) (wr := (cf_6 cI cZ h6 h6a1 h6a2 h6a3 h6a4 h6a5 h6a7 h6a17 h6a18 s6)) (w1 := ([] : va_W)) (ws' := (cf_6 cI cZ h6 h6a1 h6a2 h6a3 h6a4 h6a5 h6a7 h6a17 h6a18 s6)) hP hD hS hA [] [0, 1, 2, 3, 4, 5, 6, 7, 8] [0, 1, 2, 3, 4, 5, 6, 7, 8] rfl rfl (by decide) (by decide) rfl (by decide) (va_runS (As := [.int a1]) (rest := []) ⟨hx, hb, hml, hown, hts⟩ (ktX6_isVerb l dC dI _ a1 r_1 hc_1) (va_cwS 1 hts gX6_word_X6_isVerb rfl rfl rfl (by decide +kernel) ⟨Nat.le_of_ble_eq_true rfl, Nat.le_of_ble_eq_true rfl⟩) (gc_S (hP.sub (ws' := ([] : va_W)) [] rfl) (hK.sub (tys' := []) [] rfl) (hD.sub (ws' := ([] : va_W)) [] (by decide) rfl) hN) rfl rfl hl.1 rfl (lv_room (Nat.le_of_ble_eq_true rfl)) dX6_word_1 ⟨Nat.zero_le _, Nat.zero_le _⟩) (fun H locs hP hD hS => ?_)
  refine lv_if_ne (tgt := 40) hx hb dX6_word_4 (by decide) (fun c_2 => ?_) (fun c_2 => ?_)
  · have hf := it_f c_2 hf
    exact J40 s6 _ _ hP hD hS _ (lv_sub hl [0, 1] rfl) hf
  · have hf := it_t c_2 hf
    refine lv_iload_n hx hb dX6_word_7 rfl (lv_at hl 1 rfl) ?_
    refine lv_bipush (v := 10) hx hb dX6_word_8 (by decide) ?_
    refine lv_icmp_lt (tgt := 19) hx hb dX6_word_10 (by decide) (fun c_3 => ?_) (fun c_3 => ?_)
    · have hf := it_t c_3 hf
      exact J19 s6 _ _ hP hD hS _ (lv_sub hl [0, 1] rfl) hf
    · have hf := it_f c_3 hf
      refine lv_iload_n hx hb dX6_word_13 rfl (lv_at hl 1 rfl) ?_
      refine lv_bipush (v := 17) hx hb dX6_word_14 (by decide) ?_
      refine lv_icmp_le (tgt := 40) hx hb dX6_word_16 (by decide) (fun c_4 => ?_) (fun c_4 => ?_)
      · have hf := it_t c_4 hf
        exact J40 s6 _ _ hP hD hS _ (lv_sub hl [0, 1] rfl) hf
      · have hf := it_f c_4 hf
        exact J19 s6 _ _ hP hD hS _ (lv_sub hl [0, 1] rfl) hf
abbrev rmX6_back : Room := { frames := 1, cells := 0, slots := 0, locals := 21 }
set_option maxHeartbeats 2000000 in
set_option maxRecDepth 100000 in
theorem ktX6_back (l : Launch) (dC : Nat → ClassId) (dI : Nat → Nat → Nat) (cI cZ : ClassId) (h6 h6a1 h6a2 h6a3 h6a4 h6a5 h6a7 h6a17 h6a18 : Nat) (sz : Nat) (s6 : S6) (r : Int32) (s6f : S6) (hf : fX6_back s6 = some (r, s6f)) : Met l yX6_back wsX6_back rmX6_back (va_Pc [.ref h6] (pre_w (dC, dI) (cf_6 cI cZ h6 h6a1 h6a2 h6a3 h6a4 h6a5 h6a7 h6a17 h6a18 s6) [(cI, .int), (cZ, .boolean)] sz)) (va_Qi (fun (r' : Int32) (_ : Unit) => r' = r) (post_w (dC, dI) (cf_6 cI cZ h6 h6a1 h6a2 h6a3 h6a4 h6a5 h6a7 h6a17 h6a18 s6f) [(cI, .int), (cZ, .boolean)] (va_A (cf_6 cI cZ h6 h6a1 h6a2 h6a3 h6a4 h6a5 h6a7 h6a17 h6a18 s6) sz)) (va_A (cf_6 cI cZ h6 h6a1 h6a2 h6a3 h6a4 h6a5 h6a7 h6a17 h6a18 s6) sz)) 0 0 (va_A (cf_6 cI cZ h6 h6a1 h6a2 h6a3 h6a4 h6a5 h6a7 h6a17 h6a18 s6) sz) := by
  refine gm_i (cc := cX6_back) (maxL := 1) (by decide) rfl (Nat.le_of_ble_eq_true rfl) ?_
  intro p e s m below meth c A QQ ls hx hb hml hown hts hK hN hA hP hD hS hl hret
  have hown : s.vm.findClass RX6 = some m.cls := hown
  have hl : lv_has ls 1 [(0, .ref h6)] := hl
  have in6 : ∀ w ∈ u_ws RX6 TX6 25, w ∈ wsX6_back := by decide +kernel
  have fl95 := hts (.fieldLink RX6 95 "ParserParlourModel" "count" "I") (by decide +kernel)
  have fl26 := hts (.fieldLink RX6 26 "ParserParlourModel" "words" "[I") (by decide +kernel)
  have J13 : ∀ (s6 : S6) (t1 : Int32) (H : Heap) (locs : List Loc), va_P (dC, dI) vwCl (cf_6 cI cZ h6 h6a1 h6a2 h6a3 h6a4 h6a5 h6a7 h6a17 h6a18 s6) H → va_D A (cf_6 cI cZ h6 h6a1 h6a2 h6a3 h6a4 h6a5 h6a7 h6a17 h6a18 s6) → va_S A s.heap H locs → ∀ (ls : Array Slot), lv_has ls 1 [(0, .ref h6)] → fX6_back_13 s6 t1 = some (r, s6f) → W p l e rmX6_back s m ([.ref h6] : List Value).toArray below meth c H locs 0 0 QQ (F0 m 13 ls [.int t1, .ref h6]) := by
    intro  s6 t1 H locs hP hD hS ls hl hf
    unfold fX6_back_13 at hf
    obtain ⟨r_1, s6_1, hc_1, hf⟩ := bn2_ok hf
    refine gc_i (wc := (cf_6 cI cZ h6 h6a1 h6a2 h6a3 h6a4 h6a5 h6a7 h6a17 h6a18 s6)) (wr := ([] : va_W)) (w1 := (cf_6 cI cZ h6 h6a1 h6a2 h6a3 h6a4 h6a5 h6a7 h6a17 h6a18 s6_1)) (ws' := (cf_6 cI cZ h6 h6a1 h6a2 h6a3 h6a4 h6a5 h6a7 h6a17 h6a18 s6_1)) hP hD hS hA [0, 1, 2, 3, 4, 5, 6, 7, 8] [] [0, 1, 2, 3, 4, 5, 6, 7, 8] rfl rfl (by decide) (by decide) rfl (by decide) (va_runV (As := [.int t1]) (rest := []) ⟨hx, hb, hml, hown, hts⟩ (ktX6_may l dC dI cI cZ h6 h6a1 h6a2 h6a3 h6a4 h6a5 h6a7 h6a17 h6a18 _ s6 t1 r_1 s6_1 hc_1) (cwV 1 hts gX6_back_X6_may rfl rfl rfl (by decide +kernel) ⟨Nat.le_of_ble_eq_true rfl, Nat.le_of_ble_eq_true rfl⟩) (gc_V (ci := 6) (q0 := 0) (C := RX6) (T := TX6) (N := 25) (hP.sub (ws' := (cf_6 cI cZ h6 h6a1 h6a2 h6a3 h6a4 h6a5 h6a7 h6a17 h6a18 s6)) [0, 1, 2, 3, 4, 5, 6, 7, 8] rfl) (hK.sub (tys' := [(cI, .int), (cZ, .boolean)]) [0, 1] rfl) (hD.sub (ws' := (cf_6 cI cZ h6 h6a1 h6a2 h6a3 h6a4 h6a5 h6a7 h6a17 h6a18 s6)) [0, 1, 2, 3, 4, 5, 6, 7, 8] (by decide) rfl) hN rfl rfl) rfl rfl hl.1 rfl (lv_room (Nat.le_of_ble_eq_true rfl)) dX6_back_13 ⟨Nat.zero_le _, Nat.zero_le _⟩) (fun H locs hP hD hS => ?_)
    refine lv_if_ne (tgt := 21) hx hb dX6_back_16 (by decide) (fun c_2 => ?_) (fun c_2 => ?_)
    · have hf := it_f c_2 hf
      refine lv_aload_n hx hb dX6_back_21 rfl (lv_at hl 0 rfl) ?_
      refine lv_dup hx hb dX6_back_22 rfl ?_
      refine va_get (D := (dC, dI)) (ci := 6) (v := .int (S6_count s6_1)) (C := RX6) (T := TX6) (N := 25) hx hb hts in6 hown hK hP 0 rfl rfl 6 (by decide) fl95 (fun _ h9 => h9) rfl dX6_back_23 ?_
      refine lv_iconst (v := 1) hx hb dX6_back_26 (by decide) ?_
      refine lv_isub hx hb dX6_back_27 ?_
      refine va_put (D := (dC, dI)) (ci := 6) (v := .int ((S6_count s6_1) - 1)) (ty := .int) (C := RX6) (T := TX6) (N := 25) hx hb hts in6 tyX6 tyX6_ok nmX6 hown hK hP hD hS 0 rfl rfl 6 (by decide) fl95 (fun _ h9 => h9) rfl (by decide +kernel) rfl rfl (Nat.le_of_ble_eq_true rfl) dX6_back_28 (fun H locs hP hD hS => ?_)
      have hP : va_P (dC, dI) vwCl (cf_6 cI cZ h6 h6a1 h6a2 h6a3 h6a4 h6a5 h6a7 h6a17 h6a18 (S6_set_count s6_1 ((S6_count s6_1) - 1))) H := Eq.mp (congrArg (fun w => va_P (dC, dI) vwCl w H) (cs6_count cI cZ h6 h6a1 h6a2 h6a3 h6a4 h6a5 h6a7 h6a17 h6a18 s6_1 ((S6_count s6_1) - 1))) hP
      have hD : va_D A (cf_6 cI cZ h6 h6a1 h6a2 h6a3 h6a4 h6a5 h6a7 h6a17 h6a18 (S6_set_count s6_1 ((S6_count s6_1) - 1))) := Eq.mp (congrArg (fun w => va_D A w) (cs6_count cI cZ h6 h6a1 h6a2 h6a3 h6a4 h6a5 h6a7 h6a17 h6a18 s6_1 ((S6_count s6_1) - 1))) hD
      refine lv_aload_n hx hb dX6_back_31 rfl (lv_at hl 0 rfl) ?_
      refine va_get (D := (dC, dI)) (ci := 6) (v := .ref h6a7) (C := RX6) (T := TX6) (N := 25) hx hb hts in6 hown hK hP 0 rfl rfl 7 (by decide) fl26 (fun _ h9 => h9) rfl dX6_back_32 ?_
      refine lv_aload_n hx hb dX6_back_35 rfl (lv_at hl 0 rfl) ?_
      refine va_get (D := (dC, dI)) (ci := 6) (v := .int (S6_count (S6_set_count s6_1 ((S6_count s6_1) - 1)))) (C := RX6) (T := TX6) (N := 25) hx hb hts in6 hown hK hP 0 rfl rfl 6 (by decide) fl95 (fun _ h9 => h9) rfl dX6_back_36 ?_
      obtain ⟨hi_3, hf⟩ := ai_ok hf
      refine va_iald (n := 24) (f := (S6_words (S6_set_count s6_1 ((S6_count s6_1) - 1)))) hx hb hK hP 6 0 rfl rfl hi_3 dX6_back_39 ?_
      have hf : (some (((S6_words (S6_set_count s6_1 ((S6_count s6_1) - 1))) (S6_count (S6_set_count s6_1 ((S6_count s6_1) - 1))).toNatClampNeg), (S6_set_count s6_1 ((S6_count s6_1) - 1))) : Option (Int32 × S6)) = some (r, s6f) := hf
      have he := Option.some.inj hf
      have he0 : ((S6_words (S6_set_count s6_1 ((S6_count s6_1) - 1))) (S6_count (S6_set_count s6_1 ((S6_count s6_1) - 1))).toNatClampNeg) = r := congrArg (fun q => q.1) he
      have he1 : (S6_set_count s6_1 ((S6_count s6_1) - 1)) = s6f := congrArg (fun q => q.2) he
      exact hret _ _ _ _ _ _ he0 (by rw [← he1]) dX6_back_40 hP hD hS
    · have hf := it_t c_2 hf
      refine lv_iconst (v := 0) hx hb dX6_back_19 (by decide) ?_
      have hf : (some (0, s6_1) : Option (Int32 × S6)) = some (r, s6f) := hf
      have he := Option.some.inj hf
      have he0 : 0 = r := congrArg (fun q => q.1) he
      have he1 : s6_1 = s6f := congrArg (fun q => q.2) he
      exact hret _ _ _ _ _ _ he0 (by rw [← he1]) dX6_back_20 hP hD hS
  unfold fX6_back at hf
  refine lv_aload_n hx hb dX6_back_0 rfl (lv_at hl 0 rfl) ?_
  refine lv_aload_n hx hb dX6_back_1 rfl (lv_at hl 0 rfl) ?_
  refine va_get (D := (dC, dI)) (ci := 6) (v := .int (S6_count s6)) (C := RX6) (T := TX6) (N := 25) hx hb hts in6 hown hK hP 0 rfl rfl 6 (by decide) fl95 (fun _ h9 => h9) rfl dX6_back_2 ?_
  refine lv_if_le (tgt := 12) hx hb dX6_back_5 (by decide) (fun c_1 => ?_) (fun c_1 => ?_)
  · have hf := it_t c_1 hf
    refine lv_iconst (v := 0) hx hb dX6_back_12 (by decide) ?_
    exact J13 s6 0 _ _ hP hD hS _ (lv_sub hl [0] rfl) hf
  · have hf := it_f c_1 hf
    refine lv_iconst (v := 1) hx hb dX6_back_8 (by decide) ?_
    refine lv_goto (tgt := 13) hx hb dX6_back_9 (by decide) ?_
    exact J13 s6 1 _ _ hP hD hS _ (lv_sub hl [0] rfl) hf
abbrev rmX6_wrongOrder : Room := { frames := 2, cells := 0, slots := 0, locals := 45 }
set_option maxHeartbeats 2000000 in
set_option maxRecDepth 100000 in
theorem ktX6_wrongOrder (l : Launch) (dC : Nat → ClassId) (dI : Nat → Nat → Nat) (cI cZ : ClassId) (h6 h6a1 h6a2 h6a3 h6a4 h6a5 h6a7 h6a17 h6a18 : Nat) (sz : Nat) (s6 : S6) (r : Int32) (hf : fX6_wrongOrder s6 = some r) : Met l yX6_wrongOrder wsX6_wrongOrder rmX6_wrongOrder (va_Pc [.ref h6] (pre_w (dC, dI) (cf_6 cI cZ h6 h6a1 h6a2 h6a3 h6a4 h6a5 h6a7 h6a17 h6a18 s6) [(cI, .int), (cZ, .boolean)] sz)) (va_Qi (fun (r' : Int32) (_ : Unit) => r' = r) (post_w (dC, dI) (cf_6 cI cZ h6 h6a1 h6a2 h6a3 h6a4 h6a5 h6a7 h6a17 h6a18 s6) [(cI, .int), (cZ, .boolean)] (va_A (cf_6 cI cZ h6 h6a1 h6a2 h6a3 h6a4 h6a5 h6a7 h6a17 h6a18 s6) sz)) (va_A (cf_6 cI cZ h6 h6a1 h6a2 h6a3 h6a4 h6a5 h6a7 h6a17 h6a18 s6) sz)) 0 0 (va_A (cf_6 cI cZ h6 h6a1 h6a2 h6a3 h6a4 h6a5 h6a7 h6a17 h6a18 s6) sz) := by
  refine gm_i (cc := cX6_wrongOrder) (maxL := 8) (by decide) rfl (Nat.le_of_ble_eq_true rfl) ?_
  intro p e s m below meth c A QQ ls hx hb hml hown hts hK hN hA hP hD hS hl hret
  have hown : s.vm.findClass RX6 = some m.cls := hown
  have hl : lv_has ls 8 [(0, .ref h6)] := hl
  have in6 : ∀ w ∈ u_ws RX6 TX6 25, w ∈ wsX6_wrongOrder := by decide +kernel
  have fl95 := hts (.fieldLink RX6 95 "ParserParlourModel" "count" "I") (by decide +kernel)
  have fl26 := hts (.fieldLink RX6 26 "ParserParlourModel" "words" "[I") (by decide +kernel)
  have J234 : ∀ (k9 : Int32 → Int32 → Int32 → Int32 → Option (Int32)) (hk9 : ∀ (x1 : Int32) (x2 : Int32) (x3 : Int32) (x4 : Int32) (H : Heap) (locs : List Loc), va_P (dC, dI) vwCl (cf_6 cI cZ h6 h6a1 h6a2 h6a3 h6a4 h6a5 h6a7 h6a17 h6a18 s6) H → va_D A (cf_6 cI cZ h6 h6a1 h6a2 h6a3 h6a4 h6a5 h6a7 h6a17 h6a18 s6) → va_S A s.heap H locs → ∀ (ls : Array Slot), lv_has ls 8 [(0, .ref h6), (1, .int x1), (2, .int x2), (3, .int x3), (4, .int x4)] → k9 x1 x2 x3 x4 = some r → W p l e rmX6_wrongOrder s m ([.ref h6] : List Value).toArray below meth c H locs 0 0 QQ (F0 m 9 ls [])) (x1 : Int32) (x2 : Int32) (x3 : Int32) (x4 : Int32) (H : Heap) (locs : List Loc), va_P (dC, dI) vwCl (cf_6 cI cZ h6 h6a1 h6a2 h6a3 h6a4 h6a5 h6a7 h6a17 h6a18 s6) H → va_D A (cf_6 cI cZ h6 h6a1 h6a2 h6a3 h6a4 h6a5 h6a7 h6a17 h6a18 s6) → va_S A s.heap H locs → ∀ (ls : Array Slot), lv_has ls 8 [(0, .ref h6), (1, .int x1), (2, .int x2), (3, .int x3), (4, .int x4)] → fX6_wrongOrder_234 s6 k9 x1 x2 x3 x4 = some r → W p l e rmX6_wrongOrder s m ([.ref h6] : List Value).toArray below meth c H locs 0 0 QQ (F0 m 234 ls []) := by
    intro k9 hk9 x1 x2 x3 x4 H locs hP hD hS ls hl hf
    unfold fX6_wrongOrder_234 at hf
    refine lv_iload_n hx hb dX6_wrongOrder_234 rfl (lv_at hl 1 rfl) ?_
    refine lv_bipush (v := 13) hx hb dX6_wrongOrder_235 (by decide) ?_
    refine lv_icmp_ne (tgt := 243) hx hb dX6_wrongOrder_237 (by decide) (fun c_1 => ?_) (fun c_1 => ?_)
    · have hf := it_f c_1 hf
      refine lv_iinc (v := (x4 + 1)) (lv' := [(4, .int (x4 + 1)), (0, .ref h6), (1, .int x1), (2, .int x2), (3, .int x3)]) hx hb dX6_wrongOrder_243 hl (k := 4) rfl rfl (by decide) rfl (fun ls hl => ?_)
      refine lv_goto (tgt := 9) hx hb dX6_wrongOrder_246 (by decide) ?_
      exact hk9 x1 x2 x3 (x4 + 1) _ _ hP hD hS _ (lv_sub hl [1, 2, 3, 4, 0] rfl) hf
    · have hf := it_t c_1 hf
      refine lv_iload hx hb dX6_wrongOrder_240 (lv_at hl 4 rfl) ?_
      have hf : (some x4 : Option (Int32)) = some r := hf
      have he := Option.some.inj hf
      have he0 : x4 = r := he
      exact hret _ _ _ _ _ _ he0 rfl dX6_wrongOrder_242 hP hD hS
  have J205 : ∀ (k9 : Int32 → Int32 → Int32 → Int32 → Option (Int32)) (hk9 : ∀ (x1 : Int32) (x2 : Int32) (x3 : Int32) (x4 : Int32) (H : Heap) (locs : List Loc), va_P (dC, dI) vwCl (cf_6 cI cZ h6 h6a1 h6a2 h6a3 h6a4 h6a5 h6a7 h6a17 h6a18 s6) H → va_D A (cf_6 cI cZ h6 h6a1 h6a2 h6a3 h6a4 h6a5 h6a7 h6a17 h6a18 s6) → va_S A s.heap H locs → ∀ (ls : Array Slot), lv_has ls 8 [(0, .ref h6), (1, .int x1), (2, .int x2), (3, .int x3), (4, .int x4)] → k9 x1 x2 x3 x4 = some r → W p l e rmX6_wrongOrder s m ([.ref h6] : List Value).toArray below meth c H locs 0 0 QQ (F0 m 9 ls [])) (x2 : Int32) (x3 : Int32) (x4 : Int32) (t0 : Int32) (H : Heap) (locs : List Loc), va_P (dC, dI) vwCl (cf_6 cI cZ h6 h6a1 h6a2 h6a3 h6a4 h6a5 h6a7 h6a17 h6a18 s6) H → va_D A (cf_6 cI cZ h6 h6a1 h6a2 h6a3 h6a4 h6a5 h6a7 h6a17 h6a18 s6) → va_S A s.heap H locs → ∀ (ls : Array Slot), lv_has ls 8 [(0, .ref h6), (2, .int x2), (3, .int x3), (4, .int x4)] → fX6_wrongOrder_205 s6 k9 x2 x3 x4 t0 = some r → W p l e rmX6_wrongOrder s m ([.ref h6] : List Value).toArray below meth c H locs 0 0 QQ (F0 m 205 ls [.int t0]) := by
    intro k9 hk9 x2 x3 x4 t0 H locs hP hD hS ls hl hf
    unfold fX6_wrongOrder_205 at hf
    refine lv_istore_n (lv' := [(1, .int t0), (0, .ref h6), (2, .int x2), (3, .int x3), (4, .int x4)]) hx hb dX6_wrongOrder_205 rfl hl (by decide) rfl (fun ls hl => ?_)
    refine lv_goto (tgt := 234) hx hb dX6_wrongOrder_206 (by decide) ?_
    exact J234 k9 hk9 t0 x2 x3 x4 _ _ hP hD hS _ (lv_sub hl [1, 0, 2, 3, 4] rfl) hf
  have J178 : ∀ (k9 : Int32 → Int32 → Int32 → Int32 → Option (Int32)) (hk9 : ∀ (x1 : Int32) (x2 : Int32) (x3 : Int32) (x4 : Int32) (H : Heap) (locs : List Loc), va_P (dC, dI) vwCl (cf_6 cI cZ h6 h6a1 h6a2 h6a3 h6a4 h6a5 h6a7 h6a17 h6a18 s6) H → va_D A (cf_6 cI cZ h6 h6a1 h6a2 h6a3 h6a4 h6a5 h6a7 h6a17 h6a18 s6) → va_S A s.heap H locs → ∀ (ls : Array Slot), lv_has ls 8 [(0, .ref h6), (1, .int x1), (2, .int x2), (3, .int x3), (4, .int x4)] → k9 x1 x2 x3 x4 = some r → W p l e rmX6_wrongOrder s m ([.ref h6] : List Value).toArray below meth c H locs 0 0 QQ (F0 m 9 ls [])) (x2 : Int32) (x3 : Int32) (x4 : Int32) (x5 : Int32) (H : Heap) (locs : List Loc), va_P (dC, dI) vwCl (cf_6 cI cZ h6 h6a1 h6a2 h6a3 h6a4 h6a5 h6a7 h6a17 h6a18 s6) H → va_D A (cf_6 cI cZ h6 h6a1 h6a2 h6a3 h6a4 h6a5 h6a7 h6a17 h6a18 s6) → va_S A s.heap H locs → ∀ (ls : Array Slot), lv_has ls 8 [(0, .ref h6), (2, .int x2), (3, .int x3), (4, .int x4), (5, .int x5)] → fX6_wrongOrder_178 s6 k9 x2 x3 x4 x5 = some r → W p l e rmX6_wrongOrder s m ([.ref h6] : List Value).toArray below meth c H locs 0 0 QQ (F0 m 178 ls []) := by
    intro k9 hk9 x2 x3 x4 x5 H locs hP hD hS ls hl hf
    unfold fX6_wrongOrder_178 at hf
    refine lv_iload hx hb dX6_wrongOrder_178 (lv_at hl 4 rfl) ?_
    obtain ⟨r_1, hc_1, hf⟩ := bn1_ok hf
    refine gc_i (wc := ([] : va_W)) (wr := (cf_6 cI cZ h6 h6a1 h6a2 h6a3 h6a4 h6a5 h6a7 h6a17 h6a18 s6)) (w1 := ([] : va_W)) (ws' := (cf_6 cI cZ h6 h6a1 h6a2 h6a3 h6a4 h6a5 h6a7 h6a17 h6a18 s6)) hP hD hS hA [] [0, 1, 2, 3, 4, 5, 6, 7, 8] [0, 1, 2, 3, 4, 5, 6, 7, 8] rfl rfl (by decide) (by decide) rfl (by decide) (va_runS (As := [.int x5]) (rest := []) ⟨hx, hb, hml, hown, hts⟩ (ktX6_isAdjective l dC dI _ x5 r_1 hc_1) (va_cwS 1 hts gX6_wrongOrder_X6_isAdjective rfl rfl rfl (by decide +kernel) ⟨Nat.le_of_ble_eq_true rfl, Nat.le_of_ble_eq_true rfl⟩) (gc_S (hP.sub (ws' := ([] : va_W)) [] rfl) (hK.sub (tys' := []) [] rfl) (hD.sub (ws' := ([] : va_W)) [] (by decide) rfl) hN) rfl rfl hl.1 rfl (lv_room (Nat.le_of_ble_eq_true rfl)) dX6_wrongOrder_180 ⟨Nat.zero_le _, Nat.zero_le _⟩) (fun H locs hP hD hS => ?_)
    refine lv_if_eq (tgt := 190) hx hb dX6_wrongOrder_183 (by decide) (fun c_2 => ?_) (fun c_2 => ?_)
    · have hf := it_t c_2 hf
      refine lv_iload hx hb dX6_wrongOrder_190 (lv_at hl 4 rfl) ?_
      obtain ⟨r_3, hc_3, hf⟩ := bn1_ok hf
      refine gc_i (wc := ([] : va_W)) (wr := (cf_6 cI cZ h6 h6a1 h6a2 h6a3 h6a4 h6a5 h6a7 h6a17 h6a18 s6)) (w1 := ([] : va_W)) (ws' := (cf_6 cI cZ h6 h6a1 h6a2 h6a3 h6a4 h6a5 h6a7 h6a17 h6a18 s6)) hP hD hS hA [] [0, 1, 2, 3, 4, 5, 6, 7, 8] [0, 1, 2, 3, 4, 5, 6, 7, 8] rfl rfl (by decide) (by decide) rfl (by decide) (va_runS (As := [.int x5]) (rest := []) ⟨hx, hb, hml, hown, hts⟩ (ktX6_isPlural l dC dI _ x5 r_3 hc_3) (va_cwS 1 hts gX6_wrongOrder_X6_isPlural rfl rfl rfl (by decide +kernel) ⟨Nat.le_of_ble_eq_true rfl, Nat.le_of_ble_eq_true rfl⟩) (gc_S (hP.sub (ws' := ([] : va_W)) [] rfl) (hK.sub (tys' := []) [] rfl) (hD.sub (ws' := ([] : va_W)) [] (by decide) rfl) hN) rfl rfl hl.1 rfl (lv_room (Nat.le_of_ble_eq_true rfl)) dX6_wrongOrder_192 ⟨Nat.zero_le _, Nat.zero_le _⟩) (fun H locs hP hD hS => ?_)
      refine lv_if_eq (tgt := 203) hx hb dX6_wrongOrder_195 (by decide) (fun c_4 => ?_) (fun c_4 => ?_)
      · have hf := it_t c_4 hf
        refine lv_bipush (v := 13) hx hb dX6_wrongOrder_203 (by decide) ?_
        exact J205 k9 hk9 x2 x3 x4 13 _ _ hP hD hS _ (lv_sub hl [0, 1, 2, 3] rfl) hf
      · have hf := it_f c_4 hf
        refine lv_bipush (v := 6) hx hb dX6_wrongOrder_198 (by decide) ?_
        refine lv_goto (tgt := 205) hx hb dX6_wrongOrder_200 (by decide) ?_
        exact J205 k9 hk9 x2 x3 x4 6 _ _ hP hD hS _ (lv_sub hl [0, 1, 2, 3] rfl) hf
    · have hf := it_f c_2 hf
      refine lv_iconst (v := 5) hx hb dX6_wrongOrder_186 (by decide) ?_
      refine lv_goto (tgt := 205) hx hb dX6_wrongOrder_187 (by decide) ?_
      exact J205 k9 hk9 x2 x3 x4 5 _ _ hP hD hS _ (lv_sub hl [0, 1, 2, 3] rfl) hf
  have J233 : ∀ (k9 : Int32 → Int32 → Int32 → Int32 → Option (Int32)) (hk9 : ∀ (x1 : Int32) (x2 : Int32) (x3 : Int32) (x4 : Int32) (H : Heap) (locs : List Loc), va_P (dC, dI) vwCl (cf_6 cI cZ h6 h6a1 h6a2 h6a3 h6a4 h6a5 h6a7 h6a17 h6a18 s6) H → va_D A (cf_6 cI cZ h6 h6a1 h6a2 h6a3 h6a4 h6a5 h6a7 h6a17 h6a18 s6) → va_S A s.heap H locs → ∀ (ls : Array Slot), lv_has ls 8 [(0, .ref h6), (1, .int x1), (2, .int x2), (3, .int x3), (4, .int x4)] → k9 x1 x2 x3 x4 = some r → W p l e rmX6_wrongOrder s m ([.ref h6] : List Value).toArray below meth c H locs 0 0 QQ (F0 m 9 ls [])) (x2 : Int32) (x3 : Int32) (x4 : Int32) (t0 : Int32) (H : Heap) (locs : List Loc), va_P (dC, dI) vwCl (cf_6 cI cZ h6 h6a1 h6a2 h6a3 h6a4 h6a5 h6a7 h6a17 h6a18 s6) H → va_D A (cf_6 cI cZ h6 h6a1 h6a2 h6a3 h6a4 h6a5 h6a7 h6a17 h6a18 s6) → va_S A s.heap H locs → ∀ (ls : Array Slot), lv_has ls 8 [(0, .ref h6), (2, .int x2), (3, .int x3), (4, .int x4)] → fX6_wrongOrder_233 s6 k9 x2 x3 x4 t0 = some r → W p l e rmX6_wrongOrder s m ([.ref h6] : List Value).toArray below meth c H locs 0 0 QQ (F0 m 233 ls [.int t0]) := by
    intro k9 hk9 x2 x3 x4 t0 H locs hP hD hS ls hl hf
    unfold fX6_wrongOrder_233 at hf
    refine lv_istore_n (lv' := [(1, .int t0), (0, .ref h6), (2, .int x2), (3, .int x3), (4, .int x4)]) hx hb dX6_wrongOrder_233 rfl hl (by decide) rfl (fun ls hl => ?_)
    exact J234 k9 hk9 t0 x2 x3 x4 _ _ hP hD hS _ (lv_sub hl [1, 0, 2, 3, 4] rfl) hf
  have J220 : ∀ (k9 : Int32 → Int32 → Int32 → Int32 → Option (Int32)) (hk9 : ∀ (x1 : Int32) (x2 : Int32) (x3 : Int32) (x4 : Int32) (H : Heap) (locs : List Loc), va_P (dC, dI) vwCl (cf_6 cI cZ h6 h6a1 h6a2 h6a3 h6a4 h6a5 h6a7 h6a17 h6a18 s6) H → va_D A (cf_6 cI cZ h6 h6a1 h6a2 h6a3 h6a4 h6a5 h6a7 h6a17 h6a18 s6) → va_S A s.heap H locs → ∀ (ls : Array Slot), lv_has ls 8 [(0, .ref h6), (1, .int x1), (2, .int x2), (3, .int x3), (4, .int x4)] → k9 x1 x2 x3 x4 = some r → W p l e rmX6_wrongOrder s m ([.ref h6] : List Value).toArray below meth c H locs 0 0 QQ (F0 m 9 ls [])) (x2 : Int32) (x3 : Int32) (x4 : Int32) (H : Heap) (locs : List Loc), va_P (dC, dI) vwCl (cf_6 cI cZ h6 h6a1 h6a2 h6a3 h6a4 h6a5 h6a7 h6a17 h6a18 s6) H → va_D A (cf_6 cI cZ h6 h6a1 h6a2 h6a3 h6a4 h6a5 h6a7 h6a17 h6a18 s6) → va_S A s.heap H locs → ∀ (ls : Array Slot), lv_has ls 8 [(0, .ref h6), (2, .int x2), (3, .int x3), (4, .int x4)] → fX6_wrongOrder_220 s6 k9 x2 x3 x4 = some r → W p l e rmX6_wrongOrder s m ([.ref h6] : List Value).toArray below meth c H locs 0 0 QQ (F0 m 220 ls []) := by
    intro k9 hk9 x2 x3 x4 H locs hP hD hS ls hl hf
    unfold fX6_wrongOrder_220 at hf
    refine lv_bipush (v := 13) hx hb dX6_wrongOrder_220 (by decide) ?_
    refine lv_goto (tgt := 233) hx hb dX6_wrongOrder_222 (by decide) ?_
    exact J233 k9 hk9 x2 x3 x4 13 _ _ hP hD hS _ (lv_sub hl [0, 1, 2, 3] rfl) hf
  have J168 : ∀ (k9 : Int32 → Int32 → Int32 → Int32 → Option (Int32)) (hk9 : ∀ (x1 : Int32) (x2 : Int32) (x3 : Int32) (x4 : Int32) (H : Heap) (locs : List Loc), va_P (dC, dI) vwCl (cf_6 cI cZ h6 h6a1 h6a2 h6a3 h6a4 h6a5 h6a7 h6a17 h6a18 s6) H → va_D A (cf_6 cI cZ h6 h6a1 h6a2 h6a3 h6a4 h6a5 h6a7 h6a17 h6a18 s6) → va_S A s.heap H locs → ∀ (ls : Array Slot), lv_has ls 8 [(0, .ref h6), (1, .int x1), (2, .int x2), (3, .int x3), (4, .int x4)] → k9 x1 x2 x3 x4 = some r → W p l e rmX6_wrongOrder s m ([.ref h6] : List Value).toArray below meth c H locs 0 0 QQ (F0 m 9 ls [])) (x1 : Int32) (x2 : Int32) (x3 : Int32) (x4 : Int32) (x5 : Int32) (x6 : Int32) (x7 : Int32) (H : Heap) (locs : List Loc), va_P (dC, dI) vwCl (cf_6 cI cZ h6 h6a1 h6a2 h6a3 h6a4 h6a5 h6a7 h6a17 h6a18 s6) H → va_D A (cf_6 cI cZ h6 h6a1 h6a2 h6a3 h6a4 h6a5 h6a7 h6a17 h6a18 s6) → va_S A s.heap H locs → ∀ (ls : Array Slot), lv_has ls 8 [(0, .ref h6), (1, .int x1), (2, .int x2), (3, .int x3), (4, .int x4), (5, .int x5), (6, .int x6), (7, .int x7)] → fX6_wrongOrder_168 s6 k9 x1 x2 x3 x4 x5 x6 x7 = some r → W p l e rmX6_wrongOrder s m ([.ref h6] : List Value).toArray below meth c H locs 0 0 QQ (F0 m 168 ls []) := by
    intro k9 hk9 x1 x2 x3 x4 x5 x6 x7 H locs hP hD hS ls hl hf
    unfold fX6_wrongOrder_168 at hf
    refine lv_iload_n hx hb dX6_wrongOrder_168 rfl (lv_at hl 1 rfl) ?_
    refine lv_iconst (v := 4) hx hb dX6_wrongOrder_169 (by decide) ?_
    refine lv_icmp_eq (tgt := 178) hx hb dX6_wrongOrder_170 (by decide) (fun c_1 => ?_) (fun c_1 => ?_)
    · have hf := it_t c_1 hf
      exact J178 k9 hk9 x2 x3 x4 x5 _ _ hP hD hS _ (lv_sub hl [0, 2, 3, 4, 5] rfl) hf
    · have hf := it_f c_1 hf
      refine lv_iload_n hx hb dX6_wrongOrder_173 rfl (lv_at hl 1 rfl) ?_
      refine lv_iconst (v := 5) hx hb dX6_wrongOrder_174 (by decide) ?_
      refine lv_icmp_ne (tgt := 209) hx hb dX6_wrongOrder_175 (by decide) (fun c_2 => ?_) (fun c_2 => ?_)
      · have hf := it_f c_2 hf
        refine lv_iload hx hb dX6_wrongOrder_209 (lv_at hl 7 rfl) ?_
        refine lv_if_ne (tgt := 220) hx hb dX6_wrongOrder_211 (by decide) (fun c_3 => ?_) (fun c_3 => ?_)
        · have hf := it_f c_3 hf
          exact J220 k9 hk9 x2 x3 x4 _ _ hP hD hS _ (lv_sub hl [0, 2, 3, 4] rfl) hf
        · have hf := it_t c_3 hf
          refine lv_iload_n hx hb dX6_wrongOrder_214 rfl (lv_at hl 1 rfl) ?_
          refine lv_bipush (v := 12) hx hb dX6_wrongOrder_215 (by decide) ?_
          refine lv_icmp_ne (tgt := 225) hx hb dX6_wrongOrder_217 (by decide) (fun c_4 => ?_) (fun c_4 => ?_)
          · have hf := it_f c_4 hf
            refine lv_iload_n hx hb dX6_wrongOrder_225 rfl (lv_at hl 1 rfl) ?_
            refine lv_iload hx hb dX6_wrongOrder_226 (lv_at hl 5 rfl) ?_
            refine lv_iload hx hb dX6_wrongOrder_228 (lv_at hl 6 rfl) ?_
            obtain ⟨r_5, hc_5, hf⟩ := bn1_ok hf
            refine gc_i (wc := ([] : va_W)) (wr := (cf_6 cI cZ h6 h6a1 h6a2 h6a3 h6a4 h6a5 h6a7 h6a17 h6a18 s6)) (w1 := ([] : va_W)) (ws' := (cf_6 cI cZ h6 h6a1 h6a2 h6a3 h6a4 h6a5 h6a7 h6a17 h6a18 s6)) hP hD hS hA [] [0, 1, 2, 3, 4, 5, 6, 7, 8] [0, 1, 2, 3, 4, 5, 6, 7, 8] rfl rfl (by decide) (by decide) rfl (by decide) (va_runS (As := [.int x1, .int x5, .int x6]) (rest := []) ⟨hx, hb, hml, hown, hts⟩ (ktX6_phrase l dC dI _ x1 x5 x6 r_5 hc_5) (va_cwS 3 hts gX6_wrongOrder_X6_phrase rfl rfl rfl (by decide +kernel) ⟨Nat.le_of_ble_eq_true rfl, Nat.le_of_ble_eq_true rfl⟩) (gc_S (hP.sub (ws' := ([] : va_W)) [] rfl) (hK.sub (tys' := []) [] rfl) (hD.sub (ws' := ([] : va_W)) [] (by decide) rfl) hN) rfl rfl hl.1 rfl (lv_room (Nat.le_of_ble_eq_true rfl)) dX6_wrongOrder_230 ⟨Nat.zero_le _, Nat.zero_le _⟩) (fun H locs hP hD hS => ?_)
            exact J233 k9 hk9 x2 x3 x4 r_5 _ _ hP hD hS _ (lv_sub hl [0, 2, 3, 4] rfl) hf
          · have hf := it_t c_4 hf
            exact J220 k9 hk9 x2 x3 x4 _ _ hP hD hS _ (lv_sub hl [0, 2, 3, 4] rfl) hf
      · have hf := it_t c_2 hf
        exact J178 k9 hk9 x2 x3 x4 x5 _ _ hP hD hS _ (lv_sub hl [0, 2, 3, 4, 5] rfl) hf
  have J155 : ∀ (k9 : Int32 → Int32 → Int32 → Int32 → Option (Int32)) (hk9 : ∀ (x1 : Int32) (x2 : Int32) (x3 : Int32) (x4 : Int32) (H : Heap) (locs : List Loc), va_P (dC, dI) vwCl (cf_6 cI cZ h6 h6a1 h6a2 h6a3 h6a4 h6a5 h6a7 h6a17 h6a18 s6) H → va_D A (cf_6 cI cZ h6 h6a1 h6a2 h6a3 h6a4 h6a5 h6a7 h6a17 h6a18 s6) → va_S A s.heap H locs → ∀ (ls : Array Slot), lv_has ls 8 [(0, .ref h6), (1, .int x1), (2, .int x2), (3, .int x3), (4, .int x4)] → k9 x1 x2 x3 x4 = some r → W p l e rmX6_wrongOrder s m ([.ref h6] : List Value).toArray below meth c H locs 0 0 QQ (F0 m 9 ls [])) (x1 : Int32) (x2 : Int32) (x3 : Int32) (x4 : Int32) (x5 : Int32) (x6 : Int32) (x7 : Int32) (H : Heap) (locs : List Loc), va_P (dC, dI) vwCl (cf_6 cI cZ h6 h6a1 h6a2 h6a3 h6a4 h6a5 h6a7 h6a17 h6a18 s6) H → va_D A (cf_6 cI cZ h6 h6a1 h6a2 h6a3 h6a4 h6a5 h6a7 h6a17 h6a18 s6) → va_S A s.heap H locs → ∀ (ls : Array Slot), lv_has ls 8 [(0, .ref h6), (1, .int x1), (2, .int x2), (3, .int x3), (4, .int x4), (5, .int x5), (6, .int x6), (7, .int x7)] → fX6_wrongOrder_155 s6 k9 x1 x2 x3 x4 x5 x6 x7 = some r → W p l e rmX6_wrongOrder s m ([.ref h6] : List Value).toArray below meth c H locs 0 0 QQ (F0 m 155 ls []) := by
    intro k9 hk9 x1 x2 x3 x4 x5 x6 x7 H locs hP hD hS ls hl hf
    unfold fX6_wrongOrder_155 at hf
    refine lv_iload hx hb dX6_wrongOrder_155 (lv_at hl 5 rfl) ?_
    refine lv_bipush (v := 12) hx hb dX6_wrongOrder_157 (by decide) ?_
    refine lv_icmp_ne (tgt := 168) hx hb dX6_wrongOrder_159 (by decide) (fun c_1 => ?_) (fun c_1 => ?_)
    · have hf := it_f c_1 hf
      exact J168 k9 hk9 x1 x2 x3 x4 x5 x6 x7 _ _ hP hD hS _ (lv_sub hl [0, 1, 2, 3, 4, 5, 6, 7] rfl) hf
    · have hf := it_t c_1 hf
      refine lv_bipush (v := 8) hx hb dX6_wrongOrder_162 (by decide) ?_
      refine lv_istore_n (lv' := [(1, .int 8), (0, .ref h6), (2, .int x2), (3, .int x3), (4, .int x4), (5, .int x5), (6, .int x6), (7, .int x7)]) hx hb dX6_wrongOrder_164 rfl hl (by decide) rfl (fun ls hl => ?_)
      refine lv_goto (tgt := 234) hx hb dX6_wrongOrder_165 (by decide) ?_
      exact J234 k9 hk9 8 x2 x3 x4 _ _ hP hD hS _ (lv_sub hl [1, 0, 2, 3, 4] rfl) hf
  have J144 : ∀ (k9 : Int32 → Int32 → Int32 → Int32 → Option (Int32)) (hk9 : ∀ (x1 : Int32) (x2 : Int32) (x3 : Int32) (x4 : Int32) (H : Heap) (locs : List Loc), va_P (dC, dI) vwCl (cf_6 cI cZ h6 h6a1 h6a2 h6a3 h6a4 h6a5 h6a7 h6a17 h6a18 s6) H → va_D A (cf_6 cI cZ h6 h6a1 h6a2 h6a3 h6a4 h6a5 h6a7 h6a17 h6a18 s6) → va_S A s.heap H locs → ∀ (ls : Array Slot), lv_has ls 8 [(0, .ref h6), (1, .int x1), (2, .int x2), (3, .int x3), (4, .int x4)] → k9 x1 x2 x3 x4 = some r → W p l e rmX6_wrongOrder s m ([.ref h6] : List Value).toArray below meth c H locs 0 0 QQ (F0 m 9 ls [])) (x1 : Int32) (x2 : Int32) (x3 : Int32) (x4 : Int32) (x5 : Int32) (x6 : Int32) (x7 : Int32) (H : Heap) (locs : List Loc), va_P (dC, dI) vwCl (cf_6 cI cZ h6 h6a1 h6a2 h6a3 h6a4 h6a5 h6a7 h6a17 h6a18 s6) H → va_D A (cf_6 cI cZ h6 h6a1 h6a2 h6a3 h6a4 h6a5 h6a7 h6a17 h6a18 s6) → va_S A s.heap H locs → ∀ (ls : Array Slot), lv_has ls 8 [(0, .ref h6), (1, .int x1), (2, .int x2), (3, .int x3), (4, .int x4), (5, .int x5), (6, .int x6), (7, .int x7)] → fX6_wrongOrder_144 s6 k9 x1 x2 x3 x4 x5 x6 x7 = some r → W p l e rmX6_wrongOrder s m ([.ref h6] : List Value).toArray below meth c H locs 0 0 QQ (F0 m 144 ls []) := by
    intro k9 hk9 x1 x2 x3 x4 x5 x6 x7 H locs hP hD hS ls hl hf
    unfold fX6_wrongOrder_144 at hf
    refine lv_iload_n hx hb dX6_wrongOrder_144 rfl (lv_at hl 1 rfl) ?_
    refine lv_iconst (v := 4) hx hb dX6_wrongOrder_145 (by decide) ?_
    refine lv_icmp_eq (tgt := 155) hx hb dX6_wrongOrder_146 (by decide) (fun c_1 => ?_) (fun c_1 => ?_)
    · have hf := it_t c_1 hf
      exact J155 k9 hk9 x1 x2 x3 x4 x5 x6 x7 _ _ hP hD hS _ (lv_sub hl [0, 1, 2, 3, 4, 5, 6, 7] rfl) hf
    · have hf := it_f c_1 hf
      refine lv_iload_n hx hb dX6_wrongOrder_149 rfl (lv_at hl 1 rfl) ?_
      refine lv_bipush (v := 6) hx hb dX6_wrongOrder_150 (by decide) ?_
      refine lv_icmp_ne (tgt := 168) hx hb dX6_wrongOrder_152 (by decide) (fun c_2 => ?_) (fun c_2 => ?_)
      · have hf := it_f c_2 hf
        exact J168 k9 hk9 x1 x2 x3 x4 x5 x6 x7 _ _ hP hD hS _ (lv_sub hl [0, 1, 2, 3, 4, 5, 6, 7] rfl) hf
      · have hf := it_t c_2 hf
        exact J155 k9 hk9 x1 x2 x3 x4 x5 x6 x7 _ _ hP hD hS _ (lv_sub hl [0, 1, 2, 3, 4, 5, 6, 7] rfl) hf
  have J114 : ∀ (k9 : Int32 → Int32 → Int32 → Int32 → Option (Int32)) (hk9 : ∀ (x1 : Int32) (x2 : Int32) (x3 : Int32) (x4 : Int32) (H : Heap) (locs : List Loc), va_P (dC, dI) vwCl (cf_6 cI cZ h6 h6a1 h6a2 h6a3 h6a4 h6a5 h6a7 h6a17 h6a18 s6) H → va_D A (cf_6 cI cZ h6 h6a1 h6a2 h6a3 h6a4 h6a5 h6a7 h6a17 h6a18 s6) → va_S A s.heap H locs → ∀ (ls : Array Slot), lv_has ls 8 [(0, .ref h6), (1, .int x1), (2, .int x2), (3, .int x3), (4, .int x4)] → k9 x1 x2 x3 x4 = some r → W p l e rmX6_wrongOrder s m ([.ref h6] : List Value).toArray below meth c H locs 0 0 QQ (F0 m 9 ls [])) (x1 : Int32) (x2 : Int32) (x3 : Int32) (x4 : Int32) (x5 : Int32) (x6 : Int32) (x7 : Int32) (H : Heap) (locs : List Loc), va_P (dC, dI) vwCl (cf_6 cI cZ h6 h6a1 h6a2 h6a3 h6a4 h6a5 h6a7 h6a17 h6a18 s6) H → va_D A (cf_6 cI cZ h6 h6a1 h6a2 h6a3 h6a4 h6a5 h6a7 h6a17 h6a18 s6) → va_S A s.heap H locs → ∀ (ls : Array Slot), lv_has ls 8 [(0, .ref h6), (1, .int x1), (2, .int x2), (3, .int x3), (4, .int x4), (5, .int x5), (6, .int x6), (7, .int x7)] → fX6_wrongOrder_114 s6 k9 x1 x2 x3 x4 x5 x6 x7 = some r → W p l e rmX6_wrongOrder s m ([.ref h6] : List Value).toArray below meth c H locs 0 0 QQ (F0 m 114 ls []) := by
    intro k9 hk9 x1 x2 x3 x4 x5 x6 x7 H locs hP hD hS ls hl hf
    unfold fX6_wrongOrder_114 at hf
    refine lv_iload hx hb dX6_wrongOrder_114 (lv_at hl 7 rfl) ?_
    refine lv_if_eq (tgt := 144) hx hb dX6_wrongOrder_116 (by decide) (fun c_1 => ?_) (fun c_1 => ?_)
    · have hf := it_t c_1 hf
      exact J144 k9 hk9 x1 x2 x3 x4 x5 x6 x7 _ _ hP hD hS _ (lv_sub hl [0, 1, 2, 3, 4, 5, 6, 7] rfl) hf
    · have hf := it_f c_1 hf
      refine lv_iload hx hb dX6_wrongOrder_119 (lv_at hl 5 rfl) ?_
      refine lv_bipush (v := 16) hx hb dX6_wrongOrder_121 (by decide) ?_
      refine lv_icmp_ne (tgt := 144) hx hb dX6_wrongOrder_123 (by decide) (fun c_2 => ?_) (fun c_2 => ?_)
      · have hf := it_f c_2 hf
        exact J144 k9 hk9 x1 x2 x3 x4 x5 x6 x7 _ _ hP hD hS _ (lv_sub hl [0, 1, 2, 3, 4, 5, 6, 7] rfl) hf
      · have hf := it_t c_2 hf
        refine lv_aload_n hx hb dX6_wrongOrder_126 rfl (lv_at hl 0 rfl) ?_
        refine va_get (D := (dC, dI)) (ci := 6) (v := .ref h6a7) (C := RX6) (T := TX6) (N := 25) hx hb hts in6 hown hK hP 0 rfl rfl 7 (by decide) fl26 (fun _ h9 => h9) rfl dX6_wrongOrder_127 ?_
        refine lv_iconst (v := 0) hx hb dX6_wrongOrder_130 (by decide) ?_
        obtain ⟨hi_3, hf⟩ := ai_ok hf
        refine va_iald (n := 24) (f := (S6_words s6)) hx hb hK hP 6 0 rfl rfl hi_3 dX6_wrongOrder_131 ?_
        refine lv_iconst (v := 2) hx hb dX6_wrongOrder_132 (by decide) ?_
        refine lv_icmp_ne (tgt := 144) hx hb dX6_wrongOrder_133 (by decide) (fun c_4 => ?_) (fun c_4 => ?_)
        · have hf := it_f c_4 hf
          exact J144 k9 hk9 x1 x2 x3 x4 x5 x6 x7 _ _ hP hD hS _ (lv_sub hl [0, 1, 2, 3, 4, 5, 6, 7] rfl) hf
        · have hf := it_t c_4 hf
          refine lv_iconst (v := 1) hx hb dX6_wrongOrder_136 (by decide) ?_
          refine lv_istore_n (lv' := [(3, .int 1), (0, .ref h6), (1, .int x1), (2, .int x2), (4, .int x4), (5, .int x5), (6, .int x6), (7, .int x7)]) hx hb dX6_wrongOrder_137 rfl hl (by decide) rfl (fun ls hl => ?_)
          refine lv_bipush (v := 8) hx hb dX6_wrongOrder_138 (by decide) ?_
          refine lv_istore_n (lv' := [(1, .int 8), (3, .int 1), (0, .ref h6), (2, .int x2), (4, .int x4), (5, .int x5), (6, .int x6), (7, .int x7)]) hx hb dX6_wrongOrder_140 rfl hl (by decide) rfl (fun ls hl => ?_)
          refine lv_goto (tgt := 234) hx hb dX6_wrongOrder_141 (by decide) ?_
          exact J234 k9 hk9 8 x2 1 x4 _ _ hP hD hS _ (lv_sub hl [2, 0, 3, 1, 4] rfl) hf
  have J108 : ∀ (k9 : Int32 → Int32 → Int32 → Int32 → Option (Int32)) (hk9 : ∀ (x1 : Int32) (x2 : Int32) (x3 : Int32) (x4 : Int32) (H : Heap) (locs : List Loc), va_P (dC, dI) vwCl (cf_6 cI cZ h6 h6a1 h6a2 h6a3 h6a4 h6a5 h6a7 h6a17 h6a18 s6) H → va_D A (cf_6 cI cZ h6 h6a1 h6a2 h6a3 h6a4 h6a5 h6a7 h6a17 h6a18 s6) → va_S A s.heap H locs → ∀ (ls : Array Slot), lv_has ls 8 [(0, .ref h6), (1, .int x1), (2, .int x2), (3, .int x3), (4, .int x4)] → k9 x1 x2 x3 x4 = some r → W p l e rmX6_wrongOrder s m ([.ref h6] : List Value).toArray below meth c H locs 0 0 QQ (F0 m 9 ls [])) (x3 : Int32) (x4 : Int32) (t0 : Int32) (H : Heap) (locs : List Loc), va_P (dC, dI) vwCl (cf_6 cI cZ h6 h6a1 h6a2 h6a3 h6a4 h6a5 h6a7 h6a17 h6a18 s6) H → va_D A (cf_6 cI cZ h6 h6a1 h6a2 h6a3 h6a4 h6a5 h6a7 h6a17 h6a18 s6) → va_S A s.heap H locs → ∀ (ls : Array Slot), lv_has ls 8 [(0, .ref h6), (3, .int x3), (4, .int x4)] → fX6_wrongOrder_108 s6 k9 x3 x4 t0 = some r → W p l e rmX6_wrongOrder s m ([.ref h6] : List Value).toArray below meth c H locs 0 0 QQ (F0 m 108 ls [.int t0]) := by
    intro k9 hk9 x3 x4 t0 H locs hP hD hS ls hl hf
    unfold fX6_wrongOrder_108 at hf
    refine lv_istore_n (lv' := [(2, .int t0), (0, .ref h6), (3, .int x3), (4, .int x4)]) hx hb dX6_wrongOrder_108 rfl hl (by decide) rfl (fun ls hl => ?_)
    refine lv_iconst (v := 1) hx hb dX6_wrongOrder_109 (by decide) ?_
    refine lv_istore_n (lv' := [(1, .int 1), (2, .int t0), (0, .ref h6), (3, .int x3), (4, .int x4)]) hx hb dX6_wrongOrder_110 rfl hl (by decide) rfl (fun ls hl => ?_)
    refine lv_goto (tgt := 234) hx hb dX6_wrongOrder_111 (by decide) ?_
    exact J234 k9 hk9 1 t0 x3 x4 _ _ hP hD hS _ (lv_sub hl [2, 0, 1, 3, 4] rfl) hf
  have J83 : ∀ (k9 : Int32 → Int32 → Int32 → Int32 → Option (Int32)) (hk9 : ∀ (x1 : Int32) (x2 : Int32) (x3 : Int32) (x4 : Int32) (H : Heap) (locs : List Loc), va_P (dC, dI) vwCl (cf_6 cI cZ h6 h6a1 h6a2 h6a3 h6a4 h6a5 h6a7 h6a17 h6a18 s6) H → va_D A (cf_6 cI cZ h6 h6a1 h6a2 h6a3 h6a4 h6a5 h6a7 h6a17 h6a18 s6) → va_S A s.heap H locs → ∀ (ls : Array Slot), lv_has ls 8 [(0, .ref h6), (1, .int x1), (2, .int x2), (3, .int x3), (4, .int x4)] → k9 x1 x2 x3 x4 = some r → W p l e rmX6_wrongOrder s m ([.ref h6] : List Value).toArray below meth c H locs 0 0 QQ (F0 m 9 ls [])) (x1 : Int32) (x2 : Int32) (x3 : Int32) (x4 : Int32) (x5 : Int32) (x6 : Int32) (t0 : Int32) (H : Heap) (locs : List Loc), va_P (dC, dI) vwCl (cf_6 cI cZ h6 h6a1 h6a2 h6a3 h6a4 h6a5 h6a7 h6a17 h6a18 s6) H → va_D A (cf_6 cI cZ h6 h6a1 h6a2 h6a3 h6a4 h6a5 h6a7 h6a17 h6a18 s6) → va_S A s.heap H locs → ∀ (ls : Array Slot), lv_has ls 8 [(0, .ref h6), (1, .int x1), (2, .int x2), (3, .int x3), (4, .int x4), (5, .int x5), (6, .int x6)] → fX6_wrongOrder_83 s6 k9 x1 x2 x3 x4 x5 x6 t0 = some r → W p l e rmX6_wrongOrder s m ([.ref h6] : List Value).toArray below meth c H locs 0 0 QQ (F0 m 83 ls [.int t0]) := by
    intro k9 hk9 x1 x2 x3 x4 x5 x6 t0 H locs hP hD hS ls hl hf
    unfold fX6_wrongOrder_83 at hf
    refine lv_istore (lv' := [(7, .int t0), (0, .ref h6), (1, .int x1), (2, .int x2), (3, .int x3), (4, .int x4), (5, .int x5), (6, .int x6)]) hx hb dX6_wrongOrder_83 hl (by decide) rfl (fun ls hl => ?_)
    refine lv_iload hx hb dX6_wrongOrder_85 (lv_at hl 0 rfl) ?_
    refine lv_if_eq (tgt := 114) hx hb dX6_wrongOrder_87 (by decide) (fun c_1 => ?_) (fun c_1 => ?_)
    · have hf := it_t c_1 hf
      exact J114 k9 hk9 x1 x2 x3 x4 x5 x6 t0 _ _ hP hD hS _ (lv_sub hl [1, 2, 3, 4, 5, 6, 7, 0] rfl) hf
    · have hf := it_f c_1 hf
      refine lv_iload hx hb dX6_wrongOrder_90 (lv_at hl 6 rfl) ?_
      refine lv_bipush (v := 13) hx hb dX6_wrongOrder_92 (by decide) ?_
      refine lv_icmp_ne (tgt := 114) hx hb dX6_wrongOrder_94 (by decide) (fun c_2 => ?_) (fun c_2 => ?_)
      · have hf := it_f c_2 hf
        exact J114 k9 hk9 x1 x2 x3 x4 x5 x6 t0 _ _ hP hD hS _ (lv_sub hl [1, 2, 3, 4, 5, 6, 7, 0] rfl) hf
      · have hf := it_t c_2 hf
        refine lv_iload_n hx hb dX6_wrongOrder_97 rfl (lv_at hl 2 rfl) ?_
        refine lv_bipush (v := 11) hx hb dX6_wrongOrder_98 (by decide) ?_
        refine lv_icmp_ne (tgt := 107) hx hb dX6_wrongOrder_100 (by decide) (fun c_3 => ?_) (fun c_3 => ?_)
        · have hf := it_f c_3 hf
          refine lv_iconst (v := 0) hx hb dX6_wrongOrder_107 (by decide) ?_
          exact J108 k9 hk9 x3 x4 0 _ _ hP hD hS _ (lv_sub hl [1, 4, 5] rfl) hf
        · have hf := it_t c_3 hf
          refine lv_iconst (v := 1) hx hb dX6_wrongOrder_103 (by decide) ?_
          refine lv_goto (tgt := 108) hx hb dX6_wrongOrder_104 (by decide) ?_
          exact J108 k9 hk9 x3 x4 1 _ _ hP hD hS _ (lv_sub hl [1, 4, 5] rfl) hf
  have J78 : ∀ (k9 : Int32 → Int32 → Int32 → Int32 → Option (Int32)) (hk9 : ∀ (x1 : Int32) (x2 : Int32) (x3 : Int32) (x4 : Int32) (H : Heap) (locs : List Loc), va_P (dC, dI) vwCl (cf_6 cI cZ h6 h6a1 h6a2 h6a3 h6a4 h6a5 h6a7 h6a17 h6a18 s6) H → va_D A (cf_6 cI cZ h6 h6a1 h6a2 h6a3 h6a4 h6a5 h6a7 h6a17 h6a18 s6) → va_S A s.heap H locs → ∀ (ls : Array Slot), lv_has ls 8 [(0, .ref h6), (1, .int x1), (2, .int x2), (3, .int x3), (4, .int x4)] → k9 x1 x2 x3 x4 = some r → W p l e rmX6_wrongOrder s m ([.ref h6] : List Value).toArray below meth c H locs 0 0 QQ (F0 m 9 ls [])) (x1 : Int32) (x2 : Int32) (x3 : Int32) (x4 : Int32) (x5 : Int32) (x6 : Int32) (H : Heap) (locs : List Loc), va_P (dC, dI) vwCl (cf_6 cI cZ h6 h6a1 h6a2 h6a3 h6a4 h6a5 h6a7 h6a17 h6a18 s6) H → va_D A (cf_6 cI cZ h6 h6a1 h6a2 h6a3 h6a4 h6a5 h6a7 h6a17 h6a18 s6) → va_S A s.heap H locs → ∀ (ls : Array Slot), lv_has ls 8 [(0, .ref h6), (1, .int x1), (2, .int x2), (3, .int x3), (4, .int x4), (5, .int x5), (6, .int x6)] → fX6_wrongOrder_78 s6 k9 x1 x2 x3 x4 x5 x6 = some r → W p l e rmX6_wrongOrder s m ([.ref h6] : List Value).toArray below meth c H locs 0 0 QQ (F0 m 78 ls []) := by
    intro k9 hk9 x1 x2 x3 x4 x5 x6 H locs hP hD hS ls hl hf
    unfold fX6_wrongOrder_78 at hf
    refine lv_iconst (v := 1) hx hb dX6_wrongOrder_78 (by decide) ?_
    refine lv_goto (tgt := 83) hx hb dX6_wrongOrder_79 (by decide) ?_
    exact J83 k9 hk9 x1 x2 x3 x4 x5 x6 1 _ _ hP hD hS _ (lv_sub hl [0, 1, 2, 3, 4, 5, 6] rfl) hf
  have J53 : ∀ (k9 : Int32 → Int32 → Int32 → Int32 → Option (Int32)) (hk9 : ∀ (x1 : Int32) (x2 : Int32) (x3 : Int32) (x4 : Int32) (H : Heap) (locs : List Loc), va_P (dC, dI) vwCl (cf_6 cI cZ h6 h6a1 h6a2 h6a3 h6a4 h6a5 h6a7 h6a17 h6a18 s6) H → va_D A (cf_6 cI cZ h6 h6a1 h6a2 h6a3 h6a4 h6a5 h6a7 h6a17 h6a18 s6) → va_S A s.heap H locs → ∀ (ls : Array Slot), lv_has ls 8 [(0, .ref h6), (1, .int x1), (2, .int x2), (3, .int x3), (4, .int x4)] → k9 x1 x2 x3 x4 = some r → W p l e rmX6_wrongOrder s m ([.ref h6] : List Value).toArray below meth c H locs 0 0 QQ (F0 m 9 ls [])) (x1 : Int32) (x2 : Int32) (x3 : Int32) (x4 : Int32) (x5 : Int32) (t0 : Int32) (H : Heap) (locs : List Loc), va_P (dC, dI) vwCl (cf_6 cI cZ h6 h6a1 h6a2 h6a3 h6a4 h6a5 h6a7 h6a17 h6a18 s6) H → va_D A (cf_6 cI cZ h6 h6a1 h6a2 h6a3 h6a4 h6a5 h6a7 h6a17 h6a18 s6) → va_S A s.heap H locs → ∀ (ls : Array Slot), lv_has ls 8 [(0, .ref h6), (1, .int x1), (2, .int x2), (3, .int x3), (4, .int x4), (5, .int x5)] → fX6_wrongOrder_53 s6 k9 x1 x2 x3 x4 x5 t0 = some r → W p l e rmX6_wrongOrder s m ([.ref h6] : List Value).toArray below meth c H locs 0 0 QQ (F0 m 53 ls [.int t0]) := by
    intro k9 hk9 x1 x2 x3 x4 x5 t0 H locs hP hD hS ls hl hf
    unfold fX6_wrongOrder_53 at hf
    refine lv_istore (lv' := [(6, .int t0), (0, .ref h6), (1, .int x1), (2, .int x2), (3, .int x3), (4, .int x4), (5, .int x5)]) hx hb dX6_wrongOrder_53 hl (by decide) rfl (fun ls hl => ?_)
    refine lv_iload_n hx hb dX6_wrongOrder_55 rfl (lv_at hl 2 rfl) ?_
    refine lv_iconst (v := 4) hx hb dX6_wrongOrder_56 (by decide) ?_
    refine lv_icmp_eq (tgt := 78) hx hb dX6_wrongOrder_57 (by decide) (fun c_1 => ?_) (fun c_1 => ?_)
    · have hf := it_t c_1 hf
      exact J78 k9 hk9 x1 x2 x3 x4 x5 t0 _ _ hP hD hS _ (lv_sub hl [1, 2, 3, 4, 5, 6, 0] rfl) hf
    · have hf := it_f c_1 hf
      refine lv_iload_n hx hb dX6_wrongOrder_60 rfl (lv_at hl 2 rfl) ?_
      refine lv_bipush (v := 6) hx hb dX6_wrongOrder_61 (by decide) ?_
      refine lv_icmp_eq (tgt := 78) hx hb dX6_wrongOrder_63 (by decide) (fun c_2 => ?_) (fun c_2 => ?_)
      · have hf := it_t c_2 hf
        exact J78 k9 hk9 x1 x2 x3 x4 x5 t0 _ _ hP hD hS _ (lv_sub hl [1, 2, 3, 4, 5, 6, 0] rfl) hf
      · have hf := it_f c_2 hf
        refine lv_iload_n hx hb dX6_wrongOrder_66 rfl (lv_at hl 2 rfl) ?_
        refine lv_bipush (v := 7) hx hb dX6_wrongOrder_67 (by decide) ?_
        refine lv_icmp_eq (tgt := 78) hx hb dX6_wrongOrder_69 (by decide) (fun c_3 => ?_) (fun c_3 => ?_)
        · have hf := it_t c_3 hf
          exact J78 k9 hk9 x1 x2 x3 x4 x5 t0 _ _ hP hD hS _ (lv_sub hl [1, 2, 3, 4, 5, 6, 0] rfl) hf
        · have hf := it_f c_3 hf
          refine lv_iload_n hx hb dX6_wrongOrder_72 rfl (lv_at hl 2 rfl) ?_
          refine lv_bipush (v := 11) hx hb dX6_wrongOrder_73 (by decide) ?_
          refine lv_icmp_ne (tgt := 82) hx hb dX6_wrongOrder_75 (by decide) (fun c_4 => ?_) (fun c_4 => ?_)
          · have hf := it_f c_4 hf
            refine lv_iconst (v := 0) hx hb dX6_wrongOrder_82 (by decide) ?_
            exact J83 k9 hk9 x1 x2 x3 x4 x5 t0 0 _ _ hP hD hS _ (lv_sub hl [1, 2, 3, 4, 5, 6, 0] rfl) hf
          · have hf := it_t c_4 hf
            exact J78 k9 hk9 x1 x2 x3 x4 x5 t0 _ _ hP hD hS _ (lv_sub hl [1, 2, 3, 4, 5, 6, 0] rfl) hf
  have J46 : ∀ (k9 : Int32 → Int32 → Int32 → Int32 → Option (Int32)) (hk9 : ∀ (x1 : Int32) (x2 : Int32) (x3 : Int32) (x4 : Int32) (H : Heap) (locs : List Loc), va_P (dC, dI) vwCl (cf_6 cI cZ h6 h6a1 h6a2 h6a3 h6a4 h6a5 h6a7 h6a17 h6a18 s6) H → va_D A (cf_6 cI cZ h6 h6a1 h6a2 h6a3 h6a4 h6a5 h6a7 h6a17 h6a18 s6) → va_S A s.heap H locs → ∀ (ls : Array Slot), lv_has ls 8 [(0, .ref h6), (1, .int x1), (2, .int x2), (3, .int x3), (4, .int x4)] → k9 x1 x2 x3 x4 = some r → W p l e rmX6_wrongOrder s m ([.ref h6] : List Value).toArray below meth c H locs 0 0 QQ (F0 m 9 ls [])) (x1 : Int32) (x2 : Int32) (x3 : Int32) (x4 : Int32) (x5 : Int32) (H : Heap) (locs : List Loc), va_P (dC, dI) vwCl (cf_6 cI cZ h6 h6a1 h6a2 h6a3 h6a4 h6a5 h6a7 h6a17 h6a18 s6) H → va_D A (cf_6 cI cZ h6 h6a1 h6a2 h6a3 h6a4 h6a5 h6a7 h6a17 h6a18 s6) → va_S A s.heap H locs → ∀ (ls : Array Slot), lv_has ls 8 [(0, .ref h6), (1, .int x1), (2, .int x2), (3, .int x3), (4, .int x4), (5, .int x5)] → fX6_wrongOrder_46 s6 k9 x1 x2 x3 x4 x5 = some r → W p l e rmX6_wrongOrder s m ([.ref h6] : List Value).toArray below meth c H locs 0 0 QQ (F0 m 46 ls []) := by
    intro k9 hk9 x1 x2 x3 x4 x5 H locs hP hD hS ls hl hf
    unfold fX6_wrongOrder_46 at hf
    refine lv_bipush (v := 11) hx hb dX6_wrongOrder_46 (by decide) ?_
    refine lv_goto (tgt := 53) hx hb dX6_wrongOrder_48 (by decide) ?_
    exact J53 k9 hk9 x1 x2 x3 x4 x5 11 _ _ hP hD hS _ (lv_sub hl [0, 1, 2, 3, 4, 5] rfl) hf
  have J319 : ∀ (t0 : Int32) (H : Heap) (locs : List Loc), va_P (dC, dI) vwCl (cf_6 cI cZ h6 h6a1 h6a2 h6a3 h6a4 h6a5 h6a7 h6a17 h6a18 s6) H → va_D A (cf_6 cI cZ h6 h6a1 h6a2 h6a3 h6a4 h6a5 h6a7 h6a17 h6a18 s6) → va_S A s.heap H locs → ∀ (ls : Array Slot), lv_has ls 8 [] → fX6_wrongOrder_319 s6 t0 = some r → W p l e rmX6_wrongOrder s m ([.ref h6] : List Value).toArray below meth c H locs 0 0 QQ (F0 m 319 ls [.int t0]) := by
    intro  t0 H locs hP hD hS ls hl hf
    unfold fX6_wrongOrder_319 at hf
    have hf : (some t0 : Option (Int32)) = some r := hf
    have he := Option.some.inj hf
    have he0 : t0 = r := he
    exact hret _ _ _ _ _ _ he0 rfl dX6_wrongOrder_319 hP hD hS
  have J277 : ∀ (x1 : Int32) (t0 : Int32) (H : Heap) (locs : List Loc), va_P (dC, dI) vwCl (cf_6 cI cZ h6 h6a1 h6a2 h6a3 h6a4 h6a5 h6a7 h6a17 h6a18 s6) H → va_D A (cf_6 cI cZ h6 h6a1 h6a2 h6a3 h6a4 h6a5 h6a7 h6a17 h6a18 s6) → va_S A s.heap H locs → ∀ (ls : Array Slot), lv_has ls 8 [(0, .ref h6), (1, .int x1)] → fX6_wrongOrder_277 s6 x1 t0 = some r → W p l e rmX6_wrongOrder s m ([.ref h6] : List Value).toArray below meth c H locs 0 0 QQ (F0 m 277 ls [.int t0]) := by
    intro  x1 t0 H locs hP hD hS ls hl hf
    unfold fX6_wrongOrder_277 at hf
    refine lv_istore (lv' := [(4, .int t0), (0, .ref h6), (1, .int x1)]) hx hb dX6_wrongOrder_277 hl (by decide) rfl (fun ls hl => ?_)
    refine lv_aload_n hx hb dX6_wrongOrder_279 rfl (lv_at hl 1 rfl) ?_
    refine va_get (D := (dC, dI)) (ci := 6) (v := .ref h6a7) (C := RX6) (T := TX6) (N := 25) hx hb hts in6 hown hK hP 0 rfl rfl 7 (by decide) fl26 (fun _ h9 => h9) rfl dX6_wrongOrder_280 ?_
    refine lv_iconst (v := 0) hx hb dX6_wrongOrder_283 (by decide) ?_
    obtain ⟨hi_1, hf⟩ := ai_ok hf
    refine va_iald (n := 24) (f := (S6_words s6)) hx hb hK hP 6 0 rfl rfl hi_1 dX6_wrongOrder_284 ?_
    refine lv_iconst (v := 2) hx hb dX6_wrongOrder_285 (by decide) ?_
    refine lv_icmp_ne (tgt := 306) hx hb dX6_wrongOrder_286 (by decide) (fun c_2 => ?_) (fun c_2 => ?_)
    · have hf := it_f c_2 hf
      refine lv_iload hx hb dX6_wrongOrder_306 (lv_at hl 0 rfl) ?_
      refine lv_if_eq (tgt := 315) hx hb dX6_wrongOrder_308 (by decide) (fun c_3 => ?_) (fun c_3 => ?_)
      · have hf := it_t c_3 hf
        refine lv_aload_n hx hb dX6_wrongOrder_315 rfl (lv_at hl 1 rfl) ?_
        refine va_get (D := (dC, dI)) (ci := 6) (v := .int (S6_count s6)) (C := RX6) (T := TX6) (N := 25) hx hb hts in6 hown hK hP 0 rfl rfl 6 (by decide) fl95 (fun _ h9 => h9) rfl dX6_wrongOrder_316 ?_
        exact J319 (S6_count s6) _ _ hP hD hS _ (lv_sub hl [] rfl) hf
      · have hf := it_f c_3 hf
        refine lv_iconst (v := (-1)) hx hb dX6_wrongOrder_311 (by decide) ?_
        refine lv_goto (tgt := 319) hx hb dX6_wrongOrder_312 (by decide) ?_
        exact J319 (-1) _ _ hP hD hS _ (lv_sub hl [] rfl) hf
    · have hf := it_t c_2 hf
      refine lv_iload_n hx hb dX6_wrongOrder_289 rfl (lv_at hl 2 rfl) ?_
      refine lv_bipush (v := 12) hx hb dX6_wrongOrder_290 (by decide) ?_
      refine lv_icmp_ne (tgt := 299) hx hb dX6_wrongOrder_292 (by decide) (fun c_4 => ?_) (fun c_4 => ?_)
      · have hf := it_f c_4 hf
        refine lv_aload_n hx hb dX6_wrongOrder_299 rfl (lv_at hl 1 rfl) ?_
        refine va_get (D := (dC, dI)) (ci := 6) (v := .int (S6_count s6)) (C := RX6) (T := TX6) (N := 25) hx hb hts in6 hown hK hP 0 rfl rfl 6 (by decide) fl95 (fun _ h9 => h9) rfl dX6_wrongOrder_300 ?_
        refine lv_goto (tgt := 319) hx hb dX6_wrongOrder_303 (by decide) ?_
        exact J319 (S6_count s6) _ _ hP hD hS _ (lv_sub hl [] rfl) hf
      · have hf := it_t c_4 hf
        refine lv_iconst (v := (-1)) hx hb dX6_wrongOrder_295 (by decide) ?_
        refine lv_goto (tgt := 319) hx hb dX6_wrongOrder_296 (by decide) ?_
        exact J319 (-1) _ _ hP hD hS _ (lv_sub hl [] rfl) hf
  have J272 : ∀ (x1 : Int32) (H : Heap) (locs : List Loc), va_P (dC, dI) vwCl (cf_6 cI cZ h6 h6a1 h6a2 h6a3 h6a4 h6a5 h6a7 h6a17 h6a18 s6) H → va_D A (cf_6 cI cZ h6 h6a1 h6a2 h6a3 h6a4 h6a5 h6a7 h6a17 h6a18 s6) → va_S A s.heap H locs → ∀ (ls : Array Slot), lv_has ls 8 [(0, .ref h6), (1, .int x1)] → fX6_wrongOrder_272 s6 x1 = some r → W p l e rmX6_wrongOrder s m ([.ref h6] : List Value).toArray below meth c H locs 0 0 QQ (F0 m 272 ls []) := by
    intro  x1 H locs hP hD hS ls hl hf
    unfold fX6_wrongOrder_272 at hf
    refine lv_iconst (v := 1) hx hb dX6_wrongOrder_272 (by decide) ?_
    refine lv_goto (tgt := 277) hx hb dX6_wrongOrder_273 (by decide) ?_
    exact J277 x1 1 _ _ hP hD hS _ (lv_sub hl [0, 1] rfl) hf
  have J9 : ∀ (n : Nat) (x1 : Int32) (x2 : Int32) (x3 : Int32) (x4 : Int32) (H : Heap) (locs : List Loc), va_P (dC, dI) vwCl (cf_6 cI cZ h6 h6a1 h6a2 h6a3 h6a4 h6a5 h6a7 h6a17 h6a18 s6) H → va_D A (cf_6 cI cZ h6 h6a1 h6a2 h6a3 h6a4 h6a5 h6a7 h6a17 h6a18 s6) → va_S A s.heap H locs → ∀ (ls : Array Slot), lv_has ls 8 [(0, .ref h6), (1, .int x1), (2, .int x2), (3, .int x3), (4, .int x4)] → fX6_wrongOrder_9 s6 n x1 x2 x3 x4 = some r → W p l e rmX6_wrongOrder s m ([.ref h6] : List Value).toArray below meth c H locs 0 0 QQ (F0 m 9 ls []) := by
    intro n
    induction n with
    | zero =>
      intro x1 x2 x3 x4 H locs hP hD hS ls hl hf
      cases hf
    | succ n ih =>
      intro x1 x2 x3 x4 H locs hP hD hS ls hl hf
      rw [fX6_wrongOrder_9] at hf
      refine lv_iload hx hb dX6_wrongOrder_9 (lv_at hl 4 rfl) ?_
      refine lv_aload_n hx hb dX6_wrongOrder_11 rfl (lv_at hl 0 rfl) ?_
      refine va_get (D := (dC, dI)) (ci := 6) (v := .int (S6_count s6)) (C := RX6) (T := TX6) (N := 25) hx hb hts in6 hown hK hP 0 rfl rfl 6 (by decide) fl95 (fun _ h9 => h9) rfl dX6_wrongOrder_12 ?_
      refine lv_icmp_ge (tgt := 249) hx hb dX6_wrongOrder_15 (by decide) (fun c_1 => ?_) (fun c_1 => ?_)
      · have hf := it_t c_1 hf
        refine lv_iload_n hx hb dX6_wrongOrder_249 rfl (lv_at hl 1 rfl) ?_
        refine lv_iconst (v := 4) hx hb dX6_wrongOrder_250 (by decide) ?_
        refine lv_icmp_eq (tgt := 272) hx hb dX6_wrongOrder_251 (by decide) (fun c_2 => ?_) (fun c_2 => ?_)
        · have hf := it_t c_2 hf
          exact J272 x1 _ _ hP hD hS _ (lv_sub hl [0, 1] rfl) hf
        · have hf := it_f c_2 hf
          refine lv_iload_n hx hb dX6_wrongOrder_254 rfl (lv_at hl 1 rfl) ?_
          refine lv_bipush (v := 6) hx hb dX6_wrongOrder_255 (by decide) ?_
          refine lv_icmp_eq (tgt := 272) hx hb dX6_wrongOrder_257 (by decide) (fun c_3 => ?_) (fun c_3 => ?_)
          · have hf := it_t c_3 hf
            exact J272 x1 _ _ hP hD hS _ (lv_sub hl [0, 1] rfl) hf
          · have hf := it_f c_3 hf
            refine lv_iload_n hx hb dX6_wrongOrder_260 rfl (lv_at hl 1 rfl) ?_
            refine lv_bipush (v := 7) hx hb dX6_wrongOrder_261 (by decide) ?_
            refine lv_icmp_eq (tgt := 272) hx hb dX6_wrongOrder_263 (by decide) (fun c_4 => ?_) (fun c_4 => ?_)
            · have hf := it_t c_4 hf
              exact J272 x1 _ _ hP hD hS _ (lv_sub hl [0, 1] rfl) hf
            · have hf := it_f c_4 hf
              refine lv_iload_n hx hb dX6_wrongOrder_266 rfl (lv_at hl 1 rfl) ?_
              refine lv_bipush (v := 11) hx hb dX6_wrongOrder_267 (by decide) ?_
              refine lv_icmp_ne (tgt := 276) hx hb dX6_wrongOrder_269 (by decide) (fun c_5 => ?_) (fun c_5 => ?_)
              · have hf := it_f c_5 hf
                refine lv_iconst (v := 0) hx hb dX6_wrongOrder_276 (by decide) ?_
                exact J277 x1 0 _ _ hP hD hS _ (lv_sub hl [0, 1] rfl) hf
              · have hf := it_t c_5 hf
                exact J272 x1 _ _ hP hD hS _ (lv_sub hl [0, 1] rfl) hf
      · have hf := it_f c_1 hf
        refine lv_aload_n hx hb dX6_wrongOrder_18 rfl (lv_at hl 0 rfl) ?_
        refine va_get (D := (dC, dI)) (ci := 6) (v := .ref h6a7) (C := RX6) (T := TX6) (N := 25) hx hb hts in6 hown hK hP 0 rfl rfl 7 (by decide) fl26 (fun _ h9 => h9) rfl dX6_wrongOrder_19 ?_
        refine lv_iload hx hb dX6_wrongOrder_22 (lv_at hl 4 rfl) ?_
        obtain ⟨hi_6, hf⟩ := ai_ok hf
        refine va_iald (n := 24) (f := (S6_words s6)) hx hb hK hP 6 0 rfl rfl hi_6 dX6_wrongOrder_24 ?_
        refine lv_istore (lv' := [(5, .int ((S6_words s6) x4.toNatClampNeg)), (0, .ref h6), (1, .int x1), (2, .int x2), (3, .int x3), (4, .int x4)]) hx hb dX6_wrongOrder_25 hl (by decide) rfl (fun ls hl => ?_)
        refine lv_iload_n hx hb dX6_wrongOrder_27 rfl (lv_at hl 4 rfl) ?_
        refine lv_if_eq (tgt := 36) hx hb dX6_wrongOrder_28 (by decide) (fun c_7 => ?_) (fun c_7 => ?_)
        · have hf := it_t c_7 hf
          refine lv_iload_n hx hb dX6_wrongOrder_36 rfl (lv_at hl 2 rfl) ?_
          refine lv_bipush (v := 8) hx hb dX6_wrongOrder_37 (by decide) ?_
          refine lv_icmp_ge (tgt := 46) hx hb dX6_wrongOrder_39 (by decide) (fun c_8 => ?_) (fun c_8 => ?_)
          · have hf := it_t c_8 hf
            exact J46 (fun x1 x2 x3 x4 => fX6_wrongOrder_9 s6 n x1 x2 x3 x4) (fun x1 x2 x3 x4 H locs hP hD hS ls hl hf => ih x1 x2 x3 x4 H locs hP hD hS ls hl hf) x1 x2 x3 x4 ((S6_words s6) x4.toNatClampNeg) _ _ hP hD hS _ (lv_sub hl [1, 2, 3, 4, 5, 0] rfl) hf
          · have hf := it_f c_8 hf
            refine lv_iload_n hx hb dX6_wrongOrder_42 rfl (lv_at hl 3 rfl) ?_
            refine lv_if_eq (tgt := 51) hx hb dX6_wrongOrder_43 (by decide) (fun c_9 => ?_) (fun c_9 => ?_)
            · have hf := it_t c_9 hf
              refine lv_bipush (v := 7) hx hb dX6_wrongOrder_51 (by decide) ?_
              exact J53 (fun x1 x2 x3 x4 => fX6_wrongOrder_9 s6 n x1 x2 x3 x4) (fun x1 x2 x3 x4 H locs hP hD hS ls hl hf => ih x1 x2 x3 x4 H locs hP hD hS ls hl hf) x1 x2 x3 x4 ((S6_words s6) x4.toNatClampNeg) 7 _ _ hP hD hS _ (lv_sub hl [1, 2, 3, 4, 5, 0] rfl) hf
            · have hf := it_f c_9 hf
              exact J46 (fun x1 x2 x3 x4 => fX6_wrongOrder_9 s6 n x1 x2 x3 x4) (fun x1 x2 x3 x4 H locs hP hD hS ls hl hf => ih x1 x2 x3 x4 H locs hP hD hS ls hl hf) x1 x2 x3 x4 ((S6_words s6) x4.toNatClampNeg) _ _ hP hD hS _ (lv_sub hl [1, 2, 3, 4, 5, 0] rfl) hf
        · have hf := it_f c_7 hf
          refine lv_bipush (v := 12) hx hb dX6_wrongOrder_31 (by decide) ?_
          refine lv_goto (tgt := 53) hx hb dX6_wrongOrder_33 (by decide) ?_
          exact J53 (fun x1 x2 x3 x4 => fX6_wrongOrder_9 s6 n x1 x2 x3 x4) (fun x1 x2 x3 x4 H locs hP hD hS ls hl hf => ih x1 x2 x3 x4 H locs hP hD hS ls hl hf) x1 x2 x3 x4 ((S6_words s6) x4.toNatClampNeg) 12 _ _ hP hD hS _ (lv_sub hl [1, 2, 3, 4, 5, 0] rfl) hf
  unfold fX6_wrongOrder at hf
  refine lv_iconst (v := 1) hx hb dX6_wrongOrder_0 (by decide) ?_
  refine lv_istore_n (lv' := [(1, .int 1), (0, .ref h6)]) hx hb dX6_wrongOrder_1 rfl hl (by decide) rfl (fun ls hl => ?_)
  refine lv_iconst (v := 0) hx hb dX6_wrongOrder_2 (by decide) ?_
  refine lv_istore_n (lv' := [(2, .int 0), (1, .int 1), (0, .ref h6)]) hx hb dX6_wrongOrder_3 rfl hl (by decide) rfl (fun ls hl => ?_)
  refine lv_iconst (v := 0) hx hb dX6_wrongOrder_4 (by decide) ?_
  refine lv_istore_n (lv' := [(3, .int 0), (2, .int 0), (1, .int 1), (0, .ref h6)]) hx hb dX6_wrongOrder_5 rfl hl (by decide) rfl (fun ls hl => ?_)
  refine lv_iconst (v := 1) hx hb dX6_wrongOrder_6 (by decide) ?_
  refine lv_istore (lv' := [(4, .int 1), (3, .int 0), (2, .int 0), (1, .int 1), (0, .ref h6)]) hx hb dX6_wrongOrder_7 hl (by decide) rfl (fun ls hl => ?_)
  exact J9 64 1 0 0 1 _ _ hP hD hS _ (lv_sub hl [4, 3, 2, 1, 0] rfl) hf
abbrev rmX6_wrongAnswer : Room := { frames := 1, cells := 0, slots := 0, locals := 20 }
set_option maxHeartbeats 2000000 in
set_option maxRecDepth 100000 in
theorem ktX6_wrongAnswer (l : Launch) (dC : Nat → ClassId) (dI : Nat → Nat → Nat) (cI cZ : ClassId) (h6 h6a1 h6a2 h6a3 h6a4 h6a5 h6a7 h6a17 h6a18 : Nat) (sz : Nat) (s6 : S6) (r : Int32) (hf : fX6_wrongAnswer s6 = some r) : Met l yX6_wrongAnswer wsX6_wrongAnswer rmX6_wrongAnswer (va_Pc [.ref h6] (pre_w (dC, dI) (cf_6 cI cZ h6 h6a1 h6a2 h6a3 h6a4 h6a5 h6a7 h6a17 h6a18 s6) [(cI, .int), (cZ, .boolean)] sz)) (va_Qi (fun (r' : Int32) (_ : Unit) => r' = r) (post_w (dC, dI) (cf_6 cI cZ h6 h6a1 h6a2 h6a3 h6a4 h6a5 h6a7 h6a17 h6a18 s6) [(cI, .int), (cZ, .boolean)] (va_A (cf_6 cI cZ h6 h6a1 h6a2 h6a3 h6a4 h6a5 h6a7 h6a17 h6a18 s6) sz)) (va_A (cf_6 cI cZ h6 h6a1 h6a2 h6a3 h6a4 h6a5 h6a7 h6a17 h6a18 s6) sz)) 0 0 (va_A (cf_6 cI cZ h6 h6a1 h6a2 h6a3 h6a4 h6a5 h6a7 h6a17 h6a18 s6) sz) := by
  refine gm_i (cc := cX6_wrongAnswer) (maxL := 6) (by decide) rfl (Nat.le_of_ble_eq_true rfl) ?_
  intro p e s m below meth c A QQ ls hx hb hml hown hts hK hN hA hP hD hS hl hret
  have hown : s.vm.findClass RX6 = some m.cls := hown
  have hl : lv_has ls 6 [(0, .ref h6)] := hl
  have in6 : ∀ w ∈ u_ws RX6 TX6 25, w ∈ wsX6_wrongAnswer := by decide +kernel
  have fl95 := hts (.fieldLink RX6 95 "ParserParlourModel" "count" "I") (by decide +kernel)
  have fl26 := hts (.fieldLink RX6 26 "ParserParlourModel" "words" "[I") (by decide +kernel)
  have J111 : ∀ (k6 : Int32 → Int32 → Int32 → Option (Int32)) (hk6 : ∀ (x1 : Int32) (x2 : Int32) (x3 : Int32) (H : Heap) (locs : List Loc), va_P (dC, dI) vwCl (cf_6 cI cZ h6 h6a1 h6a2 h6a3 h6a4 h6a5 h6a7 h6a17 h6a18 s6) H → va_D A (cf_6 cI cZ h6 h6a1 h6a2 h6a3 h6a4 h6a5 h6a7 h6a17 h6a18 s6) → va_S A s.heap H locs → ∀ (ls : Array Slot), lv_has ls 6 [(0, .ref h6), (1, .int x1), (2, .int x2), (3, .int x3)] → k6 x1 x2 x3 = some r → W p l e rmX6_wrongAnswer s m ([.ref h6] : List Value).toArray below meth c H locs 0 0 QQ (F0 m 6 ls [])) (x1 : Int32) (x3 : Int32) (t0 : Int32) (H : Heap) (locs : List Loc), va_P (dC, dI) vwCl (cf_6 cI cZ h6 h6a1 h6a2 h6a3 h6a4 h6a5 h6a7 h6a17 h6a18 s6) H → va_D A (cf_6 cI cZ h6 h6a1 h6a2 h6a3 h6a4 h6a5 h6a7 h6a17 h6a18 s6) → va_S A s.heap H locs → ∀ (ls : Array Slot), lv_has ls 6 [(0, .ref h6), (1, .int x1), (3, .int x3)] → fX6_wrongAnswer_111 s6 k6 x1 x3 t0 = some r → W p l e rmX6_wrongAnswer s m ([.ref h6] : List Value).toArray below meth c H locs 0 0 QQ (F0 m 111 ls [.int t0]) := by
    intro k6 hk6 x1 x3 t0 H locs hP hD hS ls hl hf
    unfold fX6_wrongAnswer_111 at hf
    refine lv_istore_n (lv' := [(2, .int t0), (0, .ref h6), (1, .int x1), (3, .int x3)]) hx hb dX6_wrongAnswer_111 rfl hl (by decide) rfl (fun ls hl => ?_)
    refine lv_iinc (v := (x3 + 1)) (lv' := [(3, .int (x3 + 1)), (2, .int t0), (0, .ref h6), (1, .int x1)]) hx hb dX6_wrongAnswer_112 hl (k := 3) rfl rfl (by decide) rfl (fun ls hl => ?_)
    refine lv_goto (tgt := 6) hx hb dX6_wrongAnswer_115 (by decide) ?_
    exact hk6 x1 t0 (x3 + 1) _ _ hP hD hS _ (lv_sub hl [2, 3, 1, 0] rfl) hf
  have J106 : ∀ (k6 : Int32 → Int32 → Int32 → Option (Int32)) (hk6 : ∀ (x1 : Int32) (x2 : Int32) (x3 : Int32) (H : Heap) (locs : List Loc), va_P (dC, dI) vwCl (cf_6 cI cZ h6 h6a1 h6a2 h6a3 h6a4 h6a5 h6a7 h6a17 h6a18 s6) H → va_D A (cf_6 cI cZ h6 h6a1 h6a2 h6a3 h6a4 h6a5 h6a7 h6a17 h6a18 s6) → va_S A s.heap H locs → ∀ (ls : Array Slot), lv_has ls 6 [(0, .ref h6), (1, .int x1), (2, .int x2), (3, .int x3)] → k6 x1 x2 x3 = some r → W p l e rmX6_wrongAnswer s m ([.ref h6] : List Value).toArray below meth c H locs 0 0 QQ (F0 m 6 ls [])) (x1 : Int32) (x3 : Int32) (H : Heap) (locs : List Loc), va_P (dC, dI) vwCl (cf_6 cI cZ h6 h6a1 h6a2 h6a3 h6a4 h6a5 h6a7 h6a17 h6a18 s6) H → va_D A (cf_6 cI cZ h6 h6a1 h6a2 h6a3 h6a4 h6a5 h6a7 h6a17 h6a18 s6) → va_S A s.heap H locs → ∀ (ls : Array Slot), lv_has ls 6 [(0, .ref h6), (1, .int x1), (3, .int x3)] → fX6_wrongAnswer_106 s6 k6 x1 x3 = some r → W p l e rmX6_wrongAnswer s m ([.ref h6] : List Value).toArray below meth c H locs 0 0 QQ (F0 m 106 ls []) := by
    intro k6 hk6 x1 x3 H locs hP hD hS ls hl hf
    unfold fX6_wrongAnswer_106 at hf
    refine lv_iconst (v := 1) hx hb dX6_wrongAnswer_106 (by decide) ?_
    refine lv_goto (tgt := 111) hx hb dX6_wrongAnswer_107 (by decide) ?_
    exact J111 k6 hk6 x1 x3 1 _ _ hP hD hS _ (lv_sub hl [0, 1, 2] rfl) hf
  have J90 : ∀ (k6 : Int32 → Int32 → Int32 → Option (Int32)) (hk6 : ∀ (x1 : Int32) (x2 : Int32) (x3 : Int32) (H : Heap) (locs : List Loc), va_P (dC, dI) vwCl (cf_6 cI cZ h6 h6a1 h6a2 h6a3 h6a4 h6a5 h6a7 h6a17 h6a18 s6) H → va_D A (cf_6 cI cZ h6 h6a1 h6a2 h6a3 h6a4 h6a5 h6a7 h6a17 h6a18 s6) → va_S A s.heap H locs → ∀ (ls : Array Slot), lv_has ls 6 [(0, .ref h6), (1, .int x1), (2, .int x2), (3, .int x3)] → k6 x1 x2 x3 = some r → W p l e rmX6_wrongAnswer s m ([.ref h6] : List Value).toArray below meth c H locs 0 0 QQ (F0 m 6 ls [])) (x3 : Int32) (x4 : Int32) (t0 : Int32) (H : Heap) (locs : List Loc), va_P (dC, dI) vwCl (cf_6 cI cZ h6 h6a1 h6a2 h6a3 h6a4 h6a5 h6a7 h6a17 h6a18 s6) H → va_D A (cf_6 cI cZ h6 h6a1 h6a2 h6a3 h6a4 h6a5 h6a7 h6a17 h6a18 s6) → va_S A s.heap H locs → ∀ (ls : Array Slot), lv_has ls 6 [(0, .ref h6), (3, .int x3), (4, .int x4)] → fX6_wrongAnswer_90 s6 k6 x3 x4 t0 = some r → W p l e rmX6_wrongAnswer s m ([.ref h6] : List Value).toArray below meth c H locs 0 0 QQ (F0 m 90 ls [.int t0]) := by
    intro k6 hk6 x3 x4 t0 H locs hP hD hS ls hl hf
    unfold fX6_wrongAnswer_90 at hf
    refine lv_istore_n (lv' := [(1, .int t0), (0, .ref h6), (3, .int x3), (4, .int x4)]) hx hb dX6_wrongAnswer_90 rfl hl (by decide) rfl (fun ls hl => ?_)
    refine lv_iload hx hb dX6_wrongAnswer_91 (lv_at hl 3 rfl) ?_
    obtain ⟨r_1, hc_1, hf⟩ := bn1_ok hf
    refine gc_i (wc := ([] : va_W)) (wr := (cf_6 cI cZ h6 h6a1 h6a2 h6a3 h6a4 h6a5 h6a7 h6a17 h6a18 s6)) (w1 := ([] : va_W)) (ws' := (cf_6 cI cZ h6 h6a1 h6a2 h6a3 h6a4 h6a5 h6a7 h6a17 h6a18 s6)) hP hD hS hA [] [0, 1, 2, 3, 4, 5, 6, 7, 8] [0, 1, 2, 3, 4, 5, 6, 7, 8] rfl rfl (by decide) (by decide) rfl (by decide) (va_runS (As := [.int x4]) (rest := []) ⟨hx, hb, hml, hown, hts⟩ (ktX6_isNoun l dC dI _ x4 r_1 hc_1) (va_cwS 1 hts gX6_wrongAnswer_X6_isNoun rfl rfl rfl (by decide +kernel) ⟨Nat.le_of_ble_eq_true rfl, Nat.le_of_ble_eq_true rfl⟩) (gc_S (hP.sub (ws' := ([] : va_W)) [] rfl) (hK.sub (tys' := []) [] rfl) (hD.sub (ws' := ([] : va_W)) [] (by decide) rfl) hN) rfl rfl hl.1 rfl (lv_room (Nat.le_of_ble_eq_true rfl)) dX6_wrongAnswer_93 ⟨Nat.zero_le _, Nat.zero_le _⟩) (fun H locs hP hD hS => ?_)
    refine lv_if_ne (tgt := 106) hx hb dX6_wrongAnswer_96 (by decide) (fun c_2 => ?_) (fun c_2 => ?_)
    · have hf := it_f c_2 hf
      exact J106 k6 hk6 t0 x3 _ _ hP hD hS _ (lv_sub hl [1, 0, 2] rfl) hf
    · have hf := it_t c_2 hf
      refine lv_iload hx hb dX6_wrongAnswer_99 (lv_at hl 3 rfl) ?_
      refine lv_bipush (v := 17) hx hb dX6_wrongAnswer_101 (by decide) ?_
      refine lv_icmp_ne (tgt := 110) hx hb dX6_wrongAnswer_103 (by decide) (fun c_3 => ?_) (fun c_3 => ?_)
      · have hf := it_f c_3 hf
        refine lv_iconst (v := 0) hx hb dX6_wrongAnswer_110 (by decide) ?_
        exact J111 k6 hk6 t0 x3 0 _ _ hP hD hS _ (lv_sub hl [1, 0, 2] rfl) hf
      · have hf := it_t c_3 hf
        exact J106 k6 hk6 t0 x3 _ _ hP hD hS _ (lv_sub hl [1, 0, 2] rfl) hf
  have J85 : ∀ (k6 : Int32 → Int32 → Int32 → Option (Int32)) (hk6 : ∀ (x1 : Int32) (x2 : Int32) (x3 : Int32) (H : Heap) (locs : List Loc), va_P (dC, dI) vwCl (cf_6 cI cZ h6 h6a1 h6a2 h6a3 h6a4 h6a5 h6a7 h6a17 h6a18 s6) H → va_D A (cf_6 cI cZ h6 h6a1 h6a2 h6a3 h6a4 h6a5 h6a7 h6a17 h6a18 s6) → va_S A s.heap H locs → ∀ (ls : Array Slot), lv_has ls 6 [(0, .ref h6), (1, .int x1), (2, .int x2), (3, .int x3)] → k6 x1 x2 x3 = some r → W p l e rmX6_wrongAnswer s m ([.ref h6] : List Value).toArray below meth c H locs 0 0 QQ (F0 m 6 ls [])) (x3 : Int32) (x4 : Int32) (H : Heap) (locs : List Loc), va_P (dC, dI) vwCl (cf_6 cI cZ h6 h6a1 h6a2 h6a3 h6a4 h6a5 h6a7 h6a17 h6a18 s6) H → va_D A (cf_6 cI cZ h6 h6a1 h6a2 h6a3 h6a4 h6a5 h6a7 h6a17 h6a18 s6) → va_S A s.heap H locs → ∀ (ls : Array Slot), lv_has ls 6 [(0, .ref h6), (3, .int x3), (4, .int x4)] → fX6_wrongAnswer_85 s6 k6 x3 x4 = some r → W p l e rmX6_wrongAnswer s m ([.ref h6] : List Value).toArray below meth c H locs 0 0 QQ (F0 m 85 ls []) := by
    intro k6 hk6 x3 x4 H locs hP hD hS ls hl hf
    unfold fX6_wrongAnswer_85 at hf
    refine lv_iconst (v := 1) hx hb dX6_wrongAnswer_85 (by decide) ?_
    refine lv_goto (tgt := 90) hx hb dX6_wrongAnswer_86 (by decide) ?_
    exact J90 k6 hk6 x3 x4 1 _ _ hP hD hS _ (lv_sub hl [0, 1, 2] rfl) hf
  have J65 : ∀ (k6 : Int32 → Int32 → Int32 → Option (Int32)) (hk6 : ∀ (x1 : Int32) (x2 : Int32) (x3 : Int32) (H : Heap) (locs : List Loc), va_P (dC, dI) vwCl (cf_6 cI cZ h6 h6a1 h6a2 h6a3 h6a4 h6a5 h6a7 h6a17 h6a18 s6) H → va_D A (cf_6 cI cZ h6 h6a1 h6a2 h6a3 h6a4 h6a5 h6a7 h6a17 h6a18 s6) → va_S A s.heap H locs → ∀ (ls : Array Slot), lv_has ls 6 [(0, .ref h6), (1, .int x1), (2, .int x2), (3, .int x3)] → k6 x1 x2 x3 = some r → W p l e rmX6_wrongAnswer s m ([.ref h6] : List Value).toArray below meth c H locs 0 0 QQ (F0 m 6 ls [])) (x1 : Int32) (x3 : Int32) (x4 : Int32) (t0 : Int32) (H : Heap) (locs : List Loc), va_P (dC, dI) vwCl (cf_6 cI cZ h6 h6a1 h6a2 h6a3 h6a4 h6a5 h6a7 h6a17 h6a18 s6) H → va_D A (cf_6 cI cZ h6 h6a1 h6a2 h6a3 h6a4 h6a5 h6a7 h6a17 h6a18 s6) → va_S A s.heap H locs → ∀ (ls : Array Slot), lv_has ls 6 [(0, .ref h6), (1, .int x1), (3, .int x3), (4, .int x4)] → fX6_wrongAnswer_65 s6 k6 x1 x3 x4 t0 = some r → W p l e rmX6_wrongAnswer s m ([.ref h6] : List Value).toArray below meth c H locs 0 0 QQ (F0 m 65 ls [.int t0]) := by
    intro k6 hk6 x1 x3 x4 t0 H locs hP hD hS ls hl hf
    unfold fX6_wrongAnswer_65 at hf
    refine lv_istore (lv' := [(5, .int t0), (0, .ref h6), (1, .int x1), (3, .int x3), (4, .int x4)]) hx hb dX6_wrongAnswer_65 hl (by decide) rfl (fun ls hl => ?_)
    refine lv_iload hx hb dX6_wrongAnswer_67 (lv_at hl 0 rfl) ?_
    refine lv_if_ne (tgt := 74) hx hb dX6_wrongAnswer_69 (by decide) (fun c_1 => ?_) (fun c_1 => ?_)
    · have hf := it_f c_1 hf
      refine lv_iload_n hx hb dX6_wrongAnswer_74 rfl (lv_at hl 2 rfl) ?_
      refine lv_if_ne (tgt := 85) hx hb dX6_wrongAnswer_75 (by decide) (fun c_2 => ?_) (fun c_2 => ?_)
      · have hf := it_f c_2 hf
        exact J85 k6 hk6 x3 x4 _ _ hP hD hS _ (lv_sub hl [1, 3, 4] rfl) hf
      · have hf := it_t c_2 hf
        refine lv_iload hx hb dX6_wrongAnswer_78 (lv_at hl 4 rfl) ?_
        refine lv_bipush (v := 10) hx hb dX6_wrongAnswer_80 (by decide) ?_
        refine lv_icmp_eq (tgt := 89) hx hb dX6_wrongAnswer_82 (by decide) (fun c_3 => ?_) (fun c_3 => ?_)
        · have hf := it_t c_3 hf
          refine lv_iconst (v := 0) hx hb dX6_wrongAnswer_89 (by decide) ?_
          exact J90 k6 hk6 x3 x4 0 _ _ hP hD hS _ (lv_sub hl [1, 3, 4] rfl) hf
        · have hf := it_f c_3 hf
          exact J85 k6 hk6 x3 x4 _ _ hP hD hS _ (lv_sub hl [1, 3, 4] rfl) hf
    · have hf := it_t c_1 hf
      refine lv_iload_n hx hb dX6_wrongAnswer_72 rfl (lv_at hl 3 rfl) ?_
      have hf : (some x3 : Option (Int32)) = some r := hf
      have he := Option.some.inj hf
      have he0 : x3 = r := he
      exact hret _ _ _ _ _ _ he0 rfl dX6_wrongAnswer_73 hP hD hS
  have J64 : ∀ (k6 : Int32 → Int32 → Int32 → Option (Int32)) (hk6 : ∀ (x1 : Int32) (x2 : Int32) (x3 : Int32) (H : Heap) (locs : List Loc), va_P (dC, dI) vwCl (cf_6 cI cZ h6 h6a1 h6a2 h6a3 h6a4 h6a5 h6a7 h6a17 h6a18 s6) H → va_D A (cf_6 cI cZ h6 h6a1 h6a2 h6a3 h6a4 h6a5 h6a7 h6a17 h6a18 s6) → va_S A s.heap H locs → ∀ (ls : Array Slot), lv_has ls 6 [(0, .ref h6), (1, .int x1), (2, .int x2), (3, .int x3)] → k6 x1 x2 x3 = some r → W p l e rmX6_wrongAnswer s m ([.ref h6] : List Value).toArray below meth c H locs 0 0 QQ (F0 m 6 ls [])) (x1 : Int32) (x3 : Int32) (x4 : Int32) (H : Heap) (locs : List Loc), va_P (dC, dI) vwCl (cf_6 cI cZ h6 h6a1 h6a2 h6a3 h6a4 h6a5 h6a7 h6a17 h6a18 s6) H → va_D A (cf_6 cI cZ h6 h6a1 h6a2 h6a3 h6a4 h6a5 h6a7 h6a17 h6a18 s6) → va_S A s.heap H locs → ∀ (ls : Array Slot), lv_has ls 6 [(0, .ref h6), (1, .int x1), (3, .int x3), (4, .int x4)] → fX6_wrongAnswer_64 s6 k6 x1 x3 x4 = some r → W p l e rmX6_wrongAnswer s m ([.ref h6] : List Value).toArray below meth c H locs 0 0 QQ (F0 m 64 ls []) := by
    intro k6 hk6 x1 x3 x4 H locs hP hD hS ls hl hf
    unfold fX6_wrongAnswer_64 at hf
    refine lv_iconst (v := 0) hx hb dX6_wrongAnswer_64 (by decide) ?_
    exact J65 k6 hk6 x1 x3 x4 0 _ _ hP hD hS _ (lv_sub hl [0, 1, 2, 3] rfl) hf
  have J60 : ∀ (k6 : Int32 → Int32 → Int32 → Option (Int32)) (hk6 : ∀ (x1 : Int32) (x2 : Int32) (x3 : Int32) (H : Heap) (locs : List Loc), va_P (dC, dI) vwCl (cf_6 cI cZ h6 h6a1 h6a2 h6a3 h6a4 h6a5 h6a7 h6a17 h6a18 s6) H → va_D A (cf_6 cI cZ h6 h6a1 h6a2 h6a3 h6a4 h6a5 h6a7 h6a17 h6a18 s6) → va_S A s.heap H locs → ∀ (ls : Array Slot), lv_has ls 6 [(0, .ref h6), (1, .int x1), (2, .int x2), (3, .int x3)] → k6 x1 x2 x3 = some r → W p l e rmX6_wrongAnswer s m ([.ref h6] : List Value).toArray below meth c H locs 0 0 QQ (F0 m 6 ls [])) (x1 : Int32) (x3 : Int32) (x4 : Int32) (H : Heap) (locs : List Loc), va_P (dC, dI) vwCl (cf_6 cI cZ h6 h6a1 h6a2 h6a3 h6a4 h6a5 h6a7 h6a17 h6a18 s6) H → va_D A (cf_6 cI cZ h6 h6a1 h6a2 h6a3 h6a4 h6a5 h6a7 h6a17 h6a18 s6) → va_S A s.heap H locs → ∀ (ls : Array Slot), lv_has ls 6 [(0, .ref h6), (1, .int x1), (3, .int x3), (4, .int x4)] → fX6_wrongAnswer_60 s6 k6 x1 x3 x4 = some r → W p l e rmX6_wrongAnswer s m ([.ref h6] : List Value).toArray below meth c H locs 0 0 QQ (F0 m 60 ls []) := by
    intro k6 hk6 x1 x3 x4 H locs hP hD hS ls hl hf
    unfold fX6_wrongAnswer_60 at hf
    refine lv_iconst (v := 1) hx hb dX6_wrongAnswer_60 (by decide) ?_
    refine lv_goto (tgt := 65) hx hb dX6_wrongAnswer_61 (by decide) ?_
    exact J65 k6 hk6 x1 x3 x4 1 _ _ hP hD hS _ (lv_sub hl [0, 1, 2, 3] rfl) hf
  have J37 : ∀ (k6 : Int32 → Int32 → Int32 → Option (Int32)) (hk6 : ∀ (x1 : Int32) (x2 : Int32) (x3 : Int32) (H : Heap) (locs : List Loc), va_P (dC, dI) vwCl (cf_6 cI cZ h6 h6a1 h6a2 h6a3 h6a4 h6a5 h6a7 h6a17 h6a18 s6) H → va_D A (cf_6 cI cZ h6 h6a1 h6a2 h6a3 h6a4 h6a5 h6a7 h6a17 h6a18 s6) → va_S A s.heap H locs → ∀ (ls : Array Slot), lv_has ls 6 [(0, .ref h6), (1, .int x1), (2, .int x2), (3, .int x3)] → k6 x1 x2 x3 = some r → W p l e rmX6_wrongAnswer s m ([.ref h6] : List Value).toArray below meth c H locs 0 0 QQ (F0 m 6 ls [])) (x1 : Int32) (x3 : Int32) (x4 : Int32) (H : Heap) (locs : List Loc), va_P (dC, dI) vwCl (cf_6 cI cZ h6 h6a1 h6a2 h6a3 h6a4 h6a5 h6a7 h6a17 h6a18 s6) H → va_D A (cf_6 cI cZ h6 h6a1 h6a2 h6a3 h6a4 h6a5 h6a7 h6a17 h6a18 s6) → va_S A s.heap H locs → ∀ (ls : Array Slot), lv_has ls 6 [(0, .ref h6), (1, .int x1), (3, .int x3), (4, .int x4)] → fX6_wrongAnswer_37 s6 k6 x1 x3 x4 = some r → W p l e rmX6_wrongAnswer s m ([.ref h6] : List Value).toArray below meth c H locs 0 0 QQ (F0 m 37 ls []) := by
    intro k6 hk6 x1 x3 x4 H locs hP hD hS ls hl hf
    unfold fX6_wrongAnswer_37 at hf
    refine lv_iload hx hb dX6_wrongAnswer_37 (lv_at hl 3 rfl) ?_
    obtain ⟨r_1, hc_1, hf⟩ := bn1_ok hf
    refine gc_i (wc := ([] : va_W)) (wr := (cf_6 cI cZ h6 h6a1 h6a2 h6a3 h6a4 h6a5 h6a7 h6a17 h6a18 s6)) (w1 := ([] : va_W)) (ws' := (cf_6 cI cZ h6 h6a1 h6a2 h6a3 h6a4 h6a5 h6a7 h6a17 h6a18 s6)) hP hD hS hA [] [0, 1, 2, 3, 4, 5, 6, 7, 8] [0, 1, 2, 3, 4, 5, 6, 7, 8] rfl rfl (by decide) (by decide) rfl (by decide) (va_runS (As := [.int x4]) (rest := []) ⟨hx, hb, hml, hown, hts⟩ (ktX6_isAdjective l dC dI _ x4 r_1 hc_1) (va_cwS 1 hts gX6_wrongAnswer_X6_isAdjective rfl rfl rfl (by decide +kernel) ⟨Nat.le_of_ble_eq_true rfl, Nat.le_of_ble_eq_true rfl⟩) (gc_S (hP.sub (ws' := ([] : va_W)) [] rfl) (hK.sub (tys' := []) [] rfl) (hD.sub (ws' := ([] : va_W)) [] (by decide) rfl) hN) rfl rfl hl.1 rfl (lv_room (Nat.le_of_ble_eq_true rfl)) dX6_wrongAnswer_39 ⟨Nat.zero_le _, Nat.zero_le _⟩) (fun H locs hP hD hS => ?_)
    refine lv_if_ne (tgt := 60) hx hb dX6_wrongAnswer_42 (by decide) (fun c_2 => ?_) (fun c_2 => ?_)
    · have hf := it_f c_2 hf
      exact J60 k6 hk6 x1 x3 x4 _ _ hP hD hS _ (lv_sub hl [0, 1, 2, 3] rfl) hf
    · have hf := it_t c_2 hf
      refine lv_iload hx hb dX6_wrongAnswer_45 (lv_at hl 3 rfl) ?_
      obtain ⟨r_3, hc_3, hf⟩ := bn1_ok hf
      refine gc_i (wc := ([] : va_W)) (wr := (cf_6 cI cZ h6 h6a1 h6a2 h6a3 h6a4 h6a5 h6a7 h6a17 h6a18 s6)) (w1 := ([] : va_W)) (ws' := (cf_6 cI cZ h6 h6a1 h6a2 h6a3 h6a4 h6a5 h6a7 h6a17 h6a18 s6)) hP hD hS hA [] [0, 1, 2, 3, 4, 5, 6, 7, 8] [0, 1, 2, 3, 4, 5, 6, 7, 8] rfl rfl (by decide) (by decide) rfl (by decide) (va_runS (As := [.int x4]) (rest := []) ⟨hx, hb, hml, hown, hts⟩ (ktX6_isNoun l dC dI _ x4 r_3 hc_3) (va_cwS 1 hts gX6_wrongAnswer_X6_isNoun rfl rfl rfl (by decide +kernel) ⟨Nat.le_of_ble_eq_true rfl, Nat.le_of_ble_eq_true rfl⟩) (gc_S (hP.sub (ws' := ([] : va_W)) [] rfl) (hK.sub (tys' := []) [] rfl) (hD.sub (ws' := ([] : va_W)) [] (by decide) rfl) hN) rfl rfl hl.1 rfl (lv_room (Nat.le_of_ble_eq_true rfl)) dX6_wrongAnswer_47 ⟨Nat.zero_le _, Nat.zero_le _⟩) (fun H locs hP hD hS => ?_)
      refine lv_if_ne (tgt := 60) hx hb dX6_wrongAnswer_50 (by decide) (fun c_4 => ?_) (fun c_4 => ?_)
      · have hf := it_f c_4 hf
        exact J60 k6 hk6 x1 x3 x4 _ _ hP hD hS _ (lv_sub hl [0, 1, 2, 3] rfl) hf
      · have hf := it_t c_4 hf
        refine lv_iload hx hb dX6_wrongAnswer_53 (lv_at hl 3 rfl) ?_
        refine lv_bipush (v := 17) hx hb dX6_wrongAnswer_55 (by decide) ?_
        refine lv_icmp_ne (tgt := 64) hx hb dX6_wrongAnswer_57 (by decide) (fun c_5 => ?_) (fun c_5 => ?_)
        · have hf := it_f c_5 hf
          exact J64 k6 hk6 x1 x3 x4 _ _ hP hD hS _ (lv_sub hl [0, 1, 2, 3] rfl) hf
        · have hf := it_t c_5 hf
          exact J60 k6 hk6 x1 x3 x4 _ _ hP hD hS _ (lv_sub hl [0, 1, 2, 3] rfl) hf
  have J130 : ∀ (t0 : Int32) (H : Heap) (locs : List Loc), va_P (dC, dI) vwCl (cf_6 cI cZ h6 h6a1 h6a2 h6a3 h6a4 h6a5 h6a7 h6a17 h6a18 s6) H → va_D A (cf_6 cI cZ h6 h6a1 h6a2 h6a3 h6a4 h6a5 h6a7 h6a17 h6a18 s6) → va_S A s.heap H locs → ∀ (ls : Array Slot), lv_has ls 6 [] → fX6_wrongAnswer_130 s6 t0 = some r → W p l e rmX6_wrongAnswer s m ([.ref h6] : List Value).toArray below meth c H locs 0 0 QQ (F0 m 130 ls [.int t0]) := by
    intro  t0 H locs hP hD hS ls hl hf
    unfold fX6_wrongAnswer_130 at hf
    have hf : (some t0 : Option (Int32)) = some r := hf
    have he := Option.some.inj hf
    have he0 : t0 = r := he
    exact hret _ _ _ _ _ _ he0 rfl dX6_wrongAnswer_130 hP hD hS
  have J6 : ∀ (n : Nat) (x1 : Int32) (x2 : Int32) (x3 : Int32) (H : Heap) (locs : List Loc), va_P (dC, dI) vwCl (cf_6 cI cZ h6 h6a1 h6a2 h6a3 h6a4 h6a5 h6a7 h6a17 h6a18 s6) H → va_D A (cf_6 cI cZ h6 h6a1 h6a2 h6a3 h6a4 h6a5 h6a7 h6a17 h6a18 s6) → va_S A s.heap H locs → ∀ (ls : Array Slot), lv_has ls 6 [(0, .ref h6), (1, .int x1), (2, .int x2), (3, .int x3)] → fX6_wrongAnswer_6 s6 n x1 x2 x3 = some r → W p l e rmX6_wrongAnswer s m ([.ref h6] : List Value).toArray below meth c H locs 0 0 QQ (F0 m 6 ls []) := by
    intro n
    induction n with
    | zero =>
      intro x1 x2 x3 H locs hP hD hS ls hl hf
      cases hf
    | succ n ih =>
      intro x1 x2 x3 H locs hP hD hS ls hl hf
      rw [fX6_wrongAnswer_6] at hf
      refine lv_iload_n hx hb dX6_wrongAnswer_6 rfl (lv_at hl 3 rfl) ?_
      refine lv_aload_n hx hb dX6_wrongAnswer_7 rfl (lv_at hl 0 rfl) ?_
      refine va_get (D := (dC, dI)) (ci := 6) (v := .int (S6_count s6)) (C := RX6) (T := TX6) (N := 25) hx hb hts in6 hown hK hP 0 rfl rfl 6 (by decide) fl95 (fun _ h9 => h9) rfl dX6_wrongAnswer_8 ?_
      refine lv_icmp_ge (tgt := 118) hx hb dX6_wrongAnswer_11 (by decide) (fun c_1 => ?_) (fun c_1 => ?_)
      · have hf := it_t c_1 hf
        refine lv_iload_n hx hb dX6_wrongAnswer_118 rfl (lv_at hl 1 rfl) ?_
        refine lv_if_eq (tgt := 126) hx hb dX6_wrongAnswer_119 (by decide) (fun c_2 => ?_) (fun c_2 => ?_)
        · have hf := it_t c_2 hf
          refine lv_aload_n hx hb dX6_wrongAnswer_126 rfl (lv_at hl 0 rfl) ?_
          refine va_get (D := (dC, dI)) (ci := 6) (v := .int (S6_count s6)) (C := RX6) (T := TX6) (N := 25) hx hb hts in6 hown hK hP 0 rfl rfl 6 (by decide) fl95 (fun _ h9 => h9) rfl dX6_wrongAnswer_127 ?_
          exact J130 (S6_count s6) _ _ hP hD hS _ (lv_sub hl [] rfl) hf
        · have hf := it_f c_2 hf
          refine lv_iconst (v := (-1)) hx hb dX6_wrongAnswer_122 (by decide) ?_
          refine lv_goto (tgt := 130) hx hb dX6_wrongAnswer_123 (by decide) ?_
          exact J130 (-1) _ _ hP hD hS _ (lv_sub hl [] rfl) hf
      · have hf := it_f c_1 hf
        refine lv_aload_n hx hb dX6_wrongAnswer_14 rfl (lv_at hl 0 rfl) ?_
        refine va_get (D := (dC, dI)) (ci := 6) (v := .ref h6a7) (C := RX6) (T := TX6) (N := 25) hx hb hts in6 hown hK hP 0 rfl rfl 7 (by decide) fl26 (fun _ h9 => h9) rfl dX6_wrongAnswer_15 ?_
        refine lv_iload_n hx hb dX6_wrongAnswer_18 rfl (lv_at hl 3 rfl) ?_
        obtain ⟨hi_3, hf⟩ := ai_ok hf
        refine va_iald (n := 24) (f := (S6_words s6)) hx hb hK hP 6 0 rfl rfl hi_3 dX6_wrongAnswer_19 ?_
        refine lv_istore (lv' := [(4, .int ((S6_words s6) x3.toNatClampNeg)), (0, .ref h6), (1, .int x1), (2, .int x2), (3, .int x3)]) hx hb dX6_wrongAnswer_20 hl (by decide) rfl (fun ls hl => ?_)
        refine lv_iload_n hx hb dX6_wrongAnswer_22 rfl (lv_at hl 3 rfl) ?_
        refine lv_if_ne (tgt := 64) hx hb dX6_wrongAnswer_23 (by decide) (fun c_4 => ?_) (fun c_4 => ?_)
        · have hf := it_f c_4 hf
          exact J64 (fun x1 x2 x3 => fX6_wrongAnswer_6 s6 n x1 x2 x3) (fun x1 x2 x3 H locs hP hD hS ls hl hf => ih x1 x2 x3 H locs hP hD hS ls hl hf) x1 x3 ((S6_words s6) x3.toNatClampNeg) _ _ hP hD hS _ (lv_sub hl [1, 2, 4, 0] rfl) hf
        · have hf := it_t c_4 hf
          refine lv_iload_n hx hb dX6_wrongAnswer_26 rfl (lv_at hl 4 rfl) ?_
          refine lv_if_ne (tgt := 37) hx hb dX6_wrongAnswer_27 (by decide) (fun c_5 => ?_) (fun c_5 => ?_)
          · have hf := it_f c_5 hf
            exact J37 (fun x1 x2 x3 => fX6_wrongAnswer_6 s6 n x1 x2 x3) (fun x1 x2 x3 H locs hP hD hS ls hl hf => ih x1 x2 x3 H locs hP hD hS ls hl hf) x1 x3 ((S6_words s6) x3.toNatClampNeg) _ _ hP hD hS _ (lv_sub hl [1, 2, 4, 0] rfl) hf
          · have hf := it_t c_5 hf
            refine lv_iload hx hb dX6_wrongAnswer_30 (lv_at hl 0 rfl) ?_
            refine lv_bipush (v := 10) hx hb dX6_wrongAnswer_32 (by decide) ?_
            refine lv_icmp_eq (tgt := 60) hx hb dX6_wrongAnswer_34 (by decide) (fun c_6 => ?_) (fun c_6 => ?_)
            · have hf := it_t c_6 hf
              exact J60 (fun x1 x2 x3 => fX6_wrongAnswer_6 s6 n x1 x2 x3) (fun x1 x2 x3 H locs hP hD hS ls hl hf => ih x1 x2 x3 H locs hP hD hS ls hl hf) x1 x3 ((S6_words s6) x3.toNatClampNeg) _ _ hP hD hS _ (lv_sub hl [1, 2, 4, 0] rfl) hf
            · have hf := it_f c_6 hf
              exact J37 (fun x1 x2 x3 => fX6_wrongAnswer_6 s6 n x1 x2 x3) (fun x1 x2 x3 H locs hP hD hS ls hl hf => ih x1 x2 x3 H locs hP hD hS ls hl hf) x1 x3 ((S6_words s6) x3.toNatClampNeg) _ _ hP hD hS _ (lv_sub hl [1, 2, 4, 0] rfl) hf
  unfold fX6_wrongAnswer at hf
  refine lv_iconst (v := 0) hx hb dX6_wrongAnswer_0 (by decide) ?_
  refine lv_istore_n (lv' := [(1, .int 0), (0, .ref h6)]) hx hb dX6_wrongAnswer_1 rfl hl (by decide) rfl (fun ls hl => ?_)
  refine lv_iconst (v := 0) hx hb dX6_wrongAnswer_2 (by decide) ?_
  refine lv_istore_n (lv' := [(2, .int 0), (1, .int 0), (0, .ref h6)]) hx hb dX6_wrongAnswer_3 rfl hl (by decide) rfl (fun ls hl => ?_)
  refine lv_iconst (v := 0) hx hb dX6_wrongAnswer_4 (by decide) ?_
  refine lv_istore_n (lv' := [(3, .int 0), (2, .int 0), (1, .int 0), (0, .ref h6)]) hx hb dX6_wrongAnswer_5 rfl hl (by decide) rfl (fun ls hl => ?_)
  exact J6 64 0 0 0 _ _ hP hD hS _ (lv_sub hl [3, 2, 1, 0] rfl) hf
abbrev rmX6_is : Room := { frames := 0, cells := 0, slots := 0, locals := 0 }
set_option maxHeartbeats 2000000 in
set_option maxRecDepth 100000 in
theorem ktX6_is (l : Launch) (dC : Nat → ClassId) (dI : Nat → Nat → Nat) (cI cZ : ClassId) (h6 h6a1 h6a2 h6a3 h6a4 h6a5 h6a7 h6a17 h6a18 : Nat) (sz : Nat) (s6 : S6) (a1 : Int32) (r : Int32) (hf : fX6_is s6 a1 = some r) : Met l yX6_is wsX6_is rmX6_is (va_Pc [.ref h6, .int a1] (pre_w (dC, dI) (cf_6 cI cZ h6 h6a1 h6a2 h6a3 h6a4 h6a5 h6a7 h6a17 h6a18 s6) [(cI, .int), (cZ, .boolean)] sz)) (va_Qi (fun (r' : Int32) (_ : Unit) => r' = r) (post_w (dC, dI) (cf_6 cI cZ h6 h6a1 h6a2 h6a3 h6a4 h6a5 h6a7 h6a17 h6a18 s6) [(cI, .int), (cZ, .boolean)] (va_A (cf_6 cI cZ h6 h6a1 h6a2 h6a3 h6a4 h6a5 h6a7 h6a17 h6a18 s6) sz)) (va_A (cf_6 cI cZ h6 h6a1 h6a2 h6a3 h6a4 h6a5 h6a7 h6a17 h6a18 s6) sz)) 0 0 (va_A (cf_6 cI cZ h6 h6a1 h6a2 h6a3 h6a4 h6a5 h6a7 h6a17 h6a18 s6) sz) := by
  refine gm_z (cc := cX6_is) (maxL := 2) (by decide) rfl (Nat.le_of_ble_eq_true rfl) ?_
  intro p e s m below meth c A QQ ls hx hb hml hown hts hK hN hA hP hD hS hl hret
  have hown : s.vm.findClass RX6 = some m.cls := hown
  have hl : lv_has ls 2 [(0, .ref h6), (1, .int a1)] := hl
  have in6 : ∀ w ∈ u_ws RX6 TX6 25, w ∈ wsX6_is := by decide +kernel
  have fl102 := hts (.fieldLink RX6 102 "ParserParlourModel" "at" "I") (by decide +kernel)
  have fl105 := hts (.fieldLink RX6 105 "ParserParlourModel" "length" "I") (by decide +kernel)
  have fl45 := hts (.fieldLink RX6 45 "ParserParlourModel" "order" "[I") (by decide +kernel)
  have J29 : ∀ (t0 : Int32) (H : Heap) (locs : List Loc), va_P (dC, dI) vwCl (cf_6 cI cZ h6 h6a1 h6a2 h6a3 h6a4 h6a5 h6a7 h6a17 h6a18 s6) H → va_D A (cf_6 cI cZ h6 h6a1 h6a2 h6a3 h6a4 h6a5 h6a7 h6a17 h6a18 s6) → va_S A s.heap H locs → ∀ (ls : Array Slot), lv_has ls 2 [] → fX6_is_29 s6 a1 t0 = some r → W p l e rmX6_is s m ([.ref h6, .int a1] : List Value).toArray below meth c H locs 0 0 QQ (F0 m 29 ls [.int t0]) := by
    intro  t0 H locs hP hD hS ls hl hf
    unfold fX6_is_29 at hf
    obtain ⟨hz_1, hf⟩ := bo_ok hf
    have hf : (some t0 : Option (Int32)) = some r := hf
    have he := Option.some.inj hf
    have he0 : t0 = r := he
    exact hret _ _ _ _ _ _ hz_1 he0 rfl dX6_is_29 hP hD hS
  have J28 : ∀ (H : Heap) (locs : List Loc), va_P (dC, dI) vwCl (cf_6 cI cZ h6 h6a1 h6a2 h6a3 h6a4 h6a5 h6a7 h6a17 h6a18 s6) H → va_D A (cf_6 cI cZ h6 h6a1 h6a2 h6a3 h6a4 h6a5 h6a7 h6a17 h6a18 s6) → va_S A s.heap H locs → ∀ (ls : Array Slot), lv_has ls 2 [] → fX6_is_28 s6 a1 = some r → W p l e rmX6_is s m ([.ref h6, .int a1] : List Value).toArray below meth c H locs 0 0 QQ (F0 m 28 ls []) := by
    intro   H locs hP hD hS ls hl hf
    unfold fX6_is_28 at hf
    refine lv_iconst (v := 0) hx hb dX6_is_28 (by decide) ?_
    exact J29 0 _ _ hP hD hS _ (lv_sub hl [] rfl) hf
  unfold fX6_is at hf
  refine lv_aload_n hx hb dX6_is_0 rfl (lv_at hl 0 rfl) ?_
  refine va_get (D := (dC, dI)) (ci := 6) (v := .int (S6_at s6)) (C := RX6) (T := TX6) (N := 25) hx hb hts in6 hown hK hP 0 rfl rfl 21 (by decide) fl102 (fun _ h9 => h9) rfl dX6_is_1 ?_
  refine lv_aload_n hx hb dX6_is_4 rfl (lv_at hl 0 rfl) ?_
  refine va_get (D := (dC, dI)) (ci := 6) (v := .int (S6_length s6)) (C := RX6) (T := TX6) (N := 25) hx hb hts in6 hown hK hP 0 rfl rfl 16 (by decide) fl105 (fun _ h9 => h9) rfl dX6_is_5 ?_
  refine lv_icmp_ge (tgt := 28) hx hb dX6_is_8 (by decide) (fun c_1 => ?_) (fun c_1 => ?_)
  · have hf := it_t c_1 hf
    exact J28 _ _ hP hD hS _ (lv_sub hl [] rfl) hf
  · have hf := it_f c_1 hf
    refine lv_aload_n hx hb dX6_is_11 rfl (lv_at hl 0 rfl) ?_
    refine va_get (D := (dC, dI)) (ci := 6) (v := .ref h6a17) (C := RX6) (T := TX6) (N := 25) hx hb hts in6 hown hK hP 0 rfl rfl 17 (by decide) fl45 (fun _ h9 => h9) rfl dX6_is_12 ?_
    refine lv_aload_n hx hb dX6_is_15 rfl (lv_at hl 0 rfl) ?_
    refine va_get (D := (dC, dI)) (ci := 6) (v := .int (S6_at s6)) (C := RX6) (T := TX6) (N := 25) hx hb hts in6 hown hK hP 0 rfl rfl 21 (by decide) fl102 (fun _ h9 => h9) rfl dX6_is_16 ?_
    obtain ⟨hi_2, hf⟩ := ai_ok hf
    refine va_iald (n := 24) (f := (S6_order s6)) hx hb hK hP 7 0 rfl rfl hi_2 dX6_is_19 ?_
    refine lv_iload_n hx hb dX6_is_20 rfl (lv_at hl 1 rfl) ?_
    refine lv_icmp_ne (tgt := 28) hx hb dX6_is_21 (by decide) (fun c_3 => ?_) (fun c_3 => ?_)
    · have hf := it_f c_3 hf
      exact J28 _ _ hP hD hS _ (lv_sub hl [] rfl) hf
    · have hf := it_t c_3 hf
      refine lv_iconst (v := 1) hx hb dX6_is_24 (by decide) ?_
      refine lv_goto (tgt := 29) hx hb dX6_is_25 (by decide) ?_
      exact J29 1 _ _ hP hD hS _ (lv_sub hl [] rfl) hf
abbrev rmX6_endOf : Room := { frames := 1, cells := 0, slots := 0, locals := 20 }
set_option maxHeartbeats 2000000 in
set_option maxRecDepth 100000 in
theorem ktX6_endOf (l : Launch) (dC : Nat → ClassId) (dI : Nat → Nat → Nat) (cI cZ : ClassId) (h6 h6a1 h6a2 h6a3 h6a4 h6a5 h6a7 h6a17 h6a18 : Nat) (sz : Nat) (s6 : S6) (a1 : Int32) (r : Int32) (hf : fX6_endOf s6 a1 = some r) : Met l yX6_endOf wsX6_endOf rmX6_endOf (va_Pc [.ref h6, .int a1] (pre_w (dC, dI) (cf_6 cI cZ h6 h6a1 h6a2 h6a3 h6a4 h6a5 h6a7 h6a17 h6a18 s6) [(cI, .int), (cZ, .boolean)] sz)) (va_Qi (fun (r' : Int32) (_ : Unit) => r' = r) (post_w (dC, dI) (cf_6 cI cZ h6 h6a1 h6a2 h6a3 h6a4 h6a5 h6a7 h6a17 h6a18 s6) [(cI, .int), (cZ, .boolean)] (va_A (cf_6 cI cZ h6 h6a1 h6a2 h6a3 h6a4 h6a5 h6a7 h6a17 h6a18 s6) sz)) (va_A (cf_6 cI cZ h6 h6a1 h6a2 h6a3 h6a4 h6a5 h6a7 h6a17 h6a18 s6) sz)) 0 0 (va_A (cf_6 cI cZ h6 h6a1 h6a2 h6a3 h6a4 h6a5 h6a7 h6a17 h6a18 s6) sz) := by
  refine gm_i (cc := cX6_endOf) (maxL := 3) (by decide) rfl (Nat.le_of_ble_eq_true rfl) ?_
  intro p e s m below meth c A QQ ls hx hb hml hown hts hK hN hA hP hD hS hl hret
  have hown : s.vm.findClass RX6 = some m.cls := hown
  have hl : lv_has ls 3 [(0, .ref h6), (1, .int a1)] := hl
  have in6 : ∀ w ∈ u_ws RX6 TX6 25, w ∈ wsX6_endOf := by decide +kernel
  have fl45 := hts (.fieldLink RX6 45 "ParserParlourModel" "order" "[I") (by decide +kernel)
  have J25 : ∀ (k2 : Int32 → Option (Int32)) (hk2 : ∀ (x2 : Int32) (H : Heap) (locs : List Loc), va_P (dC, dI) vwCl (cf_6 cI cZ h6 h6a1 h6a2 h6a3 h6a4 h6a5 h6a7 h6a17 h6a18 s6) H → va_D A (cf_6 cI cZ h6 h6a1 h6a2 h6a3 h6a4 h6a5 h6a7 h6a17 h6a18 s6) → va_S A s.heap H locs → ∀ (ls : Array Slot), lv_has ls 3 [(0, .ref h6), (2, .int x2)] → k2 x2 = some r → W p l e rmX6_endOf s m ([.ref h6, .int a1] : List Value).toArray below meth c H locs 0 0 QQ (F0 m 2 ls [])) (x2 : Int32) (H : Heap) (locs : List Loc), va_P (dC, dI) vwCl (cf_6 cI cZ h6 h6a1 h6a2 h6a3 h6a4 h6a5 h6a7 h6a17 h6a18 s6) H → va_D A (cf_6 cI cZ h6 h6a1 h6a2 h6a3 h6a4 h6a5 h6a7 h6a17 h6a18 s6) → va_S A s.heap H locs → ∀ (ls : Array Slot), lv_has ls 3 [(0, .ref h6), (2, .int x2)] → fX6_endOf_25 s6 a1 k2 x2 = some r → W p l e rmX6_endOf s m ([.ref h6, .int a1] : List Value).toArray below meth c H locs 0 0 QQ (F0 m 25 ls []) := by
    intro k2 hk2 x2 H locs hP hD hS ls hl hf
    unfold fX6_endOf_25 at hf
    refine lv_iinc (v := (x2 + 1)) (lv' := [(2, .int (x2 + 1)), (0, .ref h6)]) hx hb dX6_endOf_25 hl (k := 1) rfl rfl (by decide) rfl (fun ls hl => ?_)
    refine lv_goto (tgt := 2) hx hb dX6_endOf_28 (by decide) ?_
    exact hk2 (x2 + 1) _ _ hP hD hS _ (lv_sub hl [1, 0] rfl) hf
  have J2 : ∀ (n : Nat) (x2 : Int32) (H : Heap) (locs : List Loc), va_P (dC, dI) vwCl (cf_6 cI cZ h6 h6a1 h6a2 h6a3 h6a4 h6a5 h6a7 h6a17 h6a18 s6) H → va_D A (cf_6 cI cZ h6 h6a1 h6a2 h6a3 h6a4 h6a5 h6a7 h6a17 h6a18 s6) → va_S A s.heap H locs → ∀ (ls : Array Slot), lv_has ls 3 [(0, .ref h6), (2, .int x2)] → fX6_endOf_2 s6 a1 n x2 = some r → W p l e rmX6_endOf s m ([.ref h6, .int a1] : List Value).toArray below meth c H locs 0 0 QQ (F0 m 2 ls []) := by
    intro n
    induction n with
    | zero =>
      intro x2 H locs hP hD hS ls hl hf
      cases hf
    | succ n ih =>
      intro x2 H locs hP hD hS ls hl hf
      rw [fX6_endOf_2] at hf
      refine lv_aload_n hx hb dX6_endOf_2 rfl (lv_at hl 0 rfl) ?_
      refine va_get (D := (dC, dI)) (ci := 6) (v := .ref h6a17) (C := RX6) (T := TX6) (N := 25) hx hb hts in6 hown hK hP 0 rfl rfl 17 (by decide) fl45 (fun _ h9 => h9) rfl dX6_endOf_3 ?_
      refine lv_iload_n hx hb dX6_endOf_6 rfl (lv_at hl 1 rfl) ?_
      obtain ⟨hi_1, hf⟩ := ai_ok hf
      refine va_iald (n := 24) (f := (S6_order s6)) hx hb hK hP 7 0 rfl rfl hi_1 dX6_endOf_7 ?_
      refine lv_bipush (v := 10) hx hb dX6_endOf_8 (by decide) ?_
      refine lv_icmp_eq (tgt := 25) hx hb dX6_endOf_10 (by decide) (fun c_2 => ?_) (fun c_2 => ?_)
      · have hf := it_t c_2 hf
        exact J25 (fun x2 => fX6_endOf_2 s6 a1 n x2) (fun x2 H locs hP hD hS ls hl hf => ih x2 H locs hP hD hS ls hl hf) x2 _ _ hP hD hS _ (lv_sub hl [0, 1] rfl) hf
      · have hf := it_f c_2 hf
        refine lv_aload_n hx hb dX6_endOf_13 rfl (lv_at hl 0 rfl) ?_
        refine va_get (D := (dC, dI)) (ci := 6) (v := .ref h6a17) (C := RX6) (T := TX6) (N := 25) hx hb hts in6 hown hK hP 0 rfl rfl 17 (by decide) fl45 (fun _ h9 => h9) rfl dX6_endOf_14 ?_
        refine lv_iload_n hx hb dX6_endOf_17 rfl (lv_at hl 1 rfl) ?_
        obtain ⟨hi_3, hf⟩ := ai_ok hf
        refine va_iald (n := 24) (f := (S6_order s6)) hx hb hK hP 7 0 rfl rfl hi_3 dX6_endOf_18 ?_
        obtain ⟨r_4, hc_4, hf⟩ := bn1_ok hf
        refine gc_i (wc := ([] : va_W)) (wr := (cf_6 cI cZ h6 h6a1 h6a2 h6a3 h6a4 h6a5 h6a7 h6a17 h6a18 s6)) (w1 := ([] : va_W)) (ws' := (cf_6 cI cZ h6 h6a1 h6a2 h6a3 h6a4 h6a5 h6a7 h6a17 h6a18 s6)) hP hD hS hA [] [0, 1, 2, 3, 4, 5, 6, 7, 8] [0, 1, 2, 3, 4, 5, 6, 7, 8] rfl rfl (by decide) (by decide) rfl (by decide) (va_runS (As := [.int ((S6_order s6) x2.toNatClampNeg)]) (rest := []) ⟨hx, hb, hml, hown, hts⟩ (ktX6_isAdjective l dC dI _ ((S6_order s6) x2.toNatClampNeg) r_4 hc_4) (va_cwS 1 hts gX6_endOf_X6_isAdjective rfl rfl rfl (by decide +kernel) ⟨Nat.le_of_ble_eq_true rfl, Nat.le_of_ble_eq_true rfl⟩) (gc_S (hP.sub (ws' := ([] : va_W)) [] rfl) (hK.sub (tys' := []) [] rfl) (hD.sub (ws' := ([] : va_W)) [] (by decide) rfl) hN) rfl rfl hl.1 rfl (lv_room (Nat.le_of_ble_eq_true rfl)) dX6_endOf_19 ⟨Nat.zero_le _, Nat.zero_le _⟩) (fun H locs hP hD hS => ?_)
        refine lv_if_eq (tgt := 31) hx hb dX6_endOf_22 (by decide) (fun c_5 => ?_) (fun c_5 => ?_)
        · have hf := it_t c_5 hf
          refine lv_iload_n hx hb dX6_endOf_31 rfl (lv_at hl 1 rfl) ?_
          have hf : (some x2 : Option (Int32)) = some r := hf
          have he := Option.some.inj hf
          have he0 : x2 = r := he
          exact hret _ _ _ _ _ _ he0 rfl dX6_endOf_32 hP hD hS
        · have hf := it_f c_5 hf
          exact J25 (fun x2 => fX6_endOf_2 s6 a1 n x2) (fun x2 H locs hP hD hS ls hl hf => ih x2 H locs hP hD hS ls hl hf) x2 _ _ hP hD hS _ (lv_sub hl [0, 1] rfl) hf
  unfold fX6_endOf at hf
  refine lv_iload_n hx hb dX6_endOf_0 rfl (lv_at hl 1 rfl) ?_
  refine lv_istore_n (lv' := [(2, .int a1), (0, .ref h6), (1, .int a1)]) hx hb dX6_endOf_1 rfl hl (by decide) rfl (fun ls hl => ?_)
  exact J2 64 a1 _ _ hP hD hS _ (lv_sub hl [1, 0] rfl) hf
abbrev rmX6_adjectivesUpTo : Room := { frames := 1, cells := 0, slots := 0, locals := 20 }
set_option maxHeartbeats 2000000 in
set_option maxRecDepth 100000 in
theorem ktX6_adjectivesUpTo (l : Launch) (dC : Nat → ClassId) (dI : Nat → Nat → Nat) (cI cZ : ClassId) (h6 h6a1 h6a2 h6a3 h6a4 h6a5 h6a7 h6a17 h6a18 : Nat) (sz : Nat) (s6 : S6) (a1 : Int32) (a2 : Int32) (r : Int32) (hf : fX6_adjectivesUpTo s6 a1 a2 = some r) : Met l yX6_adjectivesUpTo wsX6_adjectivesUpTo rmX6_adjectivesUpTo (va_Pc [.ref h6, .int a1, .int a2] (pre_w (dC, dI) (cf_6 cI cZ h6 h6a1 h6a2 h6a3 h6a4 h6a5 h6a7 h6a17 h6a18 s6) [(cI, .int), (cZ, .boolean)] sz)) (va_Qi (fun (r' : Int32) (_ : Unit) => r' = r) (post_w (dC, dI) (cf_6 cI cZ h6 h6a1 h6a2 h6a3 h6a4 h6a5 h6a7 h6a17 h6a18 s6) [(cI, .int), (cZ, .boolean)] (va_A (cf_6 cI cZ h6 h6a1 h6a2 h6a3 h6a4 h6a5 h6a7 h6a17 h6a18 s6) sz)) (va_A (cf_6 cI cZ h6 h6a1 h6a2 h6a3 h6a4 h6a5 h6a7 h6a17 h6a18 s6) sz)) 0 0 (va_A (cf_6 cI cZ h6 h6a1 h6a2 h6a3 h6a4 h6a5 h6a7 h6a17 h6a18 s6) sz) := by
  refine gm_i (cc := cX6_adjectivesUpTo) (maxL := 5) (by decide) rfl (Nat.le_of_ble_eq_true rfl) ?_
  intro p e s m below meth c A QQ ls hx hb hml hown hts hK hN hA hP hD hS hl hret
  have hown : s.vm.findClass RX6 = some m.cls := hown
  have hl : lv_has ls 5 [(0, .ref h6), (1, .int a1), (2, .int a2)] := hl
  have in6 : ∀ w ∈ u_ws RX6 TX6 25, w ∈ wsX6_adjectivesUpTo := by decide +kernel
  have fl45 := hts (.fieldLink RX6 45 "ParserParlourModel" "order" "[I") (by decide +kernel)
  have J41 : ∀ (k5 : Int32 → Int32 → Option (Int32)) (hk5 : ∀ (x3 : Int32) (x4 : Int32) (H : Heap) (locs : List Loc), va_P (dC, dI) vwCl (cf_6 cI cZ h6 h6a1 h6a2 h6a3 h6a4 h6a5 h6a7 h6a17 h6a18 s6) H → va_D A (cf_6 cI cZ h6 h6a1 h6a2 h6a3 h6a4 h6a5 h6a7 h6a17 h6a18 s6) → va_S A s.heap H locs → ∀ (ls : Array Slot), lv_has ls 5 [(0, .ref h6), (2, .int a2), (3, .int x3), (4, .int x4)] → k5 x3 x4 = some r → W p l e rmX6_adjectivesUpTo s m ([.ref h6, .int a1, .int a2] : List Value).toArray below meth c H locs 0 0 QQ (F0 m 5 ls [])) (x4 : Int32) (t0 : Int32) (t1 : Int32) (H : Heap) (locs : List Loc), va_P (dC, dI) vwCl (cf_6 cI cZ h6 h6a1 h6a2 h6a3 h6a4 h6a5 h6a7 h6a17 h6a18 s6) H → va_D A (cf_6 cI cZ h6 h6a1 h6a2 h6a3 h6a4 h6a5 h6a7 h6a17 h6a18 s6) → va_S A s.heap H locs → ∀ (ls : Array Slot), lv_has ls 5 [(0, .ref h6), (2, .int a2), (4, .int x4)] → fX6_adjectivesUpTo_41 s6 a1 a2 k5 x4 t0 t1 = some r → W p l e rmX6_adjectivesUpTo s m ([.ref h6, .int a1, .int a2] : List Value).toArray below meth c H locs 0 0 QQ (F0 m 41 ls [.int t1, .int t0]) := by
    intro k5 hk5 x4 t0 t1 H locs hP hD hS ls hl hf
    unfold fX6_adjectivesUpTo_41 at hf
    refine lv_ior hx hb dX6_adjectivesUpTo_41 ?_
    refine lv_istore_n (lv' := [(3, .int (t0 ||| t1)), (0, .ref h6), (2, .int a2), (4, .int x4)]) hx hb dX6_adjectivesUpTo_42 rfl hl (by decide) rfl (fun ls hl => ?_)
    refine lv_iinc (v := (x4 + 1)) (lv' := [(4, .int (x4 + 1)), (3, .int (t0 ||| t1)), (0, .ref h6), (2, .int a2)]) hx hb dX6_adjectivesUpTo_43 hl (k := 3) rfl rfl (by decide) rfl (fun ls hl => ?_)
    refine lv_goto (tgt := 5) hx hb dX6_adjectivesUpTo_46 (by decide) ?_
    exact hk5 (t0 ||| t1) (x4 + 1) _ _ hP hD hS _ (lv_sub hl [2, 3, 1, 0] rfl) hf
  have J5 : ∀ (n : Nat) (x3 : Int32) (x4 : Int32) (H : Heap) (locs : List Loc), va_P (dC, dI) vwCl (cf_6 cI cZ h6 h6a1 h6a2 h6a3 h6a4 h6a5 h6a7 h6a17 h6a18 s6) H → va_D A (cf_6 cI cZ h6 h6a1 h6a2 h6a3 h6a4 h6a5 h6a7 h6a17 h6a18 s6) → va_S A s.heap H locs → ∀ (ls : Array Slot), lv_has ls 5 [(0, .ref h6), (2, .int a2), (3, .int x3), (4, .int x4)] → fX6_adjectivesUpTo_5 s6 a1 a2 n x3 x4 = some r → W p l e rmX6_adjectivesUpTo s m ([.ref h6, .int a1, .int a2] : List Value).toArray below meth c H locs 0 0 QQ (F0 m 5 ls []) := by
    intro n
    induction n with
    | zero =>
      intro x3 x4 H locs hP hD hS ls hl hf
      cases hf
    | succ n ih =>
      intro x3 x4 H locs hP hD hS ls hl hf
      rw [fX6_adjectivesUpTo_5] at hf
      refine lv_iload hx hb dX6_adjectivesUpTo_5 (lv_at hl 3 rfl) ?_
      refine lv_iload_n hx hb dX6_adjectivesUpTo_7 rfl (lv_at hl 1 rfl) ?_
      refine lv_icmp_ge (tgt := 49) hx hb dX6_adjectivesUpTo_8 (by decide) (fun c_1 => ?_) (fun c_1 => ?_)
      · have hf := it_t c_1 hf
        refine lv_iload_n hx hb dX6_adjectivesUpTo_49 rfl (lv_at hl 2 rfl) ?_
        have hf : (some x3 : Option (Int32)) = some r := hf
        have he := Option.some.inj hf
        have he0 : x3 = r := he
        exact hret _ _ _ _ _ _ he0 rfl dX6_adjectivesUpTo_50 hP hD hS
      · have hf := it_f c_1 hf
        refine lv_iload_n hx hb dX6_adjectivesUpTo_11 rfl (lv_at hl 2 rfl) ?_
        refine lv_aload_n hx hb dX6_adjectivesUpTo_12 rfl (lv_at hl 0 rfl) ?_
        refine va_get (D := (dC, dI)) (ci := 6) (v := .ref h6a17) (C := RX6) (T := TX6) (N := 25) hx hb hts in6 hown hK hP 0 rfl rfl 17 (by decide) fl45 (fun _ h9 => h9) rfl dX6_adjectivesUpTo_13 ?_
        refine lv_iload hx hb dX6_adjectivesUpTo_16 (lv_at hl 3 rfl) ?_
        obtain ⟨hi_2, hf⟩ := ai_ok hf
        refine va_iald (n := 24) (f := (S6_order s6)) hx hb hK hP 7 0 rfl rfl hi_2 dX6_adjectivesUpTo_18 ?_
        obtain ⟨r_3, hc_3, hf⟩ := bn1_ok hf
        refine gc_i (wc := ([] : va_W)) (wr := (cf_6 cI cZ h6 h6a1 h6a2 h6a3 h6a4 h6a5 h6a7 h6a17 h6a18 s6)) (w1 := ([] : va_W)) (ws' := (cf_6 cI cZ h6 h6a1 h6a2 h6a3 h6a4 h6a5 h6a7 h6a17 h6a18 s6)) hP hD hS hA [] [0, 1, 2, 3, 4, 5, 6, 7, 8] [0, 1, 2, 3, 4, 5, 6, 7, 8] rfl rfl (by decide) (by decide) rfl (by decide) (va_runS (As := [.int ((S6_order s6) x4.toNatClampNeg)]) (rest := [.int x3]) ⟨hx, hb, hml, hown, hts⟩ (ktX6_isAdjective l dC dI _ ((S6_order s6) x4.toNatClampNeg) r_3 hc_3) (va_cwS 1 hts gX6_adjectivesUpTo_X6_isAdjective rfl rfl rfl (by decide +kernel) ⟨Nat.le_of_ble_eq_true rfl, Nat.le_of_ble_eq_true rfl⟩) (gc_S (hP.sub (ws' := ([] : va_W)) [] rfl) (hK.sub (tys' := []) [] rfl) (hD.sub (ws' := ([] : va_W)) [] (by decide) rfl) hN) rfl rfl hl.1 rfl (lv_room (Nat.le_of_ble_eq_true rfl)) dX6_adjectivesUpTo_19 ⟨Nat.zero_le _, Nat.zero_le _⟩) (fun H locs hP hD hS => ?_)
        refine lv_if_eq (tgt := 40) hx hb dX6_adjectivesUpTo_22 (by decide) (fun c_4 => ?_) (fun c_4 => ?_)
        · have hf := it_t c_4 hf
          refine lv_iconst (v := 0) hx hb dX6_adjectivesUpTo_40 (by decide) ?_
          exact J41 (fun x3 x4 => fX6_adjectivesUpTo_5 s6 a1 a2 n x3 x4) (fun x3 x4 H locs hP hD hS ls hl hf => ih x3 x4 H locs hP hD hS ls hl hf) x4 x3 0 _ _ hP hD hS _ (lv_sub hl [0, 1, 3] rfl) hf
        · have hf := it_f c_4 hf
          refine lv_iconst (v := 1) hx hb dX6_adjectivesUpTo_25 (by decide) ?_
          refine lv_aload_n hx hb dX6_adjectivesUpTo_26 rfl (lv_at hl 0 rfl) ?_
          refine va_get (D := (dC, dI)) (ci := 6) (v := .ref h6a17) (C := RX6) (T := TX6) (N := 25) hx hb hts in6 hown hK hP 0 rfl rfl 17 (by decide) fl45 (fun _ h9 => h9) rfl dX6_adjectivesUpTo_27 ?_
          refine lv_iload hx hb dX6_adjectivesUpTo_30 (lv_at hl 3 rfl) ?_
          obtain ⟨hi_5, hf⟩ := ai_ok hf
          refine va_iald (n := 24) (f := (S6_order s6)) hx hb hK hP 7 0 rfl rfl hi_5 dX6_adjectivesUpTo_32 ?_
          refine lv_bipush (v := 20) hx hb dX6_adjectivesUpTo_33 (by decide) ?_
          refine lv_isub hx hb dX6_adjectivesUpTo_35 ?_
          refine lv_ishl hx hb dX6_adjectivesUpTo_36 ?_
          refine lv_goto (tgt := 41) hx hb dX6_adjectivesUpTo_37 (by decide) ?_
          exact J41 (fun x3 x4 => fX6_adjectivesUpTo_5 s6 a1 a2 n x3 x4) (fun x3 x4 H locs hP hD hS ls hl hf => ih x3 x4 H locs hP hD hS ls hl hf) x4 x3 ((1 : Int32) <<< ((((S6_order s6) x4.toNatClampNeg) - 20) &&& 31)) _ _ hP hD hS _ (lv_sub hl [0, 1, 3] rfl) hf
  unfold fX6_adjectivesUpTo at hf
  refine lv_iconst (v := 0) hx hb dX6_adjectivesUpTo_0 (by decide) ?_
  refine lv_istore_n (lv' := [(3, .int 0), (0, .ref h6), (1, .int a1), (2, .int a2)]) hx hb dX6_adjectivesUpTo_1 rfl hl (by decide) rfl (fun ls hl => ?_)
  refine lv_iload_n hx hb dX6_adjectivesUpTo_2 rfl (lv_at hl 2 rfl) ?_
  refine lv_istore (lv' := [(4, .int a1), (3, .int 0), (0, .ref h6), (1, .int a1), (2, .int a2)]) hx hb dX6_adjectivesUpTo_3 hl (by decide) rfl (fun ls hl => ?_)
  exact J5 64 0 a1 _ _ hP hD hS _ (lv_sub hl [2, 4, 1, 0] rfl) hf
abbrev rmX6_fail : Room := { frames := 0, cells := 0, slots := 0, locals := 0 }
set_option maxHeartbeats 2000000 in
set_option maxRecDepth 100000 in
theorem ktX6_fail (l : Launch) (dC : Nat → ClassId) (dI : Nat → Nat → Nat) (cI cZ : ClassId) (h6 h6a1 h6a2 h6a3 h6a4 h6a5 h6a7 h6a17 h6a18 : Nat) (sz : Nat) (s6 : S6) (a1 : Int32) (a2 : Int32) (r : Int32) (s6f : S6) (hf : fX6_fail s6 a1 a2 = some (r, s6f)) : Met l yX6_fail wsX6_fail rmX6_fail (va_Pc [.ref h6, .int a1, .int a2] (pre_w (dC, dI) (cf_6 cI cZ h6 h6a1 h6a2 h6a3 h6a4 h6a5 h6a7 h6a17 h6a18 s6) [(cI, .int), (cZ, .boolean)] sz)) (va_Qi (fun (r' : Int32) (_ : Unit) => r' = r) (post_w (dC, dI) (cf_6 cI cZ h6 h6a1 h6a2 h6a3 h6a4 h6a5 h6a7 h6a17 h6a18 s6f) [(cI, .int), (cZ, .boolean)] (va_A (cf_6 cI cZ h6 h6a1 h6a2 h6a3 h6a4 h6a5 h6a7 h6a17 h6a18 s6) sz)) (va_A (cf_6 cI cZ h6 h6a1 h6a2 h6a3 h6a4 h6a5 h6a7 h6a17 h6a18 s6) sz)) 0 0 (va_A (cf_6 cI cZ h6 h6a1 h6a2 h6a3 h6a4 h6a5 h6a7 h6a17 h6a18 s6) sz) := by
  refine gm_i (cc := cX6_fail) (maxL := 3) (by decide) rfl (Nat.le_of_ble_eq_true rfl) ?_
  intro p e s m below meth c A QQ ls hx hb hml hown hts hK hN hA hP hD hS hl hret
  have hown : s.vm.findClass RX6 = some m.cls := hown
  have hl : lv_has ls 3 [(0, .ref h6), (1, .int a1), (2, .int a2)] := hl
  have in6 : ∀ w ∈ u_ws RX6 TX6 25, w ∈ wsX6_fail := by decide +kernel
  have fl108 := hts (.fieldLink RX6 108 "ParserParlourModel" "failedAt" "I") (by decide +kernel)
  have fl111 := hts (.fieldLink RX6 111 "ParserParlourModel" "choice" "I") (by decide +kernel)
  unfold fX6_fail at hf
  refine lv_aload_n hx hb dX6_fail_0 rfl (lv_at hl 0 rfl) ?_
  refine lv_iload_n hx hb dX6_fail_1 rfl (lv_at hl 1 rfl) ?_
  refine va_put (D := (dC, dI)) (ci := 6) (v := .int a1) (ty := .int) (C := RX6) (T := TX6) (N := 25) hx hb hts in6 tyX6 tyX6_ok nmX6 hown hK hP hD hS 0 rfl rfl 22 (by decide) fl108 (fun _ h9 => h9) rfl (by decide +kernel) rfl rfl (Nat.le_of_ble_eq_true rfl) dX6_fail_2 (fun H locs hP hD hS => ?_)
  have hP : va_P (dC, dI) vwCl (cf_6 cI cZ h6 h6a1 h6a2 h6a3 h6a4 h6a5 h6a7 h6a17 h6a18 (S6_set_failedAt s6 a1)) H := Eq.mp (congrArg (fun w => va_P (dC, dI) vwCl w H) (cs6_failedAt cI cZ h6 h6a1 h6a2 h6a3 h6a4 h6a5 h6a7 h6a17 h6a18 s6 a1)) hP
  have hD : va_D A (cf_6 cI cZ h6 h6a1 h6a2 h6a3 h6a4 h6a5 h6a7 h6a17 h6a18 (S6_set_failedAt s6 a1)) := Eq.mp (congrArg (fun w => va_D A w) (cs6_failedAt cI cZ h6 h6a1 h6a2 h6a3 h6a4 h6a5 h6a7 h6a17 h6a18 s6 a1)) hD
  refine lv_aload_n hx hb dX6_fail_5 rfl (lv_at hl 0 rfl) ?_
  refine lv_iload_n hx hb dX6_fail_6 rfl (lv_at hl 2 rfl) ?_
  refine va_put (D := (dC, dI)) (ci := 6) (v := .int a2) (ty := .int) (C := RX6) (T := TX6) (N := 25) hx hb hts in6 tyX6 tyX6_ok nmX6 hown hK hP hD hS 0 rfl rfl 23 (by decide) fl111 (fun _ h9 => h9) rfl (by decide +kernel) rfl rfl (Nat.le_of_ble_eq_true rfl) dX6_fail_7 (fun H locs hP hD hS => ?_)
  have hP : va_P (dC, dI) vwCl (cf_6 cI cZ h6 h6a1 h6a2 h6a3 h6a4 h6a5 h6a7 h6a17 h6a18 (S6_set_choice (S6_set_failedAt s6 a1) a2)) H := Eq.mp (congrArg (fun w => va_P (dC, dI) vwCl w H) (cs6_choice cI cZ h6 h6a1 h6a2 h6a3 h6a4 h6a5 h6a7 h6a17 h6a18 (S6_set_failedAt s6 a1) a2)) hP
  have hD : va_D A (cf_6 cI cZ h6 h6a1 h6a2 h6a3 h6a4 h6a5 h6a7 h6a17 h6a18 (S6_set_choice (S6_set_failedAt s6 a1) a2)) := Eq.mp (congrArg (fun w => va_D A w) (cs6_choice cI cZ h6 h6a1 h6a2 h6a3 h6a4 h6a5 h6a7 h6a17 h6a18 (S6_set_failedAt s6 a1) a2)) hD
  refine lv_iconst (v := (-1)) hx hb dX6_fail_10 (by decide) ?_
  have hf : (some ((-1), (S6_set_choice (S6_set_failedAt s6 a1) a2)) : Option (Int32 × S6)) = some (r, s6f) := hf
  have he := Option.some.inj hf
  have he0 : (-1) = r := congrArg (fun q => q.1) he
  have he1 : (S6_set_choice (S6_set_failedAt s6 a1) a2) = s6f := congrArg (fun q => q.2) he
  exact hret _ _ _ _ _ _ he0 (by rw [← he1]) dX6_fail_11 hP hD hS
abbrev rmX6_single : Room := { frames := 3, cells := 0, slots := 0, locals := 69 }
set_option maxHeartbeats 2000000 in
set_option maxRecDepth 100000 in
theorem ktX6_single (l : Launch) (dC : Nat → ClassId) (dI : Nat → Nat → Nat) (cI cZ : ClassId) (h6 h6a1 h6a2 h6a3 h6a4 h6a5 h6a7 h6a17 h6a18 : Nat) (sz : Nat) (s6 : S6) (a1 : Int32) (r : Int32) (s6f : S6) (hf : fX6_single s6 a1 = some (r, s6f)) : Met l yX6_single wsX6_single rmX6_single (va_Pc [.ref h6, .int a1] (pre_w (dC, dI) (cf_6 cI cZ h6 h6a1 h6a2 h6a3 h6a4 h6a5 h6a7 h6a17 h6a18 s6) [(cI, .int), (cZ, .boolean)] sz)) (va_Qi (fun (r' : Int32) (_ : Unit) => r' = r) (post_w (dC, dI) (cf_6 cI cZ h6 h6a1 h6a2 h6a3 h6a4 h6a5 h6a7 h6a17 h6a18 s6f) [(cI, .int), (cZ, .boolean)] (va_A (cf_6 cI cZ h6 h6a1 h6a2 h6a3 h6a4 h6a5 h6a7 h6a17 h6a18 s6) sz)) (va_A (cf_6 cI cZ h6 h6a1 h6a2 h6a3 h6a4 h6a5 h6a7 h6a17 h6a18 s6) sz)) 0 0 (va_A (cf_6 cI cZ h6 h6a1 h6a2 h6a3 h6a4 h6a5 h6a7 h6a17 h6a18 s6) sz) := by
  refine gm_i (cc := cX6_single) (maxL := 6) (by decide) rfl (Nat.le_of_ble_eq_true rfl) ?_
  intro p e s m below meth c A QQ ls hx hb hml hown hts hK hN hA hP hD hS hl hret
  have hown : s.vm.findClass RX6 = some m.cls := hown
  have hl : lv_has ls 6 [(0, .ref h6), (1, .int a1)] := hl
  have in6 : ∀ w ∈ u_ws RX6 TX6 25, w ∈ wsX6_single := by decide +kernel
  have fl102 := hts (.fieldLink RX6 102 "ParserParlourModel" "at" "I") (by decide +kernel)
  have fl48 := hts (.fieldLink RX6 48 "ParserParlourModel" "answer" "[I") (by decide +kernel)
  have fl45 := hts (.fieldLink RX6 45 "ParserParlourModel" "order" "[I") (by decide +kernel)
  have fl42 := hts (.fieldLink RX6 42 "ParserParlourModel" "it" "I") (by decide +kernel)
  have J78 : ∀ (s6 : S6) (t0 : Int32) (H : Heap) (locs : List Loc), va_P (dC, dI) vwCl (cf_6 cI cZ h6 h6a1 h6a2 h6a3 h6a4 h6a5 h6a7 h6a17 h6a18 s6) H → va_D A (cf_6 cI cZ h6 h6a1 h6a2 h6a3 h6a4 h6a5 h6a7 h6a17 h6a18 s6) → va_S A s.heap H locs → ∀ (ls : Array Slot), lv_has ls 6 [] → fX6_single_78 a1 s6 t0 = some (r, s6f) → W p l e rmX6_single s m ([.ref h6, .int a1] : List Value).toArray below meth c H locs 0 0 QQ (F0 m 78 ls [.int t0]) := by
    intro  s6 t0 H locs hP hD hS ls hl hf
    unfold fX6_single_78 at hf
    have hf : (some (t0, s6) : Option (Int32 × S6)) = some (r, s6f) := hf
    have he := Option.some.inj hf
    have he0 : t0 = r := congrArg (fun q => q.1) he
    have he1 : s6 = s6f := congrArg (fun q => q.2) he
    exact hret _ _ _ _ _ _ he0 (by rw [← he1]) dX6_single_78 hP hD hS
  have J72 : ∀ (s6 : S6) (x3 : Int32) (H : Heap) (locs : List Loc), va_P (dC, dI) vwCl (cf_6 cI cZ h6 h6a1 h6a2 h6a3 h6a4 h6a5 h6a7 h6a17 h6a18 s6) H → va_D A (cf_6 cI cZ h6 h6a1 h6a2 h6a3 h6a4 h6a5 h6a7 h6a17 h6a18 s6) → va_S A s.heap H locs → ∀ (ls : Array Slot), lv_has ls 6 [(0, .ref h6), (3, .int x3)] → fX6_single_72 a1 s6 x3 = some (r, s6f) → W p l e rmX6_single s m ([.ref h6, .int a1] : List Value).toArray below meth c H locs 0 0 QQ (F0 m 72 ls []) := by
    intro  s6 x3 H locs hP hD hS ls hl hf
    unfold fX6_single_72 at hf
    refine lv_aload_n hx hb dX6_single_72 rfl (lv_at hl 0 rfl) ?_
    refine lv_iload_n hx hb dX6_single_73 rfl (lv_at hl 1 rfl) ?_
    refine lv_iconst (v := 0) hx hb dX6_single_74 (by decide) ?_
    obtain ⟨r_1, s6_1, hc_1, hf⟩ := bn2_ok hf
    refine gc_i (wc := (cf_6 cI cZ h6 h6a1 h6a2 h6a3 h6a4 h6a5 h6a7 h6a17 h6a18 s6)) (wr := ([] : va_W)) (w1 := (cf_6 cI cZ h6 h6a1 h6a2 h6a3 h6a4 h6a5 h6a7 h6a17 h6a18 s6_1)) (ws' := (cf_6 cI cZ h6 h6a1 h6a2 h6a3 h6a4 h6a5 h6a7 h6a17 h6a18 s6_1)) hP hD hS hA [0, 1, 2, 3, 4, 5, 6, 7, 8] [] [0, 1, 2, 3, 4, 5, 6, 7, 8] rfl rfl (by decide) (by decide) rfl (by decide) (va_runV (As := [.int x3, .int 0]) (rest := []) ⟨hx, hb, hml, hown, hts⟩ (ktX6_fail l dC dI cI cZ h6 h6a1 h6a2 h6a3 h6a4 h6a5 h6a7 h6a17 h6a18 _ s6 x3 0 r_1 s6_1 hc_1) (cwV 2 hts gX6_single_X6_fail rfl rfl rfl (by decide +kernel) ⟨Nat.le_of_ble_eq_true rfl, Nat.le_of_ble_eq_true rfl⟩) (gc_V (ci := 6) (q0 := 0) (C := RX6) (T := TX6) (N := 25) (hP.sub (ws' := (cf_6 cI cZ h6 h6a1 h6a2 h6a3 h6a4 h6a5 h6a7 h6a17 h6a18 s6)) [0, 1, 2, 3, 4, 5, 6, 7, 8] rfl) (hK.sub (tys' := [(cI, .int), (cZ, .boolean)]) [0, 1] rfl) (hD.sub (ws' := (cf_6 cI cZ h6 h6a1 h6a2 h6a3 h6a4 h6a5 h6a7 h6a17 h6a18 s6)) [0, 1, 2, 3, 4, 5, 6, 7, 8] (by decide) rfl) hN rfl rfl) rfl rfl hl.1 rfl (lv_room (Nat.le_of_ble_eq_true rfl)) dX6_single_75 ⟨Nat.zero_le _, Nat.zero_le _⟩) (fun H locs hP hD hS => ?_)
    exact J78 s6_1 r_1 _ _ hP hD hS _ (lv_sub hl [] rfl) hf
  have J172 : ∀ (s6 : S6) (t1 : Int32) (t2 : Int32) (H : Heap) (locs : List Loc), va_P (dC, dI) vwCl (cf_6 cI cZ h6 h6a1 h6a2 h6a3 h6a4 h6a5 h6a7 h6a17 h6a18 s6) H → va_D A (cf_6 cI cZ h6 h6a1 h6a2 h6a3 h6a4 h6a5 h6a7 h6a17 h6a18 s6) → va_S A s.heap H locs → ∀ (ls : Array Slot), lv_has ls 6 [] → fX6_single_172 a1 s6 t1 t2 = some (r, s6f) → W p l e rmX6_single s m ([.ref h6, .int a1] : List Value).toArray below meth c H locs 0 0 QQ (F0 m 172 ls [.int t2, .int t1, .ref h6]) := by
    intro  s6 t1 t2 H locs hP hD hS ls hl hf
    unfold fX6_single_172 at hf
    obtain ⟨r_1, s6_1, hc_1, hf⟩ := bn2_ok hf
    refine gc_i (wc := (cf_6 cI cZ h6 h6a1 h6a2 h6a3 h6a4 h6a5 h6a7 h6a17 h6a18 s6)) (wr := ([] : va_W)) (w1 := (cf_6 cI cZ h6 h6a1 h6a2 h6a3 h6a4 h6a5 h6a7 h6a17 h6a18 s6_1)) (ws' := (cf_6 cI cZ h6 h6a1 h6a2 h6a3 h6a4 h6a5 h6a7 h6a17 h6a18 s6_1)) hP hD hS hA [0, 1, 2, 3, 4, 5, 6, 7, 8] [] [0, 1, 2, 3, 4, 5, 6, 7, 8] rfl rfl (by decide) (by decide) rfl (by decide) (va_runV (As := [.int t1, .int t2]) (rest := []) ⟨hx, hb, hml, hown, hts⟩ (ktX6_fail l dC dI cI cZ h6 h6a1 h6a2 h6a3 h6a4 h6a5 h6a7 h6a17 h6a18 _ s6 t1 t2 r_1 s6_1 hc_1) (cwV 2 hts gX6_single_X6_fail rfl rfl rfl (by decide +kernel) ⟨Nat.le_of_ble_eq_true rfl, Nat.le_of_ble_eq_true rfl⟩) (gc_V (ci := 6) (q0 := 0) (C := RX6) (T := TX6) (N := 25) (hP.sub (ws' := (cf_6 cI cZ h6 h6a1 h6a2 h6a3 h6a4 h6a5 h6a7 h6a17 h6a18 s6)) [0, 1, 2, 3, 4, 5, 6, 7, 8] rfl) (hK.sub (tys' := [(cI, .int), (cZ, .boolean)]) [0, 1] rfl) (hD.sub (ws' := (cf_6 cI cZ h6 h6a1 h6a2 h6a3 h6a4 h6a5 h6a7 h6a17 h6a18 s6)) [0, 1, 2, 3, 4, 5, 6, 7, 8] (by decide) rfl) hN rfl rfl) rfl rfl hl.1 rfl (lv_room (Nat.le_of_ble_eq_true rfl)) dX6_single_172 ⟨Nat.zero_le _, Nat.zero_le _⟩) (fun H locs hP hD hS => ?_)
    have hf : (some (r_1, s6_1) : Option (Int32 × S6)) = some (r, s6f) := hf
    have he := Option.some.inj hf
    have he0 : r_1 = r := congrArg (fun q => q.1) he
    have he1 : s6_1 = s6f := congrArg (fun q => q.2) he
    exact hret _ _ _ _ _ _ he0 (by rw [← he1]) dX6_single_175 hP hD hS
  have J114 : ∀ (s6 : S6) (x3 : Int32) (t1 : Int32) (t2 : Int32) (t3 : Int32) (H : Heap) (locs : List Loc), va_P (dC, dI) vwCl (cf_6 cI cZ h6 h6a1 h6a2 h6a3 h6a4 h6a5 h6a7 h6a17 h6a18 s6) H → va_D A (cf_6 cI cZ h6 h6a1 h6a2 h6a3 h6a4 h6a5 h6a7 h6a17 h6a18 s6) → va_S A s.heap H locs → ∀ (ls : Array Slot), lv_has ls 6 [(0, .ref h6), (1, .int a1), (3, .int x3)] → fX6_single_114 a1 s6 x3 t1 t2 t3 = some (r, s6f) → W p l e rmX6_single s m ([.ref h6, .int a1] : List Value).toArray below meth c H locs 0 0 QQ (F0 m 114 ls [.int t3, .int t2, .int t1, .ref h6]) := by
    intro  s6 x3 t1 t2 t3 H locs hP hD hS ls hl hf
    unfold fX6_single_114 at hf
    obtain ⟨r_1, hc_1, hf⟩ := bn1_ok hf
    refine gc_i (wc := (cf_6 cI cZ h6 h6a1 h6a2 h6a3 h6a4 h6a5 h6a7 h6a17 h6a18 s6)) (wr := ([] : va_W)) (w1 := (cf_6 cI cZ h6 h6a1 h6a2 h6a3 h6a4 h6a5 h6a7 h6a17 h6a18 s6)) (ws' := (cf_6 cI cZ h6 h6a1 h6a2 h6a3 h6a4 h6a5 h6a7 h6a17 h6a18 s6)) hP hD hS hA [0, 1, 2, 3, 4, 5, 6, 7, 8] [] [0, 1, 2, 3, 4, 5, 6, 7, 8] rfl rfl (by decide) (by decide) rfl (by decide) (va_runV (As := [.int t1, .int t2, .int t3]) (rest := []) ⟨hx, hb, hml, hown, hts⟩ (ktX6_having l dC dI cI cZ h6 h6a1 h6a2 h6a3 h6a4 h6a5 h6a7 h6a17 h6a18 _ s6 t1 t2 t3 r_1 hc_1) (cwV 3 hts gX6_single_X6_having rfl rfl rfl (by decide +kernel) ⟨Nat.le_of_ble_eq_true rfl, Nat.le_of_ble_eq_true rfl⟩) (gc_V (ci := 6) (q0 := 0) (C := RX6) (T := TX6) (N := 25) (hP.sub (ws' := (cf_6 cI cZ h6 h6a1 h6a2 h6a3 h6a4 h6a5 h6a7 h6a17 h6a18 s6)) [0, 1, 2, 3, 4, 5, 6, 7, 8] rfl) (hK.sub (tys' := [(cI, .int), (cZ, .boolean)]) [0, 1] rfl) (hD.sub (ws' := (cf_6 cI cZ h6 h6a1 h6a2 h6a3 h6a4 h6a5 h6a7 h6a17 h6a18 s6)) [0, 1, 2, 3, 4, 5, 6, 7, 8] (by decide) rfl) hN rfl rfl) rfl rfl hl.1 rfl (lv_room (Nat.le_of_ble_eq_true rfl)) dX6_single_114 ⟨Nat.zero_le _, Nat.zero_le _⟩) (fun H locs hP hD hS => ?_)
    refine lv_istore (lv' := [(4, .int r_1), (0, .ref h6), (1, .int a1), (3, .int x3)]) hx hb dX6_single_117 hl (by decide) rfl (fun ls hl => ?_)
    refine lv_iload hx hb dX6_single_119 (lv_at hl 0 rfl) ?_
    obtain ⟨r_2, hc_2, hf⟩ := bn1_ok hf
    refine gc_i (wc := ([] : va_W)) (wr := (cf_6 cI cZ h6 h6a1 h6a2 h6a3 h6a4 h6a5 h6a7 h6a17 h6a18 s6)) (w1 := ([] : va_W)) (ws' := (cf_6 cI cZ h6 h6a1 h6a2 h6a3 h6a4 h6a5 h6a7 h6a17 h6a18 s6)) hP hD hS hA [] [0, 1, 2, 3, 4, 5, 6, 7, 8] [0, 1, 2, 3, 4, 5, 6, 7, 8] rfl rfl (by decide) (by decide) rfl (by decide) (va_runS (As := [.int r_1]) (rest := []) ⟨hx, hb, hml, hown, hts⟩ (ktX6_bits l dC dI _ r_1 r_2 hc_2) (va_cwS 1 hts gX6_single_X6_bits rfl rfl rfl (by decide +kernel) ⟨Nat.le_of_ble_eq_true rfl, Nat.le_of_ble_eq_true rfl⟩) (gc_S (hP.sub (ws' := ([] : va_W)) [] rfl) (hK.sub (tys' := []) [] rfl) (hD.sub (ws' := ([] : va_W)) [] (by decide) rfl) hN) rfl rfl hl.1 rfl (lv_room (Nat.le_of_ble_eq_true rfl)) dX6_single_121 ⟨Nat.zero_le _, Nat.zero_le _⟩) (fun H locs hP hD hS => ?_)
    refine lv_iconst (v := 1) hx hb dX6_single_124 (by decide) ?_
    refine lv_icmp_ne (tgt := 134) hx hb dX6_single_125 (by decide) (fun c_3 => ?_) (fun c_3 => ?_)
    · have hf := it_f c_3 hf
      refine lv_aload_n hx hb dX6_single_134 rfl (lv_at hl 1 rfl) ?_
      refine lv_iload_n hx hb dX6_single_135 rfl (lv_at hl 2 rfl) ?_
      refine lv_iload hx hb dX6_single_136 (lv_at hl 0 rfl) ?_
      obtain ⟨r_4, hc_4, hf⟩ := bn1_ok hf
      refine gc_i (wc := (cf_6 cI cZ h6 h6a1 h6a2 h6a3 h6a4 h6a5 h6a7 h6a17 h6a18 s6)) (wr := ([] : va_W)) (w1 := (cf_6 cI cZ h6 h6a1 h6a2 h6a3 h6a4 h6a5 h6a7 h6a17 h6a18 s6)) (ws' := (cf_6 cI cZ h6 h6a1 h6a2 h6a3 h6a4 h6a5 h6a7 h6a17 h6a18 s6)) hP hD hS hA [0, 1, 2, 3, 4, 5, 6, 7, 8] [] [0, 1, 2, 3, 4, 5, 6, 7, 8] rfl rfl (by decide) (by decide) rfl (by decide) (va_runV (As := [.int a1, .int r_1]) (rest := []) ⟨hx, hb, hml, hown, hts⟩ (ktX6_suited l dC dI cI cZ h6 h6a1 h6a2 h6a3 h6a4 h6a5 h6a7 h6a17 h6a18 _ s6 a1 r_1 r_4 hc_4) (cwV 2 hts gX6_single_X6_suited rfl rfl rfl (by decide +kernel) ⟨Nat.le_of_ble_eq_true rfl, Nat.le_of_ble_eq_true rfl⟩) (gc_V (ci := 6) (q0 := 0) (C := RX6) (T := TX6) (N := 25) (hP.sub (ws' := (cf_6 cI cZ h6 h6a1 h6a2 h6a3 h6a4 h6a5 h6a7 h6a17 h6a18 s6)) [0, 1, 2, 3, 4, 5, 6, 7, 8] rfl) (hK.sub (tys' := [(cI, .int), (cZ, .boolean)]) [0, 1] rfl) (hD.sub (ws' := (cf_6 cI cZ h6 h6a1 h6a2 h6a3 h6a4 h6a5 h6a7 h6a17 h6a18 s6)) [0, 1, 2, 3, 4, 5, 6, 7, 8] (by decide) rfl) hN rfl rfl) rfl rfl hl.1 rfl (lv_room (Nat.le_of_ble_eq_true rfl)) dX6_single_138 ⟨Nat.zero_le _, Nat.zero_le _⟩) (fun H locs hP hD hS => ?_)
      refine lv_istore (lv' := [(5, .int r_4), (4, .int r_1), (0, .ref h6), (1, .int a1), (3, .int x3)]) hx hb dX6_single_141 hl (by decide) rfl (fun ls hl => ?_)
      refine lv_iload hx hb dX6_single_143 (lv_at hl 0 rfl) ?_
      obtain ⟨r_5, hc_5, hf⟩ := bn1_ok hf
      refine gc_i (wc := ([] : va_W)) (wr := (cf_6 cI cZ h6 h6a1 h6a2 h6a3 h6a4 h6a5 h6a7 h6a17 h6a18 s6)) (w1 := ([] : va_W)) (ws' := (cf_6 cI cZ h6 h6a1 h6a2 h6a3 h6a4 h6a5 h6a7 h6a17 h6a18 s6)) hP hD hS hA [] [0, 1, 2, 3, 4, 5, 6, 7, 8] [0, 1, 2, 3, 4, 5, 6, 7, 8] rfl rfl (by decide) (by decide) rfl (by decide) (va_runS (As := [.int r_4]) (rest := []) ⟨hx, hb, hml, hown, hts⟩ (ktX6_bits l dC dI _ r_4 r_5 hc_5) (va_cwS 1 hts gX6_single_X6_bits rfl rfl rfl (by decide +kernel) ⟨Nat.le_of_ble_eq_true rfl, Nat.le_of_ble_eq_true rfl⟩) (gc_S (hP.sub (ws' := ([] : va_W)) [] rfl) (hK.sub (tys' := []) [] rfl) (hD.sub (ws' := ([] : va_W)) [] (by decide) rfl) hN) rfl rfl hl.1 rfl (lv_room (Nat.le_of_ble_eq_true rfl)) dX6_single_145 ⟨Nat.zero_le _, Nat.zero_le _⟩) (fun H locs hP hD hS => ?_)
      refine lv_iconst (v := 1) hx hb dX6_single_148 (by decide) ?_
      refine lv_icmp_ne (tgt := 158) hx hb dX6_single_149 (by decide) (fun c_6 => ?_) (fun c_6 => ?_)
      · have hf := it_f c_6 hf
        refine lv_aload_n hx hb dX6_single_158 rfl (lv_at hl 2 rfl) ?_
        refine lv_iload_n hx hb dX6_single_159 rfl (lv_at hl 4 rfl) ?_
        refine lv_iload hx hb dX6_single_160 (lv_at hl 0 rfl) ?_
        refine lv_if_ne (tgt := 170) hx hb dX6_single_162 (by decide) (fun c_7 => ?_) (fun c_7 => ?_)
        · have hf := it_f c_7 hf
          refine lv_iload hx hb dX6_single_170 (lv_at hl 0 rfl) ?_
          exact J172 s6 x3 r_4 _ _ hP hD hS _ (lv_sub hl [] rfl) hf
        · have hf := it_t c_7 hf
          refine lv_iload hx hb dX6_single_165 (lv_at hl 1 rfl) ?_
          refine lv_goto (tgt := 172) hx hb dX6_single_167 (by decide) ?_
          exact J172 s6 x3 r_1 _ _ hP hD hS _ (lv_sub hl [] rfl) hf
      · have hf := it_t c_6 hf
        refine lv_iload hx hb dX6_single_152 (lv_at hl 0 rfl) ?_
        obtain ⟨r_8, hc_8, hf⟩ := bn1_ok hf
        refine gc_i (wc := ([] : va_W)) (wr := (cf_6 cI cZ h6 h6a1 h6a2 h6a3 h6a4 h6a5 h6a7 h6a17 h6a18 s6)) (w1 := ([] : va_W)) (ws' := (cf_6 cI cZ h6 h6a1 h6a2 h6a3 h6a4 h6a5 h6a7 h6a17 h6a18 s6)) hP hD hS hA [] [0, 1, 2, 3, 4, 5, 6, 7, 8] [0, 1, 2, 3, 4, 5, 6, 7, 8] rfl rfl (by decide) (by decide) rfl (by decide) (va_runS (As := [.int r_4]) (rest := []) ⟨hx, hb, hml, hown, hts⟩ (ktX6_lowest l dC dI _ r_4 r_8 hc_8) (va_cwS 1 hts gX6_single_X6_lowest rfl rfl rfl (by decide +kernel) ⟨Nat.le_of_ble_eq_true rfl, Nat.le_of_ble_eq_true rfl⟩) (gc_S (hP.sub (ws' := ([] : va_W)) [] rfl) (hK.sub (tys' := []) [] rfl) (hD.sub (ws' := ([] : va_W)) [] (by decide) rfl) hN) rfl rfl hl.1 rfl (lv_room (Nat.le_of_ble_eq_true rfl)) dX6_single_154 ⟨Nat.zero_le _, Nat.zero_le _⟩) (fun H locs hP hD hS => ?_)
        have hf : (some (r_8, s6) : Option (Int32 × S6)) = some (r, s6f) := hf
        have he := Option.some.inj hf
        have he0 : r_8 = r := congrArg (fun q => q.1) he
        have he1 : s6 = s6f := congrArg (fun q => q.2) he
        exact hret _ _ _ _ _ _ he0 (by rw [← he1]) dX6_single_157 hP hD hS
    · have hf := it_t c_3 hf
      refine lv_iload hx hb dX6_single_128 (lv_at hl 0 rfl) ?_
      obtain ⟨r_9, hc_9, hf⟩ := bn1_ok hf
      refine gc_i (wc := ([] : va_W)) (wr := (cf_6 cI cZ h6 h6a1 h6a2 h6a3 h6a4 h6a5 h6a7 h6a17 h6a18 s6)) (w1 := ([] : va_W)) (ws' := (cf_6 cI cZ h6 h6a1 h6a2 h6a3 h6a4 h6a5 h6a7 h6a17 h6a18 s6)) hP hD hS hA [] [0, 1, 2, 3, 4, 5, 6, 7, 8] [0, 1, 2, 3, 4, 5, 6, 7, 8] rfl rfl (by decide) (by decide) rfl (by decide) (va_runS (As := [.int r_1]) (rest := []) ⟨hx, hb, hml, hown, hts⟩ (ktX6_lowest l dC dI _ r_1 r_9 hc_9) (va_cwS 1 hts gX6_single_X6_lowest rfl rfl rfl (by decide +kernel) ⟨Nat.le_of_ble_eq_true rfl, Nat.le_of_ble_eq_true rfl⟩) (gc_S (hP.sub (ws' := ([] : va_W)) [] rfl) (hK.sub (tys' := []) [] rfl) (hD.sub (ws' := ([] : va_W)) [] (by decide) rfl) hN) rfl rfl hl.1 rfl (lv_room (Nat.le_of_ble_eq_true rfl)) dX6_single_130 ⟨Nat.zero_le _, Nat.zero_le _⟩) (fun H locs hP hD hS => ?_)
      have hf : (some (r_9, s6) : Option (Int32 × S6)) = some (r, s6f) := hf
      have he := Option.some.inj hf
      have he0 : r_9 = r := congrArg (fun q => q.1) he
      have he1 : s6 = s6f := congrArg (fun q => q.2) he
      exact hret _ _ _ _ _ _ he0 (by rw [← he1]) dX6_single_133 hP hD hS
  unfold fX6_single at hf
  refine lv_aload_n hx hb dX6_single_0 rfl (lv_at hl 0 rfl) ?_
  refine va_get (D := (dC, dI)) (ci := 6) (v := .int (S6_at s6)) (C := RX6) (T := TX6) (N := 25) hx hb hts in6 hown hK hP 0 rfl rfl 21 (by decide) fl102 (fun _ h9 => h9) rfl dX6_single_1 ?_
  refine lv_istore_n (lv' := [(2, .int (S6_at s6)), (0, .ref h6), (1, .int a1)]) hx hb dX6_single_4 rfl hl (by decide) rfl (fun ls hl => ?_)
  refine lv_aload_n hx hb dX6_single_5 rfl (lv_at hl 1 rfl) ?_
  refine lv_iload_n hx hb dX6_single_6 rfl (lv_at hl 0 rfl) ?_
  obtain ⟨r_1, hc_1, hf⟩ := bn1_ok hf
  refine gc_i (wc := (cf_6 cI cZ h6 h6a1 h6a2 h6a3 h6a4 h6a5 h6a7 h6a17 h6a18 s6)) (wr := ([] : va_W)) (w1 := (cf_6 cI cZ h6 h6a1 h6a2 h6a3 h6a4 h6a5 h6a7 h6a17 h6a18 s6)) (ws' := (cf_6 cI cZ h6 h6a1 h6a2 h6a3 h6a4 h6a5 h6a7 h6a17 h6a18 s6)) hP hD hS hA [0, 1, 2, 3, 4, 5, 6, 7, 8] [] [0, 1, 2, 3, 4, 5, 6, 7, 8] rfl rfl (by decide) (by decide) rfl (by decide) (va_runV (As := [.int (S6_at s6)]) (rest := []) ⟨hx, hb, hml, hown, hts⟩ (ktX6_endOf l dC dI cI cZ h6 h6a1 h6a2 h6a3 h6a4 h6a5 h6a7 h6a17 h6a18 _ s6 (S6_at s6) r_1 hc_1) (cwV 1 hts gX6_single_X6_endOf rfl rfl rfl (by decide +kernel) ⟨Nat.le_of_ble_eq_true rfl, Nat.le_of_ble_eq_true rfl⟩) (gc_V (ci := 6) (q0 := 0) (C := RX6) (T := TX6) (N := 25) (hP.sub (ws' := (cf_6 cI cZ h6 h6a1 h6a2 h6a3 h6a4 h6a5 h6a7 h6a17 h6a18 s6)) [0, 1, 2, 3, 4, 5, 6, 7, 8] rfl) (hK.sub (tys' := [(cI, .int), (cZ, .boolean)]) [0, 1] rfl) (hD.sub (ws' := (cf_6 cI cZ h6 h6a1 h6a2 h6a3 h6a4 h6a5 h6a7 h6a17 h6a18 s6)) [0, 1, 2, 3, 4, 5, 6, 7, 8] (by decide) rfl) hN rfl rfl) rfl rfl hl.1 rfl (lv_room (Nat.le_of_ble_eq_true rfl)) dX6_single_7 ⟨Nat.zero_le _, Nat.zero_le _⟩) (fun H locs hP hD hS => ?_)
  refine lv_istore_n (lv' := [(3, .int r_1), (2, .int (S6_at s6)), (0, .ref h6), (1, .int a1)]) hx hb dX6_single_10 rfl hl (by decide) rfl (fun ls hl => ?_)
  refine lv_aload_n hx hb dX6_single_11 rfl (lv_at hl 2 rfl) ?_
  refine lv_iload_n hx hb dX6_single_12 rfl (lv_at hl 0 rfl) ?_
  refine lv_iconst (v := 1) hx hb dX6_single_13 (by decide) ?_
  refine lv_iadd hx hb dX6_single_14 ?_
  refine va_put (D := (dC, dI)) (ci := 6) (v := .int (r_1 + 1)) (ty := .int) (C := RX6) (T := TX6) (N := 25) hx hb hts in6 tyX6 tyX6_ok nmX6 hown hK hP hD hS 0 rfl rfl 21 (by decide) fl102 (fun _ h9 => h9) rfl (by decide +kernel) rfl rfl (Nat.le_of_ble_eq_true rfl) dX6_single_15 (fun H locs hP hD hS => ?_)
  have hP : va_P (dC, dI) vwCl (cf_6 cI cZ h6 h6a1 h6a2 h6a3 h6a4 h6a5 h6a7 h6a17 h6a18 (S6_set_at s6 (r_1 + 1))) H := Eq.mp (congrArg (fun w => va_P (dC, dI) vwCl w H) (cs6_at cI cZ h6 h6a1 h6a2 h6a3 h6a4 h6a5 h6a7 h6a17 h6a18 s6 (r_1 + 1))) hP
  have hD : va_D A (cf_6 cI cZ h6 h6a1 h6a2 h6a3 h6a4 h6a5 h6a7 h6a17 h6a18 (S6_set_at s6 (r_1 + 1))) := Eq.mp (congrArg (fun w => va_D A w) (cs6_at cI cZ h6 h6a1 h6a2 h6a3 h6a4 h6a5 h6a7 h6a17 h6a18 s6 (r_1 + 1))) hD
  refine lv_aload_n hx hb dX6_single_18 rfl (lv_at hl 2 rfl) ?_
  refine va_get (D := (dC, dI)) (ci := 6) (v := .ref h6a18) (C := RX6) (T := TX6) (N := 25) hx hb hts in6 hown hK hP 0 rfl rfl 18 (by decide) fl48 (fun _ h9 => h9) rfl dX6_single_19 ?_
  refine lv_iload_n hx hb dX6_single_22 rfl (lv_at hl 0 rfl) ?_
  obtain ⟨hi_2, hf⟩ := ai_ok hf
  refine va_iald (n := 24) (f := (S6_answer (S6_set_at s6 (r_1 + 1)))) hx hb hK hP 8 0 rfl rfl hi_2 dX6_single_23 ?_
  refine lv_iconst (v := (-1)) hx hb dX6_single_24 (by decide) ?_
  refine lv_icmp_eq (tgt := 35) hx hb dX6_single_25 (by decide) (fun c_3 => ?_) (fun c_3 => ?_)
  · have hf := it_t c_3 hf
    refine lv_aload_n hx hb dX6_single_35 rfl (lv_at hl 2 rfl) ?_
    refine va_get (D := (dC, dI)) (ci := 6) (v := .ref h6a17) (C := RX6) (T := TX6) (N := 25) hx hb hts in6 hown hK hP 0 rfl rfl 17 (by decide) fl45 (fun _ h9 => h9) rfl dX6_single_36 ?_
    refine lv_iload_n hx hb dX6_single_39 rfl (lv_at hl 0 rfl) ?_
    obtain ⟨hi_4, hf⟩ := ai_ok hf
    refine va_iald (n := 24) (f := (S6_order (S6_set_at s6 (r_1 + 1)))) hx hb hK hP 7 0 rfl rfl hi_4 dX6_single_40 ?_
    refine lv_bipush (v := 14) hx hb dX6_single_41 (by decide) ?_
    refine lv_icmp_ne (tgt := 79) hx hb dX6_single_43 (by decide) (fun c_5 => ?_) (fun c_5 => ?_)
    · have hf := it_f c_5 hf
      refine lv_aload_n hx hb dX6_single_79 rfl (lv_at hl 2 rfl) ?_
      refine lv_aload_n hx hb dX6_single_80 rfl (lv_at hl 2 rfl) ?_
      obtain ⟨r_6, hc_6, hf⟩ := bn1_ok hf
      refine gc_i (wc := (cf_6 cI cZ h6 h6a1 h6a2 h6a3 h6a4 h6a5 h6a7 h6a17 h6a18 (S6_set_at s6 (r_1 + 1)))) (wr := ([] : va_W)) (w1 := (cf_6 cI cZ h6 h6a1 h6a2 h6a3 h6a4 h6a5 h6a7 h6a17 h6a18 (S6_set_at s6 (r_1 + 1)))) (ws' := (cf_6 cI cZ h6 h6a1 h6a2 h6a3 h6a4 h6a5 h6a7 h6a17 h6a18 (S6_set_at s6 (r_1 + 1)))) hP hD hS hA [0, 1, 2, 3, 4, 5, 6, 7, 8] [] [0, 1, 2, 3, 4, 5, 6, 7, 8] rfl rfl (by decide) (by decide) rfl (by decide) (va_runV (As := []) (rest := [.ref h6]) ⟨hx, hb, hml, hown, hts⟩ (ktX6_reachable l dC dI cI cZ h6 h6a1 h6a2 h6a3 h6a4 h6a5 h6a7 h6a17 h6a18 _ (S6_set_at s6 (r_1 + 1)) r_6 hc_6) (cwV 0 hts gX6_single_X6_reachable rfl rfl rfl (by decide +kernel) ⟨Nat.le_of_ble_eq_true rfl, Nat.le_of_ble_eq_true rfl⟩) (gc_V (ci := 6) (q0 := 0) (C := RX6) (T := TX6) (N := 25) (hP.sub (ws' := (cf_6 cI cZ h6 h6a1 h6a2 h6a3 h6a4 h6a5 h6a7 h6a17 h6a18 (S6_set_at s6 (r_1 + 1)))) [0, 1, 2, 3, 4, 5, 6, 7, 8] rfl) (hK.sub (tys' := [(cI, .int), (cZ, .boolean)]) [0, 1] rfl) (hD.sub (ws' := (cf_6 cI cZ h6 h6a1 h6a2 h6a3 h6a4 h6a5 h6a7 h6a17 h6a18 (S6_set_at s6 (r_1 + 1)))) [0, 1, 2, 3, 4, 5, 6, 7, 8] (by decide) rfl) hN rfl rfl) rfl rfl hl.1 rfl (lv_room (Nat.le_of_ble_eq_true rfl)) dX6_single_81 ⟨Nat.zero_le _, Nat.zero_le _⟩) (fun H locs hP hD hS => ?_)
      refine lv_aload_n hx hb dX6_single_84 rfl (lv_at hl 2 rfl) ?_
      refine lv_iload_n hx hb dX6_single_85 rfl (lv_at hl 1 rfl) ?_
      refine lv_iload_n hx hb dX6_single_86 rfl (lv_at hl 0 rfl) ?_
      obtain ⟨r_7, hc_7, hf⟩ := bn1_ok hf
      refine gc_i (wc := (cf_6 cI cZ h6 h6a1 h6a2 h6a3 h6a4 h6a5 h6a7 h6a17 h6a18 (S6_set_at s6 (r_1 + 1)))) (wr := ([] : va_W)) (w1 := (cf_6 cI cZ h6 h6a1 h6a2 h6a3 h6a4 h6a5 h6a7 h6a17 h6a18 (S6_set_at s6 (r_1 + 1)))) (ws' := (cf_6 cI cZ h6 h6a1 h6a2 h6a3 h6a4 h6a5 h6a7 h6a17 h6a18 (S6_set_at s6 (r_1 + 1)))) hP hD hS hA [0, 1, 2, 3, 4, 5, 6, 7, 8] [] [0, 1, 2, 3, 4, 5, 6, 7, 8] rfl rfl (by decide) (by decide) rfl (by decide) (va_runV (As := [.int (S6_at s6), .int r_1]) (rest := [.int r_6, .ref h6]) ⟨hx, hb, hml, hown, hts⟩ (ktX6_adjectivesUpTo l dC dI cI cZ h6 h6a1 h6a2 h6a3 h6a4 h6a5 h6a7 h6a17 h6a18 _ (S6_set_at s6 (r_1 + 1)) (S6_at s6) r_1 r_7 hc_7) (cwV 2 hts gX6_single_X6_adjectivesUpTo rfl rfl rfl (by decide +kernel) ⟨Nat.le_of_ble_eq_true rfl, Nat.le_of_ble_eq_true rfl⟩) (gc_V (ci := 6) (q0 := 0) (C := RX6) (T := TX6) (N := 25) (hP.sub (ws' := (cf_6 cI cZ h6 h6a1 h6a2 h6a3 h6a4 h6a5 h6a7 h6a17 h6a18 (S6_set_at s6 (r_1 + 1)))) [0, 1, 2, 3, 4, 5, 6, 7, 8] rfl) (hK.sub (tys' := [(cI, .int), (cZ, .boolean)]) [0, 1] rfl) (hD.sub (ws' := (cf_6 cI cZ h6 h6a1 h6a2 h6a3 h6a4 h6a5 h6a7 h6a17 h6a18 (S6_set_at s6 (r_1 + 1)))) [0, 1, 2, 3, 4, 5, 6, 7, 8] (by decide) rfl) hN rfl rfl) rfl rfl hl.1 rfl (lv_room (Nat.le_of_ble_eq_true rfl)) dX6_single_87 ⟨Nat.zero_le _, Nat.zero_le _⟩) (fun H locs hP hD hS => ?_)
      refine lv_aload_n hx hb dX6_single_90 rfl (lv_at hl 2 rfl) ?_
      refine va_get (D := (dC, dI)) (ci := 6) (v := .ref h6a17) (C := RX6) (T := TX6) (N := 25) hx hb hts in6 hown hK hP 0 rfl rfl 17 (by decide) fl45 (fun _ h9 => h9) rfl dX6_single_91 ?_
      refine lv_iload_n hx hb dX6_single_94 rfl (lv_at hl 0 rfl) ?_
      obtain ⟨hi_8, hf⟩ := ai_ok hf
      refine va_iald (n := 24) (f := (S6_order (S6_set_at s6 (r_1 + 1)))) hx hb hK hP 7 0 rfl rfl hi_8 dX6_single_95 ?_
      refine lv_bipush (v := 17) hx hb dX6_single_96 (by decide) ?_
      refine lv_icmp_ne (tgt := 105) hx hb dX6_single_98 (by decide) (fun c_9 => ?_) (fun c_9 => ?_)
      · have hf := it_f c_9 hf
        refine lv_aload_n hx hb dX6_single_105 rfl (lv_at hl 2 rfl) ?_
        refine va_get (D := (dC, dI)) (ci := 6) (v := .ref h6a17) (C := RX6) (T := TX6) (N := 25) hx hb hts in6 hown hK hP 0 rfl rfl 17 (by decide) fl45 (fun _ h9 => h9) rfl dX6_single_106 ?_
        refine lv_iload_n hx hb dX6_single_109 rfl (lv_at hl 0 rfl) ?_
        obtain ⟨hi_10, hf⟩ := ai_ok hf
        refine va_iald (n := 24) (f := (S6_order (S6_set_at s6 (r_1 + 1)))) hx hb hK hP 7 0 rfl rfl hi_10 dX6_single_110 ?_
        refine lv_bipush (v := 30) hx hb dX6_single_111 (by decide) ?_
        refine lv_isub hx hb dX6_single_113 ?_
        exact J114 (S6_set_at s6 (r_1 + 1)) r_1 r_6 r_7 (((S6_order (S6_set_at s6 (r_1 + 1))) r_1.toNatClampNeg) - 30) _ _ hP hD hS _ (lv_sub hl [2, 3, 0] rfl) hf
      · have hf := it_t c_9 hf
        refine lv_iconst (v := (-1)) hx hb dX6_single_101 (by decide) ?_
        refine lv_goto (tgt := 114) hx hb dX6_single_102 (by decide) ?_
        exact J114 (S6_set_at s6 (r_1 + 1)) r_1 r_6 r_7 (-1) _ _ hP hD hS _ (lv_sub hl [2, 3, 0] rfl) hf
    · have hf := it_t c_5 hf
      refine lv_aload_n hx hb dX6_single_46 rfl (lv_at hl 2 rfl) ?_
      refine va_get (D := (dC, dI)) (ci := 6) (v := .int (S6_it (S6_set_at s6 (r_1 + 1)))) (C := RX6) (T := TX6) (N := 25) hx hb hts in6 hown hK hP 0 rfl rfl 14 (by decide) fl42 (fun _ h9 => h9) rfl dX6_single_47 ?_
      refine lv_iconst (v := (-1)) hx hb dX6_single_50 (by decide) ?_
      refine lv_icmp_eq (tgt := 72) hx hb dX6_single_51 (by decide) (fun c_11 => ?_) (fun c_11 => ?_)
      · have hf := it_t c_11 hf
        exact J72 (S6_set_at s6 (r_1 + 1)) r_1 _ _ hP hD hS _ (lv_sub hl [2, 0] rfl) hf
      · have hf := it_f c_11 hf
        refine lv_aload_n hx hb dX6_single_54 rfl (lv_at hl 2 rfl) ?_
        refine lv_aload_n hx hb dX6_single_55 rfl (lv_at hl 2 rfl) ?_
        refine va_get (D := (dC, dI)) (ci := 6) (v := .int (S6_it (S6_set_at s6 (r_1 + 1)))) (C := RX6) (T := TX6) (N := 25) hx hb hts in6 hown hK hP 0 rfl rfl 14 (by decide) fl42 (fun _ h9 => h9) rfl dX6_single_56 ?_
        obtain ⟨r_12, hc_12, hf⟩ := bn1_ok hf
        refine gc_i (wc := (cf_6 cI cZ h6 h6a1 h6a2 h6a3 h6a4 h6a5 h6a7 h6a17 h6a18 (S6_set_at s6 (r_1 + 1)))) (wr := ([] : va_W)) (w1 := (cf_6 cI cZ h6 h6a1 h6a2 h6a3 h6a4 h6a5 h6a7 h6a17 h6a18 (S6_set_at s6 (r_1 + 1)))) (ws' := (cf_6 cI cZ h6 h6a1 h6a2 h6a3 h6a4 h6a5 h6a7 h6a17 h6a18 (S6_set_at s6 (r_1 + 1)))) hP hD hS hA [0, 1, 2, 3, 4, 5, 6, 7, 8] [] [0, 1, 2, 3, 4, 5, 6, 7, 8] rfl rfl (by decide) (by decide) rfl (by decide) (va_runV (As := [.int (S6_it (S6_set_at s6 (r_1 + 1)))]) (rest := []) ⟨hx, hb, hml, hown, hts⟩ (ktX6_reaches l dC dI cI cZ h6 h6a1 h6a2 h6a3 h6a4 h6a5 h6a7 h6a17 h6a18 _ (S6_set_at s6 (r_1 + 1)) (S6_it (S6_set_at s6 (r_1 + 1))) r_12 hc_12) (cwV 1 hts gX6_single_X6_reaches rfl rfl rfl (by decide +kernel) ⟨Nat.le_of_ble_eq_true rfl, Nat.le_of_ble_eq_true rfl⟩) (gc_V (ci := 6) (q0 := 0) (C := RX6) (T := TX6) (N := 25) (hP.sub (ws' := (cf_6 cI cZ h6 h6a1 h6a2 h6a3 h6a4 h6a5 h6a7 h6a17 h6a18 (S6_set_at s6 (r_1 + 1)))) [0, 1, 2, 3, 4, 5, 6, 7, 8] rfl) (hK.sub (tys' := [(cI, .int), (cZ, .boolean)]) [0, 1] rfl) (hD.sub (ws' := (cf_6 cI cZ h6 h6a1 h6a2 h6a3 h6a4 h6a5 h6a7 h6a17 h6a18 (S6_set_at s6 (r_1 + 1)))) [0, 1, 2, 3, 4, 5, 6, 7, 8] (by decide) rfl) hN rfl rfl) rfl rfl hl.1 rfl (lv_room (Nat.le_of_ble_eq_true rfl)) dX6_single_59 ⟨Nat.zero_le _, Nat.zero_le _⟩) (fun H locs hP hD hS => ?_)
        refine lv_if_eq (tgt := 72) hx hb dX6_single_62 (by decide) (fun c_13 => ?_) (fun c_13 => ?_)
        · have hf := it_t c_13 hf
          exact J72 (S6_set_at s6 (r_1 + 1)) r_1 _ _ hP hD hS _ (lv_sub hl [2, 0] rfl) hf
        · have hf := it_f c_13 hf
          refine lv_aload_n hx hb dX6_single_65 rfl (lv_at hl 2 rfl) ?_
          refine va_get (D := (dC, dI)) (ci := 6) (v := .int (S6_it (S6_set_at s6 (r_1 + 1)))) (C := RX6) (T := TX6) (N := 25) hx hb hts in6 hown hK hP 0 rfl rfl 14 (by decide) fl42 (fun _ h9 => h9) rfl dX6_single_66 ?_
          refine lv_goto (tgt := 78) hx hb dX6_single_69 (by decide) ?_
          exact J78 (S6_set_at s6 (r_1 + 1)) (S6_it (S6_set_at s6 (r_1 + 1))) _ _ hP hD hS _ (lv_sub hl [] rfl) hf
  · have hf := it_f c_3 hf
    refine lv_aload_n hx hb dX6_single_28 rfl (lv_at hl 2 rfl) ?_
    refine va_get (D := (dC, dI)) (ci := 6) (v := .ref h6a18) (C := RX6) (T := TX6) (N := 25) hx hb hts in6 hown hK hP 0 rfl rfl 18 (by decide) fl48 (fun _ h9 => h9) rfl dX6_single_29 ?_
    refine lv_iload_n hx hb dX6_single_32 rfl (lv_at hl 0 rfl) ?_
    obtain ⟨hi_14, hf⟩ := ai_ok hf
    refine va_iald (n := 24) (f := (S6_answer (S6_set_at s6 (r_1 + 1)))) hx hb hK hP 8 0 rfl rfl hi_14 dX6_single_33 ?_
    have hf : (some (((S6_answer (S6_set_at s6 (r_1 + 1))) r_1.toNatClampNeg), (S6_set_at s6 (r_1 + 1))) : Option (Int32 × S6)) = some (r, s6f) := hf
    have he := Option.some.inj hf
    have he0 : ((S6_answer (S6_set_at s6 (r_1 + 1))) r_1.toNatClampNeg) = r := congrArg (fun q => q.1) he
    have he1 : (S6_set_at s6 (r_1 + 1)) = s6f := congrArg (fun q => q.2) he
    exact hret _ _ _ _ _ _ he0 (by rw [← he1]) dX6_single_34 hP hD hS
abbrev rmX6_isSingleAt : Room := { frames := 2, cells := 0, slots := 0, locals := 42 }
set_option maxHeartbeats 2000000 in
set_option maxRecDepth 100000 in
theorem ktX6_isSingleAt (l : Launch) (dC : Nat → ClassId) (dI : Nat → Nat → Nat) (cI cZ : ClassId) (h6 h6a1 h6a2 h6a3 h6a4 h6a5 h6a7 h6a17 h6a18 : Nat) (sz : Nat) (s6 : S6) (a1 : Int32) (r : Int32) (hf : fX6_isSingleAt s6 a1 = some r) : Met l yX6_isSingleAt wsX6_isSingleAt rmX6_isSingleAt (va_Pc [.ref h6, .int a1] (pre_w (dC, dI) (cf_6 cI cZ h6 h6a1 h6a2 h6a3 h6a4 h6a5 h6a7 h6a17 h6a18 s6) [(cI, .int), (cZ, .boolean)] sz)) (va_Qi (fun (r' : Int32) (_ : Unit) => r' = r) (post_w (dC, dI) (cf_6 cI cZ h6 h6a1 h6a2 h6a3 h6a4 h6a5 h6a7 h6a17 h6a18 s6) [(cI, .int), (cZ, .boolean)] (va_A (cf_6 cI cZ h6 h6a1 h6a2 h6a3 h6a4 h6a5 h6a7 h6a17 h6a18 s6) sz)) (va_A (cf_6 cI cZ h6 h6a1 h6a2 h6a3 h6a4 h6a5 h6a7 h6a17 h6a18 s6) sz)) 0 0 (va_A (cf_6 cI cZ h6 h6a1 h6a2 h6a3 h6a4 h6a5 h6a7 h6a17 h6a18 s6) sz) := by
  refine gm_z (cc := cX6_isSingleAt) (maxL := 3) (by decide) rfl (Nat.le_of_ble_eq_true rfl) ?_
  intro p e s m below meth c A QQ ls hx hb hml hown hts hK hN hA hP hD hS hl hret
  have hown : s.vm.findClass RX6 = some m.cls := hown
  have hl : lv_has ls 3 [(0, .ref h6), (1, .int a1)] := hl
  have in6 : ∀ w ∈ u_ws RX6 TX6 25, w ∈ wsX6_isSingleAt := by decide +kernel
  have fl45 := hts (.fieldLink RX6 45 "ParserParlourModel" "order" "[I") (by decide +kernel)
  have J35 : ∀ (t0 : Int32) (H : Heap) (locs : List Loc), va_P (dC, dI) vwCl (cf_6 cI cZ h6 h6a1 h6a2 h6a3 h6a4 h6a5 h6a7 h6a17 h6a18 s6) H → va_D A (cf_6 cI cZ h6 h6a1 h6a2 h6a3 h6a4 h6a5 h6a7 h6a17 h6a18 s6) → va_S A s.heap H locs → ∀ (ls : Array Slot), lv_has ls 3 [] → fX6_isSingleAt_35 s6 a1 t0 = some r → W p l e rmX6_isSingleAt s m ([.ref h6, .int a1] : List Value).toArray below meth c H locs 0 0 QQ (F0 m 35 ls [.int t0]) := by
    intro  t0 H locs hP hD hS ls hl hf
    unfold fX6_isSingleAt_35 at hf
    obtain ⟨hz_1, hf⟩ := bo_ok hf
    have hf : (some t0 : Option (Int32)) = some r := hf
    have he := Option.some.inj hf
    have he0 : t0 = r := he
    exact hret _ _ _ _ _ _ hz_1 he0 rfl dX6_isSingleAt_35 hP hD hS
  have J30 : ∀ (H : Heap) (locs : List Loc), va_P (dC, dI) vwCl (cf_6 cI cZ h6 h6a1 h6a2 h6a3 h6a4 h6a5 h6a7 h6a17 h6a18 s6) H → va_D A (cf_6 cI cZ h6 h6a1 h6a2 h6a3 h6a4 h6a5 h6a7 h6a17 h6a18 s6) → va_S A s.heap H locs → ∀ (ls : Array Slot), lv_has ls 3 [] → fX6_isSingleAt_30 s6 a1 = some r → W p l e rmX6_isSingleAt s m ([.ref h6, .int a1] : List Value).toArray below meth c H locs 0 0 QQ (F0 m 30 ls []) := by
    intro   H locs hP hD hS ls hl hf
    unfold fX6_isSingleAt_30 at hf
    refine lv_iconst (v := 1) hx hb dX6_isSingleAt_30 (by decide) ?_
    refine lv_goto (tgt := 35) hx hb dX6_isSingleAt_31 (by decide) ?_
    exact J35 1 _ _ hP hD hS _ (lv_sub hl [] rfl) hf
  unfold fX6_isSingleAt at hf
  refine lv_aload_n hx hb dX6_isSingleAt_0 rfl (lv_at hl 0 rfl) ?_
  refine va_get (D := (dC, dI)) (ci := 6) (v := .ref h6a17) (C := RX6) (T := TX6) (N := 25) hx hb hts in6 hown hK hP 0 rfl rfl 17 (by decide) fl45 (fun _ h9 => h9) rfl dX6_isSingleAt_1 ?_
  refine lv_aload_n hx hb dX6_isSingleAt_4 rfl (lv_at hl 0 rfl) ?_
  refine lv_iload_n hx hb dX6_isSingleAt_5 rfl (lv_at hl 1 rfl) ?_
  obtain ⟨r_1, hc_1, hf⟩ := bn1_ok hf
  refine gc_i (wc := (cf_6 cI cZ h6 h6a1 h6a2 h6a3 h6a4 h6a5 h6a7 h6a17 h6a18 s6)) (wr := ([] : va_W)) (w1 := (cf_6 cI cZ h6 h6a1 h6a2 h6a3 h6a4 h6a5 h6a7 h6a17 h6a18 s6)) (ws' := (cf_6 cI cZ h6 h6a1 h6a2 h6a3 h6a4 h6a5 h6a7 h6a17 h6a18 s6)) hP hD hS hA [0, 1, 2, 3, 4, 5, 6, 7, 8] [] [0, 1, 2, 3, 4, 5, 6, 7, 8] rfl rfl (by decide) (by decide) rfl (by decide) (va_runV (As := [.int a1]) (rest := [.ref h6a17]) ⟨hx, hb, hml, hown, hts⟩ (ktX6_endOf l dC dI cI cZ h6 h6a1 h6a2 h6a3 h6a4 h6a5 h6a7 h6a17 h6a18 _ s6 a1 r_1 hc_1) (cwV 1 hts gX6_isSingleAt_X6_endOf rfl rfl rfl (by decide +kernel) ⟨Nat.le_of_ble_eq_true rfl, Nat.le_of_ble_eq_true rfl⟩) (gc_V (ci := 6) (q0 := 0) (C := RX6) (T := TX6) (N := 25) (hP.sub (ws' := (cf_6 cI cZ h6 h6a1 h6a2 h6a3 h6a4 h6a5 h6a7 h6a17 h6a18 s6)) [0, 1, 2, 3, 4, 5, 6, 7, 8] rfl) (hK.sub (tys' := [(cI, .int), (cZ, .boolean)]) [0, 1] rfl) (hD.sub (ws' := (cf_6 cI cZ h6 h6a1 h6a2 h6a3 h6a4 h6a5 h6a7 h6a17 h6a18 s6)) [0, 1, 2, 3, 4, 5, 6, 7, 8] (by decide) rfl) hN rfl rfl) rfl rfl hl.1 rfl (lv_room (Nat.le_of_ble_eq_true rfl)) dX6_isSingleAt_6 ⟨Nat.zero_le _, Nat.zero_le _⟩) (fun H locs hP hD hS => ?_)
  obtain ⟨hi_2, hf⟩ := ai_ok hf
  refine va_iald (n := 24) (f := (S6_order s6)) hx hb hK hP 7 0 rfl rfl hi_2 dX6_isSingleAt_9 ?_
  refine lv_istore_n (lv' := [(2, .int ((S6_order s6) r_1.toNatClampNeg)), (0, .ref h6), (1, .int a1)]) hx hb dX6_isSingleAt_10 rfl hl (by decide) rfl (fun ls hl => ?_)
  refine lv_iload_n hx hb dX6_isSingleAt_11 rfl (lv_at hl 0 rfl) ?_
  obtain ⟨r_3, hc_3, hf⟩ := bn1_ok hf
  refine gc_i (wc := ([] : va_W)) (wr := (cf_6 cI cZ h6 h6a1 h6a2 h6a3 h6a4 h6a5 h6a7 h6a17 h6a18 s6)) (w1 := ([] : va_W)) (ws' := (cf_6 cI cZ h6 h6a1 h6a2 h6a3 h6a4 h6a5 h6a7 h6a17 h6a18 s6)) hP hD hS hA [] [0, 1, 2, 3, 4, 5, 6, 7, 8] [0, 1, 2, 3, 4, 5, 6, 7, 8] rfl rfl (by decide) (by decide) rfl (by decide) (va_runS (As := [.int ((S6_order s6) r_1.toNatClampNeg)]) (rest := []) ⟨hx, hb, hml, hown, hts⟩ (ktX6_isNoun l dC dI _ ((S6_order s6) r_1.toNatClampNeg) r_3 hc_3) (va_cwS 1 hts gX6_isSingleAt_X6_isNoun rfl rfl rfl (by decide +kernel) ⟨Nat.le_of_ble_eq_true rfl, Nat.le_of_ble_eq_true rfl⟩) (gc_S (hP.sub (ws' := ([] : va_W)) [] rfl) (hK.sub (tys' := []) [] rfl) (hD.sub (ws' := ([] : va_W)) [] (by decide) rfl) hN) rfl rfl hl.1 rfl (lv_room (Nat.le_of_ble_eq_true rfl)) dX6_isSingleAt_12 ⟨Nat.zero_le _, Nat.zero_le _⟩) (fun H locs hP hD hS => ?_)
  refine lv_if_ne (tgt := 30) hx hb dX6_isSingleAt_15 (by decide) (fun c_4 => ?_) (fun c_4 => ?_)
  · have hf := it_f c_4 hf
    exact J30 _ _ hP hD hS _ (lv_sub hl [] rfl) hf
  · have hf := it_t c_4 hf
    refine lv_iload_n hx hb dX6_isSingleAt_18 rfl (lv_at hl 0 rfl) ?_
    refine lv_bipush (v := 17) hx hb dX6_isSingleAt_19 (by decide) ?_
    refine lv_icmp_eq (tgt := 30) hx hb dX6_isSingleAt_21 (by decide) (fun c_5 => ?_) (fun c_5 => ?_)
    · have hf := it_t c_5 hf
      exact J30 _ _ hP hD hS _ (lv_sub hl [] rfl) hf
    · have hf := it_f c_5 hf
      refine lv_iload_n hx hb dX6_isSingleAt_24 rfl (lv_at hl 0 rfl) ?_
      refine lv_bipush (v := 14) hx hb dX6_isSingleAt_25 (by decide) ?_
      refine lv_icmp_ne (tgt := 34) hx hb dX6_isSingleAt_27 (by decide) (fun c_6 => ?_) (fun c_6 => ?_)
      · have hf := it_f c_6 hf
        refine lv_iconst (v := 0) hx hb dX6_isSingleAt_34 (by decide) ?_
        exact J35 0 _ _ hP hD hS _ (lv_sub hl [] rfl) hf
      · have hf := it_t c_6 hf
        exact J30 _ _ hP hD hS _ (lv_sub hl [] rfl) hf
abbrev rmX6_part : Room := { frames := 4, cells := 0, slots := 0, locals := 94 }
set_option maxHeartbeats 2000000 in
set_option maxRecDepth 100000 in
theorem ktX6_part (l : Launch) (dC : Nat → ClassId) (dI : Nat → Nat → Nat) (cI cZ : ClassId) (h6 h6a1 h6a2 h6a3 h6a4 h6a5 h6a7 h6a17 h6a18 : Nat) (sz : Nat) (s6 : S6) (r : Int32) (s6f : S6) (hf : fX6_part s6 = some (r, s6f)) : Met l yX6_part wsX6_part rmX6_part (va_Pc [.ref h6] (pre_w (dC, dI) (cf_6 cI cZ h6 h6a1 h6a2 h6a3 h6a4 h6a5 h6a7 h6a17 h6a18 s6) [(cI, .int), (cZ, .boolean)] sz)) (va_Qi (fun (r' : Int32) (_ : Unit) => r' = r) (post_w (dC, dI) (cf_6 cI cZ h6 h6a1 h6a2 h6a3 h6a4 h6a5 h6a7 h6a17 h6a18 s6f) [(cI, .int), (cZ, .boolean)] (va_A (cf_6 cI cZ h6 h6a1 h6a2 h6a3 h6a4 h6a5 h6a7 h6a17 h6a18 s6) sz)) (va_A (cf_6 cI cZ h6 h6a1 h6a2 h6a3 h6a4 h6a5 h6a7 h6a17 h6a18 s6) sz)) 0 0 (va_A (cf_6 cI cZ h6 h6a1 h6a2 h6a3 h6a4 h6a5 h6a7 h6a17 h6a18 s6) sz) := by
  refine gm_i (cc := cX6_part) (maxL := 7) (by decide) rfl (Nat.le_of_ble_eq_true rfl) ?_
  intro p e s m below meth c A QQ ls hx hb hml hown hts hK hN hA hP hD hS hl hret
  have hown : s.vm.findClass RX6 = some m.cls := hown
  have hl : lv_has ls 7 [(0, .ref h6)] := hl
  have in6 : ∀ w ∈ u_ws RX6 TX6 25, w ∈ wsX6_part := by decide +kernel
  have fl102 := hts (.fieldLink RX6 102 "ParserParlourModel" "at" "I") (by decide +kernel)
  have fl140 := hts (.fieldLink RX6 140 "ParserParlourModel" "meant" "I") (by decide +kernel)
  have fl105 := hts (.fieldLink RX6 105 "ParserParlourModel" "length" "I") (by decide +kernel)
  have fl45 := hts (.fieldLink RX6 45 "ParserParlourModel" "order" "[I") (by decide +kernel)
  have J45 : ∀ (s6 : S6) (x1 : Int32) (H : Heap) (locs : List Loc), va_P (dC, dI) vwCl (cf_6 cI cZ h6 h6a1 h6a2 h6a3 h6a4 h6a5 h6a7 h6a17 h6a18 s6) H → va_D A (cf_6 cI cZ h6 h6a1 h6a2 h6a3 h6a4 h6a5 h6a7 h6a17 h6a18 s6) → va_S A s.heap H locs → ∀ (ls : Array Slot), lv_has ls 7 [(1, .int x1)] → fX6_part_45 s6 x1 = some (r, s6f) → W p l e rmX6_part s m ([.ref h6] : List Value).toArray below meth c H locs 0 0 QQ (F0 m 45 ls []) := by
    intro  s6 x1 H locs hP hD hS ls hl hf
    unfold fX6_part_45 at hf
    refine lv_iload_n hx hb dX6_part_45 rfl (lv_at hl 0 rfl) ?_
    have hf : (some (x1, s6) : Option (Int32 × S6)) = some (r, s6f) := hf
    have he := Option.some.inj hf
    have he0 : x1 = r := congrArg (fun q => q.1) he
    have he1 : s6 = s6f := congrArg (fun q => q.2) he
    exact hret _ _ _ _ _ _ he0 (by rw [← he1]) dX6_part_46 hP hD hS
  have J269 : ∀ (k200 : S6 → Int32 → Int32 → Int32 → Int32 → Option (Int32 × S6)) (hk200 : ∀ (s6 : S6) (x1 : Int32) (x2 : Int32) (x3 : Int32) (x4 : Int32) (H : Heap) (locs : List Loc), va_P (dC, dI) vwCl (cf_6 cI cZ h6 h6a1 h6a2 h6a3 h6a4 h6a5 h6a7 h6a17 h6a18 s6) H → va_D A (cf_6 cI cZ h6 h6a1 h6a2 h6a3 h6a4 h6a5 h6a7 h6a17 h6a18 s6) → va_S A s.heap H locs → ∀ (ls : Array Slot), lv_has ls 7 [(0, .ref h6), (1, .int x1), (2, .int x2), (3, .int x3), (4, .int x4)] → k200 s6 x1 x2 x3 x4 = some (r, s6f) → W p l e rmX6_part s m ([.ref h6] : List Value).toArray below meth c H locs 0 0 QQ (F0 m 200 ls [])) (s6 : S6) (x1 : Int32) (x2 : Int32) (x3 : Int32) (t0 : Int32) (H : Heap) (locs : List Loc), va_P (dC, dI) vwCl (cf_6 cI cZ h6 h6a1 h6a2 h6a3 h6a4 h6a5 h6a7 h6a17 h6a18 s6) H → va_D A (cf_6 cI cZ h6 h6a1 h6a2 h6a3 h6a4 h6a5 h6a7 h6a17 h6a18 s6) → va_S A s.heap H locs → ∀ (ls : Array Slot), lv_has ls 7 [(0, .ref h6), (1, .int x1), (2, .int x2), (3, .int x3)] → fX6_part_269 k200 s6 x1 x2 x3 t0 = some (r, s6f) → W p l e rmX6_part s m ([.ref h6] : List Value).toArray below meth c H locs 0 0 QQ (F0 m 269 ls [.int t0]) := by
    intro k200 hk200 s6 x1 x2 x3 t0 H locs hP hD hS ls hl hf
    unfold fX6_part_269 at hf
    refine lv_istore (lv' := [(4, .int t0), (0, .ref h6), (1, .int x1), (2, .int x2), (3, .int x3)]) hx hb dX6_part_269 hl (by decide) rfl (fun ls hl => ?_)
    refine lv_goto (tgt := 200) hx hb dX6_part_271 (by decide) ?_
    exact hk200 s6 x1 x2 x3 t0 _ _ hP hD hS _ (lv_sub hl [1, 2, 3, 4, 0] rfl) hf
  have J268 : ∀ (k200 : S6 → Int32 → Int32 → Int32 → Int32 → Option (Int32 × S6)) (hk200 : ∀ (s6 : S6) (x1 : Int32) (x2 : Int32) (x3 : Int32) (x4 : Int32) (H : Heap) (locs : List Loc), va_P (dC, dI) vwCl (cf_6 cI cZ h6 h6a1 h6a2 h6a3 h6a4 h6a5 h6a7 h6a17 h6a18 s6) H → va_D A (cf_6 cI cZ h6 h6a1 h6a2 h6a3 h6a4 h6a5 h6a7 h6a17 h6a18 s6) → va_S A s.heap H locs → ∀ (ls : Array Slot), lv_has ls 7 [(0, .ref h6), (1, .int x1), (2, .int x2), (3, .int x3), (4, .int x4)] → k200 s6 x1 x2 x3 x4 = some (r, s6f) → W p l e rmX6_part s m ([.ref h6] : List Value).toArray below meth c H locs 0 0 QQ (F0 m 200 ls [])) (s6 : S6) (x1 : Int32) (x2 : Int32) (x3 : Int32) (H : Heap) (locs : List Loc), va_P (dC, dI) vwCl (cf_6 cI cZ h6 h6a1 h6a2 h6a3 h6a4 h6a5 h6a7 h6a17 h6a18 s6) H → va_D A (cf_6 cI cZ h6 h6a1 h6a2 h6a3 h6a4 h6a5 h6a7 h6a17 h6a18 s6) → va_S A s.heap H locs → ∀ (ls : Array Slot), lv_has ls 7 [(0, .ref h6), (1, .int x1), (2, .int x2), (3, .int x3)] → fX6_part_268 k200 s6 x1 x2 x3 = some (r, s6f) → W p l e rmX6_part s m ([.ref h6] : List Value).toArray below meth c H locs 0 0 QQ (F0 m 268 ls []) := by
    intro k200 hk200 s6 x1 x2 x3 H locs hP hD hS ls hl hf
    unfold fX6_part_268 at hf
    refine lv_iconst (v := 0) hx hb dX6_part_268 (by decide) ?_
    exact J269 k200 hk200 s6 x1 x2 x3 0 _ _ hP hD hS _ (lv_sub hl [0, 1, 2, 3] rfl) hf
  have J345 : ∀ (s6 : S6) (x6 : Int32) (H : Heap) (locs : List Loc), va_P (dC, dI) vwCl (cf_6 cI cZ h6 h6a1 h6a2 h6a3 h6a4 h6a5 h6a7 h6a17 h6a18 s6) H → va_D A (cf_6 cI cZ h6 h6a1 h6a2 h6a3 h6a4 h6a5 h6a7 h6a17 h6a18 s6) → va_S A s.heap H locs → ∀ (ls : Array Slot), lv_has ls 7 [(6, .int x6)] → fX6_part_345 s6 x6 = some (r, s6f) → W p l e rmX6_part s m ([.ref h6] : List Value).toArray below meth c H locs 0 0 QQ (F0 m 345 ls []) := by
    intro  s6 x6 H locs hP hD hS ls hl hf
    unfold fX6_part_345 at hf
    refine lv_iload hx hb dX6_part_345 (lv_at hl 0 rfl) ?_
    have hf : (some (x6, s6) : Option (Int32 × S6)) = some (r, s6f) := hf
    have he := Option.some.inj hf
    have he0 : x6 = r := congrArg (fun q => q.1) he
    have he1 : s6 = s6f := congrArg (fun q => q.2) he
    exact hret _ _ _ _ _ _ he0 (by rw [← he1]) dX6_part_347 hP hD hS
  have J299 : ∀ (s6 : S6) (x1 : Int32) (x2 : Int32) (x3 : Int32) (t0 : Int32) (H : Heap) (locs : List Loc), va_P (dC, dI) vwCl (cf_6 cI cZ h6 h6a1 h6a2 h6a3 h6a4 h6a5 h6a7 h6a17 h6a18 s6) H → va_D A (cf_6 cI cZ h6 h6a1 h6a2 h6a3 h6a4 h6a5 h6a7 h6a17 h6a18 s6) → va_S A s.heap H locs → ∀ (ls : Array Slot), lv_has ls 7 [(0, .ref h6), (1, .int x1), (2, .int x2), (3, .int x3)] → fX6_part_299 s6 x1 x2 x3 t0 = some (r, s6f) → W p l e rmX6_part s m ([.ref h6] : List Value).toArray below meth c H locs 0 0 QQ (F0 m 299 ls [.int t0]) := by
    intro  s6 x1 x2 x3 t0 H locs hP hD hS ls hl hf
    unfold fX6_part_299 at hf
    refine lv_istore (lv' := [(5, .int t0), (0, .ref h6), (1, .int x1), (2, .int x2), (3, .int x3)]) hx hb dX6_part_299 hl (by decide) rfl (fun ls hl => ?_)
    refine lv_aload_n hx hb dX6_part_301 rfl (lv_at hl 1 rfl) ?_
    refine lv_aload_n hx hb dX6_part_302 rfl (lv_at hl 1 rfl) ?_
    refine va_get (D := (dC, dI)) (ci := 6) (v := .ref h6a17) (C := RX6) (T := TX6) (N := 25) hx hb hts in6 hown hK hP 0 rfl rfl 17 (by decide) fl45 (fun _ h9 => h9) rfl dX6_part_303 ?_
    refine lv_iconst (v := 0) hx hb dX6_part_306 (by decide) ?_
    obtain ⟨hi_1, hf⟩ := ai_ok hf
    refine va_iald (n := 24) (f := (S6_order s6)) hx hb hK hP 7 0 rfl rfl hi_1 dX6_part_307 ?_
    refine lv_aload_n hx hb dX6_part_308 rfl (lv_at hl 1 rfl) ?_
    refine lv_aload_n hx hb dX6_part_309 rfl (lv_at hl 1 rfl) ?_
    obtain ⟨r_2, hc_2, hf⟩ := bn1_ok hf
    refine gc_i (wc := (cf_6 cI cZ h6 h6a1 h6a2 h6a3 h6a4 h6a5 h6a7 h6a17 h6a18 s6)) (wr := ([] : va_W)) (w1 := (cf_6 cI cZ h6 h6a1 h6a2 h6a3 h6a4 h6a5 h6a7 h6a17 h6a18 s6)) (ws' := (cf_6 cI cZ h6 h6a1 h6a2 h6a3 h6a4 h6a5 h6a7 h6a17 h6a18 s6)) hP hD hS hA [0, 1, 2, 3, 4, 5, 6, 7, 8] [] [0, 1, 2, 3, 4, 5, 6, 7, 8] rfl rfl (by decide) (by decide) rfl (by decide) (va_runV (As := []) (rest := [.ref h6, .int ((S6_order s6) (0 : Int32).toNatClampNeg), .ref h6]) ⟨hx, hb, hml, hown, hts⟩ (ktX6_reachable l dC dI cI cZ h6 h6a1 h6a2 h6a3 h6a4 h6a5 h6a7 h6a17 h6a18 _ s6 r_2 hc_2) (cwV 0 hts gX6_part_X6_reachable rfl rfl rfl (by decide +kernel) ⟨Nat.le_of_ble_eq_true rfl, Nat.le_of_ble_eq_true rfl⟩) (gc_V (ci := 6) (q0 := 0) (C := RX6) (T := TX6) (N := 25) (hP.sub (ws' := (cf_6 cI cZ h6 h6a1 h6a2 h6a3 h6a4 h6a5 h6a7 h6a17 h6a18 s6)) [0, 1, 2, 3, 4, 5, 6, 7, 8] rfl) (hK.sub (tys' := [(cI, .int), (cZ, .boolean)]) [0, 1] rfl) (hD.sub (ws' := (cf_6 cI cZ h6 h6a1 h6a2 h6a3 h6a4 h6a5 h6a7 h6a17 h6a18 s6)) [0, 1, 2, 3, 4, 5, 6, 7, 8] (by decide) rfl) hN rfl rfl) rfl rfl hl.1 rfl (lv_room (Nat.le_of_ble_eq_true rfl)) dX6_part_310 ⟨Nat.zero_le _, Nat.zero_le _⟩) (fun H locs hP hD hS => ?_)
    refine lv_aload_n hx hb dX6_part_313 rfl (lv_at hl 1 rfl) ?_
    refine lv_iload_n hx hb dX6_part_314 rfl (lv_at hl 2 rfl) ?_
    refine lv_iload_n hx hb dX6_part_315 rfl (lv_at hl 3 rfl) ?_
    obtain ⟨r_3, hc_3, hf⟩ := bn1_ok hf
    refine gc_i (wc := (cf_6 cI cZ h6 h6a1 h6a2 h6a3 h6a4 h6a5 h6a7 h6a17 h6a18 s6)) (wr := ([] : va_W)) (w1 := (cf_6 cI cZ h6 h6a1 h6a2 h6a3 h6a4 h6a5 h6a7 h6a17 h6a18 s6)) (ws' := (cf_6 cI cZ h6 h6a1 h6a2 h6a3 h6a4 h6a5 h6a7 h6a17 h6a18 s6)) hP hD hS hA [0, 1, 2, 3, 4, 5, 6, 7, 8] [] [0, 1, 2, 3, 4, 5, 6, 7, 8] rfl rfl (by decide) (by decide) rfl (by decide) (va_runV (As := [.int x1, .int x2]) (rest := [.int r_2, .ref h6, .int ((S6_order s6) (0 : Int32).toNatClampNeg), .ref h6]) ⟨hx, hb, hml, hown, hts⟩ (ktX6_adjectivesUpTo l dC dI cI cZ h6 h6a1 h6a2 h6a3 h6a4 h6a5 h6a7 h6a17 h6a18 _ s6 x1 x2 r_3 hc_3) (cwV 2 hts gX6_part_X6_adjectivesUpTo rfl rfl rfl (by decide +kernel) ⟨Nat.le_of_ble_eq_true rfl, Nat.le_of_ble_eq_true rfl⟩) (gc_V (ci := 6) (q0 := 0) (C := RX6) (T := TX6) (N := 25) (hP.sub (ws' := (cf_6 cI cZ h6 h6a1 h6a2 h6a3 h6a4 h6a5 h6a7 h6a17 h6a18 s6)) [0, 1, 2, 3, 4, 5, 6, 7, 8] rfl) (hK.sub (tys' := [(cI, .int), (cZ, .boolean)]) [0, 1] rfl) (hD.sub (ws' := (cf_6 cI cZ h6 h6a1 h6a2 h6a3 h6a4 h6a5 h6a7 h6a17 h6a18 s6)) [0, 1, 2, 3, 4, 5, 6, 7, 8] (by decide) rfl) hN rfl rfl) rfl rfl hl.1 rfl (lv_room (Nat.le_of_ble_eq_true rfl)) dX6_part_316 ⟨Nat.zero_le _, Nat.zero_le _⟩) (fun H locs hP hD hS => ?_)
    refine lv_iload hx hb dX6_part_319 (lv_at hl 0 rfl) ?_
    obtain ⟨r_4, hc_4, hf⟩ := bn1_ok hf
    refine gc_i (wc := (cf_6 cI cZ h6 h6a1 h6a2 h6a3 h6a4 h6a5 h6a7 h6a17 h6a18 s6)) (wr := ([] : va_W)) (w1 := (cf_6 cI cZ h6 h6a1 h6a2 h6a3 h6a4 h6a5 h6a7 h6a17 h6a18 s6)) (ws' := (cf_6 cI cZ h6 h6a1 h6a2 h6a3 h6a4 h6a5 h6a7 h6a17 h6a18 s6)) hP hD hS hA [0, 1, 2, 3, 4, 5, 6, 7, 8] [] [0, 1, 2, 3, 4, 5, 6, 7, 8] rfl rfl (by decide) (by decide) rfl (by decide) (va_runV (As := [.int r_2, .int r_3, .int t0]) (rest := [.int ((S6_order s6) (0 : Int32).toNatClampNeg), .ref h6]) ⟨hx, hb, hml, hown, hts⟩ (ktX6_having l dC dI cI cZ h6 h6a1 h6a2 h6a3 h6a4 h6a5 h6a7 h6a17 h6a18 _ s6 r_2 r_3 t0 r_4 hc_4) (cwV 3 hts gX6_part_X6_having rfl rfl rfl (by decide +kernel) ⟨Nat.le_of_ble_eq_true rfl, Nat.le_of_ble_eq_true rfl⟩) (gc_V (ci := 6) (q0 := 0) (C := RX6) (T := TX6) (N := 25) (hP.sub (ws' := (cf_6 cI cZ h6 h6a1 h6a2 h6a3 h6a4 h6a5 h6a7 h6a17 h6a18 s6)) [0, 1, 2, 3, 4, 5, 6, 7, 8] rfl) (hK.sub (tys' := [(cI, .int), (cZ, .boolean)]) [0, 1] rfl) (hD.sub (ws' := (cf_6 cI cZ h6 h6a1 h6a2 h6a3 h6a4 h6a5 h6a7 h6a17 h6a18 s6)) [0, 1, 2, 3, 4, 5, 6, 7, 8] (by decide) rfl) hN rfl rfl) rfl rfl hl.1 rfl (lv_room (Nat.le_of_ble_eq_true rfl)) dX6_part_321 ⟨Nat.zero_le _, Nat.zero_le _⟩) (fun H locs hP hD hS => ?_)
    obtain ⟨r_5, hc_5, hf⟩ := bn1_ok hf
    refine gc_i (wc := (cf_6 cI cZ h6 h6a1 h6a2 h6a3 h6a4 h6a5 h6a7 h6a17 h6a18 s6)) (wr := ([] : va_W)) (w1 := (cf_6 cI cZ h6 h6a1 h6a2 h6a3 h6a4 h6a5 h6a7 h6a17 h6a18 s6)) (ws' := (cf_6 cI cZ h6 h6a1 h6a2 h6a3 h6a4 h6a5 h6a7 h6a17 h6a18 s6)) hP hD hS hA [0, 1, 2, 3, 4, 5, 6, 7, 8] [] [0, 1, 2, 3, 4, 5, 6, 7, 8] rfl rfl (by decide) (by decide) rfl (by decide) (va_runV (As := [.int ((S6_order s6) (0 : Int32).toNatClampNeg), .int r_4]) (rest := []) ⟨hx, hb, hml, hown, hts⟩ (ktX6_suited l dC dI cI cZ h6 h6a1 h6a2 h6a3 h6a4 h6a5 h6a7 h6a17 h6a18 _ s6 ((S6_order s6) (0 : Int32).toNatClampNeg) r_4 r_5 hc_5) (cwV 2 hts gX6_part_X6_suited rfl rfl rfl (by decide +kernel) ⟨Nat.le_of_ble_eq_true rfl, Nat.le_of_ble_eq_true rfl⟩) (gc_V (ci := 6) (q0 := 0) (C := RX6) (T := TX6) (N := 25) (hP.sub (ws' := (cf_6 cI cZ h6 h6a1 h6a2 h6a3 h6a4 h6a5 h6a7 h6a17 h6a18 s6)) [0, 1, 2, 3, 4, 5, 6, 7, 8] rfl) (hK.sub (tys' := [(cI, .int), (cZ, .boolean)]) [0, 1] rfl) (hD.sub (ws' := (cf_6 cI cZ h6 h6a1 h6a2 h6a3 h6a4 h6a5 h6a7 h6a17 h6a18 s6)) [0, 1, 2, 3, 4, 5, 6, 7, 8] (by decide) rfl) hN rfl rfl) rfl rfl hl.1 rfl (lv_room (Nat.le_of_ble_eq_true rfl)) dX6_part_324 ⟨Nat.zero_le _, Nat.zero_le _⟩) (fun H locs hP hD hS => ?_)
    refine lv_iload_n hx hb dX6_part_327 rfl (lv_at hl 4 rfl) ?_
    refine lv_iconst (v := (-1)) hx hb dX6_part_328 (by decide) ?_
    refine lv_ixor hx hb dX6_part_329 ?_
    refine lv_iand hx hb dX6_part_330 ?_
    refine lv_istore (lv' := [(6, .int (r_5 &&& (x3 ^^^ (-1)))), (5, .int t0), (0, .ref h6), (1, .int x1), (2, .int x2), (3, .int x3)]) hx hb dX6_part_331 hl (by decide) rfl (fun ls hl => ?_)
    refine lv_iload hx hb dX6_part_333 (lv_at hl 0 rfl) ?_
    refine lv_if_ne (tgt := 345) hx hb dX6_part_335 (by decide) (fun c_6 => ?_) (fun c_6 => ?_)
    · have hf := it_f c_6 hf
      exact J345 s6 (r_5 &&& (x3 ^^^ (-1))) _ _ hP hD hS _ (lv_sub hl [0] rfl) hf
    · have hf := it_t c_6 hf
      refine lv_aload_n hx hb dX6_part_338 rfl (lv_at hl 2 rfl) ?_
      refine lv_iload_n hx hb dX6_part_339 rfl (lv_at hl 4 rfl) ?_
      refine lv_iconst (v := 0) hx hb dX6_part_340 (by decide) ?_
      obtain ⟨r_7, s6_7, hc_7, hf⟩ := bn2_ok hf
      refine gc_i (wc := (cf_6 cI cZ h6 h6a1 h6a2 h6a3 h6a4 h6a5 h6a7 h6a17 h6a18 s6)) (wr := ([] : va_W)) (w1 := (cf_6 cI cZ h6 h6a1 h6a2 h6a3 h6a4 h6a5 h6a7 h6a17 h6a18 s6_7)) (ws' := (cf_6 cI cZ h6 h6a1 h6a2 h6a3 h6a4 h6a5 h6a7 h6a17 h6a18 s6_7)) hP hD hS hA [0, 1, 2, 3, 4, 5, 6, 7, 8] [] [0, 1, 2, 3, 4, 5, 6, 7, 8] rfl rfl (by decide) (by decide) rfl (by decide) (va_runV (As := [.int x2, .int 0]) (rest := []) ⟨hx, hb, hml, hown, hts⟩ (ktX6_fail l dC dI cI cZ h6 h6a1 h6a2 h6a3 h6a4 h6a5 h6a7 h6a17 h6a18 _ s6 x2 0 r_7 s6_7 hc_7) (cwV 2 hts gX6_part_X6_fail rfl rfl rfl (by decide +kernel) ⟨Nat.le_of_ble_eq_true rfl, Nat.le_of_ble_eq_true rfl⟩) (gc_V (ci := 6) (q0 := 0) (C := RX6) (T := TX6) (N := 25) (hP.sub (ws' := (cf_6 cI cZ h6 h6a1 h6a2 h6a3 h6a4 h6a5 h6a7 h6a17 h6a18 s6)) [0, 1, 2, 3, 4, 5, 6, 7, 8] rfl) (hK.sub (tys' := [(cI, .int), (cZ, .boolean)]) [0, 1] rfl) (hD.sub (ws' := (cf_6 cI cZ h6 h6a1 h6a2 h6a3 h6a4 h6a5 h6a7 h6a17 h6a18 s6)) [0, 1, 2, 3, 4, 5, 6, 7, 8] (by decide) rfl) hN rfl rfl) rfl rfl hl.1 rfl (lv_room (Nat.le_of_ble_eq_true rfl)) dX6_part_341 ⟨Nat.zero_le _, Nat.zero_le _⟩) (fun H locs hP hD hS => ?_)
      refine lv_pop hx hb dX6_part_344 rfl ?_
      exact J345 s6_7 (r_5 &&& (x3 ^^^ (-1))) _ _ hP hD hS _ (lv_sub hl [0] rfl) hf
  have J200 : ∀ (n : Nat) (s6 : S6) (x1 : Int32) (x2 : Int32) (x3 : Int32) (x4 : Int32) (H : Heap) (locs : List Loc), va_P (dC, dI) vwCl (cf_6 cI cZ h6 h6a1 h6a2 h6a3 h6a4 h6a5 h6a7 h6a17 h6a18 s6) H → va_D A (cf_6 cI cZ h6 h6a1 h6a2 h6a3 h6a4 h6a5 h6a7 h6a17 h6a18 s6) → va_S A s.heap H locs → ∀ (ls : Array Slot), lv_has ls 7 [(0, .ref h6), (1, .int x1), (2, .int x2), (3, .int x3), (4, .int x4)] → fX6_part_200 n s6 x1 x2 x3 x4 = some (r, s6f) → W p l e rmX6_part s m ([.ref h6] : List Value).toArray below meth c H locs 0 0 QQ (F0 m 200 ls []) := by
    intro n
    induction n with
    | zero =>
      intro s6 x1 x2 x3 x4 H locs hP hD hS ls hl hf
      cases hf
    | succ n ih =>
      intro s6 x1 x2 x3 x4 H locs hP hD hS ls hl hf
      rw [fX6_part_200] at hf
      refine lv_iload hx hb dX6_part_200 (lv_at hl 4 rfl) ?_
      refine lv_if_eq (tgt := 274) hx hb dX6_part_202 (by decide) (fun c_1 => ?_) (fun c_1 => ?_)
      · have hf := it_t c_1 hf
        refine lv_aload_n hx hb dX6_part_274 rfl (lv_at hl 0 rfl) ?_
        refine va_get (D := (dC, dI)) (ci := 6) (v := .ref h6a17) (C := RX6) (T := TX6) (N := 25) hx hb hts in6 hown hK hP 0 rfl rfl 17 (by decide) fl45 (fun _ h9 => h9) rfl dX6_part_275 ?_
        refine lv_iload_n hx hb dX6_part_278 rfl (lv_at hl 2 rfl) ?_
        obtain ⟨hi_2, hf⟩ := ai_ok hf
        refine va_iald (n := 24) (f := (S6_order s6)) hx hb hK hP 7 0 rfl rfl hi_2 dX6_part_279 ?_
        obtain ⟨r_3, hc_3, hf⟩ := bn1_ok hf
        refine gc_i (wc := ([] : va_W)) (wr := (cf_6 cI cZ h6 h6a1 h6a2 h6a3 h6a4 h6a5 h6a7 h6a17 h6a18 s6)) (w1 := ([] : va_W)) (ws' := (cf_6 cI cZ h6 h6a1 h6a2 h6a3 h6a4 h6a5 h6a7 h6a17 h6a18 s6)) hP hD hS hA [] [0, 1, 2, 3, 4, 5, 6, 7, 8] [0, 1, 2, 3, 4, 5, 6, 7, 8] rfl rfl (by decide) (by decide) rfl (by decide) (va_runS (As := [.int ((S6_order s6) x2.toNatClampNeg)]) (rest := []) ⟨hx, hb, hml, hown, hts⟩ (ktX6_isPlural l dC dI _ ((S6_order s6) x2.toNatClampNeg) r_3 hc_3) (va_cwS 1 hts gX6_part_X6_isPlural rfl rfl rfl (by decide +kernel) ⟨Nat.le_of_ble_eq_true rfl, Nat.le_of_ble_eq_true rfl⟩) (gc_S (hP.sub (ws' := ([] : va_W)) [] rfl) (hK.sub (tys' := []) [] rfl) (hD.sub (ws' := ([] : va_W)) [] (by decide) rfl) hN) rfl rfl hl.1 rfl (lv_room (Nat.le_of_ble_eq_true rfl)) dX6_part_280 ⟨Nat.zero_le _, Nat.zero_le _⟩) (fun H locs hP hD hS => ?_)
        refine lv_if_eq (tgt := 298) hx hb dX6_part_283 (by decide) (fun c_4 => ?_) (fun c_4 => ?_)
        · have hf := it_t c_4 hf
          refine lv_iconst (v := (-1)) hx hb dX6_part_298 (by decide) ?_
          exact J299 s6 x1 x2 x3 (-1) _ _ hP hD hS _ (lv_sub hl [0, 1, 2, 3] rfl) hf
        · have hf := it_f c_4 hf
          refine lv_aload_n hx hb dX6_part_286 rfl (lv_at hl 0 rfl) ?_
          refine va_get (D := (dC, dI)) (ci := 6) (v := .ref h6a17) (C := RX6) (T := TX6) (N := 25) hx hb hts in6 hown hK hP 0 rfl rfl 17 (by decide) fl45 (fun _ h9 => h9) rfl dX6_part_287 ?_
          refine lv_iload_n hx hb dX6_part_290 rfl (lv_at hl 2 rfl) ?_
          obtain ⟨hi_5, hf⟩ := ai_ok hf
          refine va_iald (n := 24) (f := (S6_order s6)) hx hb hK hP 7 0 rfl rfl hi_5 dX6_part_291 ?_
          refine lv_bipush (v := 40) hx hb dX6_part_292 (by decide) ?_
          refine lv_isub hx hb dX6_part_294 ?_
          refine lv_goto (tgt := 299) hx hb dX6_part_295 (by decide) ?_
          exact J299 s6 x1 x2 x3 (((S6_order s6) x2.toNatClampNeg) - 40) _ _ hP hD hS _ (lv_sub hl [0, 1, 2, 3] rfl) hf
      · have hf := it_f c_1 hf
        refine lv_aload_n hx hb dX6_part_205 rfl (lv_at hl 0 rfl) ?_
        refine lv_dup hx hb dX6_part_206 rfl ?_
        refine va_get (D := (dC, dI)) (ci := 6) (v := .int (S6_at s6)) (C := RX6) (T := TX6) (N := 25) hx hb hts in6 hown hK hP 0 rfl rfl 21 (by decide) fl102 (fun _ h9 => h9) rfl dX6_part_207 ?_
        refine lv_iconst (v := 1) hx hb dX6_part_210 (by decide) ?_
        refine lv_iadd hx hb dX6_part_211 ?_
        refine va_put (D := (dC, dI)) (ci := 6) (v := .int ((S6_at s6) + 1)) (ty := .int) (C := RX6) (T := TX6) (N := 25) hx hb hts in6 tyX6 tyX6_ok nmX6 hown hK hP hD hS 0 rfl rfl 21 (by decide) fl102 (fun _ h9 => h9) rfl (by decide +kernel) rfl rfl (Nat.le_of_ble_eq_true rfl) dX6_part_212 (fun H locs hP hD hS => ?_)
        have hP : va_P (dC, dI) vwCl (cf_6 cI cZ h6 h6a1 h6a2 h6a3 h6a4 h6a5 h6a7 h6a17 h6a18 (S6_set_at s6 ((S6_at s6) + 1))) H := Eq.mp (congrArg (fun w => va_P (dC, dI) vwCl w H) (cs6_at cI cZ h6 h6a1 h6a2 h6a3 h6a4 h6a5 h6a7 h6a17 h6a18 s6 ((S6_at s6) + 1))) hP
        have hD : va_D A (cf_6 cI cZ h6 h6a1 h6a2 h6a3 h6a4 h6a5 h6a7 h6a17 h6a18 (S6_set_at s6 ((S6_at s6) + 1))) := Eq.mp (congrArg (fun w => va_D A w) (cs6_at cI cZ h6 h6a1 h6a2 h6a3 h6a4 h6a5 h6a7 h6a17 h6a18 s6 ((S6_at s6) + 1))) hD
        refine lv_aload_n hx hb dX6_part_215 rfl (lv_at hl 0 rfl) ?_
        refine lv_aload_n hx hb dX6_part_216 rfl (lv_at hl 0 rfl) ?_
        refine va_get (D := (dC, dI)) (ci := 6) (v := .ref h6a17) (C := RX6) (T := TX6) (N := 25) hx hb hts in6 hown hK hP 0 rfl rfl 17 (by decide) fl45 (fun _ h9 => h9) rfl dX6_part_217 ?_
        refine lv_iconst (v := 0) hx hb dX6_part_220 (by decide) ?_
        obtain ⟨hi_6, hf⟩ := ai_ok hf
        refine va_iald (n := 24) (f := (S6_order (S6_set_at s6 ((S6_at s6) + 1)))) hx hb hK hP 7 0 rfl rfl hi_6 dX6_part_221 ?_
        obtain ⟨r_7, s6_7, hc_7, hf⟩ := bn2_ok hf
        refine gc_i (wc := (cf_6 cI cZ h6 h6a1 h6a2 h6a3 h6a4 h6a5 h6a7 h6a17 h6a18 (S6_set_at s6 ((S6_at s6) + 1)))) (wr := ([] : va_W)) (w1 := (cf_6 cI cZ h6 h6a1 h6a2 h6a3 h6a4 h6a5 h6a7 h6a17 h6a18 s6_7)) (ws' := (cf_6 cI cZ h6 h6a1 h6a2 h6a3 h6a4 h6a5 h6a7 h6a17 h6a18 s6_7)) hP hD hS hA [0, 1, 2, 3, 4, 5, 6, 7, 8] [] [0, 1, 2, 3, 4, 5, 6, 7, 8] rfl rfl (by decide) (by decide) rfl (by decide) (va_runV (As := [.int ((S6_order (S6_set_at s6 ((S6_at s6) + 1))) (0 : Int32).toNatClampNeg)]) (rest := []) ⟨hx, hb, hml, hown, hts⟩ (ktX6_single l dC dI cI cZ h6 h6a1 h6a2 h6a3 h6a4 h6a5 h6a7 h6a17 h6a18 _ (S6_set_at s6 ((S6_at s6) + 1)) ((S6_order (S6_set_at s6 ((S6_at s6) + 1))) (0 : Int32).toNatClampNeg) r_7 s6_7 hc_7) (cwV 1 hts gX6_part_X6_single rfl rfl rfl (by decide +kernel) ⟨Nat.le_of_ble_eq_true rfl, Nat.le_of_ble_eq_true rfl⟩) (gc_V (ci := 6) (q0 := 0) (C := RX6) (T := TX6) (N := 25) (hP.sub (ws' := (cf_6 cI cZ h6 h6a1 h6a2 h6a3 h6a4 h6a5 h6a7 h6a17 h6a18 (S6_set_at s6 ((S6_at s6) + 1)))) [0, 1, 2, 3, 4, 5, 6, 7, 8] rfl) (hK.sub (tys' := [(cI, .int), (cZ, .boolean)]) [0, 1] rfl) (hD.sub (ws' := (cf_6 cI cZ h6 h6a1 h6a2 h6a3 h6a4 h6a5 h6a7 h6a17 h6a18 (S6_set_at s6 ((S6_at s6) + 1)))) [0, 1, 2, 3, 4, 5, 6, 7, 8] (by decide) rfl) hN rfl rfl) rfl rfl hl.1 rfl (lv_room (Nat.le_of_ble_eq_true rfl)) dX6_part_222 ⟨Nat.zero_le _, Nat.zero_le _⟩) (fun H locs hP hD hS => ?_)
        refine lv_istore (lv' := [(5, .int r_7), (0, .ref h6), (1, .int x1), (2, .int x2), (3, .int x3), (4, .int x4)]) hx hb dX6_part_225 hl (by decide) rfl (fun ls hl => ?_)
        refine lv_iload hx hb dX6_part_227 (lv_at hl 0 rfl) ?_
        refine lv_iconst (v := (-1)) hx hb dX6_part_229 (by decide) ?_
        refine lv_icmp_ne (tgt := 235) hx hb dX6_part_230 (by decide) (fun c_8 => ?_) (fun c_8 => ?_)
        · have hf := it_f c_8 hf
          refine lv_iload_n hx hb dX6_part_235 rfl (lv_at hl 4 rfl) ?_
          refine lv_iconst (v := 1) hx hb dX6_part_236 (by decide) ?_
          refine lv_iload hx hb dX6_part_237 (lv_at hl 0 rfl) ?_
          refine lv_ishl hx hb dX6_part_239 ?_
          refine lv_ior hx hb dX6_part_240 ?_
          refine lv_istore_n (lv' := [(3, .int (x3 ||| ((1 : Int32) <<< (r_7 &&& 31)))), (5, .int r_7), (0, .ref h6), (1, .int x1), (2, .int x2), (4, .int x4)]) hx hb dX6_part_241 rfl hl (by decide) rfl (fun ls hl => ?_)
          refine lv_aload_n hx hb dX6_part_242 rfl (lv_at hl 2 rfl) ?_
          refine lv_bipush (v := 13) hx hb dX6_part_243 (by decide) ?_
          obtain ⟨r_9, hc_9, hf⟩ := bn1_ok hf
          refine gc_i (wc := (cf_6 cI cZ h6 h6a1 h6a2 h6a3 h6a4 h6a5 h6a7 h6a17 h6a18 s6_7)) (wr := ([] : va_W)) (w1 := (cf_6 cI cZ h6 h6a1 h6a2 h6a3 h6a4 h6a5 h6a7 h6a17 h6a18 s6_7)) (ws' := (cf_6 cI cZ h6 h6a1 h6a2 h6a3 h6a4 h6a5 h6a7 h6a17 h6a18 s6_7)) hP hD hS hA [0, 1, 2, 3, 4, 5, 6, 7, 8] [] [0, 1, 2, 3, 4, 5, 6, 7, 8] rfl rfl (by decide) (by decide) rfl (by decide) (va_runV (As := [.int 13]) (rest := []) ⟨hx, hb, hml, hown, hts⟩ (ktX6_is l dC dI cI cZ h6 h6a1 h6a2 h6a3 h6a4 h6a5 h6a7 h6a17 h6a18 _ s6_7 13 r_9 hc_9) (cwV 1 hts gX6_part_X6_is rfl rfl rfl (by decide +kernel) ⟨Nat.le_of_ble_eq_true rfl, Nat.le_of_ble_eq_true rfl⟩) (gc_V (ci := 6) (q0 := 0) (C := RX6) (T := TX6) (N := 25) (hP.sub (ws' := (cf_6 cI cZ h6 h6a1 h6a2 h6a3 h6a4 h6a5 h6a7 h6a17 h6a18 s6_7)) [0, 1, 2, 3, 4, 5, 6, 7, 8] rfl) (hK.sub (tys' := [(cI, .int), (cZ, .boolean)]) [0, 1] rfl) (hD.sub (ws' := (cf_6 cI cZ h6 h6a1 h6a2 h6a3 h6a4 h6a5 h6a7 h6a17 h6a18 s6_7)) [0, 1, 2, 3, 4, 5, 6, 7, 8] (by decide) rfl) hN rfl rfl) rfl rfl hl.1 rfl (lv_room (Nat.le_of_ble_eq_true rfl)) dX6_part_245 ⟨Nat.zero_le _, Nat.zero_le _⟩) (fun H locs hP hD hS => ?_)
          refine lv_if_eq (tgt := 268) hx hb dX6_part_248 (by decide) (fun c_10 => ?_) (fun c_10 => ?_)
          · have hf := it_t c_10 hf
            exact J268 (fun s6 x1 x2 x3 x4 => fX6_part_200 n s6 x1 x2 x3 x4) (fun s6 x1 x2 x3 x4 H locs hP hD hS ls hl hf => ih s6 x1 x2 x3 x4 H locs hP hD hS ls hl hf) s6_7 x1 x2 (x3 ||| ((1 : Int32) <<< (r_7 &&& 31))) _ _ hP hD hS _ (lv_sub hl [2, 3, 4, 0] rfl) hf
          · have hf := it_f c_10 hf
            refine lv_aload_n hx hb dX6_part_251 rfl (lv_at hl 2 rfl) ?_
            refine lv_aload_n hx hb dX6_part_252 rfl (lv_at hl 2 rfl) ?_
            refine va_get (D := (dC, dI)) (ci := 6) (v := .int (S6_at s6_7)) (C := RX6) (T := TX6) (N := 25) hx hb hts in6 hown hK hP 0 rfl rfl 21 (by decide) fl102 (fun _ h9 => h9) rfl dX6_part_253 ?_
            refine lv_iconst (v := 1) hx hb dX6_part_256 (by decide) ?_
            refine lv_iadd hx hb dX6_part_257 ?_
            obtain ⟨r_11, hc_11, hf⟩ := bn1_ok hf
            refine gc_i (wc := (cf_6 cI cZ h6 h6a1 h6a2 h6a3 h6a4 h6a5 h6a7 h6a17 h6a18 s6_7)) (wr := ([] : va_W)) (w1 := (cf_6 cI cZ h6 h6a1 h6a2 h6a3 h6a4 h6a5 h6a7 h6a17 h6a18 s6_7)) (ws' := (cf_6 cI cZ h6 h6a1 h6a2 h6a3 h6a4 h6a5 h6a7 h6a17 h6a18 s6_7)) hP hD hS hA [0, 1, 2, 3, 4, 5, 6, 7, 8] [] [0, 1, 2, 3, 4, 5, 6, 7, 8] rfl rfl (by decide) (by decide) rfl (by decide) (va_runV (As := [.int ((S6_at s6_7) + 1)]) (rest := []) ⟨hx, hb, hml, hown, hts⟩ (ktX6_isSingleAt l dC dI cI cZ h6 h6a1 h6a2 h6a3 h6a4 h6a5 h6a7 h6a17 h6a18 _ s6_7 ((S6_at s6_7) + 1) r_11 hc_11) (cwV 1 hts gX6_part_X6_isSingleAt rfl rfl rfl (by decide +kernel) ⟨Nat.le_of_ble_eq_true rfl, Nat.le_of_ble_eq_true rfl⟩) (gc_V (ci := 6) (q0 := 0) (C := RX6) (T := TX6) (N := 25) (hP.sub (ws' := (cf_6 cI cZ h6 h6a1 h6a2 h6a3 h6a4 h6a5 h6a7 h6a17 h6a18 s6_7)) [0, 1, 2, 3, 4, 5, 6, 7, 8] rfl) (hK.sub (tys' := [(cI, .int), (cZ, .boolean)]) [0, 1] rfl) (hD.sub (ws' := (cf_6 cI cZ h6 h6a1 h6a2 h6a3 h6a4 h6a5 h6a7 h6a17 h6a18 s6_7)) [0, 1, 2, 3, 4, 5, 6, 7, 8] (by decide) rfl) hN rfl rfl) rfl rfl hl.1 rfl (lv_room (Nat.le_of_ble_eq_true rfl)) dX6_part_258 ⟨Nat.zero_le _, Nat.zero_le _⟩) (fun H locs hP hD hS => ?_)
            refine lv_if_eq (tgt := 268) hx hb dX6_part_261 (by decide) (fun c_12 => ?_) (fun c_12 => ?_)
            · have hf := it_t c_12 hf
              exact J268 (fun s6 x1 x2 x3 x4 => fX6_part_200 n s6 x1 x2 x3 x4) (fun s6 x1 x2 x3 x4 H locs hP hD hS ls hl hf => ih s6 x1 x2 x3 x4 H locs hP hD hS ls hl hf) s6_7 x1 x2 (x3 ||| ((1 : Int32) <<< (r_7 &&& 31))) _ _ hP hD hS _ (lv_sub hl [2, 3, 4, 0] rfl) hf
            · have hf := it_f c_12 hf
              refine lv_iconst (v := 1) hx hb dX6_part_264 (by decide) ?_
              refine lv_goto (tgt := 269) hx hb dX6_part_265 (by decide) ?_
              exact J269 (fun s6 x1 x2 x3 x4 => fX6_part_200 n s6 x1 x2 x3 x4) (fun s6 x1 x2 x3 x4 H locs hP hD hS ls hl hf => ih s6 x1 x2 x3 x4 H locs hP hD hS ls hl hf) s6_7 x1 x2 (x3 ||| ((1 : Int32) <<< (r_7 &&& 31))) 1 _ _ hP hD hS _ (lv_sub hl [2, 3, 4, 0] rfl) hf
        · have hf := it_t c_8 hf
          refine lv_iconst (v := 0) hx hb dX6_part_233 (by decide) ?_
          have hf : (some (0, s6_7) : Option (Int32 × S6)) = some (r, s6f) := hf
          have he := Option.some.inj hf
          have he0 : 0 = r := congrArg (fun q => q.1) he
          have he1 : s6_7 = s6f := congrArg (fun q => q.2) he
          exact hret _ _ _ _ _ _ he0 (by rw [← he1]) dX6_part_234 hP hD hS
  have J183 : ∀ (s6 : S6) (x1 : Int32) (x2 : Int32) (H : Heap) (locs : List Loc), va_P (dC, dI) vwCl (cf_6 cI cZ h6 h6a1 h6a2 h6a3 h6a4 h6a5 h6a7 h6a17 h6a18 s6) H → va_D A (cf_6 cI cZ h6 h6a1 h6a2 h6a3 h6a4 h6a5 h6a7 h6a17 h6a18 s6) → va_S A s.heap H locs → ∀ (ls : Array Slot), lv_has ls 7 [(0, .ref h6), (1, .int x1), (2, .int x2)] → fX6_part_183 s6 x1 x2 = some (r, s6f) → W p l e rmX6_part s m ([.ref h6] : List Value).toArray below meth c H locs 0 0 QQ (F0 m 183 ls []) := by
    intro  s6 x1 x2 H locs hP hD hS ls hl hf
    unfold fX6_part_183 at hf
    refine lv_aload_n hx hb dX6_part_183 rfl (lv_at hl 0 rfl) ?_
    refine lv_iload_n hx hb dX6_part_184 rfl (lv_at hl 2 rfl) ?_
    refine lv_iconst (v := 1) hx hb dX6_part_185 (by decide) ?_
    refine lv_iadd hx hb dX6_part_186 ?_
    refine va_put (D := (dC, dI)) (ci := 6) (v := .int (x2 + 1)) (ty := .int) (C := RX6) (T := TX6) (N := 25) hx hb hts in6 tyX6 tyX6_ok nmX6 hown hK hP hD hS 0 rfl rfl 21 (by decide) fl102 (fun _ h9 => h9) rfl (by decide +kernel) rfl rfl (Nat.le_of_ble_eq_true rfl) dX6_part_187 (fun H locs hP hD hS => ?_)
    have hP : va_P (dC, dI) vwCl (cf_6 cI cZ h6 h6a1 h6a2 h6a3 h6a4 h6a5 h6a7 h6a17 h6a18 (S6_set_at s6 (x2 + 1))) H := Eq.mp (congrArg (fun w => va_P (dC, dI) vwCl w H) (cs6_at cI cZ h6 h6a1 h6a2 h6a3 h6a4 h6a5 h6a7 h6a17 h6a18 s6 (x2 + 1))) hP
    have hD : va_D A (cf_6 cI cZ h6 h6a1 h6a2 h6a3 h6a4 h6a5 h6a7 h6a17 h6a18 (S6_set_at s6 (x2 + 1))) := Eq.mp (congrArg (fun w => va_D A w) (cs6_at cI cZ h6 h6a1 h6a2 h6a3 h6a4 h6a5 h6a7 h6a17 h6a18 s6 (x2 + 1))) hD
    refine lv_iconst (v := 0) hx hb dX6_part_190 (by decide) ?_
    refine lv_istore_n (lv' := [(3, .int 0), (0, .ref h6), (1, .int x1), (2, .int x2)]) hx hb dX6_part_191 rfl hl (by decide) rfl (fun ls hl => ?_)
    refine lv_aload_n hx hb dX6_part_192 rfl (lv_at hl 1 rfl) ?_
    refine lv_bipush (v := 12) hx hb dX6_part_193 (by decide) ?_
    obtain ⟨r_1, hc_1, hf⟩ := bn1_ok hf
    refine gc_i (wc := (cf_6 cI cZ h6 h6a1 h6a2 h6a3 h6a4 h6a5 h6a7 h6a17 h6a18 (S6_set_at s6 (x2 + 1)))) (wr := ([] : va_W)) (w1 := (cf_6 cI cZ h6 h6a1 h6a2 h6a3 h6a4 h6a5 h6a7 h6a17 h6a18 (S6_set_at s6 (x2 + 1)))) (ws' := (cf_6 cI cZ h6 h6a1 h6a2 h6a3 h6a4 h6a5 h6a7 h6a17 h6a18 (S6_set_at s6 (x2 + 1)))) hP hD hS hA [0, 1, 2, 3, 4, 5, 6, 7, 8] [] [0, 1, 2, 3, 4, 5, 6, 7, 8] rfl rfl (by decide) (by decide) rfl (by decide) (va_runV (As := [.int 12]) (rest := []) ⟨hx, hb, hml, hown, hts⟩ (ktX6_is l dC dI cI cZ h6 h6a1 h6a2 h6a3 h6a4 h6a5 h6a7 h6a17 h6a18 _ (S6_set_at s6 (x2 + 1)) 12 r_1 hc_1) (cwV 1 hts gX6_part_X6_is rfl rfl rfl (by decide +kernel) ⟨Nat.le_of_ble_eq_true rfl, Nat.le_of_ble_eq_true rfl⟩) (gc_V (ci := 6) (q0 := 0) (C := RX6) (T := TX6) (N := 25) (hP.sub (ws' := (cf_6 cI cZ h6 h6a1 h6a2 h6a3 h6a4 h6a5 h6a7 h6a17 h6a18 (S6_set_at s6 (x2 + 1)))) [0, 1, 2, 3, 4, 5, 6, 7, 8] rfl) (hK.sub (tys' := [(cI, .int), (cZ, .boolean)]) [0, 1] rfl) (hD.sub (ws' := (cf_6 cI cZ h6 h6a1 h6a2 h6a3 h6a4 h6a5 h6a7 h6a17 h6a18 (S6_set_at s6 (x2 + 1)))) [0, 1, 2, 3, 4, 5, 6, 7, 8] (by decide) rfl) hN rfl rfl) rfl rfl hl.1 rfl (lv_room (Nat.le_of_ble_eq_true rfl)) dX6_part_195 ⟨Nat.zero_le _, Nat.zero_le _⟩) (fun H locs hP hD hS => ?_)
    refine lv_istore (lv' := [(4, .int r_1), (3, .int 0), (0, .ref h6), (1, .int x1), (2, .int x2)]) hx hb dX6_part_198 hl (by decide) rfl (fun ls hl => ?_)
    exact J200 64 (S6_set_at s6 (x2 + 1)) x1 x2 0 r_1 _ _ hP hD hS _ (lv_sub hl [2, 3, 4, 1, 0] rfl) hf
  have J182 : ∀ (s6 : S6) (t0 : Int32) (H : Heap) (locs : List Loc), va_P (dC, dI) vwCl (cf_6 cI cZ h6 h6a1 h6a2 h6a3 h6a4 h6a5 h6a7 h6a17 h6a18 s6) H → va_D A (cf_6 cI cZ h6 h6a1 h6a2 h6a3 h6a4 h6a5 h6a7 h6a17 h6a18 s6) → va_S A s.heap H locs → ∀ (ls : Array Slot), lv_has ls 7 [] → fX6_part_182 s6 t0 = some (r, s6f) → W p l e rmX6_part s m ([.ref h6] : List Value).toArray below meth c H locs 0 0 QQ (F0 m 182 ls [.int t0]) := by
    intro  s6 t0 H locs hP hD hS ls hl hf
    unfold fX6_part_182 at hf
    have hf : (some (t0, s6) : Option (Int32 × S6)) = some (r, s6f) := hf
    have he := Option.some.inj hf
    have he0 : t0 = r := congrArg (fun q => q.1) he
    have he1 : s6 = s6f := congrArg (fun q => q.2) he
    exact hret _ _ _ _ _ _ he0 (by rw [← he1]) dX6_part_182 hP hD hS
  have J136 : ∀ (s6 : S6) (x1 : Int32) (x2 : Int32) (H : Heap) (locs : List Loc), va_P (dC, dI) vwCl (cf_6 cI cZ h6 h6a1 h6a2 h6a3 h6a4 h6a5 h6a7 h6a17 h6a18 s6) H → va_D A (cf_6 cI cZ h6 h6a1 h6a2 h6a3 h6a4 h6a5 h6a7 h6a17 h6a18 s6) → va_S A s.heap H locs → ∀ (ls : Array Slot), lv_has ls 7 [(0, .ref h6), (1, .int x1), (2, .int x2)] → fX6_part_136 s6 x1 x2 = some (r, s6f) → W p l e rmX6_part s m ([.ref h6] : List Value).toArray below meth c H locs 0 0 QQ (F0 m 136 ls []) := by
    intro  s6 x1 x2 H locs hP hD hS ls hl hf
    unfold fX6_part_136 at hf
    refine lv_aload_n hx hb dX6_part_136 rfl (lv_at hl 0 rfl) ?_
    refine va_get (D := (dC, dI)) (ci := 6) (v := .ref h6a17) (C := RX6) (T := TX6) (N := 25) hx hb hts in6 hown hK hP 0 rfl rfl 17 (by decide) fl45 (fun _ h9 => h9) rfl dX6_part_137 ?_
    refine lv_iload_n hx hb dX6_part_140 rfl (lv_at hl 2 rfl) ?_
    obtain ⟨hi_1, hf⟩ := ai_ok hf
    refine va_iald (n := 24) (f := (S6_order s6)) hx hb hK hP 7 0 rfl rfl hi_1 dX6_part_141 ?_
    refine lv_bipush (v := 11) hx hb dX6_part_142 (by decide) ?_
    refine lv_icmp_eq (tgt := 183) hx hb dX6_part_144 (by decide) (fun c_2 => ?_) (fun c_2 => ?_)
    · have hf := it_t c_2 hf
      exact J183 s6 x1 x2 _ _ hP hD hS _ (lv_sub hl [0, 1, 2] rfl) hf
    · have hf := it_f c_2 hf
      refine lv_aload_n hx hb dX6_part_147 rfl (lv_at hl 0 rfl) ?_
      refine va_get (D := (dC, dI)) (ci := 6) (v := .ref h6a17) (C := RX6) (T := TX6) (N := 25) hx hb hts in6 hown hK hP 0 rfl rfl 17 (by decide) fl45 (fun _ h9 => h9) rfl dX6_part_148 ?_
      refine lv_iload_n hx hb dX6_part_151 rfl (lv_at hl 2 rfl) ?_
      obtain ⟨hi_3, hf⟩ := ai_ok hf
      refine va_iald (n := 24) (f := (S6_order s6)) hx hb hK hP 7 0 rfl rfl hi_3 dX6_part_152 ?_
      obtain ⟨r_4, hc_4, hf⟩ := bn1_ok hf
      refine gc_i (wc := ([] : va_W)) (wr := (cf_6 cI cZ h6 h6a1 h6a2 h6a3 h6a4 h6a5 h6a7 h6a17 h6a18 s6)) (w1 := ([] : va_W)) (ws' := (cf_6 cI cZ h6 h6a1 h6a2 h6a3 h6a4 h6a5 h6a7 h6a17 h6a18 s6)) hP hD hS hA [] [0, 1, 2, 3, 4, 5, 6, 7, 8] [0, 1, 2, 3, 4, 5, 6, 7, 8] rfl rfl (by decide) (by decide) rfl (by decide) (va_runS (As := [.int ((S6_order s6) x2.toNatClampNeg)]) (rest := []) ⟨hx, hb, hml, hown, hts⟩ (ktX6_isPlural l dC dI _ ((S6_order s6) x2.toNatClampNeg) r_4 hc_4) (va_cwS 1 hts gX6_part_X6_isPlural rfl rfl rfl (by decide +kernel) ⟨Nat.le_of_ble_eq_true rfl, Nat.le_of_ble_eq_true rfl⟩) (gc_S (hP.sub (ws' := ([] : va_W)) [] rfl) (hK.sub (tys' := []) [] rfl) (hD.sub (ws' := ([] : va_W)) [] (by decide) rfl) hN) rfl rfl hl.1 rfl (lv_room (Nat.le_of_ble_eq_true rfl)) dX6_part_153 ⟨Nat.zero_le _, Nat.zero_le _⟩) (fun H locs hP hD hS => ?_)
      refine lv_if_ne (tgt := 183) hx hb dX6_part_156 (by decide) (fun c_5 => ?_) (fun c_5 => ?_)
      · have hf := it_f c_5 hf
        exact J183 s6 x1 x2 _ _ hP hD hS _ (lv_sub hl [0, 1, 2] rfl) hf
      · have hf := it_t c_5 hf
        refine lv_aload_n hx hb dX6_part_159 rfl (lv_at hl 0 rfl) ?_
        refine lv_aload_n hx hb dX6_part_160 rfl (lv_at hl 0 rfl) ?_
        refine va_get (D := (dC, dI)) (ci := 6) (v := .ref h6a17) (C := RX6) (T := TX6) (N := 25) hx hb hts in6 hown hK hP 0 rfl rfl 17 (by decide) fl45 (fun _ h9 => h9) rfl dX6_part_161 ?_
        refine lv_iconst (v := 0) hx hb dX6_part_164 (by decide) ?_
        obtain ⟨hi_6, hf⟩ := ai_ok hf
        refine va_iald (n := 24) (f := (S6_order s6)) hx hb hK hP 7 0 rfl rfl hi_6 dX6_part_165 ?_
        obtain ⟨r_7, s6_7, hc_7, hf⟩ := bn2_ok hf
        refine gc_i (wc := (cf_6 cI cZ h6 h6a1 h6a2 h6a3 h6a4 h6a5 h6a7 h6a17 h6a18 s6)) (wr := ([] : va_W)) (w1 := (cf_6 cI cZ h6 h6a1 h6a2 h6a3 h6a4 h6a5 h6a7 h6a17 h6a18 s6_7)) (ws' := (cf_6 cI cZ h6 h6a1 h6a2 h6a3 h6a4 h6a5 h6a7 h6a17 h6a18 s6_7)) hP hD hS hA [0, 1, 2, 3, 4, 5, 6, 7, 8] [] [0, 1, 2, 3, 4, 5, 6, 7, 8] rfl rfl (by decide) (by decide) rfl (by decide) (va_runV (As := [.int ((S6_order s6) (0 : Int32).toNatClampNeg)]) (rest := []) ⟨hx, hb, hml, hown, hts⟩ (ktX6_single l dC dI cI cZ h6 h6a1 h6a2 h6a3 h6a4 h6a5 h6a7 h6a17 h6a18 _ s6 ((S6_order s6) (0 : Int32).toNatClampNeg) r_7 s6_7 hc_7) (cwV 1 hts gX6_part_X6_single rfl rfl rfl (by decide +kernel) ⟨Nat.le_of_ble_eq_true rfl, Nat.le_of_ble_eq_true rfl⟩) (gc_V (ci := 6) (q0 := 0) (C := RX6) (T := TX6) (N := 25) (hP.sub (ws' := (cf_6 cI cZ h6 h6a1 h6a2 h6a3 h6a4 h6a5 h6a7 h6a17 h6a18 s6)) [0, 1, 2, 3, 4, 5, 6, 7, 8] rfl) (hK.sub (tys' := [(cI, .int), (cZ, .boolean)]) [0, 1] rfl) (hD.sub (ws' := (cf_6 cI cZ h6 h6a1 h6a2 h6a3 h6a4 h6a5 h6a7 h6a17 h6a18 s6)) [0, 1, 2, 3, 4, 5, 6, 7, 8] (by decide) rfl) hN rfl rfl) rfl rfl hl.1 rfl (lv_room (Nat.le_of_ble_eq_true rfl)) dX6_part_166 ⟨Nat.zero_le _, Nat.zero_le _⟩) (fun H locs hP hD hS => ?_)
        refine lv_istore_n (lv' := [(3, .int r_7), (0, .ref h6), (1, .int x1), (2, .int x2)]) hx hb dX6_part_169 rfl hl (by decide) rfl (fun ls hl => ?_)
        refine lv_iload_n hx hb dX6_part_170 rfl (lv_at hl 0 rfl) ?_
        refine lv_iconst (v := (-1)) hx hb dX6_part_171 (by decide) ?_
        refine lv_icmp_ne (tgt := 179) hx hb dX6_part_172 (by decide) (fun c_8 => ?_) (fun c_8 => ?_)
        · have hf := it_f c_8 hf
          refine lv_iconst (v := 1) hx hb dX6_part_179 (by decide) ?_
          refine lv_iload_n hx hb dX6_part_180 rfl (lv_at hl 0 rfl) ?_
          refine lv_ishl hx hb dX6_part_181 ?_
          exact J182 s6_7 ((1 : Int32) <<< (r_7 &&& 31)) _ _ hP hD hS _ (lv_sub hl [] rfl) hf
        · have hf := it_t c_8 hf
          refine lv_iconst (v := 0) hx hb dX6_part_175 (by decide) ?_
          refine lv_goto (tgt := 182) hx hb dX6_part_176 (by decide) ?_
          exact J182 s6_7 0 _ _ hP hD hS _ (lv_sub hl [] rfl) hf
  have J135 : ∀ (s6 : S6) (x1 : Int32) (t0 : Int32) (H : Heap) (locs : List Loc), va_P (dC, dI) vwCl (cf_6 cI cZ h6 h6a1 h6a2 h6a3 h6a4 h6a5 h6a7 h6a17 h6a18 s6) H → va_D A (cf_6 cI cZ h6 h6a1 h6a2 h6a3 h6a4 h6a5 h6a7 h6a17 h6a18 s6) → va_S A s.heap H locs → ∀ (ls : Array Slot), lv_has ls 7 [(0, .ref h6), (1, .int x1)] → fX6_part_135 s6 x1 t0 = some (r, s6f) → W p l e rmX6_part s m ([.ref h6] : List Value).toArray below meth c H locs 0 0 QQ (F0 m 135 ls [.int t0]) := by
    intro  s6 x1 t0 H locs hP hD hS ls hl hf
    unfold fX6_part_135 at hf
    refine lv_istore_n (lv' := [(2, .int t0), (0, .ref h6), (1, .int x1)]) hx hb dX6_part_135 rfl hl (by decide) rfl (fun ls hl => ?_)
    exact J136 s6 x1 t0 _ _ hP hD hS _ (lv_sub hl [1, 2, 0] rfl) hf
  have J134 : ∀ (s6 : S6) (x1 : Int32) (H : Heap) (locs : List Loc), va_P (dC, dI) vwCl (cf_6 cI cZ h6 h6a1 h6a2 h6a3 h6a4 h6a5 h6a7 h6a17 h6a18 s6) H → va_D A (cf_6 cI cZ h6 h6a1 h6a2 h6a3 h6a4 h6a5 h6a7 h6a17 h6a18 s6) → va_S A s.heap H locs → ∀ (ls : Array Slot), lv_has ls 7 [(0, .ref h6), (1, .int x1)] → fX6_part_134 s6 x1 = some (r, s6f) → W p l e rmX6_part s m ([.ref h6] : List Value).toArray below meth c H locs 0 0 QQ (F0 m 134 ls []) := by
    intro  s6 x1 H locs hP hD hS ls hl hf
    unfold fX6_part_134 at hf
    refine lv_iload_n hx hb dX6_part_134 rfl (lv_at hl 1 rfl) ?_
    exact J135 s6 x1 x1 _ _ hP hD hS _ (lv_sub hl [0, 1] rfl) hf
  have J110 : ∀ (s6 : S6) (x1 : Int32) (x3 : Int32) (H : Heap) (locs : List Loc), va_P (dC, dI) vwCl (cf_6 cI cZ h6 h6a1 h6a2 h6a3 h6a4 h6a5 h6a7 h6a17 h6a18 s6) H → va_D A (cf_6 cI cZ h6 h6a1 h6a2 h6a3 h6a4 h6a5 h6a7 h6a17 h6a18 s6) → va_S A s.heap H locs → ∀ (ls : Array Slot), lv_has ls 7 [(0, .ref h6), (1, .int x1), (3, .int x3)] → fX6_part_110 s6 x1 x3 = some (r, s6f) → W p l e rmX6_part s m ([.ref h6] : List Value).toArray below meth c H locs 0 0 QQ (F0 m 110 ls []) := by
    intro  s6 x1 x3 H locs hP hD hS ls hl hf
    unfold fX6_part_110 at hf
    refine lv_iload_n hx hb dX6_part_110 rfl (lv_at hl 2 rfl) ?_
    refine lv_aload_n hx hb dX6_part_111 rfl (lv_at hl 0 rfl) ?_
    refine va_get (D := (dC, dI)) (ci := 6) (v := .int (S6_length s6)) (C := RX6) (T := TX6) (N := 25) hx hb hts in6 hown hK hP 0 rfl rfl 16 (by decide) fl105 (fun _ h9 => h9) rfl dX6_part_112 ?_
    refine lv_icmp_ge (tgt := 134) hx hb dX6_part_115 (by decide) (fun c_1 => ?_) (fun c_1 => ?_)
    · have hf := it_t c_1 hf
      exact J134 s6 x1 _ _ hP hD hS _ (lv_sub hl [0, 1] rfl) hf
    · have hf := it_f c_1 hf
      refine lv_aload_n hx hb dX6_part_118 rfl (lv_at hl 0 rfl) ?_
      refine va_get (D := (dC, dI)) (ci := 6) (v := .ref h6a17) (C := RX6) (T := TX6) (N := 25) hx hb hts in6 hown hK hP 0 rfl rfl 17 (by decide) fl45 (fun _ h9 => h9) rfl dX6_part_119 ?_
      refine lv_iload_n hx hb dX6_part_122 rfl (lv_at hl 2 rfl) ?_
      obtain ⟨hi_2, hf⟩ := ai_ok hf
      refine va_iald (n := 24) (f := (S6_order s6)) hx hb hK hP 7 0 rfl rfl hi_2 dX6_part_123 ?_
      obtain ⟨r_3, hc_3, hf⟩ := bn1_ok hf
      refine gc_i (wc := ([] : va_W)) (wr := (cf_6 cI cZ h6 h6a1 h6a2 h6a3 h6a4 h6a5 h6a7 h6a17 h6a18 s6)) (w1 := ([] : va_W)) (ws' := (cf_6 cI cZ h6 h6a1 h6a2 h6a3 h6a4 h6a5 h6a7 h6a17 h6a18 s6)) hP hD hS hA [] [0, 1, 2, 3, 4, 5, 6, 7, 8] [0, 1, 2, 3, 4, 5, 6, 7, 8] rfl rfl (by decide) (by decide) rfl (by decide) (va_runS (As := [.int ((S6_order s6) x3.toNatClampNeg)]) (rest := []) ⟨hx, hb, hml, hown, hts⟩ (ktX6_isPlural l dC dI _ ((S6_order s6) x3.toNatClampNeg) r_3 hc_3) (va_cwS 1 hts gX6_part_X6_isPlural rfl rfl rfl (by decide +kernel) ⟨Nat.le_of_ble_eq_true rfl, Nat.le_of_ble_eq_true rfl⟩) (gc_S (hP.sub (ws' := ([] : va_W)) [] rfl) (hK.sub (tys' := []) [] rfl) (hD.sub (ws' := ([] : va_W)) [] (by decide) rfl) hN) rfl rfl hl.1 rfl (lv_room (Nat.le_of_ble_eq_true rfl)) dX6_part_124 ⟨Nat.zero_le _, Nat.zero_le _⟩) (fun H locs hP hD hS => ?_)
      refine lv_if_eq (tgt := 134) hx hb dX6_part_127 (by decide) (fun c_4 => ?_) (fun c_4 => ?_)
      · have hf := it_t c_4 hf
        exact J134 s6 x1 _ _ hP hD hS _ (lv_sub hl [0, 1] rfl) hf
      · have hf := it_f c_4 hf
        refine lv_iload_n hx hb dX6_part_130 rfl (lv_at hl 2 rfl) ?_
        refine lv_goto (tgt := 135) hx hb dX6_part_131 (by decide) ?_
        exact J135 s6 x1 x3 _ _ hP hD hS _ (lv_sub hl [0, 1] rfl) hf
  have J84 : ∀ (n : Nat) (s6 : S6) (x1 : Int32) (x3 : Int32) (H : Heap) (locs : List Loc), va_P (dC, dI) vwCl (cf_6 cI cZ h6 h6a1 h6a2 h6a3 h6a4 h6a5 h6a7 h6a17 h6a18 s6) H → va_D A (cf_6 cI cZ h6 h6a1 h6a2 h6a3 h6a4 h6a5 h6a7 h6a17 h6a18 s6) → va_S A s.heap H locs → ∀ (ls : Array Slot), lv_has ls 7 [(0, .ref h6), (1, .int x1), (3, .int x3)] → fX6_part_84 n s6 x1 x3 = some (r, s6f) → W p l e rmX6_part s m ([.ref h6] : List Value).toArray below meth c H locs 0 0 QQ (F0 m 84 ls []) := by
    intro n
    induction n with
    | zero =>
      intro s6 x1 x3 H locs hP hD hS ls hl hf
      cases hf
    | succ n ih =>
      intro s6 x1 x3 H locs hP hD hS ls hl hf
      rw [fX6_part_84] at hf
      refine lv_iload_n hx hb dX6_part_84 rfl (lv_at hl 2 rfl) ?_
      refine lv_aload_n hx hb dX6_part_85 rfl (lv_at hl 0 rfl) ?_
      refine va_get (D := (dC, dI)) (ci := 6) (v := .int (S6_length s6)) (C := RX6) (T := TX6) (N := 25) hx hb hts in6 hown hK hP 0 rfl rfl 16 (by decide) fl105 (fun _ h9 => h9) rfl dX6_part_86 ?_
      refine lv_icmp_ge (tgt := 110) hx hb dX6_part_89 (by decide) (fun c_1 => ?_) (fun c_1 => ?_)
      · have hf := it_t c_1 hf
        exact J110 s6 x1 x3 _ _ hP hD hS _ (lv_sub hl [0, 1, 2] rfl) hf
      · have hf := it_f c_1 hf
        refine lv_aload_n hx hb dX6_part_92 rfl (lv_at hl 0 rfl) ?_
        refine va_get (D := (dC, dI)) (ci := 6) (v := .ref h6a17) (C := RX6) (T := TX6) (N := 25) hx hb hts in6 hown hK hP 0 rfl rfl 17 (by decide) fl45 (fun _ h9 => h9) rfl dX6_part_93 ?_
        refine lv_iload_n hx hb dX6_part_96 rfl (lv_at hl 2 rfl) ?_
        obtain ⟨hi_2, hf⟩ := ai_ok hf
        refine va_iald (n := 24) (f := (S6_order s6)) hx hb hK hP 7 0 rfl rfl hi_2 dX6_part_97 ?_
        obtain ⟨r_3, hc_3, hf⟩ := bn1_ok hf
        refine gc_i (wc := ([] : va_W)) (wr := (cf_6 cI cZ h6 h6a1 h6a2 h6a3 h6a4 h6a5 h6a7 h6a17 h6a18 s6)) (w1 := ([] : va_W)) (ws' := (cf_6 cI cZ h6 h6a1 h6a2 h6a3 h6a4 h6a5 h6a7 h6a17 h6a18 s6)) hP hD hS hA [] [0, 1, 2, 3, 4, 5, 6, 7, 8] [0, 1, 2, 3, 4, 5, 6, 7, 8] rfl rfl (by decide) (by decide) rfl (by decide) (va_runS (As := [.int ((S6_order s6) x3.toNatClampNeg)]) (rest := []) ⟨hx, hb, hml, hown, hts⟩ (ktX6_isAdjective l dC dI _ ((S6_order s6) x3.toNatClampNeg) r_3 hc_3) (va_cwS 1 hts gX6_part_X6_isAdjective rfl rfl rfl (by decide +kernel) ⟨Nat.le_of_ble_eq_true rfl, Nat.le_of_ble_eq_true rfl⟩) (gc_S (hP.sub (ws' := ([] : va_W)) [] rfl) (hK.sub (tys' := []) [] rfl) (hD.sub (ws' := ([] : va_W)) [] (by decide) rfl) hN) rfl rfl hl.1 rfl (lv_room (Nat.le_of_ble_eq_true rfl)) dX6_part_98 ⟨Nat.zero_le _, Nat.zero_le _⟩) (fun H locs hP hD hS => ?_)
        refine lv_if_eq (tgt := 110) hx hb dX6_part_101 (by decide) (fun c_4 => ?_) (fun c_4 => ?_)
        · have hf := it_t c_4 hf
          exact J110 s6 x1 x3 _ _ hP hD hS _ (lv_sub hl [0, 1, 2] rfl) hf
        · have hf := it_f c_4 hf
          refine lv_iinc (v := (x3 + 1)) (lv' := [(3, .int (x3 + 1)), (0, .ref h6), (1, .int x1)]) hx hb dX6_part_104 hl (k := 2) rfl rfl (by decide) rfl (fun ls hl => ?_)
          refine lv_goto (tgt := 84) hx hb dX6_part_107 (by decide) ?_
          exact ih s6 x1 (x3 + 1) _ _ hP hD hS _ (lv_sub hl [1, 2, 0] rfl) hf
  have J70 : ∀ (s6 : S6) (x1 : Int32) (t0 : Int32) (H : Heap) (locs : List Loc), va_P (dC, dI) vwCl (cf_6 cI cZ h6 h6a1 h6a2 h6a3 h6a4 h6a5 h6a7 h6a17 h6a18 s6) H → va_D A (cf_6 cI cZ h6 h6a1 h6a2 h6a3 h6a4 h6a5 h6a7 h6a17 h6a18 s6) → va_S A s.heap H locs → ∀ (ls : Array Slot), lv_has ls 7 [(0, .ref h6), (1, .int x1)] → fX6_part_70 s6 x1 t0 = some (r, s6f) → W p l e rmX6_part s m ([.ref h6] : List Value).toArray below meth c H locs 0 0 QQ (F0 m 70 ls [.int t0]) := by
    intro  s6 x1 t0 H locs hP hD hS ls hl hf
    unfold fX6_part_70 at hf
    refine lv_istore_n (lv' := [(2, .int t0), (0, .ref h6), (1, .int x1)]) hx hb dX6_part_70 rfl hl (by decide) rfl (fun ls hl => ?_)
    refine lv_aload_n hx hb dX6_part_71 rfl (lv_at hl 1 rfl) ?_
    refine lv_bipush (v := 11) hx hb dX6_part_72 (by decide) ?_
    obtain ⟨r_1, hc_1, hf⟩ := bn1_ok hf
    refine gc_i (wc := (cf_6 cI cZ h6 h6a1 h6a2 h6a3 h6a4 h6a5 h6a7 h6a17 h6a18 s6)) (wr := ([] : va_W)) (w1 := (cf_6 cI cZ h6 h6a1 h6a2 h6a3 h6a4 h6a5 h6a7 h6a17 h6a18 s6)) (ws' := (cf_6 cI cZ h6 h6a1 h6a2 h6a3 h6a4 h6a5 h6a7 h6a17 h6a18 s6)) hP hD hS hA [0, 1, 2, 3, 4, 5, 6, 7, 8] [] [0, 1, 2, 3, 4, 5, 6, 7, 8] rfl rfl (by decide) (by decide) rfl (by decide) (va_runV (As := [.int 11]) (rest := []) ⟨hx, hb, hml, hown, hts⟩ (ktX6_is l dC dI cI cZ h6 h6a1 h6a2 h6a3 h6a4 h6a5 h6a7 h6a17 h6a18 _ s6 11 r_1 hc_1) (cwV 1 hts gX6_part_X6_is rfl rfl rfl (by decide +kernel) ⟨Nat.le_of_ble_eq_true rfl, Nat.le_of_ble_eq_true rfl⟩) (gc_V (ci := 6) (q0 := 0) (C := RX6) (T := TX6) (N := 25) (hP.sub (ws' := (cf_6 cI cZ h6 h6a1 h6a2 h6a3 h6a4 h6a5 h6a7 h6a17 h6a18 s6)) [0, 1, 2, 3, 4, 5, 6, 7, 8] rfl) (hK.sub (tys' := [(cI, .int), (cZ, .boolean)]) [0, 1] rfl) (hD.sub (ws' := (cf_6 cI cZ h6 h6a1 h6a2 h6a3 h6a4 h6a5 h6a7 h6a17 h6a18 s6)) [0, 1, 2, 3, 4, 5, 6, 7, 8] (by decide) rfl) hN rfl rfl) rfl rfl hl.1 rfl (lv_room (Nat.le_of_ble_eq_true rfl)) dX6_part_74 ⟨Nat.zero_le _, Nat.zero_le _⟩) (fun H locs hP hD hS => ?_)
    refine lv_if_eq (tgt := 136) hx hb dX6_part_77 (by decide) (fun c_2 => ?_) (fun c_2 => ?_)
    · have hf := it_t c_2 hf
      exact J136 s6 x1 t0 _ _ hP hD hS _ (lv_sub hl [1, 2, 0] rfl) hf
    · have hf := it_f c_2 hf
      refine lv_iload_n hx hb dX6_part_80 rfl (lv_at hl 2 rfl) ?_
      refine lv_iconst (v := 1) hx hb dX6_part_81 (by decide) ?_
      refine lv_iadd hx hb dX6_part_82 ?_
      refine lv_istore_n (lv' := [(3, .int (x1 + 1)), (2, .int t0), (0, .ref h6), (1, .int x1)]) hx hb dX6_part_83 rfl hl (by decide) rfl (fun ls hl => ?_)
      exact J84 64 s6 x1 (x1 + 1) _ _ hP hD hS _ (lv_sub hl [2, 3, 0] rfl) hf
  unfold fX6_part at hf
  refine lv_aload_n hx hb dX6_part_0 rfl (lv_at hl 0 rfl) ?_
  refine lv_bipush (v := 15) hx hb dX6_part_1 (by decide) ?_
  obtain ⟨r_1, hc_1, hf⟩ := bn1_ok hf
  refine gc_i (wc := (cf_6 cI cZ h6 h6a1 h6a2 h6a3 h6a4 h6a5 h6a7 h6a17 h6a18 s6)) (wr := ([] : va_W)) (w1 := (cf_6 cI cZ h6 h6a1 h6a2 h6a3 h6a4 h6a5 h6a7 h6a17 h6a18 s6)) (ws' := (cf_6 cI cZ h6 h6a1 h6a2 h6a3 h6a4 h6a5 h6a7 h6a17 h6a18 s6)) hP hD hS hA [0, 1, 2, 3, 4, 5, 6, 7, 8] [] [0, 1, 2, 3, 4, 5, 6, 7, 8] rfl rfl (by decide) (by decide) rfl (by decide) (va_runV (As := [.int 15]) (rest := []) ⟨hx, hb, hml, hown, hts⟩ (ktX6_is l dC dI cI cZ h6 h6a1 h6a2 h6a3 h6a4 h6a5 h6a7 h6a17 h6a18 _ s6 15 r_1 hc_1) (cwV 1 hts gX6_part_X6_is rfl rfl rfl (by decide +kernel) ⟨Nat.le_of_ble_eq_true rfl, Nat.le_of_ble_eq_true rfl⟩) (gc_V (ci := 6) (q0 := 0) (C := RX6) (T := TX6) (N := 25) (hP.sub (ws' := (cf_6 cI cZ h6 h6a1 h6a2 h6a3 h6a4 h6a5 h6a7 h6a17 h6a18 s6)) [0, 1, 2, 3, 4, 5, 6, 7, 8] rfl) (hK.sub (tys' := [(cI, .int), (cZ, .boolean)]) [0, 1] rfl) (hD.sub (ws' := (cf_6 cI cZ h6 h6a1 h6a2 h6a3 h6a4 h6a5 h6a7 h6a17 h6a18 s6)) [0, 1, 2, 3, 4, 5, 6, 7, 8] (by decide) rfl) hN rfl rfl) rfl rfl hl.1 rfl (lv_room (Nat.le_of_ble_eq_true rfl)) dX6_part_3 ⟨Nat.zero_le _, Nat.zero_le _⟩) (fun H locs hP hD hS => ?_)
  refine lv_if_eq (tgt := 47) hx hb dX6_part_6 (by decide) (fun c_2 => ?_) (fun c_2 => ?_)
  · have hf := it_t c_2 hf
    refine lv_aload_n hx hb dX6_part_47 rfl (lv_at hl 0 rfl) ?_
    refine va_get (D := (dC, dI)) (ci := 6) (v := .int (S6_at s6)) (C := RX6) (T := TX6) (N := 25) hx hb hts in6 hown hK hP 0 rfl rfl 21 (by decide) fl102 (fun _ h9 => h9) rfl dX6_part_48 ?_
    refine lv_istore_n (lv' := [(1, .int (S6_at s6)), (0, .ref h6)]) hx hb dX6_part_51 rfl hl (by decide) rfl (fun ls hl => ?_)
    refine lv_aload_n hx hb dX6_part_52 rfl (lv_at hl 1 rfl) ?_
    refine lv_bipush (v := 11) hx hb dX6_part_53 (by decide) ?_
    obtain ⟨r_3, hc_3, hf⟩ := bn1_ok hf
    refine gc_i (wc := (cf_6 cI cZ h6 h6a1 h6a2 h6a3 h6a4 h6a5 h6a7 h6a17 h6a18 s6)) (wr := ([] : va_W)) (w1 := (cf_6 cI cZ h6 h6a1 h6a2 h6a3 h6a4 h6a5 h6a7 h6a17 h6a18 s6)) (ws' := (cf_6 cI cZ h6 h6a1 h6a2 h6a3 h6a4 h6a5 h6a7 h6a17 h6a18 s6)) hP hD hS hA [0, 1, 2, 3, 4, 5, 6, 7, 8] [] [0, 1, 2, 3, 4, 5, 6, 7, 8] rfl rfl (by decide) (by decide) rfl (by decide) (va_runV (As := [.int 11]) (rest := []) ⟨hx, hb, hml, hown, hts⟩ (ktX6_is l dC dI cI cZ h6 h6a1 h6a2 h6a3 h6a4 h6a5 h6a7 h6a17 h6a18 _ s6 11 r_3 hc_3) (cwV 1 hts gX6_part_X6_is rfl rfl rfl (by decide +kernel) ⟨Nat.le_of_ble_eq_true rfl, Nat.le_of_ble_eq_true rfl⟩) (gc_V (ci := 6) (q0 := 0) (C := RX6) (T := TX6) (N := 25) (hP.sub (ws' := (cf_6 cI cZ h6 h6a1 h6a2 h6a3 h6a4 h6a5 h6a7 h6a17 h6a18 s6)) [0, 1, 2, 3, 4, 5, 6, 7, 8] rfl) (hK.sub (tys' := [(cI, .int), (cZ, .boolean)]) [0, 1] rfl) (hD.sub (ws' := (cf_6 cI cZ h6 h6a1 h6a2 h6a3 h6a4 h6a5 h6a7 h6a17 h6a18 s6)) [0, 1, 2, 3, 4, 5, 6, 7, 8] (by decide) rfl) hN rfl rfl) rfl rfl hl.1 rfl (lv_room (Nat.le_of_ble_eq_true rfl)) dX6_part_55 ⟨Nat.zero_le _, Nat.zero_le _⟩) (fun H locs hP hD hS => ?_)
    refine lv_if_eq (tgt := 65) hx hb dX6_part_58 (by decide) (fun c_4 => ?_) (fun c_4 => ?_)
    · have hf := it_t c_4 hf
      refine lv_aload_n hx hb dX6_part_65 rfl (lv_at hl 1 rfl) ?_
      refine lv_iload_n hx hb dX6_part_66 rfl (lv_at hl 0 rfl) ?_
      obtain ⟨r_5, hc_5, hf⟩ := bn1_ok hf
      refine gc_i (wc := (cf_6 cI cZ h6 h6a1 h6a2 h6a3 h6a4 h6a5 h6a7 h6a17 h6a18 s6)) (wr := ([] : va_W)) (w1 := (cf_6 cI cZ h6 h6a1 h6a2 h6a3 h6a4 h6a5 h6a7 h6a17 h6a18 s6)) (ws' := (cf_6 cI cZ h6 h6a1 h6a2 h6a3 h6a4 h6a5 h6a7 h6a17 h6a18 s6)) hP hD hS hA [0, 1, 2, 3, 4, 5, 6, 7, 8] [] [0, 1, 2, 3, 4, 5, 6, 7, 8] rfl rfl (by decide) (by decide) rfl (by decide) (va_runV (As := [.int (S6_at s6)]) (rest := []) ⟨hx, hb, hml, hown, hts⟩ (ktX6_endOf l dC dI cI cZ h6 h6a1 h6a2 h6a3 h6a4 h6a5 h6a7 h6a17 h6a18 _ s6 (S6_at s6) r_5 hc_5) (cwV 1 hts gX6_part_X6_endOf rfl rfl rfl (by decide +kernel) ⟨Nat.le_of_ble_eq_true rfl, Nat.le_of_ble_eq_true rfl⟩) (gc_V (ci := 6) (q0 := 0) (C := RX6) (T := TX6) (N := 25) (hP.sub (ws' := (cf_6 cI cZ h6 h6a1 h6a2 h6a3 h6a4 h6a5 h6a7 h6a17 h6a18 s6)) [0, 1, 2, 3, 4, 5, 6, 7, 8] rfl) (hK.sub (tys' := [(cI, .int), (cZ, .boolean)]) [0, 1] rfl) (hD.sub (ws' := (cf_6 cI cZ h6 h6a1 h6a2 h6a3 h6a4 h6a5 h6a7 h6a17 h6a18 s6)) [0, 1, 2, 3, 4, 5, 6, 7, 8] (by decide) rfl) hN rfl rfl) rfl rfl hl.1 rfl (lv_room (Nat.le_of_ble_eq_true rfl)) dX6_part_67 ⟨Nat.zero_le _, Nat.zero_le _⟩) (fun H locs hP hD hS => ?_)
      exact J70 s6 (S6_at s6) r_5 _ _ hP hD hS _ (lv_sub hl [1, 0] rfl) hf
    · have hf := it_f c_4 hf
      refine lv_iload_n hx hb dX6_part_61 rfl (lv_at hl 0 rfl) ?_
      refine lv_goto (tgt := 70) hx hb dX6_part_62 (by decide) ?_
      exact J70 s6 (S6_at s6) (S6_at s6) _ _ hP hD hS _ (lv_sub hl [1, 0] rfl) hf
  · have hf := it_f c_2 hf
    refine lv_aload_n hx hb dX6_part_9 rfl (lv_at hl 0 rfl) ?_
    refine lv_dup hx hb dX6_part_10 rfl ?_
    refine va_get (D := (dC, dI)) (ci := 6) (v := .int (S6_at s6)) (C := RX6) (T := TX6) (N := 25) hx hb hts in6 hown hK hP 0 rfl rfl 21 (by decide) fl102 (fun _ h9 => h9) rfl dX6_part_11 ?_
    refine lv_iconst (v := 1) hx hb dX6_part_14 (by decide) ?_
    refine lv_iadd hx hb dX6_part_15 ?_
    refine va_put (D := (dC, dI)) (ci := 6) (v := .int ((S6_at s6) + 1)) (ty := .int) (C := RX6) (T := TX6) (N := 25) hx hb hts in6 tyX6 tyX6_ok nmX6 hown hK hP hD hS 0 rfl rfl 21 (by decide) fl102 (fun _ h9 => h9) rfl (by decide +kernel) rfl rfl (Nat.le_of_ble_eq_true rfl) dX6_part_16 (fun H locs hP hD hS => ?_)
    have hP : va_P (dC, dI) vwCl (cf_6 cI cZ h6 h6a1 h6a2 h6a3 h6a4 h6a5 h6a7 h6a17 h6a18 (S6_set_at s6 ((S6_at s6) + 1))) H := Eq.mp (congrArg (fun w => va_P (dC, dI) vwCl w H) (cs6_at cI cZ h6 h6a1 h6a2 h6a3 h6a4 h6a5 h6a7 h6a17 h6a18 s6 ((S6_at s6) + 1))) hP
    have hD : va_D A (cf_6 cI cZ h6 h6a1 h6a2 h6a3 h6a4 h6a5 h6a7 h6a17 h6a18 (S6_set_at s6 ((S6_at s6) + 1))) := Eq.mp (congrArg (fun w => va_D A w) (cs6_at cI cZ h6 h6a1 h6a2 h6a3 h6a4 h6a5 h6a7 h6a17 h6a18 s6 ((S6_at s6) + 1))) hD
    refine lv_aload_n hx hb dX6_part_19 rfl (lv_at hl 0 rfl) ?_
    refine va_get (D := (dC, dI)) (ci := 6) (v := .int (S6_meant (S6_set_at s6 ((S6_at s6) + 1)))) (C := RX6) (T := TX6) (N := 25) hx hb hts in6 hown hK hP 0 rfl rfl 11 (by decide) fl140 (fun _ h9 => h9) rfl dX6_part_20 ?_
    refine lv_aload_n hx hb dX6_part_23 rfl (lv_at hl 0 rfl) ?_
    obtain ⟨r_6, hc_6, hf⟩ := bn1_ok hf
    refine gc_i (wc := (cf_6 cI cZ h6 h6a1 h6a2 h6a3 h6a4 h6a5 h6a7 h6a17 h6a18 (S6_set_at s6 ((S6_at s6) + 1)))) (wr := ([] : va_W)) (w1 := (cf_6 cI cZ h6 h6a1 h6a2 h6a3 h6a4 h6a5 h6a7 h6a17 h6a18 (S6_set_at s6 ((S6_at s6) + 1)))) (ws' := (cf_6 cI cZ h6 h6a1 h6a2 h6a3 h6a4 h6a5 h6a7 h6a17 h6a18 (S6_set_at s6 ((S6_at s6) + 1)))) hP hD hS hA [0, 1, 2, 3, 4, 5, 6, 7, 8] [] [0, 1, 2, 3, 4, 5, 6, 7, 8] rfl rfl (by decide) (by decide) rfl (by decide) (va_runV (As := []) (rest := [.int (S6_meant (S6_set_at s6 ((S6_at s6) + 1)))]) ⟨hx, hb, hml, hown, hts⟩ (ktX6_reachable l dC dI cI cZ h6 h6a1 h6a2 h6a3 h6a4 h6a5 h6a7 h6a17 h6a18 _ (S6_set_at s6 ((S6_at s6) + 1)) r_6 hc_6) (cwV 0 hts gX6_part_X6_reachable rfl rfl rfl (by decide +kernel) ⟨Nat.le_of_ble_eq_true rfl, Nat.le_of_ble_eq_true rfl⟩) (gc_V (ci := 6) (q0 := 0) (C := RX6) (T := TX6) (N := 25) (hP.sub (ws' := (cf_6 cI cZ h6 h6a1 h6a2 h6a3 h6a4 h6a5 h6a7 h6a17 h6a18 (S6_set_at s6 ((S6_at s6) + 1)))) [0, 1, 2, 3, 4, 5, 6, 7, 8] rfl) (hK.sub (tys' := [(cI, .int), (cZ, .boolean)]) [0, 1] rfl) (hD.sub (ws' := (cf_6 cI cZ h6 h6a1 h6a2 h6a3 h6a4 h6a5 h6a7 h6a17 h6a18 (S6_set_at s6 ((S6_at s6) + 1)))) [0, 1, 2, 3, 4, 5, 6, 7, 8] (by decide) rfl) hN rfl rfl) rfl rfl hl.1 rfl (lv_room (Nat.le_of_ble_eq_true rfl)) dX6_part_24 ⟨Nat.zero_le _, Nat.zero_le _⟩) (fun H locs hP hD hS => ?_)
    refine lv_iand hx hb dX6_part_27 ?_
    refine lv_istore_n (lv' := [(1, .int ((S6_meant (S6_set_at s6 ((S6_at s6) + 1))) &&& r_6)), (0, .ref h6)]) hx hb dX6_part_28 rfl hl (by decide) rfl (fun ls hl => ?_)
    refine lv_iload_n hx hb dX6_part_29 rfl (lv_at hl 0 rfl) ?_
    refine lv_if_ne (tgt := 45) hx hb dX6_part_30 (by decide) (fun c_7 => ?_) (fun c_7 => ?_)
    · have hf := it_f c_7 hf
      exact J45 (S6_set_at s6 ((S6_at s6) + 1)) ((S6_meant (S6_set_at s6 ((S6_at s6) + 1))) &&& r_6) _ _ hP hD hS _ (lv_sub hl [0] rfl) hf
    · have hf := it_t c_7 hf
      refine lv_aload_n hx hb dX6_part_33 rfl (lv_at hl 1 rfl) ?_
      refine lv_aload_n hx hb dX6_part_34 rfl (lv_at hl 1 rfl) ?_
      refine va_get (D := (dC, dI)) (ci := 6) (v := .int (S6_at (S6_set_at s6 ((S6_at s6) + 1)))) (C := RX6) (T := TX6) (N := 25) hx hb hts in6 hown hK hP 0 rfl rfl 21 (by decide) fl102 (fun _ h9 => h9) rfl dX6_part_35 ?_
      refine lv_iconst (v := 1) hx hb dX6_part_38 (by decide) ?_
      refine lv_isub hx hb dX6_part_39 ?_
      refine lv_iconst (v := 0) hx hb dX6_part_40 (by decide) ?_
      obtain ⟨r_8, s6_8, hc_8, hf⟩ := bn2_ok hf
      refine gc_i (wc := (cf_6 cI cZ h6 h6a1 h6a2 h6a3 h6a4 h6a5 h6a7 h6a17 h6a18 (S6_set_at s6 ((S6_at s6) + 1)))) (wr := ([] : va_W)) (w1 := (cf_6 cI cZ h6 h6a1 h6a2 h6a3 h6a4 h6a5 h6a7 h6a17 h6a18 s6_8)) (ws' := (cf_6 cI cZ h6 h6a1 h6a2 h6a3 h6a4 h6a5 h6a7 h6a17 h6a18 s6_8)) hP hD hS hA [0, 1, 2, 3, 4, 5, 6, 7, 8] [] [0, 1, 2, 3, 4, 5, 6, 7, 8] rfl rfl (by decide) (by decide) rfl (by decide) (va_runV (As := [.int ((S6_at (S6_set_at s6 ((S6_at s6) + 1))) - 1), .int 0]) (rest := []) ⟨hx, hb, hml, hown, hts⟩ (ktX6_fail l dC dI cI cZ h6 h6a1 h6a2 h6a3 h6a4 h6a5 h6a7 h6a17 h6a18 _ (S6_set_at s6 ((S6_at s6) + 1)) ((S6_at (S6_set_at s6 ((S6_at s6) + 1))) - 1) 0 r_8 s6_8 hc_8) (cwV 2 hts gX6_part_X6_fail rfl rfl rfl (by decide +kernel) ⟨Nat.le_of_ble_eq_true rfl, Nat.le_of_ble_eq_true rfl⟩) (gc_V (ci := 6) (q0 := 0) (C := RX6) (T := TX6) (N := 25) (hP.sub (ws' := (cf_6 cI cZ h6 h6a1 h6a2 h6a3 h6a4 h6a5 h6a7 h6a17 h6a18 (S6_set_at s6 ((S6_at s6) + 1)))) [0, 1, 2, 3, 4, 5, 6, 7, 8] rfl) (hK.sub (tys' := [(cI, .int), (cZ, .boolean)]) [0, 1] rfl) (hD.sub (ws' := (cf_6 cI cZ h6 h6a1 h6a2 h6a3 h6a4 h6a5 h6a7 h6a17 h6a18 (S6_set_at s6 ((S6_at s6) + 1)))) [0, 1, 2, 3, 4, 5, 6, 7, 8] (by decide) rfl) hN rfl rfl) rfl rfl hl.1 rfl (lv_room (Nat.le_of_ble_eq_true rfl)) dX6_part_41 ⟨Nat.zero_le _, Nat.zero_le _⟩) (fun H locs hP hD hS => ?_)
      refine lv_pop hx hb dX6_part_44 rfl ?_
      exact J45 s6_8 ((S6_meant (S6_set_at s6 ((S6_at s6) + 1))) &&& r_6) _ _ hP hD hS _ (lv_sub hl [0] rfl) hf
abbrev rmX6_acts : Room := { frames := 2, cells := 0, slots := 0, locals := 45 }
set_option maxHeartbeats 2000000 in
set_option maxRecDepth 100000 in
theorem ktX6_acts (l : Launch) (dC : Nat → ClassId) (dI : Nat → Nat → Nat) (cI cZ : ClassId) (h6 h6a1 h6a2 h6a3 h6a4 h6a5 h6a7 h6a17 h6a18 : Nat) (sz : Nat) (s6 : S6) (a1 : Int32) (r : Int32) (s6f : S6) (hf : fX6_acts s6 a1 = some (r, s6f)) : Met l yX6_acts wsX6_acts rmX6_acts (va_Pc [.ref h6, .int a1] (pre_w (dC, dI) (cf_6 cI cZ h6 h6a1 h6a2 h6a3 h6a4 h6a5 h6a7 h6a17 h6a18 s6) [(cI, .int), (cZ, .boolean)] sz)) (va_Qi (fun (r' : Int32) (_ : Unit) => r' = r) (post_w (dC, dI) (cf_6 cI cZ h6 h6a1 h6a2 h6a3 h6a4 h6a5 h6a7 h6a17 h6a18 s6f) [(cI, .int), (cZ, .boolean)] (va_A (cf_6 cI cZ h6 h6a1 h6a2 h6a3 h6a4 h6a5 h6a7 h6a17 h6a18 s6) sz)) (va_A (cf_6 cI cZ h6 h6a1 h6a2 h6a3 h6a4 h6a5 h6a7 h6a17 h6a18 s6) sz)) 0 0 (va_A (cf_6 cI cZ h6 h6a1 h6a2 h6a3 h6a4 h6a5 h6a7 h6a17 h6a18 s6) sz) := by
  refine gm_z (cc := cX6_acts) (maxL := 2) (by decide) rfl (Nat.le_of_ble_eq_true rfl) ?_
  intro p e s m below meth c A QQ ls hx hb hml hown hts hK hN hA hP hD hS hl hret
  have hown : s.vm.findClass RX6 = some m.cls := hown
  have hl : lv_has ls 2 [(0, .ref h6), (1, .int a1)] := hl
  have in6 : ∀ w ∈ u_ws RX6 TX6 25, w ∈ wsX6_acts := by decide +kernel
  have fl36 := hts (.fieldLink RX6 36 "ParserParlourModel" "verb" "I") (by decide +kernel)
  have fl39 := hts (.fieldLink RX6 39 "ParserParlourModel" "into" "I") (by decide +kernel)
  have fl23 := hts (.fieldLink RX6 23 "ParserParlourModel" "place" "[I") (by decide +kernel)
  have fl20 := hts (.fieldLink RX6 20 "ParserParlourModel" "open" "[Z") (by decide +kernel)
  have J41 : ∀ (s6 : S6) (H : Heap) (locs : List Loc), va_P (dC, dI) vwCl (cf_6 cI cZ h6 h6a1 h6a2 h6a3 h6a4 h6a5 h6a7 h6a17 h6a18 s6) H → va_D A (cf_6 cI cZ h6 h6a1 h6a2 h6a3 h6a4 h6a5 h6a7 h6a17 h6a18 s6) → va_S A s.heap H locs → ∀ (ls : Array Slot), lv_has ls 2 [] → fX6_acts_41 a1 s6 = some (r, s6f) → W p l e rmX6_acts s m ([.ref h6, .int a1] : List Value).toArray below meth c H locs 0 0 QQ (F0 m 41 ls []) := by
    intro  s6 H locs hP hD hS ls hl hf
    unfold fX6_acts_41 at hf
    refine lv_iconst (v := 0) hx hb dX6_acts_41 (by decide) ?_
    have hf : (some (0, s6) : Option (Int32 × S6)) = some (r, s6f) := hf
    have he := Option.some.inj hf
    have he0 : 0 = r := congrArg (fun q => q.1) he
    have he1 : s6 = s6f := congrArg (fun q => q.2) he
    exact hret _ _ _ _ _ _ rfl he0 (by rw [← he1]) dX6_acts_42 hP hD hS
  have J112 : ∀ (s6 : S6) (H : Heap) (locs : List Loc), va_P (dC, dI) vwCl (cf_6 cI cZ h6 h6a1 h6a2 h6a3 h6a4 h6a5 h6a7 h6a17 h6a18 s6) H → va_D A (cf_6 cI cZ h6 h6a1 h6a2 h6a3 h6a4 h6a5 h6a7 h6a17 h6a18 s6) → va_S A s.heap H locs → ∀ (ls : Array Slot), lv_has ls 2 [] → fX6_acts_112 a1 s6 = some (r, s6f) → W p l e rmX6_acts s m ([.ref h6, .int a1] : List Value).toArray below meth c H locs 0 0 QQ (F0 m 112 ls []) := by
    intro  s6 H locs hP hD hS ls hl hf
    unfold fX6_acts_112 at hf
    refine lv_iconst (v := 1) hx hb dX6_acts_112 (by decide) ?_
    have hf : (some (1, s6) : Option (Int32 × S6)) = some (r, s6f) := hf
    have he := Option.some.inj hf
    have he0 : 1 = r := congrArg (fun q => q.1) he
    have he1 : s6 = s6f := congrArg (fun q => q.2) he
    exact hret _ _ _ _ _ _ rfl he0 (by rw [← he1]) dX6_acts_113 hP hD hS
  have J111 : ∀ (s6 : S6) (t1 : Int32) (t2 : Int32) (H : Heap) (locs : List Loc), va_P (dC, dI) vwCl (cf_6 cI cZ h6 h6a1 h6a2 h6a3 h6a4 h6a5 h6a7 h6a17 h6a18 s6) H → va_D A (cf_6 cI cZ h6 h6a1 h6a2 h6a3 h6a4 h6a5 h6a7 h6a17 h6a18 s6) → va_S A s.heap H locs → ∀ (ls : Array Slot), lv_has ls 2 [] → fX6_acts_111 a1 s6 t1 t2 = some (r, s6f) → W p l e rmX6_acts s m ([.ref h6, .int a1] : List Value).toArray below meth c H locs 0 0 QQ (F0 m 111 ls [.int t2, .int t1, .ref h6a4]) := by
    intro  s6 t1 t2 H locs hP hD hS ls hl hf
    unfold fX6_acts_111 at hf
    obtain ⟨hi_1, hf⟩ := ai_ok hf
    refine va_zast (n := 12) (f := (S6_open s6)) hx hb hK hP hD hS 4 1 rfl rfl hi_1 dX6_acts_111 (fun H locs hP hD hS => ?_)
    have hP : va_P (dC, dI) vwCl (cf_6 cI cZ h6 h6a1 h6a2 h6a3 h6a4 h6a5 h6a7 h6a17 h6a18 (S6_set_open s6 (upd (S6_open s6) t1.toNatClampNeg (vp_nar .boolean t2)))) H := Eq.mp (congrArg (fun w => va_P (dC, dI) vwCl w H) (cs6_open cI cZ h6 h6a1 h6a2 h6a3 h6a4 h6a5 h6a7 h6a17 h6a18 s6 (upd (S6_open s6) t1.toNatClampNeg (vp_nar .boolean t2)))) hP
    have hD : va_D A (cf_6 cI cZ h6 h6a1 h6a2 h6a3 h6a4 h6a5 h6a7 h6a17 h6a18 (S6_set_open s6 (upd (S6_open s6) t1.toNatClampNeg (vp_nar .boolean t2)))) := Eq.mp (congrArg (fun w => va_D A w) (cs6_open cI cZ h6 h6a1 h6a2 h6a3 h6a4 h6a5 h6a7 h6a17 h6a18 s6 (upd (S6_open s6) t1.toNatClampNeg (vp_nar .boolean t2)))) hD
    exact J112 (S6_set_open s6 (upd (S6_open s6) t1.toNatClampNeg (vp_nar .boolean t2))) _ _ hP hD hS _ (lv_sub hl [] rfl) hf
  unfold fX6_acts at hf
  refine lv_aload_n hx hb dX6_acts_0 rfl (lv_at hl 0 rfl) ?_
  refine va_get (D := (dC, dI)) (ci := 6) (v := .int (S6_verb s6)) (C := RX6) (T := TX6) (N := 25) hx hb hts in6 hown hK hP 0 rfl rfl 10 (by decide) fl36 (fun _ h9 => h9) rfl dX6_acts_1 ?_
  refine lv_iconst (v := 2) hx hb dX6_acts_4 (by decide) ?_
  refine lv_icmp_ne (tgt := 56) hx hb dX6_acts_5 (by decide) (fun c_1 => ?_) (fun c_1 => ?_)
  · have hf := it_f c_1 hf
    refine lv_aload_n hx hb dX6_acts_56 rfl (lv_at hl 0 rfl) ?_
    refine va_get (D := (dC, dI)) (ci := 6) (v := .int (S6_verb s6)) (C := RX6) (T := TX6) (N := 25) hx hb hts in6 hown hK hP 0 rfl rfl 10 (by decide) fl36 (fun _ h9 => h9) rfl dX6_acts_57 ?_
    refine lv_if_ne (tgt := 74) hx hb dX6_acts_60 (by decide) (fun c_2 => ?_) (fun c_2 => ?_)
    · have hf := it_f c_2 hf
      refine lv_aload_n hx hb dX6_acts_74 rfl (lv_at hl 0 rfl) ?_
      refine va_get (D := (dC, dI)) (ci := 6) (v := .int (S6_verb s6)) (C := RX6) (T := TX6) (N := 25) hx hb hts in6 hown hK hP 0 rfl rfl 10 (by decide) fl36 (fun _ h9 => h9) rfl dX6_acts_75 ?_
      refine lv_iconst (v := 1) hx hb dX6_acts_78 (by decide) ?_
      refine lv_icmp_ne (tgt := 93) hx hb dX6_acts_79 (by decide) (fun c_3 => ?_) (fun c_3 => ?_)
      · have hf := it_f c_3 hf
        refine lv_aload_n hx hb dX6_acts_93 rfl (lv_at hl 0 rfl) ?_
        refine va_get (D := (dC, dI)) (ci := 6) (v := .ref h6a4) (C := RX6) (T := TX6) (N := 25) hx hb hts in6 hown hK hP 0 rfl rfl 4 (by decide) fl20 (fun _ h9 => h9) rfl dX6_acts_94 ?_
        refine lv_iload_n hx hb dX6_acts_97 rfl (lv_at hl 1 rfl) ?_
        refine lv_aload_n hx hb dX6_acts_98 rfl (lv_at hl 0 rfl) ?_
        refine va_get (D := (dC, dI)) (ci := 6) (v := .int (S6_verb s6)) (C := RX6) (T := TX6) (N := 25) hx hb hts in6 hown hK hP 0 rfl rfl 10 (by decide) fl36 (fun _ h9 => h9) rfl dX6_acts_99 ?_
        refine lv_iconst (v := 3) hx hb dX6_acts_102 (by decide) ?_
        refine lv_icmp_ne (tgt := 110) hx hb dX6_acts_103 (by decide) (fun c_4 => ?_) (fun c_4 => ?_)
        · have hf := it_f c_4 hf
          refine lv_iconst (v := 0) hx hb dX6_acts_110 (by decide) ?_
          exact J111 s6 a1 0 _ _ hP hD hS _ (lv_sub hl [] rfl) hf
        · have hf := it_t c_4 hf
          refine lv_iconst (v := 1) hx hb dX6_acts_106 (by decide) ?_
          refine lv_goto (tgt := 111) hx hb dX6_acts_107 (by decide) ?_
          exact J111 s6 a1 1 _ _ hP hD hS _ (lv_sub hl [] rfl) hf
      · have hf := it_t c_3 hf
        refine lv_aload_n hx hb dX6_acts_82 rfl (lv_at hl 0 rfl) ?_
        refine va_get (D := (dC, dI)) (ci := 6) (v := .ref h6a5) (C := RX6) (T := TX6) (N := 25) hx hb hts in6 hown hK hP 0 rfl rfl 5 (by decide) fl23 (fun _ h9 => h9) rfl dX6_acts_83 ?_
        refine lv_iload_n hx hb dX6_acts_86 rfl (lv_at hl 1 rfl) ?_
        refine lv_bipush (v := (-2)) hx hb dX6_acts_87 (by decide) ?_
        obtain ⟨hi_5, hf⟩ := ai_ok hf
        refine va_iast (n := 12) (f := (S6_place s6)) hx hb hK hP hD hS 5 0 rfl rfl hi_5 dX6_acts_89 (fun H locs hP hD hS => ?_)
        have hP : va_P (dC, dI) vwCl (cf_6 cI cZ h6 h6a1 h6a2 h6a3 h6a4 h6a5 h6a7 h6a17 h6a18 (S6_set_place s6 (upd (S6_place s6) a1.toNatClampNeg (-2)))) H := Eq.mp (congrArg (fun w => va_P (dC, dI) vwCl w H) (cs6_place cI cZ h6 h6a1 h6a2 h6a3 h6a4 h6a5 h6a7 h6a17 h6a18 s6 (upd (S6_place s6) a1.toNatClampNeg (-2)))) hP
        have hD : va_D A (cf_6 cI cZ h6 h6a1 h6a2 h6a3 h6a4 h6a5 h6a7 h6a17 h6a18 (S6_set_place s6 (upd (S6_place s6) a1.toNatClampNeg (-2)))) := Eq.mp (congrArg (fun w => va_D A w) (cs6_place cI cZ h6 h6a1 h6a2 h6a3 h6a4 h6a5 h6a7 h6a17 h6a18 s6 (upd (S6_place s6) a1.toNatClampNeg (-2)))) hD
        refine lv_goto (tgt := 112) hx hb dX6_acts_90 (by decide) ?_
        exact J112 (S6_set_place s6 (upd (S6_place s6) a1.toNatClampNeg (-2))) _ _ hP hD hS _ (lv_sub hl [] rfl) hf
    · have hf := it_t c_2 hf
      refine lv_aload_n hx hb dX6_acts_63 rfl (lv_at hl 0 rfl) ?_
      refine va_get (D := (dC, dI)) (ci := 6) (v := .ref h6a5) (C := RX6) (T := TX6) (N := 25) hx hb hts in6 hown hK hP 0 rfl rfl 5 (by decide) fl23 (fun _ h9 => h9) rfl dX6_acts_64 ?_
      refine lv_iload_n hx hb dX6_acts_67 rfl (lv_at hl 1 rfl) ?_
      refine lv_bipush (v := (-3)) hx hb dX6_acts_68 (by decide) ?_
      obtain ⟨hi_6, hf⟩ := ai_ok hf
      refine va_iast (n := 12) (f := (S6_place s6)) hx hb hK hP hD hS 5 0 rfl rfl hi_6 dX6_acts_70 (fun H locs hP hD hS => ?_)
      have hP : va_P (dC, dI) vwCl (cf_6 cI cZ h6 h6a1 h6a2 h6a3 h6a4 h6a5 h6a7 h6a17 h6a18 (S6_set_place s6 (upd (S6_place s6) a1.toNatClampNeg (-3)))) H := Eq.mp (congrArg (fun w => va_P (dC, dI) vwCl w H) (cs6_place cI cZ h6 h6a1 h6a2 h6a3 h6a4 h6a5 h6a7 h6a17 h6a18 s6 (upd (S6_place s6) a1.toNatClampNeg (-3)))) hP
      have hD : va_D A (cf_6 cI cZ h6 h6a1 h6a2 h6a3 h6a4 h6a5 h6a7 h6a17 h6a18 (S6_set_place s6 (upd (S6_place s6) a1.toNatClampNeg (-3)))) := Eq.mp (congrArg (fun w => va_D A w) (cs6_place cI cZ h6 h6a1 h6a2 h6a3 h6a4 h6a5 h6a7 h6a17 h6a18 s6 (upd (S6_place s6) a1.toNatClampNeg (-3)))) hD
      refine lv_goto (tgt := 112) hx hb dX6_acts_71 (by decide) ?_
      exact J112 (S6_set_place s6 (upd (S6_place s6) a1.toNatClampNeg (-3))) _ _ hP hD hS _ (lv_sub hl [] rfl) hf
  · have hf := it_t c_1 hf
    refine lv_aload_n hx hb dX6_acts_8 rfl (lv_at hl 0 rfl) ?_
    refine lv_bipush (v := 16) hx hb dX6_acts_9 (by decide) ?_
    refine lv_aload_n hx hb dX6_acts_11 rfl (lv_at hl 0 rfl) ?_
    refine va_get (D := (dC, dI)) (ci := 6) (v := .int (S6_into s6)) (C := RX6) (T := TX6) (N := 25) hx hb hts in6 hown hK hP 0 rfl rfl 13 (by decide) fl39 (fun _ h9 => h9) rfl dX6_acts_12 ?_
    obtain ⟨r_7, hc_7, hf⟩ := bn1_ok hf
    refine gc_i (wc := (cf_6 cI cZ h6 h6a1 h6a2 h6a3 h6a4 h6a5 h6a7 h6a17 h6a18 s6)) (wr := ([] : va_W)) (w1 := (cf_6 cI cZ h6 h6a1 h6a2 h6a3 h6a4 h6a5 h6a7 h6a17 h6a18 s6)) (ws' := (cf_6 cI cZ h6 h6a1 h6a2 h6a3 h6a4 h6a5 h6a7 h6a17 h6a18 s6)) hP hD hS hA [0, 1, 2, 3, 4, 5, 6, 7, 8] [] [0, 1, 2, 3, 4, 5, 6, 7, 8] rfl rfl (by decide) (by decide) rfl (by decide) (va_runV (As := [.int 16, .int (S6_into s6)]) (rest := []) ⟨hx, hb, hml, hown, hts⟩ (ktX6_suits l dC dI cI cZ h6 h6a1 h6a2 h6a3 h6a4 h6a5 h6a7 h6a17 h6a18 _ s6 16 (S6_into s6) r_7 hc_7) (cwV 2 hts gX6_acts_X6_suits rfl rfl rfl (by decide +kernel) ⟨Nat.le_of_ble_eq_true rfl, Nat.le_of_ble_eq_true rfl⟩) (gc_V (ci := 6) (q0 := 0) (C := RX6) (T := TX6) (N := 25) (hP.sub (ws' := (cf_6 cI cZ h6 h6a1 h6a2 h6a3 h6a4 h6a5 h6a7 h6a17 h6a18 s6)) [0, 1, 2, 3, 4, 5, 6, 7, 8] rfl) (hK.sub (tys' := [(cI, .int), (cZ, .boolean)]) [0, 1] rfl) (hD.sub (ws' := (cf_6 cI cZ h6 h6a1 h6a2 h6a3 h6a4 h6a5 h6a7 h6a17 h6a18 s6)) [0, 1, 2, 3, 4, 5, 6, 7, 8] (by decide) rfl) hN rfl rfl) rfl rfl hl.1 rfl (lv_room (Nat.le_of_ble_eq_true rfl)) dX6_acts_15 ⟨Nat.zero_le _, Nat.zero_le _⟩) (fun H locs hP hD hS => ?_)
    refine lv_if_eq (tgt := 41) hx hb dX6_acts_18 (by decide) (fun c_8 => ?_) (fun c_8 => ?_)
    · have hf := it_t c_8 hf
      exact J41 s6 _ _ hP hD hS _ (lv_sub hl [] rfl) hf
    · have hf := it_f c_8 hf
      refine lv_aload_n hx hb dX6_acts_21 rfl (lv_at hl 0 rfl) ?_
      refine va_get (D := (dC, dI)) (ci := 6) (v := .int (S6_into s6)) (C := RX6) (T := TX6) (N := 25) hx hb hts in6 hown hK hP 0 rfl rfl 13 (by decide) fl39 (fun _ h9 => h9) rfl dX6_acts_22 ?_
      refine lv_iload_n hx hb dX6_acts_25 rfl (lv_at hl 1 rfl) ?_
      refine lv_icmp_eq (tgt := 41) hx hb dX6_acts_26 (by decide) (fun c_9 => ?_) (fun c_9 => ?_)
      · have hf := it_t c_9 hf
        exact J41 s6 _ _ hP hD hS _ (lv_sub hl [] rfl) hf
      · have hf := it_f c_9 hf
        refine lv_aload_n hx hb dX6_acts_29 rfl (lv_at hl 0 rfl) ?_
        refine lv_aload_n hx hb dX6_acts_30 rfl (lv_at hl 0 rfl) ?_
        refine va_get (D := (dC, dI)) (ci := 6) (v := .int (S6_into s6)) (C := RX6) (T := TX6) (N := 25) hx hb hts in6 hown hK hP 0 rfl rfl 13 (by decide) fl39 (fun _ h9 => h9) rfl dX6_acts_31 ?_
        refine lv_iload_n hx hb dX6_acts_34 rfl (lv_at hl 1 rfl) ?_
        obtain ⟨r_10, hc_10, hf⟩ := bn1_ok hf
        refine gc_i (wc := (cf_6 cI cZ h6 h6a1 h6a2 h6a3 h6a4 h6a5 h6a7 h6a17 h6a18 s6)) (wr := ([] : va_W)) (w1 := (cf_6 cI cZ h6 h6a1 h6a2 h6a3 h6a4 h6a5 h6a7 h6a17 h6a18 s6)) (ws' := (cf_6 cI cZ h6 h6a1 h6a2 h6a3 h6a4 h6a5 h6a7 h6a17 h6a18 s6)) hP hD hS hA [0, 1, 2, 3, 4, 5, 6, 7, 8] [] [0, 1, 2, 3, 4, 5, 6, 7, 8] rfl rfl (by decide) (by decide) rfl (by decide) (va_runV (As := [.int (S6_into s6), .int a1]) (rest := []) ⟨hx, hb, hml, hown, hts⟩ (ktX6_isInside l dC dI cI cZ h6 h6a1 h6a2 h6a3 h6a4 h6a5 h6a7 h6a17 h6a18 _ s6 (S6_into s6) a1 r_10 hc_10) (cwV 2 hts gX6_acts_X6_isInside rfl rfl rfl (by decide +kernel) ⟨Nat.le_of_ble_eq_true rfl, Nat.le_of_ble_eq_true rfl⟩) (gc_V (ci := 6) (q0 := 0) (C := RX6) (T := TX6) (N := 25) (hP.sub (ws' := (cf_6 cI cZ h6 h6a1 h6a2 h6a3 h6a4 h6a5 h6a7 h6a17 h6a18 s6)) [0, 1, 2, 3, 4, 5, 6, 7, 8] rfl) (hK.sub (tys' := [(cI, .int), (cZ, .boolean)]) [0, 1] rfl) (hD.sub (ws' := (cf_6 cI cZ h6 h6a1 h6a2 h6a3 h6a4 h6a5 h6a7 h6a17 h6a18 s6)) [0, 1, 2, 3, 4, 5, 6, 7, 8] (by decide) rfl) hN rfl rfl) rfl rfl hl.1 rfl (lv_room (Nat.le_of_ble_eq_true rfl)) dX6_acts_35 ⟨Nat.zero_le _, Nat.zero_le _⟩) (fun H locs hP hD hS => ?_)
        refine lv_if_eq (tgt := 43) hx hb dX6_acts_38 (by decide) (fun c_11 => ?_) (fun c_11 => ?_)
        · have hf := it_t c_11 hf
          refine lv_aload_n hx hb dX6_acts_43 rfl (lv_at hl 0 rfl) ?_
          refine va_get (D := (dC, dI)) (ci := 6) (v := .ref h6a5) (C := RX6) (T := TX6) (N := 25) hx hb hts in6 hown hK hP 0 rfl rfl 5 (by decide) fl23 (fun _ h9 => h9) rfl dX6_acts_44 ?_
          refine lv_iload_n hx hb dX6_acts_47 rfl (lv_at hl 1 rfl) ?_
          refine lv_aload_n hx hb dX6_acts_48 rfl (lv_at hl 0 rfl) ?_
          refine va_get (D := (dC, dI)) (ci := 6) (v := .int (S6_into s6)) (C := RX6) (T := TX6) (N := 25) hx hb hts in6 hown hK hP 0 rfl rfl 13 (by decide) fl39 (fun _ h9 => h9) rfl dX6_acts_49 ?_
          obtain ⟨hi_12, hf⟩ := ai_ok hf
          refine va_iast (n := 12) (f := (S6_place s6)) hx hb hK hP hD hS 5 0 rfl rfl hi_12 dX6_acts_52 (fun H locs hP hD hS => ?_)
          have hP : va_P (dC, dI) vwCl (cf_6 cI cZ h6 h6a1 h6a2 h6a3 h6a4 h6a5 h6a7 h6a17 h6a18 (S6_set_place s6 (upd (S6_place s6) a1.toNatClampNeg (S6_into s6)))) H := Eq.mp (congrArg (fun w => va_P (dC, dI) vwCl w H) (cs6_place cI cZ h6 h6a1 h6a2 h6a3 h6a4 h6a5 h6a7 h6a17 h6a18 s6 (upd (S6_place s6) a1.toNatClampNeg (S6_into s6)))) hP
          have hD : va_D A (cf_6 cI cZ h6 h6a1 h6a2 h6a3 h6a4 h6a5 h6a7 h6a17 h6a18 (S6_set_place s6 (upd (S6_place s6) a1.toNatClampNeg (S6_into s6)))) := Eq.mp (congrArg (fun w => va_D A w) (cs6_place cI cZ h6 h6a1 h6a2 h6a3 h6a4 h6a5 h6a7 h6a17 h6a18 s6 (upd (S6_place s6) a1.toNatClampNeg (S6_into s6)))) hD
          refine lv_goto (tgt := 112) hx hb dX6_acts_53 (by decide) ?_
          exact J112 (S6_set_place s6 (upd (S6_place s6) a1.toNatClampNeg (S6_into s6))) _ _ hP hD hS _ (lv_sub hl [] rfl) hf
        · have hf := it_f c_11 hf
          exact J41 s6 _ _ hP hD hS _ (lv_sub hl [] rfl) hf
abbrev rmX6_failed : Room := { frames := 0, cells := 0, slots := 0, locals := 0 }
set_option maxHeartbeats 2000000 in
set_option maxRecDepth 100000 in
theorem ktX6_failed (l : Launch) (dC : Nat → ClassId) (dI : Nat → Nat → Nat) (cI cZ : ClassId) (h6 h6a1 h6a2 h6a3 h6a4 h6a5 h6a7 h6a17 h6a18 : Nat) (sz : Nat) (s6 : S6) (r : Int32) (s6f : S6) (hf : fX6_failed s6 = some (r, s6f)) : Met l yX6_failed wsX6_failed rmX6_failed (va_Pc [.ref h6] (pre_w (dC, dI) (cf_6 cI cZ h6 h6a1 h6a2 h6a3 h6a4 h6a5 h6a7 h6a17 h6a18 s6) [(cI, .int), (cZ, .boolean)] sz)) (va_Qi (fun (r' : Int32) (_ : Unit) => r' = r) (post_w (dC, dI) (cf_6 cI cZ h6 h6a1 h6a2 h6a3 h6a4 h6a5 h6a7 h6a17 h6a18 s6f) [(cI, .int), (cZ, .boolean)] (va_A (cf_6 cI cZ h6 h6a1 h6a2 h6a3 h6a4 h6a5 h6a7 h6a17 h6a18 s6) sz)) (va_A (cf_6 cI cZ h6 h6a1 h6a2 h6a3 h6a4 h6a5 h6a7 h6a17 h6a18 s6) sz)) 0 0 (va_A (cf_6 cI cZ h6 h6a1 h6a2 h6a3 h6a4 h6a5 h6a7 h6a17 h6a18 s6) sz) := by
  refine gm_i (cc := cX6_failed) (maxL := 1) (by decide) rfl (Nat.le_of_ble_eq_true rfl) ?_
  intro p e s m below meth c A QQ ls hx hb hml hown hts hK hN hA hP hD hS hl hret
  have hown : s.vm.findClass RX6 = some m.cls := hown
  have hl : lv_has ls 1 [(0, .ref h6)] := hl
  have in6 : ∀ w ∈ u_ws RX6 TX6 25, w ∈ wsX6_failed := by decide +kernel
  have fl111 := hts (.fieldLink RX6 111 "ParserParlourModel" "choice" "I") (by decide +kernel)
  have fl108 := hts (.fieldLink RX6 108 "ParserParlourModel" "failedAt" "I") (by decide +kernel)
  have fl33 := hts (.fieldLink RX6 33 "ParserParlourModel" "wrongAt" "I") (by decide +kernel)
  have fl149 := hts (.fieldLink RX6 149 "ParserParlourModel" "asked" "I") (by decide +kernel)
  have fl51 := hts (.fieldLink RX6 51 "ParserParlourModel" "askedAt" "I") (by decide +kernel)
  unfold fX6_failed at hf
  refine lv_aload_n hx hb dX6_failed_0 rfl (lv_at hl 0 rfl) ?_
  refine va_get (D := (dC, dI)) (ci := 6) (v := .int (S6_choice s6)) (C := RX6) (T := TX6) (N := 25) hx hb hts in6 hown hK hP 0 rfl rfl 23 (by decide) fl111 (fun _ h9 => h9) rfl dX6_failed_1 ?_
  refine lv_if_ne (tgt := 17) hx hb dX6_failed_4 (by decide) (fun c_1 => ?_) (fun c_1 => ?_)
  · have hf := it_f c_1 hf
    refine lv_aload_n hx hb dX6_failed_17 rfl (lv_at hl 0 rfl) ?_
    refine lv_aload_n hx hb dX6_failed_18 rfl (lv_at hl 0 rfl) ?_
    refine va_get (D := (dC, dI)) (ci := 6) (v := .int (S6_choice s6)) (C := RX6) (T := TX6) (N := 25) hx hb hts in6 hown hK hP 0 rfl rfl 23 (by decide) fl111 (fun _ h9 => h9) rfl dX6_failed_19 ?_
    refine va_put (D := (dC, dI)) (ci := 6) (v := .int (S6_choice s6)) (ty := .int) (C := RX6) (T := TX6) (N := 25) hx hb hts in6 tyX6 tyX6_ok nmX6 hown hK hP hD hS 0 rfl rfl 19 (by decide) fl149 (fun _ h9 => h9) rfl (by decide +kernel) rfl rfl (Nat.le_of_ble_eq_true rfl) dX6_failed_22 (fun H locs hP hD hS => ?_)
    have hP : va_P (dC, dI) vwCl (cf_6 cI cZ h6 h6a1 h6a2 h6a3 h6a4 h6a5 h6a7 h6a17 h6a18 (S6_set_asked s6 (S6_choice s6))) H := Eq.mp (congrArg (fun w => va_P (dC, dI) vwCl w H) (cs6_asked cI cZ h6 h6a1 h6a2 h6a3 h6a4 h6a5 h6a7 h6a17 h6a18 s6 (S6_choice s6))) hP
    have hD : va_D A (cf_6 cI cZ h6 h6a1 h6a2 h6a3 h6a4 h6a5 h6a7 h6a17 h6a18 (S6_set_asked s6 (S6_choice s6))) := Eq.mp (congrArg (fun w => va_D A w) (cs6_asked cI cZ h6 h6a1 h6a2 h6a3 h6a4 h6a5 h6a7 h6a17 h6a18 s6 (S6_choice s6))) hD
    refine lv_aload_n hx hb dX6_failed_25 rfl (lv_at hl 0 rfl) ?_
    refine lv_aload_n hx hb dX6_failed_26 rfl (lv_at hl 0 rfl) ?_
    refine va_get (D := (dC, dI)) (ci := 6) (v := .int (S6_failedAt (S6_set_asked s6 (S6_choice s6)))) (C := RX6) (T := TX6) (N := 25) hx hb hts in6 hown hK hP 0 rfl rfl 22 (by decide) fl108 (fun _ h9 => h9) rfl dX6_failed_27 ?_
    refine va_put (D := (dC, dI)) (ci := 6) (v := .int (S6_failedAt (S6_set_asked s6 (S6_choice s6)))) (ty := .int) (C := RX6) (T := TX6) (N := 25) hx hb hts in6 tyX6 tyX6_ok nmX6 hown hK hP hD hS 0 rfl rfl 20 (by decide) fl51 (fun _ h9 => h9) rfl (by decide +kernel) rfl rfl (Nat.le_of_ble_eq_true rfl) dX6_failed_30 (fun H locs hP hD hS => ?_)
    have hP : va_P (dC, dI) vwCl (cf_6 cI cZ h6 h6a1 h6a2 h6a3 h6a4 h6a5 h6a7 h6a17 h6a18 (S6_set_askedAt (S6_set_asked s6 (S6_choice s6)) (S6_failedAt (S6_set_asked s6 (S6_choice s6))))) H := Eq.mp (congrArg (fun w => va_P (dC, dI) vwCl w H) (cs6_askedAt cI cZ h6 h6a1 h6a2 h6a3 h6a4 h6a5 h6a7 h6a17 h6a18 (S6_set_asked s6 (S6_choice s6)) (S6_failedAt (S6_set_asked s6 (S6_choice s6))))) hP
    have hD : va_D A (cf_6 cI cZ h6 h6a1 h6a2 h6a3 h6a4 h6a5 h6a7 h6a17 h6a18 (S6_set_askedAt (S6_set_asked s6 (S6_choice s6)) (S6_failedAt (S6_set_asked s6 (S6_choice s6))))) := Eq.mp (congrArg (fun w => va_D A w) (cs6_askedAt cI cZ h6 h6a1 h6a2 h6a3 h6a4 h6a5 h6a7 h6a17 h6a18 (S6_set_asked s6 (S6_choice s6)) (S6_failedAt (S6_set_asked s6 (S6_choice s6))))) hD
    refine lv_iconst (v := 1) hx hb dX6_failed_33 (by decide) ?_
    have hf : (some (1, (S6_set_askedAt (S6_set_asked s6 (S6_choice s6)) (S6_failedAt (S6_set_asked s6 (S6_choice s6))))) : Option (Int32 × S6)) = some (r, s6f) := hf
    have he := Option.some.inj hf
    have he0 : 1 = r := congrArg (fun q => q.1) he
    have he1 : (S6_set_askedAt (S6_set_asked s6 (S6_choice s6)) (S6_failedAt (S6_set_asked s6 (S6_choice s6)))) = s6f := congrArg (fun q => q.2) he
    exact hret _ _ _ _ _ _ he0 (by rw [← he1]) dX6_failed_34 hP hD hS
  · have hf := it_t c_1 hf
    refine lv_aload_n hx hb dX6_failed_7 rfl (lv_at hl 0 rfl) ?_
    refine lv_aload_n hx hb dX6_failed_8 rfl (lv_at hl 0 rfl) ?_
    refine va_get (D := (dC, dI)) (ci := 6) (v := .int (S6_failedAt s6)) (C := RX6) (T := TX6) (N := 25) hx hb hts in6 hown hK hP 0 rfl rfl 22 (by decide) fl108 (fun _ h9 => h9) rfl dX6_failed_9 ?_
    refine va_put (D := (dC, dI)) (ci := 6) (v := .int (S6_failedAt s6)) (ty := .int) (C := RX6) (T := TX6) (N := 25) hx hb hts in6 tyX6 tyX6_ok nmX6 hown hK hP hD hS 0 rfl rfl 9 (by decide) fl33 (fun _ h9 => h9) rfl (by decide +kernel) rfl rfl (Nat.le_of_ble_eq_true rfl) dX6_failed_12 (fun H locs hP hD hS => ?_)
    have hP : va_P (dC, dI) vwCl (cf_6 cI cZ h6 h6a1 h6a2 h6a3 h6a4 h6a5 h6a7 h6a17 h6a18 (S6_set_wrongAt s6 (S6_failedAt s6))) H := Eq.mp (congrArg (fun w => va_P (dC, dI) vwCl w H) (cs6_wrongAt cI cZ h6 h6a1 h6a2 h6a3 h6a4 h6a5 h6a7 h6a17 h6a18 s6 (S6_failedAt s6))) hP
    have hD : va_D A (cf_6 cI cZ h6 h6a1 h6a2 h6a3 h6a4 h6a5 h6a7 h6a17 h6a18 (S6_set_wrongAt s6 (S6_failedAt s6))) := Eq.mp (congrArg (fun w => va_D A w) (cs6_wrongAt cI cZ h6 h6a1 h6a2 h6a3 h6a4 h6a5 h6a7 h6a17 h6a18 s6 (S6_failedAt s6))) hD
    refine lv_iconst (v := 5) hx hb dX6_failed_15 (by decide) ?_
    have hf : (some (5, (S6_set_wrongAt s6 (S6_failedAt s6))) : Option (Int32 × S6)) = some (r, s6f) := hf
    have he := Option.some.inj hf
    have he0 : 5 = r := congrArg (fun q => q.1) he
    have he1 : (S6_set_wrongAt s6 (S6_failedAt s6)) = s6f := congrArg (fun q => q.2) he
    exact hret _ _ _ _ _ _ he0 (by rw [← he1]) dX6_failed_16 hP hD hS
abbrev rmX6_perform : Room := { frames := 5, cells := 0, slots := 0, locals := 120 }
set_option maxHeartbeats 2000000 in
set_option maxRecDepth 100000 in
theorem ktX6_perform (l : Launch) (dC : Nat → ClassId) (dI : Nat → Nat → Nat) (cI cZ : ClassId) (h6 h6a1 h6a2 h6a3 h6a4 h6a5 h6a7 h6a17 h6a18 : Nat) (sz : Nat) (s6 : S6) (r : Int32) (s6f : S6) (hf : fX6_perform s6 = some (r, s6f)) : Met l yX6_perform wsX6_perform rmX6_perform (va_Pc [.ref h6] (pre_w (dC, dI) (cf_6 cI cZ h6 h6a1 h6a2 h6a3 h6a4 h6a5 h6a7 h6a17 h6a18 s6) [(cI, .int), (cZ, .boolean)] sz)) (va_Qi (fun (r' : Int32) (_ : Unit) => r' = r) (post_w (dC, dI) (cf_6 cI cZ h6 h6a1 h6a2 h6a3 h6a4 h6a5 h6a7 h6a17 h6a18 s6f) [(cI, .int), (cZ, .boolean)] (va_A (cf_6 cI cZ h6 h6a1 h6a2 h6a3 h6a4 h6a5 h6a7 h6a17 h6a18 s6) sz)) (va_A (cf_6 cI cZ h6 h6a1 h6a2 h6a3 h6a4 h6a5 h6a7 h6a17 h6a18 s6) sz)) 0 0 (va_A (cf_6 cI cZ h6 h6a1 h6a2 h6a3 h6a4 h6a5 h6a7 h6a17 h6a18 s6) sz) := by
  refine gm_i (cc := cX6_perform) (maxL := 4) (by decide) rfl (Nat.le_of_ble_eq_true rfl) ?_
  intro p e s m below meth c A QQ ls hx hb hml hown hts hK hN hA hP hD hS hl hret
  have hown : s.vm.findClass RX6 = some m.cls := hown
  have hl : lv_has ls 4 [(0, .ref h6)] := hl
  have in6 : ∀ w ∈ u_ws RX6 TX6 25, w ∈ wsX6_perform := by decide +kernel
  have fl149 := hts (.fieldLink RX6 149 "ParserParlourModel" "asked" "I") (by decide +kernel)
  have fl51 := hts (.fieldLink RX6 51 "ParserParlourModel" "askedAt" "I") (by decide +kernel)
  have fl102 := hts (.fieldLink RX6 102 "ParserParlourModel" "at" "I") (by decide +kernel)
  have fl45 := hts (.fieldLink RX6 45 "ParserParlourModel" "order" "[I") (by decide +kernel)
  have fl36 := hts (.fieldLink RX6 36 "ParserParlourModel" "verb" "I") (by decide +kernel)
  have fl140 := hts (.fieldLink RX6 140 "ParserParlourModel" "meant" "I") (by decide +kernel)
  have fl39 := hts (.fieldLink RX6 39 "ParserParlourModel" "into" "I") (by decide +kernel)
  have fl42 := hts (.fieldLink RX6 42 "ParserParlourModel" "it" "I") (by decide +kernel)
  have fl158 := hts (.fieldLink RX6 158 "ParserParlourModel" "done" "I") (by decide +kernel)
  have fl57 := hts (.fieldLink RX6 57 "ParserParlourModel" "things" "I") (by decide +kernel)
  have J195 : ∀ (k142 : S6 → Int32 → Int32 → Option (Int32 × S6)) (hk142 : ∀ (s6 : S6) (x1 : Int32) (x3 : Int32) (H : Heap) (locs : List Loc), va_P (dC, dI) vwCl (cf_6 cI cZ h6 h6a1 h6a2 h6a3 h6a4 h6a5 h6a7 h6a17 h6a18 s6) H → va_D A (cf_6 cI cZ h6 h6a1 h6a2 h6a3 h6a4 h6a5 h6a7 h6a17 h6a18 s6) → va_S A s.heap H locs → ∀ (ls : Array Slot), lv_has ls 4 [(0, .ref h6), (1, .int x1), (3, .int x3)] → k142 s6 x1 x3 = some (r, s6f) → W p l e rmX6_perform s m ([.ref h6] : List Value).toArray below meth c H locs 0 0 QQ (F0 m 142 ls [])) (s6 : S6) (x1 : Int32) (x3 : Int32) (H : Heap) (locs : List Loc), va_P (dC, dI) vwCl (cf_6 cI cZ h6 h6a1 h6a2 h6a3 h6a4 h6a5 h6a7 h6a17 h6a18 s6) H → va_D A (cf_6 cI cZ h6 h6a1 h6a2 h6a3 h6a4 h6a5 h6a7 h6a17 h6a18 s6) → va_S A s.heap H locs → ∀ (ls : Array Slot), lv_has ls 4 [(0, .ref h6), (1, .int x1), (3, .int x3)] → fX6_perform_195 k142 s6 x1 x3 = some (r, s6f) → W p l e rmX6_perform s m ([.ref h6] : List Value).toArray below meth c H locs 0 0 QQ (F0 m 195 ls []) := by
    intro k142 hk142 s6 x1 x3 H locs hP hD hS ls hl hf
    unfold fX6_perform_195 at hf
    refine lv_iinc (v := (x3 + 1)) (lv' := [(3, .int (x3 + 1)), (0, .ref h6), (1, .int x1)]) hx hb dX6_perform_195 hl (k := 2) rfl rfl (by decide) rfl (fun ls hl => ?_)
    refine lv_goto (tgt := 142) hx hb dX6_perform_198 (by decide) ?_
    exact hk142 s6 x1 (x3 + 1) _ _ hP hD hS _ (lv_sub hl [1, 2, 0] rfl) hf
  have J191 : ∀ (k142 : S6 → Int32 → Int32 → Option (Int32 × S6)) (hk142 : ∀ (s6 : S6) (x1 : Int32) (x3 : Int32) (H : Heap) (locs : List Loc), va_P (dC, dI) vwCl (cf_6 cI cZ h6 h6a1 h6a2 h6a3 h6a4 h6a5 h6a7 h6a17 h6a18 s6) H → va_D A (cf_6 cI cZ h6 h6a1 h6a2 h6a3 h6a4 h6a5 h6a7 h6a17 h6a18 s6) → va_S A s.heap H locs → ∀ (ls : Array Slot), lv_has ls 4 [(0, .ref h6), (1, .int x1), (3, .int x3)] → k142 s6 x1 x3 = some (r, s6f) → W p l e rmX6_perform s m ([.ref h6] : List Value).toArray below meth c H locs 0 0 QQ (F0 m 142 ls [])) (s6 : S6) (x1 : Int32) (x3 : Int32) (t1 : Int32) (t2 : Int32) (H : Heap) (locs : List Loc), va_P (dC, dI) vwCl (cf_6 cI cZ h6 h6a1 h6a2 h6a3 h6a4 h6a5 h6a7 h6a17 h6a18 s6) H → va_D A (cf_6 cI cZ h6 h6a1 h6a2 h6a3 h6a4 h6a5 h6a7 h6a17 h6a18 s6) → va_S A s.heap H locs → ∀ (ls : Array Slot), lv_has ls 4 [(0, .ref h6), (1, .int x1), (3, .int x3)] → fX6_perform_191 k142 s6 x1 x3 t1 t2 = some (r, s6f) → W p l e rmX6_perform s m ([.ref h6] : List Value).toArray below meth c H locs 0 0 QQ (F0 m 191 ls [.int t2, .int t1, .ref h6]) := by
    intro k142 hk142 s6 x1 x3 t1 t2 H locs hP hD hS ls hl hf
    unfold fX6_perform_191 at hf
    refine lv_ior hx hb dX6_perform_191 ?_
    refine va_put (D := (dC, dI)) (ci := 6) (v := .int (t1 ||| t2)) (ty := .int) (C := RX6) (T := TX6) (N := 25) hx hb hts in6 tyX6 tyX6_ok nmX6 hown hK hP hD hS 0 rfl rfl 12 (by decide) fl158 (fun _ h9 => h9) rfl (by decide +kernel) rfl rfl (Nat.le_of_ble_eq_true rfl) dX6_perform_192 (fun H locs hP hD hS => ?_)
    have hP : va_P (dC, dI) vwCl (cf_6 cI cZ h6 h6a1 h6a2 h6a3 h6a4 h6a5 h6a7 h6a17 h6a18 (S6_set_done s6 (t1 ||| t2))) H := Eq.mp (congrArg (fun w => va_P (dC, dI) vwCl w H) (cs6_done cI cZ h6 h6a1 h6a2 h6a3 h6a4 h6a5 h6a7 h6a17 h6a18 s6 (t1 ||| t2))) hP
    have hD : va_D A (cf_6 cI cZ h6 h6a1 h6a2 h6a3 h6a4 h6a5 h6a7 h6a17 h6a18 (S6_set_done s6 (t1 ||| t2))) := Eq.mp (congrArg (fun w => va_D A w) (cs6_done cI cZ h6 h6a1 h6a2 h6a3 h6a4 h6a5 h6a7 h6a17 h6a18 s6 (t1 ||| t2))) hD
    exact J195 k142 hk142 (S6_set_done s6 (t1 ||| t2)) x1 x3 _ _ hP hD hS _ (lv_sub hl [0, 1, 2] rfl) hf
  have J142 : ∀ (n : Nat) (s6 : S6) (x1 : Int32) (x3 : Int32) (H : Heap) (locs : List Loc), va_P (dC, dI) vwCl (cf_6 cI cZ h6 h6a1 h6a2 h6a3 h6a4 h6a5 h6a7 h6a17 h6a18 s6) H → va_D A (cf_6 cI cZ h6 h6a1 h6a2 h6a3 h6a4 h6a5 h6a7 h6a17 h6a18 s6) → va_S A s.heap H locs → ∀ (ls : Array Slot), lv_has ls 4 [(0, .ref h6), (1, .int x1), (3, .int x3)] → fX6_perform_142 n s6 x1 x3 = some (r, s6f) → W p l e rmX6_perform s m ([.ref h6] : List Value).toArray below meth c H locs 0 0 QQ (F0 m 142 ls []) := by
    intro n
    induction n with
    | zero =>
      intro s6 x1 x3 H locs hP hD hS ls hl hf
      cases hf
    | succ n ih =>
      intro s6 x1 x3 H locs hP hD hS ls hl hf
      rw [fX6_perform_142] at hf
      refine lv_iload_n hx hb dX6_perform_142 rfl (lv_at hl 2 rfl) ?_
      refine lv_aload_n hx hb dX6_perform_143 rfl (lv_at hl 0 rfl) ?_
      refine va_get (D := (dC, dI)) (ci := 6) (v := .int (S6_things s6)) (C := RX6) (T := TX6) (N := 25) hx hb hts in6 hown hK hP 0 rfl rfl 0 (by decide) fl57 (fun _ h9 => h9) rfl dX6_perform_144 ?_
      refine lv_icmp_ge (tgt := 201) hx hb dX6_perform_147 (by decide) (fun c_1 => ?_) (fun c_1 => ?_)
      · have hf := it_t c_1 hf
        refine lv_iconst (v := 0) hx hb dX6_perform_201 (by decide) ?_
        have hf : (some (0, s6) : Option (Int32 × S6)) = some (r, s6f) := hf
        have he := Option.some.inj hf
        have he0 : 0 = r := congrArg (fun q => q.1) he
        have he1 : s6 = s6f := congrArg (fun q => q.2) he
        exact hret _ _ _ _ _ _ he0 (by rw [← he1]) dX6_perform_202 hP hD hS
      · have hf := it_f c_1 hf
        refine lv_iload_n hx hb dX6_perform_150 rfl (lv_at hl 1 rfl) ?_
        refine lv_iload_n hx hb dX6_perform_151 rfl (lv_at hl 2 rfl) ?_
        refine lv_ishr hx hb dX6_perform_152 ?_
        refine lv_iconst (v := 1) hx hb dX6_perform_153 (by decide) ?_
        refine lv_iand hx hb dX6_perform_154 ?_
        refine lv_iconst (v := 1) hx hb dX6_perform_155 (by decide) ?_
        refine lv_icmp_ne (tgt := 195) hx hb dX6_perform_156 (by decide) (fun c_2 => ?_) (fun c_2 => ?_)
        · have hf := it_f c_2 hf
          exact J195 (fun s6 x1 x3 => fX6_perform_142 n s6 x1 x3) (fun s6 x1 x3 H locs hP hD hS ls hl hf => ih s6 x1 x3 H locs hP hD hS ls hl hf) s6 x1 x3 _ _ hP hD hS _ (lv_sub hl [0, 1, 2] rfl) hf
        · have hf := it_t c_2 hf
          refine lv_aload_n hx hb dX6_perform_159 rfl (lv_at hl 0 rfl) ?_
          refine lv_aload_n hx hb dX6_perform_160 rfl (lv_at hl 0 rfl) ?_
          refine va_get (D := (dC, dI)) (ci := 6) (v := .int (S6_verb s6)) (C := RX6) (T := TX6) (N := 25) hx hb hts in6 hown hK hP 0 rfl rfl 10 (by decide) fl36 (fun _ h9 => h9) rfl dX6_perform_161 ?_
          refine lv_iload_n hx hb dX6_perform_164 rfl (lv_at hl 2 rfl) ?_
          obtain ⟨r_3, hc_3, hf⟩ := bn1_ok hf
          refine gc_i (wc := (cf_6 cI cZ h6 h6a1 h6a2 h6a3 h6a4 h6a5 h6a7 h6a17 h6a18 s6)) (wr := ([] : va_W)) (w1 := (cf_6 cI cZ h6 h6a1 h6a2 h6a3 h6a4 h6a5 h6a7 h6a17 h6a18 s6)) (ws' := (cf_6 cI cZ h6 h6a1 h6a2 h6a3 h6a4 h6a5 h6a7 h6a17 h6a18 s6)) hP hD hS hA [0, 1, 2, 3, 4, 5, 6, 7, 8] [] [0, 1, 2, 3, 4, 5, 6, 7, 8] rfl rfl (by decide) (by decide) rfl (by decide) (va_runV (As := [.int (S6_verb s6), .int x3]) (rest := []) ⟨hx, hb, hml, hown, hts⟩ (ktX6_suits l dC dI cI cZ h6 h6a1 h6a2 h6a3 h6a4 h6a5 h6a7 h6a17 h6a18 _ s6 (S6_verb s6) x3 r_3 hc_3) (cwV 2 hts gX6_perform_X6_suits rfl rfl rfl (by decide +kernel) ⟨Nat.le_of_ble_eq_true rfl, Nat.le_of_ble_eq_true rfl⟩) (gc_V (ci := 6) (q0 := 0) (C := RX6) (T := TX6) (N := 25) (hP.sub (ws' := (cf_6 cI cZ h6 h6a1 h6a2 h6a3 h6a4 h6a5 h6a7 h6a17 h6a18 s6)) [0, 1, 2, 3, 4, 5, 6, 7, 8] rfl) (hK.sub (tys' := [(cI, .int), (cZ, .boolean)]) [0, 1] rfl) (hD.sub (ws' := (cf_6 cI cZ h6 h6a1 h6a2 h6a3 h6a4 h6a5 h6a7 h6a17 h6a18 s6)) [0, 1, 2, 3, 4, 5, 6, 7, 8] (by decide) rfl) hN rfl rfl) rfl rfl hl.1 rfl (lv_room (Nat.le_of_ble_eq_true rfl)) dX6_perform_165 ⟨Nat.zero_le _, Nat.zero_le _⟩) (fun H locs hP hD hS => ?_)
          refine lv_if_eq (tgt := 195) hx hb dX6_perform_168 (by decide) (fun c_4 => ?_) (fun c_4 => ?_)
          · have hf := it_t c_4 hf
            exact J195 (fun s6 x1 x3 => fX6_perform_142 n s6 x1 x3) (fun s6 x1 x3 H locs hP hD hS ls hl hf => ih s6 x1 x3 H locs hP hD hS ls hl hf) s6 x1 x3 _ _ hP hD hS _ (lv_sub hl [0, 1, 2] rfl) hf
          · have hf := it_f c_4 hf
            refine lv_aload_n hx hb dX6_perform_171 rfl (lv_at hl 0 rfl) ?_
            refine lv_dup hx hb dX6_perform_172 rfl ?_
            refine va_get (D := (dC, dI)) (ci := 6) (v := .int (S6_done s6)) (C := RX6) (T := TX6) (N := 25) hx hb hts in6 hown hK hP 0 rfl rfl 12 (by decide) fl158 (fun _ h9 => h9) rfl dX6_perform_173 ?_
            refine lv_aload_n hx hb dX6_perform_176 rfl (lv_at hl 0 rfl) ?_
            refine lv_iload_n hx hb dX6_perform_177 rfl (lv_at hl 2 rfl) ?_
            obtain ⟨r_5, s6_5, hc_5, hf⟩ := bn2_ok hf
            refine gc_i (wc := (cf_6 cI cZ h6 h6a1 h6a2 h6a3 h6a4 h6a5 h6a7 h6a17 h6a18 s6)) (wr := ([] : va_W)) (w1 := (cf_6 cI cZ h6 h6a1 h6a2 h6a3 h6a4 h6a5 h6a7 h6a17 h6a18 s6_5)) (ws' := (cf_6 cI cZ h6 h6a1 h6a2 h6a3 h6a4 h6a5 h6a7 h6a17 h6a18 s6_5)) hP hD hS hA [0, 1, 2, 3, 4, 5, 6, 7, 8] [] [0, 1, 2, 3, 4, 5, 6, 7, 8] rfl rfl (by decide) (by decide) rfl (by decide) (va_runV (As := [.int x3]) (rest := [.int (S6_done s6), .ref h6]) ⟨hx, hb, hml, hown, hts⟩ (ktX6_acts l dC dI cI cZ h6 h6a1 h6a2 h6a3 h6a4 h6a5 h6a7 h6a17 h6a18 _ s6 x3 r_5 s6_5 hc_5) (cwV 1 hts gX6_perform_X6_acts rfl rfl rfl (by decide +kernel) ⟨Nat.le_of_ble_eq_true rfl, Nat.le_of_ble_eq_true rfl⟩) (gc_V (ci := 6) (q0 := 0) (C := RX6) (T := TX6) (N := 25) (hP.sub (ws' := (cf_6 cI cZ h6 h6a1 h6a2 h6a3 h6a4 h6a5 h6a7 h6a17 h6a18 s6)) [0, 1, 2, 3, 4, 5, 6, 7, 8] rfl) (hK.sub (tys' := [(cI, .int), (cZ, .boolean)]) [0, 1] rfl) (hD.sub (ws' := (cf_6 cI cZ h6 h6a1 h6a2 h6a3 h6a4 h6a5 h6a7 h6a17 h6a18 s6)) [0, 1, 2, 3, 4, 5, 6, 7, 8] (by decide) rfl) hN rfl rfl) rfl rfl hl.1 rfl (lv_room (Nat.le_of_ble_eq_true rfl)) dX6_perform_178 ⟨Nat.zero_le _, Nat.zero_le _⟩) (fun H locs hP hD hS => ?_)
            refine lv_if_eq (tgt := 190) hx hb dX6_perform_181 (by decide) (fun c_6 => ?_) (fun c_6 => ?_)
            · have hf := it_t c_6 hf
              refine lv_iconst (v := 0) hx hb dX6_perform_190 (by decide) ?_
              exact J191 (fun s6 x1 x3 => fX6_perform_142 n s6 x1 x3) (fun s6 x1 x3 H locs hP hD hS ls hl hf => ih s6 x1 x3 H locs hP hD hS ls hl hf) s6_5 x1 x3 (S6_done s6) 0 _ _ hP hD hS _ (lv_sub hl [0, 1, 2] rfl) hf
            · have hf := it_f c_6 hf
              refine lv_iconst (v := 1) hx hb dX6_perform_184 (by decide) ?_
              refine lv_iload_n hx hb dX6_perform_185 rfl (lv_at hl 2 rfl) ?_
              refine lv_ishl hx hb dX6_perform_186 ?_
              refine lv_goto (tgt := 191) hx hb dX6_perform_187 (by decide) ?_
              exact J191 (fun s6 x1 x3 => fX6_perform_142 n s6 x1 x3) (fun s6 x1 x3 H locs hP hD hS ls hl hf => ih s6 x1 x3 H locs hP hD hS ls hl hf) s6_5 x1 x3 (S6_done s6) ((1 : Int32) <<< (x3 &&& 31)) _ _ hP hD hS _ (lv_sub hl [0, 1, 2] rfl) hf
  have J132 : ∀ (s6 : S6) (x1 : Int32) (t1 : Int32) (H : Heap) (locs : List Loc), va_P (dC, dI) vwCl (cf_6 cI cZ h6 h6a1 h6a2 h6a3 h6a4 h6a5 h6a7 h6a17 h6a18 s6) H → va_D A (cf_6 cI cZ h6 h6a1 h6a2 h6a3 h6a4 h6a5 h6a7 h6a17 h6a18 s6) → va_S A s.heap H locs → ∀ (ls : Array Slot), lv_has ls 4 [(0, .ref h6), (1, .int x1)] → fX6_perform_132 s6 x1 t1 = some (r, s6f) → W p l e rmX6_perform s m ([.ref h6] : List Value).toArray below meth c H locs 0 0 QQ (F0 m 132 ls [.int t1, .ref h6]) := by
    intro  s6 x1 t1 H locs hP hD hS ls hl hf
    unfold fX6_perform_132 at hf
    refine va_put (D := (dC, dI)) (ci := 6) (v := .int t1) (ty := .int) (C := RX6) (T := TX6) (N := 25) hx hb hts in6 tyX6 tyX6_ok nmX6 hown hK hP hD hS 0 rfl rfl 14 (by decide) fl42 (fun _ h9 => h9) rfl (by decide +kernel) rfl rfl (Nat.le_of_ble_eq_true rfl) dX6_perform_132 (fun H locs hP hD hS => ?_)
    have hP : va_P (dC, dI) vwCl (cf_6 cI cZ h6 h6a1 h6a2 h6a3 h6a4 h6a5 h6a7 h6a17 h6a18 (S6_set_it s6 t1)) H := Eq.mp (congrArg (fun w => va_P (dC, dI) vwCl w H) (cs6_it cI cZ h6 h6a1 h6a2 h6a3 h6a4 h6a5 h6a7 h6a17 h6a18 s6 t1)) hP
    have hD : va_D A (cf_6 cI cZ h6 h6a1 h6a2 h6a3 h6a4 h6a5 h6a7 h6a17 h6a18 (S6_set_it s6 t1)) := Eq.mp (congrArg (fun w => va_D A w) (cs6_it cI cZ h6 h6a1 h6a2 h6a3 h6a4 h6a5 h6a7 h6a17 h6a18 s6 t1)) hD
    refine lv_aload_n hx hb dX6_perform_135 rfl (lv_at hl 0 rfl) ?_
    refine lv_iconst (v := 0) hx hb dX6_perform_136 (by decide) ?_
    refine va_put (D := (dC, dI)) (ci := 6) (v := .int 0) (ty := .int) (C := RX6) (T := TX6) (N := 25) hx hb hts in6 tyX6 tyX6_ok nmX6 hown hK hP hD hS 0 rfl rfl 12 (by decide) fl158 (fun _ h9 => h9) rfl (by decide +kernel) rfl rfl (Nat.le_of_ble_eq_true rfl) dX6_perform_137 (fun H locs hP hD hS => ?_)
    have hP : va_P (dC, dI) vwCl (cf_6 cI cZ h6 h6a1 h6a2 h6a3 h6a4 h6a5 h6a7 h6a17 h6a18 (S6_set_done (S6_set_it s6 t1) 0)) H := Eq.mp (congrArg (fun w => va_P (dC, dI) vwCl w H) (cs6_done cI cZ h6 h6a1 h6a2 h6a3 h6a4 h6a5 h6a7 h6a17 h6a18 (S6_set_it s6 t1) 0)) hP
    have hD : va_D A (cf_6 cI cZ h6 h6a1 h6a2 h6a3 h6a4 h6a5 h6a7 h6a17 h6a18 (S6_set_done (S6_set_it s6 t1) 0)) := Eq.mp (congrArg (fun w => va_D A w) (cs6_done cI cZ h6 h6a1 h6a2 h6a3 h6a4 h6a5 h6a7 h6a17 h6a18 (S6_set_it s6 t1) 0)) hD
    refine lv_iconst (v := 0) hx hb dX6_perform_140 (by decide) ?_
    refine lv_istore_n (lv' := [(3, .int 0), (0, .ref h6), (1, .int x1)]) hx hb dX6_perform_141 rfl hl (by decide) rfl (fun ls hl => ?_)
    exact J142 64 (S6_set_done (S6_set_it s6 t1) 0) x1 0 _ _ hP hD hS _ (lv_sub hl [1, 2, 0] rfl) hf
  have J92 : ∀ (s6 : S6) (x1 : Int32) (x2 : Int32) (H : Heap) (locs : List Loc), va_P (dC, dI) vwCl (cf_6 cI cZ h6 h6a1 h6a2 h6a3 h6a4 h6a5 h6a7 h6a17 h6a18 s6) H → va_D A (cf_6 cI cZ h6 h6a1 h6a2 h6a3 h6a4 h6a5 h6a7 h6a17 h6a18 s6) → va_S A s.heap H locs → ∀ (ls : Array Slot), lv_has ls 4 [(0, .ref h6), (1, .int x1), (2, .int x2)] → fX6_perform_92 s6 x1 x2 = some (r, s6f) → W p l e rmX6_perform s m ([.ref h6] : List Value).toArray below meth c H locs 0 0 QQ (F0 m 92 ls []) := by
    intro  s6 x1 x2 H locs hP hD hS ls hl hf
    unfold fX6_perform_92 at hf
    refine lv_aload_n hx hb dX6_perform_92 rfl (lv_at hl 0 rfl) ?_
    refine lv_aload_n hx hb dX6_perform_93 rfl (lv_at hl 0 rfl) ?_
    refine va_get (D := (dC, dI)) (ci := 6) (v := .ref h6a17) (C := RX6) (T := TX6) (N := 25) hx hb hts in6 hown hK hP 0 rfl rfl 17 (by decide) fl45 (fun _ h9 => h9) rfl dX6_perform_94 ?_
    refine lv_iconst (v := 0) hx hb dX6_perform_97 (by decide) ?_
    obtain ⟨hi_1, hf⟩ := ai_ok hf
    refine va_iald (n := 24) (f := (S6_order s6)) hx hb hK hP 7 0 rfl rfl hi_1 dX6_perform_98 ?_
    refine va_put (D := (dC, dI)) (ci := 6) (v := .int ((S6_order s6) (0 : Int32).toNatClampNeg)) (ty := .int) (C := RX6) (T := TX6) (N := 25) hx hb hts in6 tyX6 tyX6_ok nmX6 hown hK hP hD hS 0 rfl rfl 10 (by decide) fl36 (fun _ h9 => h9) rfl (by decide +kernel) rfl rfl (Nat.le_of_ble_eq_true rfl) dX6_perform_99 (fun H locs hP hD hS => ?_)
    have hP : va_P (dC, dI) vwCl (cf_6 cI cZ h6 h6a1 h6a2 h6a3 h6a4 h6a5 h6a7 h6a17 h6a18 (S6_set_verb s6 ((S6_order s6) (0 : Int32).toNatClampNeg))) H := Eq.mp (congrArg (fun w => va_P (dC, dI) vwCl w H) (cs6_verb cI cZ h6 h6a1 h6a2 h6a3 h6a4 h6a5 h6a7 h6a17 h6a18 s6 ((S6_order s6) (0 : Int32).toNatClampNeg))) hP
    have hD : va_D A (cf_6 cI cZ h6 h6a1 h6a2 h6a3 h6a4 h6a5 h6a7 h6a17 h6a18 (S6_set_verb s6 ((S6_order s6) (0 : Int32).toNatClampNeg))) := Eq.mp (congrArg (fun w => va_D A w) (cs6_verb cI cZ h6 h6a1 h6a2 h6a3 h6a4 h6a5 h6a7 h6a17 h6a18 s6 ((S6_order s6) (0 : Int32).toNatClampNeg))) hD
    refine lv_aload_n hx hb dX6_perform_102 rfl (lv_at hl 0 rfl) ?_
    refine lv_iload_n hx hb dX6_perform_103 rfl (lv_at hl 1 rfl) ?_
    refine va_put (D := (dC, dI)) (ci := 6) (v := .int x1) (ty := .int) (C := RX6) (T := TX6) (N := 25) hx hb hts in6 tyX6 tyX6_ok nmX6 hown hK hP hD hS 0 rfl rfl 11 (by decide) fl140 (fun _ h9 => h9) rfl (by decide +kernel) rfl rfl (Nat.le_of_ble_eq_true rfl) dX6_perform_104 (fun H locs hP hD hS => ?_)
    have hP : va_P (dC, dI) vwCl (cf_6 cI cZ h6 h6a1 h6a2 h6a3 h6a4 h6a5 h6a7 h6a17 h6a18 (S6_set_meant (S6_set_verb s6 ((S6_order s6) (0 : Int32).toNatClampNeg)) x1)) H := Eq.mp (congrArg (fun w => va_P (dC, dI) vwCl w H) (cs6_meant cI cZ h6 h6a1 h6a2 h6a3 h6a4 h6a5 h6a7 h6a17 h6a18 (S6_set_verb s6 ((S6_order s6) (0 : Int32).toNatClampNeg)) x1)) hP
    have hD : va_D A (cf_6 cI cZ h6 h6a1 h6a2 h6a3 h6a4 h6a5 h6a7 h6a17 h6a18 (S6_set_meant (S6_set_verb s6 ((S6_order s6) (0 : Int32).toNatClampNeg)) x1)) := Eq.mp (congrArg (fun w => va_D A w) (cs6_meant cI cZ h6 h6a1 h6a2 h6a3 h6a4 h6a5 h6a7 h6a17 h6a18 (S6_set_verb s6 ((S6_order s6) (0 : Int32).toNatClampNeg)) x1)) hD
    refine lv_aload_n hx hb dX6_perform_107 rfl (lv_at hl 0 rfl) ?_
    refine lv_iload_n hx hb dX6_perform_108 rfl (lv_at hl 2 rfl) ?_
    refine va_put (D := (dC, dI)) (ci := 6) (v := .int x2) (ty := .int) (C := RX6) (T := TX6) (N := 25) hx hb hts in6 tyX6 tyX6_ok nmX6 hown hK hP hD hS 0 rfl rfl 13 (by decide) fl39 (fun _ h9 => h9) rfl (by decide +kernel) rfl rfl (Nat.le_of_ble_eq_true rfl) dX6_perform_109 (fun H locs hP hD hS => ?_)
    have hP : va_P (dC, dI) vwCl (cf_6 cI cZ h6 h6a1 h6a2 h6a3 h6a4 h6a5 h6a7 h6a17 h6a18 (S6_set_into (S6_set_meant (S6_set_verb s6 ((S6_order s6) (0 : Int32).toNatClampNeg)) x1) x2)) H := Eq.mp (congrArg (fun w => va_P (dC, dI) vwCl w H) (cs6_into cI cZ h6 h6a1 h6a2 h6a3 h6a4 h6a5 h6a7 h6a17 h6a18 (S6_set_meant (S6_set_verb s6 ((S6_order s6) (0 : Int32).toNatClampNeg)) x1) x2)) hP
    have hD : va_D A (cf_6 cI cZ h6 h6a1 h6a2 h6a3 h6a4 h6a5 h6a7 h6a17 h6a18 (S6_set_into (S6_set_meant (S6_set_verb s6 ((S6_order s6) (0 : Int32).toNatClampNeg)) x1) x2)) := Eq.mp (congrArg (fun w => va_D A w) (cs6_into cI cZ h6 h6a1 h6a2 h6a3 h6a4 h6a5 h6a7 h6a17 h6a18 (S6_set_meant (S6_set_verb s6 ((S6_order s6) (0 : Int32).toNatClampNeg)) x1) x2)) hD
    refine lv_aload_n hx hb dX6_perform_112 rfl (lv_at hl 0 rfl) ?_
    refine lv_iload_n hx hb dX6_perform_113 rfl (lv_at hl 1 rfl) ?_
    obtain ⟨r_2, hc_2, hf⟩ := bn1_ok hf
    refine gc_i (wc := ([] : va_W)) (wr := (cf_6 cI cZ h6 h6a1 h6a2 h6a3 h6a4 h6a5 h6a7 h6a17 h6a18 (S6_set_into (S6_set_meant (S6_set_verb s6 ((S6_order s6) (0 : Int32).toNatClampNeg)) x1) x2))) (w1 := ([] : va_W)) (ws' := (cf_6 cI cZ h6 h6a1 h6a2 h6a3 h6a4 h6a5 h6a7 h6a17 h6a18 (S6_set_into (S6_set_meant (S6_set_verb s6 ((S6_order s6) (0 : Int32).toNatClampNeg)) x1) x2))) hP hD hS hA [] [0, 1, 2, 3, 4, 5, 6, 7, 8] [0, 1, 2, 3, 4, 5, 6, 7, 8] rfl rfl (by decide) (by decide) rfl (by decide) (va_runS (As := [.int x1]) (rest := [.ref h6]) ⟨hx, hb, hml, hown, hts⟩ (ktX6_bits l dC dI _ x1 r_2 hc_2) (va_cwS 1 hts gX6_perform_X6_bits rfl rfl rfl (by decide +kernel) ⟨Nat.le_of_ble_eq_true rfl, Nat.le_of_ble_eq_true rfl⟩) (gc_S (hP.sub (ws' := ([] : va_W)) [] rfl) (hK.sub (tys' := []) [] rfl) (hD.sub (ws' := ([] : va_W)) [] (by decide) rfl) hN) rfl rfl hl.1 rfl (lv_room (Nat.le_of_ble_eq_true rfl)) dX6_perform_114 ⟨Nat.zero_le _, Nat.zero_le _⟩) (fun H locs hP hD hS => ?_)
    refine lv_iconst (v := 1) hx hb dX6_perform_117 (by decide) ?_
    refine lv_icmp_ne (tgt := 128) hx hb dX6_perform_118 (by decide) (fun c_3 => ?_) (fun c_3 => ?_)
    · have hf := it_f c_3 hf
      refine lv_aload_n hx hb dX6_perform_128 rfl (lv_at hl 0 rfl) ?_
      refine va_get (D := (dC, dI)) (ci := 6) (v := .int (S6_it (S6_set_into (S6_set_meant (S6_set_verb s6 ((S6_order s6) (0 : Int32).toNatClampNeg)) x1) x2))) (C := RX6) (T := TX6) (N := 25) hx hb hts in6 hown hK hP 0 rfl rfl 14 (by decide) fl42 (fun _ h9 => h9) rfl dX6_perform_129 ?_
      exact J132 (S6_set_into (S6_set_meant (S6_set_verb s6 ((S6_order s6) (0 : Int32).toNatClampNeg)) x1) x2) x1 (S6_it (S6_set_into (S6_set_meant (S6_set_verb s6 ((S6_order s6) (0 : Int32).toNatClampNeg)) x1) x2)) _ _ hP hD hS _ (lv_sub hl [0, 1] rfl) hf
    · have hf := it_t c_3 hf
      refine lv_iload_n hx hb dX6_perform_121 rfl (lv_at hl 1 rfl) ?_
      obtain ⟨r_4, hc_4, hf⟩ := bn1_ok hf
      refine gc_i (wc := ([] : va_W)) (wr := (cf_6 cI cZ h6 h6a1 h6a2 h6a3 h6a4 h6a5 h6a7 h6a17 h6a18 (S6_set_into (S6_set_meant (S6_set_verb s6 ((S6_order s6) (0 : Int32).toNatClampNeg)) x1) x2))) (w1 := ([] : va_W)) (ws' := (cf_6 cI cZ h6 h6a1 h6a2 h6a3 h6a4 h6a5 h6a7 h6a17 h6a18 (S6_set_into (S6_set_meant (S6_set_verb s6 ((S6_order s6) (0 : Int32).toNatClampNeg)) x1) x2))) hP hD hS hA [] [0, 1, 2, 3, 4, 5, 6, 7, 8] [0, 1, 2, 3, 4, 5, 6, 7, 8] rfl rfl (by decide) (by decide) rfl (by decide) (va_runS (As := [.int x1]) (rest := [.ref h6]) ⟨hx, hb, hml, hown, hts⟩ (ktX6_lowest l dC dI _ x1 r_4 hc_4) (va_cwS 1 hts gX6_perform_X6_lowest rfl rfl rfl (by decide +kernel) ⟨Nat.le_of_ble_eq_true rfl, Nat.le_of_ble_eq_true rfl⟩) (gc_S (hP.sub (ws' := ([] : va_W)) [] rfl) (hK.sub (tys' := []) [] rfl) (hD.sub (ws' := ([] : va_W)) [] (by decide) rfl) hN) rfl rfl hl.1 rfl (lv_room (Nat.le_of_ble_eq_true rfl)) dX6_perform_122 ⟨Nat.zero_le _, Nat.zero_le _⟩) (fun H locs hP hD hS => ?_)
      refine lv_goto (tgt := 132) hx hb dX6_perform_125 (by decide) ?_
      exact J132 (S6_set_into (S6_set_meant (S6_set_verb s6 ((S6_order s6) (0 : Int32).toNatClampNeg)) x1) x2) x1 r_4 _ _ hP hD hS _ (lv_sub hl [0, 1] rfl) hf
  have J19 : ∀ (n : Nat) (s6 : S6) (x1 : Int32) (x2 : Int32) (H : Heap) (locs : List Loc), va_P (dC, dI) vwCl (cf_6 cI cZ h6 h6a1 h6a2 h6a3 h6a4 h6a5 h6a7 h6a17 h6a18 s6) H → va_D A (cf_6 cI cZ h6 h6a1 h6a2 h6a3 h6a4 h6a5 h6a7 h6a17 h6a18 s6) → va_S A s.heap H locs → ∀ (ls : Array Slot), lv_has ls 4 [(0, .ref h6), (1, .int x1), (2, .int x2)] → fX6_perform_19 n s6 x1 x2 = some (r, s6f) → W p l e rmX6_perform s m ([.ref h6] : List Value).toArray below meth c H locs 0 0 QQ (F0 m 19 ls []) := by
    intro n
    induction n with
    | zero =>
      intro s6 x1 x2 H locs hP hD hS ls hl hf
      cases hf
    | succ n ih =>
      intro s6 x1 x2 H locs hP hD hS ls hl hf
      rw [fX6_perform_19] at hf
      refine lv_aload_n hx hb dX6_perform_19 rfl (lv_at hl 0 rfl) ?_
      refine lv_dup hx hb dX6_perform_20 rfl ?_
      refine va_get (D := (dC, dI)) (ci := 6) (v := .int (S6_at s6)) (C := RX6) (T := TX6) (N := 25) hx hb hts in6 hown hK hP 0 rfl rfl 21 (by decide) fl102 (fun _ h9 => h9) rfl dX6_perform_21 ?_
      refine lv_iconst (v := 1) hx hb dX6_perform_24 (by decide) ?_
      refine lv_iadd hx hb dX6_perform_25 ?_
      refine va_put (D := (dC, dI)) (ci := 6) (v := .int ((S6_at s6) + 1)) (ty := .int) (C := RX6) (T := TX6) (N := 25) hx hb hts in6 tyX6 tyX6_ok nmX6 hown hK hP hD hS 0 rfl rfl 21 (by decide) fl102 (fun _ h9 => h9) rfl (by decide +kernel) rfl rfl (Nat.le_of_ble_eq_true rfl) dX6_perform_26 (fun H locs hP hD hS => ?_)
      have hP : va_P (dC, dI) vwCl (cf_6 cI cZ h6 h6a1 h6a2 h6a3 h6a4 h6a5 h6a7 h6a17 h6a18 (S6_set_at s6 ((S6_at s6) + 1))) H := Eq.mp (congrArg (fun w => va_P (dC, dI) vwCl w H) (cs6_at cI cZ h6 h6a1 h6a2 h6a3 h6a4 h6a5 h6a7 h6a17 h6a18 s6 ((S6_at s6) + 1))) hP
      have hD : va_D A (cf_6 cI cZ h6 h6a1 h6a2 h6a3 h6a4 h6a5 h6a7 h6a17 h6a18 (S6_set_at s6 ((S6_at s6) + 1))) := Eq.mp (congrArg (fun w => va_D A w) (cs6_at cI cZ h6 h6a1 h6a2 h6a3 h6a4 h6a5 h6a7 h6a17 h6a18 s6 ((S6_at s6) + 1))) hD
      refine lv_aload_n hx hb dX6_perform_29 rfl (lv_at hl 0 rfl) ?_
      obtain ⟨r_1, s6_1, hc_1, hf⟩ := bn2_ok hf
      refine gc_i (wc := (cf_6 cI cZ h6 h6a1 h6a2 h6a3 h6a4 h6a5 h6a7 h6a17 h6a18 (S6_set_at s6 ((S6_at s6) + 1)))) (wr := ([] : va_W)) (w1 := (cf_6 cI cZ h6 h6a1 h6a2 h6a3 h6a4 h6a5 h6a7 h6a17 h6a18 s6_1)) (ws' := (cf_6 cI cZ h6 h6a1 h6a2 h6a3 h6a4 h6a5 h6a7 h6a17 h6a18 s6_1)) hP hD hS hA [0, 1, 2, 3, 4, 5, 6, 7, 8] [] [0, 1, 2, 3, 4, 5, 6, 7, 8] rfl rfl (by decide) (by decide) rfl (by decide) (va_runV (As := []) (rest := []) ⟨hx, hb, hml, hown, hts⟩ (ktX6_part l dC dI cI cZ h6 h6a1 h6a2 h6a3 h6a4 h6a5 h6a7 h6a17 h6a18 _ (S6_set_at s6 ((S6_at s6) + 1)) r_1 s6_1 hc_1) (cwV 0 hts gX6_perform_X6_part rfl rfl rfl (by decide +kernel) ⟨Nat.le_of_ble_eq_true rfl, Nat.le_of_ble_eq_true rfl⟩) (gc_V (ci := 6) (q0 := 0) (C := RX6) (T := TX6) (N := 25) (hP.sub (ws' := (cf_6 cI cZ h6 h6a1 h6a2 h6a3 h6a4 h6a5 h6a7 h6a17 h6a18 (S6_set_at s6 ((S6_at s6) + 1)))) [0, 1, 2, 3, 4, 5, 6, 7, 8] rfl) (hK.sub (tys' := [(cI, .int), (cZ, .boolean)]) [0, 1] rfl) (hD.sub (ws' := (cf_6 cI cZ h6 h6a1 h6a2 h6a3 h6a4 h6a5 h6a7 h6a17 h6a18 (S6_set_at s6 ((S6_at s6) + 1)))) [0, 1, 2, 3, 4, 5, 6, 7, 8] (by decide) rfl) hN rfl rfl) rfl rfl hl.1 rfl (lv_room (Nat.le_of_ble_eq_true rfl)) dX6_perform_30 ⟨Nat.zero_le _, Nat.zero_le _⟩) (fun H locs hP hD hS => ?_)
      refine lv_istore_n (lv' := [(3, .int r_1), (0, .ref h6), (1, .int x1), (2, .int x2)]) hx hb dX6_perform_33 rfl hl (by decide) rfl (fun ls hl => ?_)
      refine lv_iload_n hx hb dX6_perform_34 rfl (lv_at hl 0 rfl) ?_
      refine lv_if_ne (tgt := 43) hx hb dX6_perform_35 (by decide) (fun c_2 => ?_) (fun c_2 => ?_)
      · have hf := it_f c_2 hf
        refine lv_iload_n hx hb dX6_perform_43 rfl (lv_at hl 2 rfl) ?_
        refine lv_iload_n hx hb dX6_perform_44 rfl (lv_at hl 0 rfl) ?_
        refine lv_ior hx hb dX6_perform_45 ?_
        refine lv_istore_n (lv' := [(1, .int (x1 ||| r_1)), (3, .int r_1), (0, .ref h6), (2, .int x2)]) hx hb dX6_perform_46 rfl hl (by decide) rfl (fun ls hl => ?_)
        refine lv_aload_n hx hb dX6_perform_47 rfl (lv_at hl 2 rfl) ?_
        refine lv_bipush (v := 13) hx hb dX6_perform_48 (by decide) ?_
        obtain ⟨r_3, hc_3, hf⟩ := bn1_ok hf
        refine gc_i (wc := (cf_6 cI cZ h6 h6a1 h6a2 h6a3 h6a4 h6a5 h6a7 h6a17 h6a18 s6_1)) (wr := ([] : va_W)) (w1 := (cf_6 cI cZ h6 h6a1 h6a2 h6a3 h6a4 h6a5 h6a7 h6a17 h6a18 s6_1)) (ws' := (cf_6 cI cZ h6 h6a1 h6a2 h6a3 h6a4 h6a5 h6a7 h6a17 h6a18 s6_1)) hP hD hS hA [0, 1, 2, 3, 4, 5, 6, 7, 8] [] [0, 1, 2, 3, 4, 5, 6, 7, 8] rfl rfl (by decide) (by decide) rfl (by decide) (va_runV (As := [.int 13]) (rest := []) ⟨hx, hb, hml, hown, hts⟩ (ktX6_is l dC dI cI cZ h6 h6a1 h6a2 h6a3 h6a4 h6a5 h6a7 h6a17 h6a18 _ s6_1 13 r_3 hc_3) (cwV 1 hts gX6_perform_X6_is rfl rfl rfl (by decide +kernel) ⟨Nat.le_of_ble_eq_true rfl, Nat.le_of_ble_eq_true rfl⟩) (gc_V (ci := 6) (q0 := 0) (C := RX6) (T := TX6) (N := 25) (hP.sub (ws' := (cf_6 cI cZ h6 h6a1 h6a2 h6a3 h6a4 h6a5 h6a7 h6a17 h6a18 s6_1)) [0, 1, 2, 3, 4, 5, 6, 7, 8] rfl) (hK.sub (tys' := [(cI, .int), (cZ, .boolean)]) [0, 1] rfl) (hD.sub (ws' := (cf_6 cI cZ h6 h6a1 h6a2 h6a3 h6a4 h6a5 h6a7 h6a17 h6a18 s6_1)) [0, 1, 2, 3, 4, 5, 6, 7, 8] (by decide) rfl) hN rfl rfl) rfl rfl hl.1 rfl (lv_room (Nat.le_of_ble_eq_true rfl)) dX6_perform_50 ⟨Nat.zero_le _, Nat.zero_le _⟩) (fun H locs hP hD hS => ?_)
        refine lv_if_ne (tgt := 19) hx hb dX6_perform_53 (by decide) (fun c_4 => ?_) (fun c_4 => ?_)
        · have hf := it_f c_4 hf
          exact ih s6_1 (x1 ||| r_1) x2 _ _ hP hD hS _ (lv_sub hl [2, 0, 3] rfl) hf
        · have hf := it_t c_4 hf
          refine lv_aload_n hx hb dX6_perform_56 rfl (lv_at hl 2 rfl) ?_
          refine lv_bipush (v := 16) hx hb dX6_perform_57 (by decide) ?_
          obtain ⟨r_5, hc_5, hf⟩ := bn1_ok hf
          refine gc_i (wc := (cf_6 cI cZ h6 h6a1 h6a2 h6a3 h6a4 h6a5 h6a7 h6a17 h6a18 s6_1)) (wr := ([] : va_W)) (w1 := (cf_6 cI cZ h6 h6a1 h6a2 h6a3 h6a4 h6a5 h6a7 h6a17 h6a18 s6_1)) (ws' := (cf_6 cI cZ h6 h6a1 h6a2 h6a3 h6a4 h6a5 h6a7 h6a17 h6a18 s6_1)) hP hD hS hA [0, 1, 2, 3, 4, 5, 6, 7, 8] [] [0, 1, 2, 3, 4, 5, 6, 7, 8] rfl rfl (by decide) (by decide) rfl (by decide) (va_runV (As := [.int 16]) (rest := []) ⟨hx, hb, hml, hown, hts⟩ (ktX6_is l dC dI cI cZ h6 h6a1 h6a2 h6a3 h6a4 h6a5 h6a7 h6a17 h6a18 _ s6_1 16 r_5 hc_5) (cwV 1 hts gX6_perform_X6_is rfl rfl rfl (by decide +kernel) ⟨Nat.le_of_ble_eq_true rfl, Nat.le_of_ble_eq_true rfl⟩) (gc_V (ci := 6) (q0 := 0) (C := RX6) (T := TX6) (N := 25) (hP.sub (ws' := (cf_6 cI cZ h6 h6a1 h6a2 h6a3 h6a4 h6a5 h6a7 h6a17 h6a18 s6_1)) [0, 1, 2, 3, 4, 5, 6, 7, 8] rfl) (hK.sub (tys' := [(cI, .int), (cZ, .boolean)]) [0, 1] rfl) (hD.sub (ws' := (cf_6 cI cZ h6 h6a1 h6a2 h6a3 h6a4 h6a5 h6a7 h6a17 h6a18 s6_1)) [0, 1, 2, 3, 4, 5, 6, 7, 8] (by decide) rfl) hN rfl rfl) rfl rfl hl.1 rfl (lv_room (Nat.le_of_ble_eq_true rfl)) dX6_perform_59 ⟨Nat.zero_le _, Nat.zero_le _⟩) (fun H locs hP hD hS => ?_)
          refine lv_if_eq (tgt := 92) hx hb dX6_perform_62 (by decide) (fun c_6 => ?_) (fun c_6 => ?_)
          · have hf := it_t c_6 hf
            exact J92 s6_1 (x1 ||| r_1) x2 _ _ hP hD hS _ (lv_sub hl [2, 0, 3] rfl) hf
          · have hf := it_f c_6 hf
            refine lv_aload_n hx hb dX6_perform_65 rfl (lv_at hl 2 rfl) ?_
            refine lv_dup hx hb dX6_perform_66 rfl ?_
            refine va_get (D := (dC, dI)) (ci := 6) (v := .int (S6_at s6_1)) (C := RX6) (T := TX6) (N := 25) hx hb hts in6 hown hK hP 0 rfl rfl 21 (by decide) fl102 (fun _ h9 => h9) rfl dX6_perform_67 ?_
            refine lv_iconst (v := 1) hx hb dX6_perform_70 (by decide) ?_
            refine lv_iadd hx hb dX6_perform_71 ?_
            refine va_put (D := (dC, dI)) (ci := 6) (v := .int ((S6_at s6_1) + 1)) (ty := .int) (C := RX6) (T := TX6) (N := 25) hx hb hts in6 tyX6 tyX6_ok nmX6 hown hK hP hD hS 0 rfl rfl 21 (by decide) fl102 (fun _ h9 => h9) rfl (by decide +kernel) rfl rfl (Nat.le_of_ble_eq_true rfl) dX6_perform_72 (fun H locs hP hD hS => ?_)
            have hP : va_P (dC, dI) vwCl (cf_6 cI cZ h6 h6a1 h6a2 h6a3 h6a4 h6a5 h6a7 h6a17 h6a18 (S6_set_at s6_1 ((S6_at s6_1) + 1))) H := Eq.mp (congrArg (fun w => va_P (dC, dI) vwCl w H) (cs6_at cI cZ h6 h6a1 h6a2 h6a3 h6a4 h6a5 h6a7 h6a17 h6a18 s6_1 ((S6_at s6_1) + 1))) hP
            have hD : va_D A (cf_6 cI cZ h6 h6a1 h6a2 h6a3 h6a4 h6a5 h6a7 h6a17 h6a18 (S6_set_at s6_1 ((S6_at s6_1) + 1))) := Eq.mp (congrArg (fun w => va_D A w) (cs6_at cI cZ h6 h6a1 h6a2 h6a3 h6a4 h6a5 h6a7 h6a17 h6a18 s6_1 ((S6_at s6_1) + 1))) hD
            refine lv_aload_n hx hb dX6_perform_75 rfl (lv_at hl 2 rfl) ?_
            refine lv_bipush (v := 16) hx hb dX6_perform_76 (by decide) ?_
            obtain ⟨r_7, s6_7, hc_7, hf⟩ := bn2_ok hf
            refine gc_i (wc := (cf_6 cI cZ h6 h6a1 h6a2 h6a3 h6a4 h6a5 h6a7 h6a17 h6a18 (S6_set_at s6_1 ((S6_at s6_1) + 1)))) (wr := ([] : va_W)) (w1 := (cf_6 cI cZ h6 h6a1 h6a2 h6a3 h6a4 h6a5 h6a7 h6a17 h6a18 s6_7)) (ws' := (cf_6 cI cZ h6 h6a1 h6a2 h6a3 h6a4 h6a5 h6a7 h6a17 h6a18 s6_7)) hP hD hS hA [0, 1, 2, 3, 4, 5, 6, 7, 8] [] [0, 1, 2, 3, 4, 5, 6, 7, 8] rfl rfl (by decide) (by decide) rfl (by decide) (va_runV (As := [.int 16]) (rest := []) ⟨hx, hb, hml, hown, hts⟩ (ktX6_single l dC dI cI cZ h6 h6a1 h6a2 h6a3 h6a4 h6a5 h6a7 h6a17 h6a18 _ (S6_set_at s6_1 ((S6_at s6_1) + 1)) 16 r_7 s6_7 hc_7) (cwV 1 hts gX6_perform_X6_single rfl rfl rfl (by decide +kernel) ⟨Nat.le_of_ble_eq_true rfl, Nat.le_of_ble_eq_true rfl⟩) (gc_V (ci := 6) (q0 := 0) (C := RX6) (T := TX6) (N := 25) (hP.sub (ws' := (cf_6 cI cZ h6 h6a1 h6a2 h6a3 h6a4 h6a5 h6a7 h6a17 h6a18 (S6_set_at s6_1 ((S6_at s6_1) + 1)))) [0, 1, 2, 3, 4, 5, 6, 7, 8] rfl) (hK.sub (tys' := [(cI, .int), (cZ, .boolean)]) [0, 1] rfl) (hD.sub (ws' := (cf_6 cI cZ h6 h6a1 h6a2 h6a3 h6a4 h6a5 h6a7 h6a17 h6a18 (S6_set_at s6_1 ((S6_at s6_1) + 1)))) [0, 1, 2, 3, 4, 5, 6, 7, 8] (by decide) rfl) hN rfl rfl) rfl rfl hl.1 rfl (lv_room (Nat.le_of_ble_eq_true rfl)) dX6_perform_78 ⟨Nat.zero_le _, Nat.zero_le _⟩) (fun H locs hP hD hS => ?_)
            refine lv_istore_n (lv' := [(2, .int r_7), (1, .int (x1 ||| r_1)), (3, .int r_1), (0, .ref h6)]) hx hb dX6_perform_81 rfl hl (by decide) rfl (fun ls hl => ?_)
            refine lv_iload_n hx hb dX6_perform_82 rfl (lv_at hl 0 rfl) ?_
            refine lv_iconst (v := (-1)) hx hb dX6_perform_83 (by decide) ?_
            refine lv_icmp_ne (tgt := 92) hx hb dX6_perform_84 (by decide) (fun c_8 => ?_) (fun c_8 => ?_)
            · have hf := it_f c_8 hf
              exact J92 s6_7 (x1 ||| r_1) r_7 _ _ hP hD hS _ (lv_sub hl [3, 1, 0] rfl) hf
            · have hf := it_t c_8 hf
              refine lv_aload_n hx hb dX6_perform_87 rfl (lv_at hl 3 rfl) ?_
              obtain ⟨r_9, s6_9, hc_9, hf⟩ := bn2_ok hf
              refine gc_i (wc := (cf_6 cI cZ h6 h6a1 h6a2 h6a3 h6a4 h6a5 h6a7 h6a17 h6a18 s6_7)) (wr := ([] : va_W)) (w1 := (cf_6 cI cZ h6 h6a1 h6a2 h6a3 h6a4 h6a5 h6a7 h6a17 h6a18 s6_9)) (ws' := (cf_6 cI cZ h6 h6a1 h6a2 h6a3 h6a4 h6a5 h6a7 h6a17 h6a18 s6_9)) hP hD hS hA [0, 1, 2, 3, 4, 5, 6, 7, 8] [] [0, 1, 2, 3, 4, 5, 6, 7, 8] rfl rfl (by decide) (by decide) rfl (by decide) (va_runV (As := []) (rest := []) ⟨hx, hb, hml, hown, hts⟩ (ktX6_failed l dC dI cI cZ h6 h6a1 h6a2 h6a3 h6a4 h6a5 h6a7 h6a17 h6a18 _ s6_7 r_9 s6_9 hc_9) (cwV 0 hts gX6_perform_X6_failed rfl rfl rfl (by decide +kernel) ⟨Nat.le_of_ble_eq_true rfl, Nat.le_of_ble_eq_true rfl⟩) (gc_V (ci := 6) (q0 := 0) (C := RX6) (T := TX6) (N := 25) (hP.sub (ws' := (cf_6 cI cZ h6 h6a1 h6a2 h6a3 h6a4 h6a5 h6a7 h6a17 h6a18 s6_7)) [0, 1, 2, 3, 4, 5, 6, 7, 8] rfl) (hK.sub (tys' := [(cI, .int), (cZ, .boolean)]) [0, 1] rfl) (hD.sub (ws' := (cf_6 cI cZ h6 h6a1 h6a2 h6a3 h6a4 h6a5 h6a7 h6a17 h6a18 s6_7)) [0, 1, 2, 3, 4, 5, 6, 7, 8] (by decide) rfl) hN rfl rfl) rfl rfl hl.1 rfl (lv_room (Nat.le_of_ble_eq_true rfl)) dX6_perform_88 ⟨Nat.zero_le _, Nat.zero_le _⟩) (fun H locs hP hD hS => ?_)
              have hf : (some (r_9, s6_9) : Option (Int32 × S6)) = some (r, s6f) := hf
              have he := Option.some.inj hf
              have he0 : r_9 = r := congrArg (fun q => q.1) he
              have he1 : s6_9 = s6f := congrArg (fun q => q.2) he
              exact hret _ _ _ _ _ _ he0 (by rw [← he1]) dX6_perform_91 hP hD hS
      · have hf := it_t c_2 hf
        refine lv_aload_n hx hb dX6_perform_38 rfl (lv_at hl 1 rfl) ?_
        obtain ⟨r_10, s6_10, hc_10, hf⟩ := bn2_ok hf
        refine gc_i (wc := (cf_6 cI cZ h6 h6a1 h6a2 h6a3 h6a4 h6a5 h6a7 h6a17 h6a18 s6_1)) (wr := ([] : va_W)) (w1 := (cf_6 cI cZ h6 h6a1 h6a2 h6a3 h6a4 h6a5 h6a7 h6a17 h6a18 s6_10)) (ws' := (cf_6 cI cZ h6 h6a1 h6a2 h6a3 h6a4 h6a5 h6a7 h6a17 h6a18 s6_10)) hP hD hS hA [0, 1, 2, 3, 4, 5, 6, 7, 8] [] [0, 1, 2, 3, 4, 5, 6, 7, 8] rfl rfl (by decide) (by decide) rfl (by decide) (va_runV (As := []) (rest := []) ⟨hx, hb, hml, hown, hts⟩ (ktX6_failed l dC dI cI cZ h6 h6a1 h6a2 h6a3 h6a4 h6a5 h6a7 h6a17 h6a18 _ s6_1 r_10 s6_10 hc_10) (cwV 0 hts gX6_perform_X6_failed rfl rfl rfl (by decide +kernel) ⟨Nat.le_of_ble_eq_true rfl, Nat.le_of_ble_eq_true rfl⟩) (gc_V (ci := 6) (q0 := 0) (C := RX6) (T := TX6) (N := 25) (hP.sub (ws' := (cf_6 cI cZ h6 h6a1 h6a2 h6a3 h6a4 h6a5 h6a7 h6a17 h6a18 s6_1)) [0, 1, 2, 3, 4, 5, 6, 7, 8] rfl) (hK.sub (tys' := [(cI, .int), (cZ, .boolean)]) [0, 1] rfl) (hD.sub (ws' := (cf_6 cI cZ h6 h6a1 h6a2 h6a3 h6a4 h6a5 h6a7 h6a17 h6a18 s6_1)) [0, 1, 2, 3, 4, 5, 6, 7, 8] (by decide) rfl) hN rfl rfl) rfl rfl hl.1 rfl (lv_room (Nat.le_of_ble_eq_true rfl)) dX6_perform_39 ⟨Nat.zero_le _, Nat.zero_le _⟩) (fun H locs hP hD hS => ?_)
        have hf : (some (r_10, s6_10) : Option (Int32 × S6)) = some (r, s6f) := hf
        have he := Option.some.inj hf
        have he0 : r_10 = r := congrArg (fun q => q.1) he
        have he1 : s6_10 = s6f := congrArg (fun q => q.2) he
        exact hret _ _ _ _ _ _ he0 (by rw [← he1]) dX6_perform_42 hP hD hS
  unfold fX6_perform at hf
  refine lv_aload_n hx hb dX6_perform_0 rfl (lv_at hl 0 rfl) ?_
  refine lv_iconst (v := 0) hx hb dX6_perform_1 (by decide) ?_
  refine va_put (D := (dC, dI)) (ci := 6) (v := .int 0) (ty := .int) (C := RX6) (T := TX6) (N := 25) hx hb hts in6 tyX6 tyX6_ok nmX6 hown hK hP hD hS 0 rfl rfl 19 (by decide) fl149 (fun _ h9 => h9) rfl (by decide +kernel) rfl rfl (Nat.le_of_ble_eq_true rfl) dX6_perform_2 (fun H locs hP hD hS => ?_)
  have hP : va_P (dC, dI) vwCl (cf_6 cI cZ h6 h6a1 h6a2 h6a3 h6a4 h6a5 h6a7 h6a17 h6a18 (S6_set_asked s6 0)) H := Eq.mp (congrArg (fun w => va_P (dC, dI) vwCl w H) (cs6_asked cI cZ h6 h6a1 h6a2 h6a3 h6a4 h6a5 h6a7 h6a17 h6a18 s6 0)) hP
  have hD : va_D A (cf_6 cI cZ h6 h6a1 h6a2 h6a3 h6a4 h6a5 h6a7 h6a17 h6a18 (S6_set_asked s6 0)) := Eq.mp (congrArg (fun w => va_D A w) (cs6_asked cI cZ h6 h6a1 h6a2 h6a3 h6a4 h6a5 h6a7 h6a17 h6a18 s6 0)) hD
  refine lv_aload_n hx hb dX6_perform_5 rfl (lv_at hl 0 rfl) ?_
  refine lv_iconst (v := (-1)) hx hb dX6_perform_6 (by decide) ?_
  refine va_put (D := (dC, dI)) (ci := 6) (v := .int (-1)) (ty := .int) (C := RX6) (T := TX6) (N := 25) hx hb hts in6 tyX6 tyX6_ok nmX6 hown hK hP hD hS 0 rfl rfl 20 (by decide) fl51 (fun _ h9 => h9) rfl (by decide +kernel) rfl rfl (Nat.le_of_ble_eq_true rfl) dX6_perform_7 (fun H locs hP hD hS => ?_)
  have hP : va_P (dC, dI) vwCl (cf_6 cI cZ h6 h6a1 h6a2 h6a3 h6a4 h6a5 h6a7 h6a17 h6a18 (S6_set_askedAt (S6_set_asked s6 0) (-1))) H := Eq.mp (congrArg (fun w => va_P (dC, dI) vwCl w H) (cs6_askedAt cI cZ h6 h6a1 h6a2 h6a3 h6a4 h6a5 h6a7 h6a17 h6a18 (S6_set_asked s6 0) (-1))) hP
  have hD : va_D A (cf_6 cI cZ h6 h6a1 h6a2 h6a3 h6a4 h6a5 h6a7 h6a17 h6a18 (S6_set_askedAt (S6_set_asked s6 0) (-1))) := Eq.mp (congrArg (fun w => va_D A w) (cs6_askedAt cI cZ h6 h6a1 h6a2 h6a3 h6a4 h6a5 h6a7 h6a17 h6a18 (S6_set_asked s6 0) (-1))) hD
  refine lv_iconst (v := 0) hx hb dX6_perform_10 (by decide) ?_
  refine lv_istore_n (lv' := [(1, .int 0), (0, .ref h6)]) hx hb dX6_perform_11 rfl hl (by decide) rfl (fun ls hl => ?_)
  refine lv_iconst (v := (-1)) hx hb dX6_perform_12 (by decide) ?_
  refine lv_istore_n (lv' := [(2, .int (-1)), (1, .int 0), (0, .ref h6)]) hx hb dX6_perform_13 rfl hl (by decide) rfl (fun ls hl => ?_)
  refine lv_aload_n hx hb dX6_perform_14 rfl (lv_at hl 2 rfl) ?_
  refine lv_iconst (v := 0) hx hb dX6_perform_15 (by decide) ?_
  refine va_put (D := (dC, dI)) (ci := 6) (v := .int 0) (ty := .int) (C := RX6) (T := TX6) (N := 25) hx hb hts in6 tyX6 tyX6_ok nmX6 hown hK hP hD hS 0 rfl rfl 21 (by decide) fl102 (fun _ h9 => h9) rfl (by decide +kernel) rfl rfl (Nat.le_of_ble_eq_true rfl) dX6_perform_16 (fun H locs hP hD hS => ?_)
  have hP : va_P (dC, dI) vwCl (cf_6 cI cZ h6 h6a1 h6a2 h6a3 h6a4 h6a5 h6a7 h6a17 h6a18 (S6_set_at (S6_set_askedAt (S6_set_asked s6 0) (-1)) 0)) H := Eq.mp (congrArg (fun w => va_P (dC, dI) vwCl w H) (cs6_at cI cZ h6 h6a1 h6a2 h6a3 h6a4 h6a5 h6a7 h6a17 h6a18 (S6_set_askedAt (S6_set_asked s6 0) (-1)) 0)) hP
  have hD : va_D A (cf_6 cI cZ h6 h6a1 h6a2 h6a3 h6a4 h6a5 h6a7 h6a17 h6a18 (S6_set_at (S6_set_askedAt (S6_set_asked s6 0) (-1)) 0)) := Eq.mp (congrArg (fun w => va_D A w) (cs6_at cI cZ h6 h6a1 h6a2 h6a3 h6a4 h6a5 h6a7 h6a17 h6a18 (S6_set_askedAt (S6_set_asked s6 0) (-1)) 0)) hD
  exact J19 64 (S6_set_at (S6_set_askedAt (S6_set_asked s6 0) (-1)) 0) 0 (-1) _ _ hP hD hS _ (lv_sub hl [2, 1, 0] rfl) hf
abbrev rmX6_understand : Room := { frames := 6, cells := 0, slots := 0, locals := 143 }
set_option maxHeartbeats 2000000 in
set_option maxRecDepth 100000 in
theorem ktX6_understand (l : Launch) (dC : Nat → ClassId) (dI : Nat → Nat → Nat) (cI cZ : ClassId) (h6 h6a1 h6a2 h6a3 h6a4 h6a5 h6a7 h6a17 h6a18 : Nat) (sz : Nat) (s6 : S6) (r : Int32) (s6f : S6) (hf : fX6_understand s6 = some (r, s6f)) : Met l yX6_understand wsX6_understand rmX6_understand (va_Pc [.ref h6] (pre_w (dC, dI) (cf_6 cI cZ h6 h6a1 h6a2 h6a3 h6a4 h6a5 h6a7 h6a17 h6a18 s6) [(cI, .int), (cZ, .boolean)] sz)) (va_Qi (fun (r' : Int32) (_ : Unit) => r' = r) (post_w (dC, dI) (cf_6 cI cZ h6 h6a1 h6a2 h6a3 h6a4 h6a5 h6a7 h6a17 h6a18 s6f) [(cI, .int), (cZ, .boolean)] (va_A (cf_6 cI cZ h6 h6a1 h6a2 h6a3 h6a4 h6a5 h6a7 h6a17 h6a18 s6) sz)) (va_A (cf_6 cI cZ h6 h6a1 h6a2 h6a3 h6a4 h6a5 h6a7 h6a17 h6a18 s6) sz)) 0 0 (va_A (cf_6 cI cZ h6 h6a1 h6a2 h6a3 h6a4 h6a5 h6a7 h6a17 h6a18 s6) sz) := by
  refine gm_i (cc := cX6_understand) (maxL := 4) (by decide) rfl (Nat.le_of_ble_eq_true rfl) ?_
  intro p e s m below meth c A QQ ls hx hb hml hown hts hK hN hA hP hD hS hl hret
  have hown : s.vm.findClass RX6 = some m.cls := hown
  have hl : lv_has ls 4 [(0, .ref h6)] := hl
  have in6 : ∀ w ∈ u_ws RX6 TX6 25, w ∈ wsX6_understand := by decide +kernel
  have fl95 := hts (.fieldLink RX6 95 "ParserParlourModel" "count" "I") (by decide +kernel)
  have fl26 := hts (.fieldLink RX6 26 "ParserParlourModel" "words" "[I") (by decide +kernel)
  have fl149 := hts (.fieldLink RX6 149 "ParserParlourModel" "asked" "I") (by decide +kernel)
  have fl51 := hts (.fieldLink RX6 51 "ParserParlourModel" "askedAt" "I") (by decide +kernel)
  have fl33 := hts (.fieldLink RX6 33 "ParserParlourModel" "wrongAt" "I") (by decide +kernel)
  have fl105 := hts (.fieldLink RX6 105 "ParserParlourModel" "length" "I") (by decide +kernel)
  have fl45 := hts (.fieldLink RX6 45 "ParserParlourModel" "order" "[I") (by decide +kernel)
  have fl48 := hts (.fieldLink RX6 48 "ParserParlourModel" "answer" "[I") (by decide +kernel)
  have J59 : ∀ (n : Nat) (s6 : S6) (x1 : Int32) (H : Heap) (locs : List Loc), va_P (dC, dI) vwCl (cf_6 cI cZ h6 h6a1 h6a2 h6a3 h6a4 h6a5 h6a7 h6a17 h6a18 s6) H → va_D A (cf_6 cI cZ h6 h6a1 h6a2 h6a3 h6a4 h6a5 h6a7 h6a17 h6a18 s6) → va_S A s.heap H locs → ∀ (ls : Array Slot), lv_has ls 4 [(0, .ref h6), (1, .int x1)] → fX6_understand_59 n s6 x1 = some (r, s6f) → W p l e rmX6_understand s m ([.ref h6] : List Value).toArray below meth c H locs 0 0 QQ (F0 m 59 ls []) := by
    intro n
    induction n with
    | zero =>
      intro s6 x1 H locs hP hD hS ls hl hf
      cases hf
    | succ n ih =>
      intro s6 x1 H locs hP hD hS ls hl hf
      rw [fX6_understand_59] at hf
      refine lv_iload_n hx hb dX6_understand_59 rfl (lv_at hl 1 rfl) ?_
      refine lv_aload_n hx hb dX6_understand_60 rfl (lv_at hl 0 rfl) ?_
      refine va_get (D := (dC, dI)) (ci := 6) (v := .int (S6_count s6)) (C := RX6) (T := TX6) (N := 25) hx hb hts in6 hown hK hP 0 rfl rfl 6 (by decide) fl95 (fun _ h9 => h9) rfl dX6_understand_61 ?_
      refine lv_icmp_ge (tgt := 92) hx hb dX6_understand_64 (by decide) (fun c_1 => ?_) (fun c_1 => ?_)
      · have hf := it_t c_1 hf
        refine lv_aload_n hx hb dX6_understand_92 rfl (lv_at hl 0 rfl) ?_
        obtain ⟨r_2, s6_2, hc_2, hf⟩ := bn2_ok hf
        refine gc_i (wc := (cf_6 cI cZ h6 h6a1 h6a2 h6a3 h6a4 h6a5 h6a7 h6a17 h6a18 s6)) (wr := ([] : va_W)) (w1 := (cf_6 cI cZ h6 h6a1 h6a2 h6a3 h6a4 h6a5 h6a7 h6a17 h6a18 s6_2)) (ws' := (cf_6 cI cZ h6 h6a1 h6a2 h6a3 h6a4 h6a5 h6a7 h6a17 h6a18 s6_2)) hP hD hS hA [0, 1, 2, 3, 4, 5, 6, 7, 8] [] [0, 1, 2, 3, 4, 5, 6, 7, 8] rfl rfl (by decide) (by decide) rfl (by decide) (va_runV (As := []) (rest := []) ⟨hx, hb, hml, hown, hts⟩ (ktX6_perform l dC dI cI cZ h6 h6a1 h6a2 h6a3 h6a4 h6a5 h6a7 h6a17 h6a18 _ s6 r_2 s6_2 hc_2) (cwV 0 hts gX6_understand_X6_perform rfl rfl rfl (by decide +kernel) ⟨Nat.le_of_ble_eq_true rfl, Nat.le_of_ble_eq_true rfl⟩) (gc_V (ci := 6) (q0 := 0) (C := RX6) (T := TX6) (N := 25) (hP.sub (ws' := (cf_6 cI cZ h6 h6a1 h6a2 h6a3 h6a4 h6a5 h6a7 h6a17 h6a18 s6)) [0, 1, 2, 3, 4, 5, 6, 7, 8] rfl) (hK.sub (tys' := [(cI, .int), (cZ, .boolean)]) [0, 1] rfl) (hD.sub (ws' := (cf_6 cI cZ h6 h6a1 h6a2 h6a3 h6a4 h6a5 h6a7 h6a17 h6a18 s6)) [0, 1, 2, 3, 4, 5, 6, 7, 8] (by decide) rfl) hN rfl rfl) rfl rfl hl.1 rfl (lv_room (Nat.le_of_ble_eq_true rfl)) dX6_understand_93 ⟨Nat.zero_le _, Nat.zero_le _⟩) (fun H locs hP hD hS => ?_)
        have hf : (some (r_2, s6_2) : Option (Int32 × S6)) = some (r, s6f) := hf
        have he := Option.some.inj hf
        have he0 : r_2 = r := congrArg (fun q => q.1) he
        have he1 : s6_2 = s6f := congrArg (fun q => q.2) he
        exact hret _ _ _ _ _ _ he0 (by rw [← he1]) dX6_understand_96 hP hD hS
      · have hf := it_f c_1 hf
        refine lv_aload_n hx hb dX6_understand_67 rfl (lv_at hl 0 rfl) ?_
        refine va_get (D := (dC, dI)) (ci := 6) (v := .ref h6a17) (C := RX6) (T := TX6) (N := 25) hx hb hts in6 hown hK hP 0 rfl rfl 17 (by decide) fl45 (fun _ h9 => h9) rfl dX6_understand_68 ?_
        refine lv_iload_n hx hb dX6_understand_71 rfl (lv_at hl 1 rfl) ?_
        refine lv_aload_n hx hb dX6_understand_72 rfl (lv_at hl 0 rfl) ?_
        refine va_get (D := (dC, dI)) (ci := 6) (v := .ref h6a7) (C := RX6) (T := TX6) (N := 25) hx hb hts in6 hown hK hP 0 rfl rfl 7 (by decide) fl26 (fun _ h9 => h9) rfl dX6_understand_73 ?_
        refine lv_iload_n hx hb dX6_understand_76 rfl (lv_at hl 1 rfl) ?_
        obtain ⟨hi_3, hf⟩ := ai_ok hf
        refine va_iald (n := 24) (f := (S6_words s6)) hx hb hK hP 6 0 rfl rfl hi_3 dX6_understand_77 ?_
        obtain ⟨hi_4, hf⟩ := ai_ok hf
        refine va_iast (n := 24) (f := (S6_order s6)) hx hb hK hP hD hS 7 0 rfl rfl hi_4 dX6_understand_78 (fun H locs hP hD hS => ?_)
        have hP : va_P (dC, dI) vwCl (cf_6 cI cZ h6 h6a1 h6a2 h6a3 h6a4 h6a5 h6a7 h6a17 h6a18 (S6_set_order s6 (upd (S6_order s6) x1.toNatClampNeg ((S6_words s6) x1.toNatClampNeg)))) H := Eq.mp (congrArg (fun w => va_P (dC, dI) vwCl w H) (cs6_order cI cZ h6 h6a1 h6a2 h6a3 h6a4 h6a5 h6a7 h6a17 h6a18 s6 (upd (S6_order s6) x1.toNatClampNeg ((S6_words s6) x1.toNatClampNeg)))) hP
        have hD : va_D A (cf_6 cI cZ h6 h6a1 h6a2 h6a3 h6a4 h6a5 h6a7 h6a17 h6a18 (S6_set_order s6 (upd (S6_order s6) x1.toNatClampNeg ((S6_words s6) x1.toNatClampNeg)))) := Eq.mp (congrArg (fun w => va_D A w) (cs6_order cI cZ h6 h6a1 h6a2 h6a3 h6a4 h6a5 h6a7 h6a17 h6a18 s6 (upd (S6_order s6) x1.toNatClampNeg ((S6_words s6) x1.toNatClampNeg)))) hD
        refine lv_aload_n hx hb dX6_understand_79 rfl (lv_at hl 0 rfl) ?_
        refine va_get (D := (dC, dI)) (ci := 6) (v := .ref h6a18) (C := RX6) (T := TX6) (N := 25) hx hb hts in6 hown hK hP 0 rfl rfl 18 (by decide) fl48 (fun _ h9 => h9) rfl dX6_understand_80 ?_
        refine lv_iload_n hx hb dX6_understand_83 rfl (lv_at hl 1 rfl) ?_
        refine lv_iconst (v := (-1)) hx hb dX6_understand_84 (by decide) ?_
        obtain ⟨hi_5, hf⟩ := ai_ok hf
        refine va_iast (n := 24) (f := (S6_answer (S6_set_order s6 (upd (S6_order s6) x1.toNatClampNeg ((S6_words s6) x1.toNatClampNeg))))) hx hb hK hP hD hS 8 0 rfl rfl hi_5 dX6_understand_85 (fun H locs hP hD hS => ?_)
        have hP : va_P (dC, dI) vwCl (cf_6 cI cZ h6 h6a1 h6a2 h6a3 h6a4 h6a5 h6a7 h6a17 h6a18 (S6_set_answer (S6_set_order s6 (upd (S6_order s6) x1.toNatClampNeg ((S6_words s6) x1.toNatClampNeg))) (upd (S6_answer (S6_set_order s6 (upd (S6_order s6) x1.toNatClampNeg ((S6_words s6) x1.toNatClampNeg)))) x1.toNatClampNeg (-1)))) H := Eq.mp (congrArg (fun w => va_P (dC, dI) vwCl w H) (cs6_answer cI cZ h6 h6a1 h6a2 h6a3 h6a4 h6a5 h6a7 h6a17 h6a18 (S6_set_order s6 (upd (S6_order s6) x1.toNatClampNeg ((S6_words s6) x1.toNatClampNeg))) (upd (S6_answer (S6_set_order s6 (upd (S6_order s6) x1.toNatClampNeg ((S6_words s6) x1.toNatClampNeg)))) x1.toNatClampNeg (-1)))) hP
        have hD : va_D A (cf_6 cI cZ h6 h6a1 h6a2 h6a3 h6a4 h6a5 h6a7 h6a17 h6a18 (S6_set_answer (S6_set_order s6 (upd (S6_order s6) x1.toNatClampNeg ((S6_words s6) x1.toNatClampNeg))) (upd (S6_answer (S6_set_order s6 (upd (S6_order s6) x1.toNatClampNeg ((S6_words s6) x1.toNatClampNeg)))) x1.toNatClampNeg (-1)))) := Eq.mp (congrArg (fun w => va_D A w) (cs6_answer cI cZ h6 h6a1 h6a2 h6a3 h6a4 h6a5 h6a7 h6a17 h6a18 (S6_set_order s6 (upd (S6_order s6) x1.toNatClampNeg ((S6_words s6) x1.toNatClampNeg))) (upd (S6_answer (S6_set_order s6 (upd (S6_order s6) x1.toNatClampNeg ((S6_words s6) x1.toNatClampNeg)))) x1.toNatClampNeg (-1)))) hD
        refine lv_iinc (v := (x1 + 1)) (lv' := [(1, .int (x1 + 1)), (0, .ref h6)]) hx hb dX6_understand_86 hl (k := 1) rfl rfl (by decide) rfl (fun ls hl => ?_)
        refine lv_goto (tgt := 59) hx hb dX6_understand_89 (by decide) ?_
        exact ih (S6_set_answer (S6_set_order s6 (upd (S6_order s6) x1.toNatClampNeg ((S6_words s6) x1.toNatClampNeg))) (upd (S6_answer (S6_set_order s6 (upd (S6_order s6) x1.toNatClampNeg ((S6_words s6) x1.toNatClampNeg)))) x1.toNatClampNeg (-1))) (x1 + 1) _ _ hP hD hS _ (lv_sub hl [1, 0] rfl) hf
  have J193 : ∀ (k130 : S6 → Int32 → Int32 → Int32 → Option (Int32 × S6)) (hk130 : ∀ (s6 : S6) (x1 : Int32) (x2 : Int32) (x3 : Int32) (H : Heap) (locs : List Loc), va_P (dC, dI) vwCl (cf_6 cI cZ h6 h6a1 h6a2 h6a3 h6a4 h6a5 h6a7 h6a17 h6a18 s6) H → va_D A (cf_6 cI cZ h6 h6a1 h6a2 h6a3 h6a4 h6a5 h6a7 h6a17 h6a18 s6) → va_S A s.heap H locs → ∀ (ls : Array Slot), lv_has ls 4 [(0, .ref h6), (1, .int x1), (2, .int x2), (3, .int x3)] → k130 s6 x1 x2 x3 = some (r, s6f) → W p l e rmX6_understand s m ([.ref h6] : List Value).toArray below meth c H locs 0 0 QQ (F0 m 130 ls [])) (s6 : S6) (x1 : Int32) (x3 : Int32) (t0 : Int32) (H : Heap) (locs : List Loc), va_P (dC, dI) vwCl (cf_6 cI cZ h6 h6a1 h6a2 h6a3 h6a4 h6a5 h6a7 h6a17 h6a18 s6) H → va_D A (cf_6 cI cZ h6 h6a1 h6a2 h6a3 h6a4 h6a5 h6a7 h6a17 h6a18 s6) → va_S A s.heap H locs → ∀ (ls : Array Slot), lv_has ls 4 [(0, .ref h6), (1, .int x1), (3, .int x3)] → fX6_understand_193 k130 s6 x1 x3 t0 = some (r, s6f) → W p l e rmX6_understand s m ([.ref h6] : List Value).toArray below meth c H locs 0 0 QQ (F0 m 193 ls [.int t0]) := by
    intro k130 hk130 s6 x1 x3 t0 H locs hP hD hS ls hl hf
    unfold fX6_understand_193 at hf
    refine lv_istore_n (lv' := [(2, .int t0), (0, .ref h6), (1, .int x1), (3, .int x3)]) hx hb dX6_understand_193 rfl hl (by decide) rfl (fun ls hl => ?_)
    refine lv_iinc (v := (x3 + 1)) (lv' := [(3, .int (x3 + 1)), (2, .int t0), (0, .ref h6), (1, .int x1)]) hx hb dX6_understand_194 hl (k := 3) rfl rfl (by decide) rfl (fun ls hl => ?_)
    refine lv_goto (tgt := 130) hx hb dX6_understand_197 (by decide) ?_
    exact hk130 s6 x1 t0 (x3 + 1) _ _ hP hD hS _ (lv_sub hl [2, 3, 1, 0] rfl) hf
  have J166 : ∀ (k130 : S6 → Int32 → Int32 → Int32 → Option (Int32 × S6)) (hk130 : ∀ (s6 : S6) (x1 : Int32) (x2 : Int32) (x3 : Int32) (H : Heap) (locs : List Loc), va_P (dC, dI) vwCl (cf_6 cI cZ h6 h6a1 h6a2 h6a3 h6a4 h6a5 h6a7 h6a17 h6a18 s6) H → va_D A (cf_6 cI cZ h6 h6a1 h6a2 h6a3 h6a4 h6a5 h6a7 h6a17 h6a18 s6) → va_S A s.heap H locs → ∀ (ls : Array Slot), lv_has ls 4 [(0, .ref h6), (1, .int x1), (2, .int x2), (3, .int x3)] → k130 s6 x1 x2 x3 = some (r, s6f) → W p l e rmX6_understand s m ([.ref h6] : List Value).toArray below meth c H locs 0 0 QQ (F0 m 130 ls [])) (s6 : S6) (x2 : Int32) (x3 : Int32) (t0 : Int32) (t1 : Int32) (H : Heap) (locs : List Loc), va_P (dC, dI) vwCl (cf_6 cI cZ h6 h6a1 h6a2 h6a3 h6a4 h6a5 h6a7 h6a17 h6a18 s6) H → va_D A (cf_6 cI cZ h6 h6a1 h6a2 h6a3 h6a4 h6a5 h6a7 h6a17 h6a18 s6) → va_S A s.heap H locs → ∀ (ls : Array Slot), lv_has ls 4 [(0, .ref h6), (2, .int x2), (3, .int x3)] → fX6_understand_166 k130 s6 x2 x3 t0 t1 = some (r, s6f) → W p l e rmX6_understand s m ([.ref h6] : List Value).toArray below meth c H locs 0 0 QQ (F0 m 166 ls [.int t1, .int t0]) := by
    intro k130 hk130 s6 x2 x3 t0 t1 H locs hP hD hS ls hl hf
    unfold fX6_understand_166 at hf
    refine lv_ior hx hb dX6_understand_166 ?_
    refine lv_istore_n (lv' := [(1, .int (t0 ||| t1)), (0, .ref h6), (2, .int x2), (3, .int x3)]) hx hb dX6_understand_167 rfl hl (by decide) rfl (fun ls hl => ?_)
    refine lv_aload_n hx hb dX6_understand_168 rfl (lv_at hl 1 rfl) ?_
    refine va_get (D := (dC, dI)) (ci := 6) (v := .ref h6a7) (C := RX6) (T := TX6) (N := 25) hx hb hts in6 hown hK hP 0 rfl rfl 7 (by decide) fl26 (fun _ h9 => h9) rfl dX6_understand_169 ?_
    refine lv_iload_n hx hb dX6_understand_172 rfl (lv_at hl 3 rfl) ?_
    obtain ⟨hi_1, hf⟩ := ai_ok hf
    refine va_iald (n := 24) (f := (S6_words s6)) hx hb hK hP 6 0 rfl rfl hi_1 dX6_understand_173 ?_
    obtain ⟨r_2, hc_2, hf⟩ := bn1_ok hf
    refine gc_i (wc := ([] : va_W)) (wr := (cf_6 cI cZ h6 h6a1 h6a2 h6a3 h6a4 h6a5 h6a7 h6a17 h6a18 s6)) (w1 := ([] : va_W)) (ws' := (cf_6 cI cZ h6 h6a1 h6a2 h6a3 h6a4 h6a5 h6a7 h6a17 h6a18 s6)) hP hD hS hA [] [0, 1, 2, 3, 4, 5, 6, 7, 8] [0, 1, 2, 3, 4, 5, 6, 7, 8] rfl rfl (by decide) (by decide) rfl (by decide) (va_runS (As := [.int ((S6_words s6) x3.toNatClampNeg)]) (rest := []) ⟨hx, hb, hml, hown, hts⟩ (ktX6_isNoun l dC dI _ ((S6_words s6) x3.toNatClampNeg) r_2 hc_2) (va_cwS 1 hts gX6_understand_X6_isNoun rfl rfl rfl (by decide +kernel) ⟨Nat.le_of_ble_eq_true rfl, Nat.le_of_ble_eq_true rfl⟩) (gc_S (hP.sub (ws' := ([] : va_W)) [] rfl) (hK.sub (tys' := []) [] rfl) (hD.sub (ws' := ([] : va_W)) [] (by decide) rfl) hN) rfl rfl hl.1 rfl (lv_room (Nat.le_of_ble_eq_true rfl)) dX6_understand_174 ⟨Nat.zero_le _, Nat.zero_le _⟩) (fun H locs hP hD hS => ?_)
    refine lv_if_eq (tgt := 192) hx hb dX6_understand_177 (by decide) (fun c_3 => ?_) (fun c_3 => ?_)
    · have hf := it_t c_3 hf
      refine lv_iload_n hx hb dX6_understand_192 rfl (lv_at hl 2 rfl) ?_
      exact J193 k130 hk130 s6 (t0 ||| t1) x3 x2 _ _ hP hD hS _ (lv_sub hl [1, 0, 3] rfl) hf
    · have hf := it_f c_3 hf
      refine lv_aload_n hx hb dX6_understand_180 rfl (lv_at hl 1 rfl) ?_
      refine va_get (D := (dC, dI)) (ci := 6) (v := .ref h6a7) (C := RX6) (T := TX6) (N := 25) hx hb hts in6 hown hK hP 0 rfl rfl 7 (by decide) fl26 (fun _ h9 => h9) rfl dX6_understand_181 ?_
      refine lv_iload_n hx hb dX6_understand_184 rfl (lv_at hl 3 rfl) ?_
      obtain ⟨hi_4, hf⟩ := ai_ok hf
      refine va_iald (n := 24) (f := (S6_words s6)) hx hb hK hP 6 0 rfl rfl hi_4 dX6_understand_185 ?_
      refine lv_bipush (v := 30) hx hb dX6_understand_186 (by decide) ?_
      refine lv_isub hx hb dX6_understand_188 ?_
      refine lv_goto (tgt := 193) hx hb dX6_understand_189 (by decide) ?_
      exact J193 k130 hk130 s6 (t0 ||| t1) x3 (((S6_words s6) x3.toNatClampNeg) - 30) _ _ hP hD hS _ (lv_sub hl [1, 0, 3] rfl) hf
  have J130 : ∀ (n : Nat) (s6 : S6) (x1 : Int32) (x2 : Int32) (x3 : Int32) (H : Heap) (locs : List Loc), va_P (dC, dI) vwCl (cf_6 cI cZ h6 h6a1 h6a2 h6a3 h6a4 h6a5 h6a7 h6a17 h6a18 s6) H → va_D A (cf_6 cI cZ h6 h6a1 h6a2 h6a3 h6a4 h6a5 h6a7 h6a17 h6a18 s6) → va_S A s.heap H locs → ∀ (ls : Array Slot), lv_has ls 4 [(0, .ref h6), (1, .int x1), (2, .int x2), (3, .int x3)] → fX6_understand_130 n s6 x1 x2 x3 = some (r, s6f) → W p l e rmX6_understand s m ([.ref h6] : List Value).toArray below meth c H locs 0 0 QQ (F0 m 130 ls []) := by
    intro n
    induction n with
    | zero =>
      intro s6 x1 x2 x3 H locs hP hD hS ls hl hf
      cases hf
    | succ n ih =>
      intro s6 x1 x2 x3 H locs hP hD hS ls hl hf
      rw [fX6_understand_130] at hf
      refine lv_iload_n hx hb dX6_understand_130 rfl (lv_at hl 3 rfl) ?_
      refine lv_aload_n hx hb dX6_understand_131 rfl (lv_at hl 0 rfl) ?_
      refine va_get (D := (dC, dI)) (ci := 6) (v := .int (S6_count s6)) (C := RX6) (T := TX6) (N := 25) hx hb hts in6 hown hK hP 0 rfl rfl 6 (by decide) fl95 (fun _ h9 => h9) rfl dX6_understand_132 ?_
      refine lv_icmp_ge (tgt := 200) hx hb dX6_understand_135 (by decide) (fun c_1 => ?_) (fun c_1 => ?_)
      · have hf := it_t c_1 hf
        refine lv_aload_n hx hb dX6_understand_200 rfl (lv_at hl 0 rfl) ?_
        refine lv_aload_n hx hb dX6_understand_201 rfl (lv_at hl 0 rfl) ?_
        refine va_get (D := (dC, dI)) (ci := 6) (v := .int (S6_asked s6)) (C := RX6) (T := TX6) (N := 25) hx hb hts in6 hown hK hP 0 rfl rfl 19 (by decide) fl149 (fun _ h9 => h9) rfl dX6_understand_202 ?_
        refine lv_iload_n hx hb dX6_understand_205 rfl (lv_at hl 1 rfl) ?_
        refine lv_iload_n hx hb dX6_understand_206 rfl (lv_at hl 2 rfl) ?_
        obtain ⟨r_2, hc_2, hf⟩ := bn1_ok hf
        refine gc_i (wc := (cf_6 cI cZ h6 h6a1 h6a2 h6a3 h6a4 h6a5 h6a7 h6a17 h6a18 s6)) (wr := ([] : va_W)) (w1 := (cf_6 cI cZ h6 h6a1 h6a2 h6a3 h6a4 h6a5 h6a7 h6a17 h6a18 s6)) (ws' := (cf_6 cI cZ h6 h6a1 h6a2 h6a3 h6a4 h6a5 h6a7 h6a17 h6a18 s6)) hP hD hS hA [0, 1, 2, 3, 4, 5, 6, 7, 8] [] [0, 1, 2, 3, 4, 5, 6, 7, 8] rfl rfl (by decide) (by decide) rfl (by decide) (va_runV (As := [.int (S6_asked s6), .int x1, .int x2]) (rest := []) ⟨hx, hb, hml, hown, hts⟩ (ktX6_having l dC dI cI cZ h6 h6a1 h6a2 h6a3 h6a4 h6a5 h6a7 h6a17 h6a18 _ s6 (S6_asked s6) x1 x2 r_2 hc_2) (cwV 3 hts gX6_understand_X6_having rfl rfl rfl (by decide +kernel) ⟨Nat.le_of_ble_eq_true rfl, Nat.le_of_ble_eq_true rfl⟩) (gc_V (ci := 6) (q0 := 0) (C := RX6) (T := TX6) (N := 25) (hP.sub (ws' := (cf_6 cI cZ h6 h6a1 h6a2 h6a3 h6a4 h6a5 h6a7 h6a17 h6a18 s6)) [0, 1, 2, 3, 4, 5, 6, 7, 8] rfl) (hK.sub (tys' := [(cI, .int), (cZ, .boolean)]) [0, 1] rfl) (hD.sub (ws' := (cf_6 cI cZ h6 h6a1 h6a2 h6a3 h6a4 h6a5 h6a7 h6a17 h6a18 s6)) [0, 1, 2, 3, 4, 5, 6, 7, 8] (by decide) rfl) hN rfl rfl) rfl rfl hl.1 rfl (lv_room (Nat.le_of_ble_eq_true rfl)) dX6_understand_207 ⟨Nat.zero_le _, Nat.zero_le _⟩) (fun H locs hP hD hS => ?_)
        refine lv_istore_n (lv' := [(3, .int r_2), (0, .ref h6), (1, .int x1), (2, .int x2)]) hx hb dX6_understand_210 rfl hl (by decide) rfl (fun ls hl => ?_)
        refine lv_iload_n hx hb dX6_understand_211 rfl (lv_at hl 0 rfl) ?_
        refine lv_if_ne (tgt := 217) hx hb dX6_understand_212 (by decide) (fun c_3 => ?_) (fun c_3 => ?_)
        · have hf := it_f c_3 hf
          refine lv_iload_n hx hb dX6_understand_217 rfl (lv_at hl 0 rfl) ?_
          obtain ⟨r_4, hc_4, hf⟩ := bn1_ok hf
          refine gc_i (wc := ([] : va_W)) (wr := (cf_6 cI cZ h6 h6a1 h6a2 h6a3 h6a4 h6a5 h6a7 h6a17 h6a18 s6)) (w1 := ([] : va_W)) (ws' := (cf_6 cI cZ h6 h6a1 h6a2 h6a3 h6a4 h6a5 h6a7 h6a17 h6a18 s6)) hP hD hS hA [] [0, 1, 2, 3, 4, 5, 6, 7, 8] [0, 1, 2, 3, 4, 5, 6, 7, 8] rfl rfl (by decide) (by decide) rfl (by decide) (va_runS (As := [.int r_2]) (rest := []) ⟨hx, hb, hml, hown, hts⟩ (ktX6_bits l dC dI _ r_2 r_4 hc_4) (va_cwS 1 hts gX6_understand_X6_bits rfl rfl rfl (by decide +kernel) ⟨Nat.le_of_ble_eq_true rfl, Nat.le_of_ble_eq_true rfl⟩) (gc_S (hP.sub (ws' := ([] : va_W)) [] rfl) (hK.sub (tys' := []) [] rfl) (hD.sub (ws' := ([] : va_W)) [] (by decide) rfl) hN) rfl rfl hl.1 rfl (lv_room (Nat.le_of_ble_eq_true rfl)) dX6_understand_218 ⟨Nat.zero_le _, Nat.zero_le _⟩) (fun H locs hP hD hS => ?_)
          refine lv_iconst (v := 1) hx hb dX6_understand_221 (by decide) ?_
          refine lv_icmp_le (tgt := 232) hx hb dX6_understand_222 (by decide) (fun c_5 => ?_) (fun c_5 => ?_)
          · have hf := it_t c_5 hf
            refine lv_aload_n hx hb dX6_understand_232 rfl (lv_at hl 1 rfl) ?_
            refine va_get (D := (dC, dI)) (ci := 6) (v := .ref h6a18) (C := RX6) (T := TX6) (N := 25) hx hb hts in6 hown hK hP 0 rfl rfl 18 (by decide) fl48 (fun _ h9 => h9) rfl dX6_understand_233 ?_
            refine lv_aload_n hx hb dX6_understand_236 rfl (lv_at hl 1 rfl) ?_
            refine va_get (D := (dC, dI)) (ci := 6) (v := .int (S6_askedAt s6)) (C := RX6) (T := TX6) (N := 25) hx hb hts in6 hown hK hP 0 rfl rfl 20 (by decide) fl51 (fun _ h9 => h9) rfl dX6_understand_237 ?_
            refine lv_iload_n hx hb dX6_understand_240 rfl (lv_at hl 0 rfl) ?_
            obtain ⟨r_6, hc_6, hf⟩ := bn1_ok hf
            refine gc_i (wc := ([] : va_W)) (wr := (cf_6 cI cZ h6 h6a1 h6a2 h6a3 h6a4 h6a5 h6a7 h6a17 h6a18 s6)) (w1 := ([] : va_W)) (ws' := (cf_6 cI cZ h6 h6a1 h6a2 h6a3 h6a4 h6a5 h6a7 h6a17 h6a18 s6)) hP hD hS hA [] [0, 1, 2, 3, 4, 5, 6, 7, 8] [0, 1, 2, 3, 4, 5, 6, 7, 8] rfl rfl (by decide) (by decide) rfl (by decide) (va_runS (As := [.int r_2]) (rest := [.int (S6_askedAt s6), .ref h6a18]) ⟨hx, hb, hml, hown, hts⟩ (ktX6_lowest l dC dI _ r_2 r_6 hc_6) (va_cwS 1 hts gX6_understand_X6_lowest rfl rfl rfl (by decide +kernel) ⟨Nat.le_of_ble_eq_true rfl, Nat.le_of_ble_eq_true rfl⟩) (gc_S (hP.sub (ws' := ([] : va_W)) [] rfl) (hK.sub (tys' := []) [] rfl) (hD.sub (ws' := ([] : va_W)) [] (by decide) rfl) hN) rfl rfl hl.1 rfl (lv_room (Nat.le_of_ble_eq_true rfl)) dX6_understand_241 ⟨Nat.zero_le _, Nat.zero_le _⟩) (fun H locs hP hD hS => ?_)
            obtain ⟨hi_7, hf⟩ := ai_ok hf
            refine va_iast (n := 24) (f := (S6_answer s6)) hx hb hK hP hD hS 8 0 rfl rfl hi_7 dX6_understand_244 (fun H locs hP hD hS => ?_)
            have hP : va_P (dC, dI) vwCl (cf_6 cI cZ h6 h6a1 h6a2 h6a3 h6a4 h6a5 h6a7 h6a17 h6a18 (S6_set_answer s6 (upd (S6_answer s6) (S6_askedAt s6).toNatClampNeg r_6))) H := Eq.mp (congrArg (fun w => va_P (dC, dI) vwCl w H) (cs6_answer cI cZ h6 h6a1 h6a2 h6a3 h6a4 h6a5 h6a7 h6a17 h6a18 s6 (upd (S6_answer s6) (S6_askedAt s6).toNatClampNeg r_6))) hP
            have hD : va_D A (cf_6 cI cZ h6 h6a1 h6a2 h6a3 h6a4 h6a5 h6a7 h6a17 h6a18 (S6_set_answer s6 (upd (S6_answer s6) (S6_askedAt s6).toNatClampNeg r_6))) := Eq.mp (congrArg (fun w => va_D A w) (cs6_answer cI cZ h6 h6a1 h6a2 h6a3 h6a4 h6a5 h6a7 h6a17 h6a18 s6 (upd (S6_answer s6) (S6_askedAt s6).toNatClampNeg r_6))) hD
            refine lv_aload_n hx hb dX6_understand_245 rfl (lv_at hl 1 rfl) ?_
            obtain ⟨r_8, s6_8, hc_8, hf⟩ := bn2_ok hf
            refine gc_i (wc := (cf_6 cI cZ h6 h6a1 h6a2 h6a3 h6a4 h6a5 h6a7 h6a17 h6a18 (S6_set_answer s6 (upd (S6_answer s6) (S6_askedAt s6).toNatClampNeg r_6)))) (wr := ([] : va_W)) (w1 := (cf_6 cI cZ h6 h6a1 h6a2 h6a3 h6a4 h6a5 h6a7 h6a17 h6a18 s6_8)) (ws' := (cf_6 cI cZ h6 h6a1 h6a2 h6a3 h6a4 h6a5 h6a7 h6a17 h6a18 s6_8)) hP hD hS hA [0, 1, 2, 3, 4, 5, 6, 7, 8] [] [0, 1, 2, 3, 4, 5, 6, 7, 8] rfl rfl (by decide) (by decide) rfl (by decide) (va_runV (As := []) (rest := []) ⟨hx, hb, hml, hown, hts⟩ (ktX6_perform l dC dI cI cZ h6 h6a1 h6a2 h6a3 h6a4 h6a5 h6a7 h6a17 h6a18 _ (S6_set_answer s6 (upd (S6_answer s6) (S6_askedAt s6).toNatClampNeg r_6)) r_8 s6_8 hc_8) (cwV 0 hts gX6_understand_X6_perform rfl rfl rfl (by decide +kernel) ⟨Nat.le_of_ble_eq_true rfl, Nat.le_of_ble_eq_true rfl⟩) (gc_V (ci := 6) (q0 := 0) (C := RX6) (T := TX6) (N := 25) (hP.sub (ws' := (cf_6 cI cZ h6 h6a1 h6a2 h6a3 h6a4 h6a5 h6a7 h6a17 h6a18 (S6_set_answer s6 (upd (S6_answer s6) (S6_askedAt s6).toNatClampNeg r_6)))) [0, 1, 2, 3, 4, 5, 6, 7, 8] rfl) (hK.sub (tys' := [(cI, .int), (cZ, .boolean)]) [0, 1] rfl) (hD.sub (ws' := (cf_6 cI cZ h6 h6a1 h6a2 h6a3 h6a4 h6a5 h6a7 h6a17 h6a18 (S6_set_answer s6 (upd (S6_answer s6) (S6_askedAt s6).toNatClampNeg r_6)))) [0, 1, 2, 3, 4, 5, 6, 7, 8] (by decide) rfl) hN rfl rfl) rfl rfl hl.1 rfl (lv_room (Nat.le_of_ble_eq_true rfl)) dX6_understand_246 ⟨Nat.zero_le _, Nat.zero_le _⟩) (fun H locs hP hD hS => ?_)
            have hf : (some (r_8, s6_8) : Option (Int32 × S6)) = some (r, s6f) := hf
            have he := Option.some.inj hf
            have he0 : r_8 = r := congrArg (fun q => q.1) he
            have he1 : s6_8 = s6f := congrArg (fun q => q.2) he
            exact hret _ _ _ _ _ _ he0 (by rw [← he1]) dX6_understand_249 hP hD hS
          · have hf := it_f c_5 hf
            refine lv_aload_n hx hb dX6_understand_225 rfl (lv_at hl 1 rfl) ?_
            refine lv_iload_n hx hb dX6_understand_226 rfl (lv_at hl 0 rfl) ?_
            refine va_put (D := (dC, dI)) (ci := 6) (v := .int r_2) (ty := .int) (C := RX6) (T := TX6) (N := 25) hx hb hts in6 tyX6 tyX6_ok nmX6 hown hK hP hD hS 0 rfl rfl 19 (by decide) fl149 (fun _ h9 => h9) rfl (by decide +kernel) rfl rfl (Nat.le_of_ble_eq_true rfl) dX6_understand_227 (fun H locs hP hD hS => ?_)
            have hP : va_P (dC, dI) vwCl (cf_6 cI cZ h6 h6a1 h6a2 h6a3 h6a4 h6a5 h6a7 h6a17 h6a18 (S6_set_asked s6 r_2)) H := Eq.mp (congrArg (fun w => va_P (dC, dI) vwCl w H) (cs6_asked cI cZ h6 h6a1 h6a2 h6a3 h6a4 h6a5 h6a7 h6a17 h6a18 s6 r_2)) hP
            have hD : va_D A (cf_6 cI cZ h6 h6a1 h6a2 h6a3 h6a4 h6a5 h6a7 h6a17 h6a18 (S6_set_asked s6 r_2)) := Eq.mp (congrArg (fun w => va_D A w) (cs6_asked cI cZ h6 h6a1 h6a2 h6a3 h6a4 h6a5 h6a7 h6a17 h6a18 s6 r_2)) hD
            refine lv_iconst (v := 1) hx hb dX6_understand_230 (by decide) ?_
            have hf : (some (1, (S6_set_asked s6 r_2)) : Option (Int32 × S6)) = some (r, s6f) := hf
            have he := Option.some.inj hf
            have he0 : 1 = r := congrArg (fun q => q.1) he
            have he1 : (S6_set_asked s6 r_2) = s6f := congrArg (fun q => q.2) he
            exact hret _ _ _ _ _ _ he0 (by rw [← he1]) dX6_understand_231 hP hD hS
        · have hf := it_t c_3 hf
          refine lv_iconst (v := 5) hx hb dX6_understand_215 (by decide) ?_
          have hf : (some (5, s6) : Option (Int32 × S6)) = some (r, s6f) := hf
          have he := Option.some.inj hf
          have he0 : 5 = r := congrArg (fun q => q.1) he
          have he1 : s6 = s6f := congrArg (fun q => q.2) he
          exact hret _ _ _ _ _ _ he0 (by rw [← he1]) dX6_understand_216 hP hD hS
      · have hf := it_f c_1 hf
        refine lv_iload_n hx hb dX6_understand_138 rfl (lv_at hl 1 rfl) ?_
        refine lv_aload_n hx hb dX6_understand_139 rfl (lv_at hl 0 rfl) ?_
        refine va_get (D := (dC, dI)) (ci := 6) (v := .ref h6a7) (C := RX6) (T := TX6) (N := 25) hx hb hts in6 hown hK hP 0 rfl rfl 7 (by decide) fl26 (fun _ h9 => h9) rfl dX6_understand_140 ?_
        refine lv_iload_n hx hb dX6_understand_143 rfl (lv_at hl 3 rfl) ?_
        obtain ⟨hi_9, hf⟩ := ai_ok hf
        refine va_iald (n := 24) (f := (S6_words s6)) hx hb hK hP 6 0 rfl rfl hi_9 dX6_understand_144 ?_
        obtain ⟨r_10, hc_10, hf⟩ := bn1_ok hf
        refine gc_i (wc := ([] : va_W)) (wr := (cf_6 cI cZ h6 h6a1 h6a2 h6a3 h6a4 h6a5 h6a7 h6a17 h6a18 s6)) (w1 := ([] : va_W)) (ws' := (cf_6 cI cZ h6 h6a1 h6a2 h6a3 h6a4 h6a5 h6a7 h6a17 h6a18 s6)) hP hD hS hA [] [0, 1, 2, 3, 4, 5, 6, 7, 8] [0, 1, 2, 3, 4, 5, 6, 7, 8] rfl rfl (by decide) (by decide) rfl (by decide) (va_runS (As := [.int ((S6_words s6) x3.toNatClampNeg)]) (rest := [.int x1]) ⟨hx, hb, hml, hown, hts⟩ (ktX6_isAdjective l dC dI _ ((S6_words s6) x3.toNatClampNeg) r_10 hc_10) (va_cwS 1 hts gX6_understand_X6_isAdjective rfl rfl rfl (by decide +kernel) ⟨Nat.le_of_ble_eq_true rfl, Nat.le_of_ble_eq_true rfl⟩) (gc_S (hP.sub (ws' := ([] : va_W)) [] rfl) (hK.sub (tys' := []) [] rfl) (hD.sub (ws' := ([] : va_W)) [] (by decide) rfl) hN) rfl rfl hl.1 rfl (lv_room (Nat.le_of_ble_eq_true rfl)) dX6_understand_145 ⟨Nat.zero_le _, Nat.zero_le _⟩) (fun H locs hP hD hS => ?_)
        refine lv_if_eq (tgt := 165) hx hb dX6_understand_148 (by decide) (fun c_11 => ?_) (fun c_11 => ?_)
        · have hf := it_t c_11 hf
          refine lv_iconst (v := 0) hx hb dX6_understand_165 (by decide) ?_
          exact J166 (fun s6 x1 x2 x3 => fX6_understand_130 n s6 x1 x2 x3) (fun s6 x1 x2 x3 H locs hP hD hS ls hl hf => ih s6 x1 x2 x3 H locs hP hD hS ls hl hf) s6 x2 x3 x1 0 _ _ hP hD hS _ (lv_sub hl [0, 2, 3] rfl) hf
        · have hf := it_f c_11 hf
          refine lv_iconst (v := 1) hx hb dX6_understand_151 (by decide) ?_
          refine lv_aload_n hx hb dX6_understand_152 rfl (lv_at hl 0 rfl) ?_
          refine va_get (D := (dC, dI)) (ci := 6) (v := .ref h6a7) (C := RX6) (T := TX6) (N := 25) hx hb hts in6 hown hK hP 0 rfl rfl 7 (by decide) fl26 (fun _ h9 => h9) rfl dX6_understand_153 ?_
          refine lv_iload_n hx hb dX6_understand_156 rfl (lv_at hl 3 rfl) ?_
          obtain ⟨hi_12, hf⟩ := ai_ok hf
          refine va_iald (n := 24) (f := (S6_words s6)) hx hb hK hP 6 0 rfl rfl hi_12 dX6_understand_157 ?_
          refine lv_bipush (v := 20) hx hb dX6_understand_158 (by decide) ?_
          refine lv_isub hx hb dX6_understand_160 ?_
          refine lv_ishl hx hb dX6_understand_161 ?_
          refine lv_goto (tgt := 166) hx hb dX6_understand_162 (by decide) ?_
          exact J166 (fun s6 x1 x2 x3 => fX6_understand_130 n s6 x1 x2 x3) (fun s6 x1 x2 x3 H locs hP hD hS ls hl hf => ih s6 x1 x2 x3 H locs hP hD hS ls hl hf) s6 x2 x3 x1 ((1 : Int32) <<< ((((S6_words s6) x3.toNatClampNeg) - 20) &&& 31)) _ _ hP hD hS _ (lv_sub hl [0, 2, 3] rfl) hf
  unfold fX6_understand at hf
  refine lv_aload_n hx hb dX6_understand_0 rfl (lv_at hl 0 rfl) ?_
  refine va_get (D := (dC, dI)) (ci := 6) (v := .int (S6_count s6)) (C := RX6) (T := TX6) (N := 25) hx hb hts in6 hown hK hP 0 rfl rfl 6 (by decide) fl95 (fun _ h9 => h9) rfl dX6_understand_1 ?_
  refine lv_if_ne (tgt := 9) hx hb dX6_understand_4 (by decide) (fun c_1 => ?_) (fun c_1 => ?_)
  · have hf := it_f c_1 hf
    refine lv_aload_n hx hb dX6_understand_9 rfl (lv_at hl 0 rfl) ?_
    refine va_get (D := (dC, dI)) (ci := 6) (v := .ref h6a7) (C := RX6) (T := TX6) (N := 25) hx hb hts in6 hown hK hP 0 rfl rfl 7 (by decide) fl26 (fun _ h9 => h9) rfl dX6_understand_10 ?_
    refine lv_iconst (v := 0) hx hb dX6_understand_13 (by decide) ?_
    obtain ⟨hi_2, hf⟩ := ai_ok hf
    refine va_iald (n := 24) (f := (S6_words s6)) hx hb hK hP 6 0 rfl rfl hi_2 dX6_understand_14 ?_
    obtain ⟨r_3, hc_3, hf⟩ := bn1_ok hf
    refine gc_i (wc := ([] : va_W)) (wr := (cf_6 cI cZ h6 h6a1 h6a2 h6a3 h6a4 h6a5 h6a7 h6a17 h6a18 s6)) (w1 := ([] : va_W)) (ws' := (cf_6 cI cZ h6 h6a1 h6a2 h6a3 h6a4 h6a5 h6a7 h6a17 h6a18 s6)) hP hD hS hA [] [0, 1, 2, 3, 4, 5, 6, 7, 8] [0, 1, 2, 3, 4, 5, 6, 7, 8] rfl rfl (by decide) (by decide) rfl (by decide) (va_runS (As := [.int ((S6_words s6) (0 : Int32).toNatClampNeg)]) (rest := []) ⟨hx, hb, hml, hown, hts⟩ (ktX6_isVerb l dC dI _ ((S6_words s6) (0 : Int32).toNatClampNeg) r_3 hc_3) (va_cwS 1 hts gX6_understand_X6_isVerb rfl rfl rfl (by decide +kernel) ⟨Nat.le_of_ble_eq_true rfl, Nat.le_of_ble_eq_true rfl⟩) (gc_S (hP.sub (ws' := ([] : va_W)) [] rfl) (hK.sub (tys' := []) [] rfl) (hD.sub (ws' := ([] : va_W)) [] (by decide) rfl) hN) rfl rfl hl.1 rfl (lv_room (Nat.le_of_ble_eq_true rfl)) dX6_understand_15 ⟨Nat.zero_le _, Nat.zero_le _⟩) (fun H locs hP hD hS => ?_)
    refine lv_if_eq (tgt := 97) hx hb dX6_understand_18 (by decide) (fun c_4 => ?_) (fun c_4 => ?_)
    · have hf := it_t c_4 hf
      refine lv_aload_n hx hb dX6_understand_97 rfl (lv_at hl 0 rfl) ?_
      refine va_get (D := (dC, dI)) (ci := 6) (v := .int (S6_asked s6)) (C := RX6) (T := TX6) (N := 25) hx hb hts in6 hown hK hP 0 rfl rfl 19 (by decide) fl149 (fun _ h9 => h9) rfl dX6_understand_98 ?_
      refine lv_if_ne (tgt := 106) hx hb dX6_understand_101 (by decide) (fun c_5 => ?_) (fun c_5 => ?_)
      · have hf := it_f c_5 hf
        refine lv_aload_n hx hb dX6_understand_106 rfl (lv_at hl 0 rfl) ?_
        refine lv_aload_n hx hb dX6_understand_107 rfl (lv_at hl 0 rfl) ?_
        obtain ⟨r_6, hc_6, hf⟩ := bn1_ok hf
        refine gc_i (wc := (cf_6 cI cZ h6 h6a1 h6a2 h6a3 h6a4 h6a5 h6a7 h6a17 h6a18 s6)) (wr := ([] : va_W)) (w1 := (cf_6 cI cZ h6 h6a1 h6a2 h6a3 h6a4 h6a5 h6a7 h6a17 h6a18 s6)) (ws' := (cf_6 cI cZ h6 h6a1 h6a2 h6a3 h6a4 h6a5 h6a7 h6a17 h6a18 s6)) hP hD hS hA [0, 1, 2, 3, 4, 5, 6, 7, 8] [] [0, 1, 2, 3, 4, 5, 6, 7, 8] rfl rfl (by decide) (by decide) rfl (by decide) (va_runV (As := []) (rest := [.ref h6]) ⟨hx, hb, hml, hown, hts⟩ (ktX6_wrongAnswer l dC dI cI cZ h6 h6a1 h6a2 h6a3 h6a4 h6a5 h6a7 h6a17 h6a18 _ s6 r_6 hc_6) (cwV 0 hts gX6_understand_X6_wrongAnswer rfl rfl rfl (by decide +kernel) ⟨Nat.le_of_ble_eq_true rfl, Nat.le_of_ble_eq_true rfl⟩) (gc_V (ci := 6) (q0 := 0) (C := RX6) (T := TX6) (N := 25) (hP.sub (ws' := (cf_6 cI cZ h6 h6a1 h6a2 h6a3 h6a4 h6a5 h6a7 h6a17 h6a18 s6)) [0, 1, 2, 3, 4, 5, 6, 7, 8] rfl) (hK.sub (tys' := [(cI, .int), (cZ, .boolean)]) [0, 1] rfl) (hD.sub (ws' := (cf_6 cI cZ h6 h6a1 h6a2 h6a3 h6a4 h6a5 h6a7 h6a17 h6a18 s6)) [0, 1, 2, 3, 4, 5, 6, 7, 8] (by decide) rfl) hN rfl rfl) rfl rfl hl.1 rfl (lv_room (Nat.le_of_ble_eq_true rfl)) dX6_understand_108 ⟨Nat.zero_le _, Nat.zero_le _⟩) (fun H locs hP hD hS => ?_)
        refine va_put (D := (dC, dI)) (ci := 6) (v := .int r_6) (ty := .int) (C := RX6) (T := TX6) (N := 25) hx hb hts in6 tyX6 tyX6_ok nmX6 hown hK hP hD hS 0 rfl rfl 9 (by decide) fl33 (fun _ h9 => h9) rfl (by decide +kernel) rfl rfl (Nat.le_of_ble_eq_true rfl) dX6_understand_111 (fun H locs hP hD hS => ?_)
        have hP : va_P (dC, dI) vwCl (cf_6 cI cZ h6 h6a1 h6a2 h6a3 h6a4 h6a5 h6a7 h6a17 h6a18 (S6_set_wrongAt s6 r_6)) H := Eq.mp (congrArg (fun w => va_P (dC, dI) vwCl w H) (cs6_wrongAt cI cZ h6 h6a1 h6a2 h6a3 h6a4 h6a5 h6a7 h6a17 h6a18 s6 r_6)) hP
        have hD : va_D A (cf_6 cI cZ h6 h6a1 h6a2 h6a3 h6a4 h6a5 h6a7 h6a17 h6a18 (S6_set_wrongAt s6 r_6)) := Eq.mp (congrArg (fun w => va_D A w) (cs6_wrongAt cI cZ h6 h6a1 h6a2 h6a3 h6a4 h6a5 h6a7 h6a17 h6a18 s6 r_6)) hD
        refine lv_aload_n hx hb dX6_understand_114 rfl (lv_at hl 0 rfl) ?_
        refine va_get (D := (dC, dI)) (ci := 6) (v := .int (S6_wrongAt (S6_set_wrongAt s6 r_6))) (C := RX6) (T := TX6) (N := 25) hx hb hts in6 hown hK hP 0 rfl rfl 9 (by decide) fl33 (fun _ h9 => h9) rfl dX6_understand_115 ?_
        refine lv_iconst (v := (-1)) hx hb dX6_understand_118 (by decide) ?_
        refine lv_icmp_eq (tgt := 124) hx hb dX6_understand_119 (by decide) (fun c_7 => ?_) (fun c_7 => ?_)
        · have hf := it_t c_7 hf
          refine lv_iconst (v := 0) hx hb dX6_understand_124 (by decide) ?_
          refine lv_istore_n (lv' := [(1, .int 0), (0, .ref h6)]) hx hb dX6_understand_125 rfl hl (by decide) rfl (fun ls hl => ?_)
          refine lv_iconst (v := (-1)) hx hb dX6_understand_126 (by decide) ?_
          refine lv_istore_n (lv' := [(2, .int (-1)), (1, .int 0), (0, .ref h6)]) hx hb dX6_understand_127 rfl hl (by decide) rfl (fun ls hl => ?_)
          refine lv_iconst (v := 0) hx hb dX6_understand_128 (by decide) ?_
          refine lv_istore_n (lv' := [(3, .int 0), (2, .int (-1)), (1, .int 0), (0, .ref h6)]) hx hb dX6_understand_129 rfl hl (by decide) rfl (fun ls hl => ?_)
          exact J130 64 (S6_set_wrongAt s6 r_6) 0 (-1) 0 _ _ hP hD hS _ (lv_sub hl [3, 2, 1, 0] rfl) hf
        · have hf := it_f c_7 hf
          refine lv_iconst (v := 4) hx hb dX6_understand_122 (by decide) ?_
          have hf : (some (4, (S6_set_wrongAt s6 r_6)) : Option (Int32 × S6)) = some (r, s6f) := hf
          have he := Option.some.inj hf
          have he0 : 4 = r := congrArg (fun q => q.1) he
          have he1 : (S6_set_wrongAt s6 r_6) = s6f := congrArg (fun q => q.2) he
          exact hret _ _ _ _ _ _ he0 (by rw [← he1]) dX6_understand_123 hP hD hS
      · have hf := it_t c_5 hf
        refine lv_iconst (v := 3) hx hb dX6_understand_104 (by decide) ?_
        have hf : (some (3, s6) : Option (Int32 × S6)) = some (r, s6f) := hf
        have he := Option.some.inj hf
        have he0 : 3 = r := congrArg (fun q => q.1) he
        have he1 : s6 = s6f := congrArg (fun q => q.2) he
        exact hret _ _ _ _ _ _ he0 (by rw [← he1]) dX6_understand_105 hP hD hS
    · have hf := it_f c_4 hf
      refine lv_aload_n hx hb dX6_understand_21 rfl (lv_at hl 0 rfl) ?_
      refine lv_iconst (v := 0) hx hb dX6_understand_22 (by decide) ?_
      refine va_put (D := (dC, dI)) (ci := 6) (v := .int 0) (ty := .int) (C := RX6) (T := TX6) (N := 25) hx hb hts in6 tyX6 tyX6_ok nmX6 hown hK hP hD hS 0 rfl rfl 19 (by decide) fl149 (fun _ h9 => h9) rfl (by decide +kernel) rfl rfl (Nat.le_of_ble_eq_true rfl) dX6_understand_23 (fun H locs hP hD hS => ?_)
      have hP : va_P (dC, dI) vwCl (cf_6 cI cZ h6 h6a1 h6a2 h6a3 h6a4 h6a5 h6a7 h6a17 h6a18 (S6_set_asked s6 0)) H := Eq.mp (congrArg (fun w => va_P (dC, dI) vwCl w H) (cs6_asked cI cZ h6 h6a1 h6a2 h6a3 h6a4 h6a5 h6a7 h6a17 h6a18 s6 0)) hP
      have hD : va_D A (cf_6 cI cZ h6 h6a1 h6a2 h6a3 h6a4 h6a5 h6a7 h6a17 h6a18 (S6_set_asked s6 0)) := Eq.mp (congrArg (fun w => va_D A w) (cs6_asked cI cZ h6 h6a1 h6a2 h6a3 h6a4 h6a5 h6a7 h6a17 h6a18 s6 0)) hD
      refine lv_aload_n hx hb dX6_understand_26 rfl (lv_at hl 0 rfl) ?_
      refine lv_iconst (v := (-1)) hx hb dX6_understand_27 (by decide) ?_
      refine va_put (D := (dC, dI)) (ci := 6) (v := .int (-1)) (ty := .int) (C := RX6) (T := TX6) (N := 25) hx hb hts in6 tyX6 tyX6_ok nmX6 hown hK hP hD hS 0 rfl rfl 20 (by decide) fl51 (fun _ h9 => h9) rfl (by decide +kernel) rfl rfl (Nat.le_of_ble_eq_true rfl) dX6_understand_28 (fun H locs hP hD hS => ?_)
      have hP : va_P (dC, dI) vwCl (cf_6 cI cZ h6 h6a1 h6a2 h6a3 h6a4 h6a5 h6a7 h6a17 h6a18 (S6_set_askedAt (S6_set_asked s6 0) (-1))) H := Eq.mp (congrArg (fun w => va_P (dC, dI) vwCl w H) (cs6_askedAt cI cZ h6 h6a1 h6a2 h6a3 h6a4 h6a5 h6a7 h6a17 h6a18 (S6_set_asked s6 0) (-1))) hP
      have hD : va_D A (cf_6 cI cZ h6 h6a1 h6a2 h6a3 h6a4 h6a5 h6a7 h6a17 h6a18 (S6_set_askedAt (S6_set_asked s6 0) (-1))) := Eq.mp (congrArg (fun w => va_D A w) (cs6_askedAt cI cZ h6 h6a1 h6a2 h6a3 h6a4 h6a5 h6a7 h6a17 h6a18 (S6_set_asked s6 0) (-1))) hD
      refine lv_aload_n hx hb dX6_understand_31 rfl (lv_at hl 0 rfl) ?_
      refine lv_aload_n hx hb dX6_understand_32 rfl (lv_at hl 0 rfl) ?_
      obtain ⟨r_8, hc_8, hf⟩ := bn1_ok hf
      refine gc_i (wc := (cf_6 cI cZ h6 h6a1 h6a2 h6a3 h6a4 h6a5 h6a7 h6a17 h6a18 (S6_set_askedAt (S6_set_asked s6 0) (-1)))) (wr := ([] : va_W)) (w1 := (cf_6 cI cZ h6 h6a1 h6a2 h6a3 h6a4 h6a5 h6a7 h6a17 h6a18 (S6_set_askedAt (S6_set_asked s6 0) (-1)))) (ws' := (cf_6 cI cZ h6 h6a1 h6a2 h6a3 h6a4 h6a5 h6a7 h6a17 h6a18 (S6_set_askedAt (S6_set_asked s6 0) (-1)))) hP hD hS hA [0, 1, 2, 3, 4, 5, 6, 7, 8] [] [0, 1, 2, 3, 4, 5, 6, 7, 8] rfl rfl (by decide) (by decide) rfl (by decide) (va_runV (As := []) (rest := [.ref h6]) ⟨hx, hb, hml, hown, hts⟩ (ktX6_wrongOrder l dC dI cI cZ h6 h6a1 h6a2 h6a3 h6a4 h6a5 h6a7 h6a17 h6a18 _ (S6_set_askedAt (S6_set_asked s6 0) (-1)) r_8 hc_8) (cwV 0 hts gX6_understand_X6_wrongOrder rfl rfl rfl (by decide +kernel) ⟨Nat.le_of_ble_eq_true rfl, Nat.le_of_ble_eq_true rfl⟩) (gc_V (ci := 6) (q0 := 0) (C := RX6) (T := TX6) (N := 25) (hP.sub (ws' := (cf_6 cI cZ h6 h6a1 h6a2 h6a3 h6a4 h6a5 h6a7 h6a17 h6a18 (S6_set_askedAt (S6_set_asked s6 0) (-1)))) [0, 1, 2, 3, 4, 5, 6, 7, 8] rfl) (hK.sub (tys' := [(cI, .int), (cZ, .boolean)]) [0, 1] rfl) (hD.sub (ws' := (cf_6 cI cZ h6 h6a1 h6a2 h6a3 h6a4 h6a5 h6a7 h6a17 h6a18 (S6_set_askedAt (S6_set_asked s6 0) (-1)))) [0, 1, 2, 3, 4, 5, 6, 7, 8] (by decide) rfl) hN rfl rfl) rfl rfl hl.1 rfl (lv_room (Nat.le_of_ble_eq_true rfl)) dX6_understand_33 ⟨Nat.zero_le _, Nat.zero_le _⟩) (fun H locs hP hD hS => ?_)
      refine va_put (D := (dC, dI)) (ci := 6) (v := .int r_8) (ty := .int) (C := RX6) (T := TX6) (N := 25) hx hb hts in6 tyX6 tyX6_ok nmX6 hown hK hP hD hS 0 rfl rfl 9 (by decide) fl33 (fun _ h9 => h9) rfl (by decide +kernel) rfl rfl (Nat.le_of_ble_eq_true rfl) dX6_understand_36 (fun H locs hP hD hS => ?_)
      have hP : va_P (dC, dI) vwCl (cf_6 cI cZ h6 h6a1 h6a2 h6a3 h6a4 h6a5 h6a7 h6a17 h6a18 (S6_set_wrongAt (S6_set_askedAt (S6_set_asked s6 0) (-1)) r_8)) H := Eq.mp (congrArg (fun w => va_P (dC, dI) vwCl w H) (cs6_wrongAt cI cZ h6 h6a1 h6a2 h6a3 h6a4 h6a5 h6a7 h6a17 h6a18 (S6_set_askedAt (S6_set_asked s6 0) (-1)) r_8)) hP
      have hD : va_D A (cf_6 cI cZ h6 h6a1 h6a2 h6a3 h6a4 h6a5 h6a7 h6a17 h6a18 (S6_set_wrongAt (S6_set_askedAt (S6_set_asked s6 0) (-1)) r_8)) := Eq.mp (congrArg (fun w => va_D A w) (cs6_wrongAt cI cZ h6 h6a1 h6a2 h6a3 h6a4 h6a5 h6a7 h6a17 h6a18 (S6_set_askedAt (S6_set_asked s6 0) (-1)) r_8)) hD
      refine lv_aload_n hx hb dX6_understand_39 rfl (lv_at hl 0 rfl) ?_
      refine va_get (D := (dC, dI)) (ci := 6) (v := .int (S6_wrongAt (S6_set_wrongAt (S6_set_askedAt (S6_set_asked s6 0) (-1)) r_8))) (C := RX6) (T := TX6) (N := 25) hx hb hts in6 hown hK hP 0 rfl rfl 9 (by decide) fl33 (fun _ h9 => h9) rfl dX6_understand_40 ?_
      refine lv_iconst (v := (-1)) hx hb dX6_understand_43 (by decide) ?_
      refine lv_icmp_eq (tgt := 49) hx hb dX6_understand_44 (by decide) (fun c_9 => ?_) (fun c_9 => ?_)
      · have hf := it_t c_9 hf
        refine lv_aload_n hx hb dX6_understand_49 rfl (lv_at hl 0 rfl) ?_
        refine lv_aload_n hx hb dX6_understand_50 rfl (lv_at hl 0 rfl) ?_
        refine va_get (D := (dC, dI)) (ci := 6) (v := .int (S6_count (S6_set_wrongAt (S6_set_askedAt (S6_set_asked s6 0) (-1)) r_8))) (C := RX6) (T := TX6) (N := 25) hx hb hts in6 hown hK hP 0 rfl rfl 6 (by decide) fl95 (fun _ h9 => h9) rfl dX6_understand_51 ?_
        refine va_put (D := (dC, dI)) (ci := 6) (v := .int (S6_count (S6_set_wrongAt (S6_set_askedAt (S6_set_asked s6 0) (-1)) r_8))) (ty := .int) (C := RX6) (T := TX6) (N := 25) hx hb hts in6 tyX6 tyX6_ok nmX6 hown hK hP hD hS 0 rfl rfl 16 (by decide) fl105 (fun _ h9 => h9) rfl (by decide +kernel) rfl rfl (Nat.le_of_ble_eq_true rfl) dX6_understand_54 (fun H locs hP hD hS => ?_)
        have hP : va_P (dC, dI) vwCl (cf_6 cI cZ h6 h6a1 h6a2 h6a3 h6a4 h6a5 h6a7 h6a17 h6a18 (S6_set_length (S6_set_wrongAt (S6_set_askedAt (S6_set_asked s6 0) (-1)) r_8) (S6_count (S6_set_wrongAt (S6_set_askedAt (S6_set_asked s6 0) (-1)) r_8)))) H := Eq.mp (congrArg (fun w => va_P (dC, dI) vwCl w H) (cs6_length cI cZ h6 h6a1 h6a2 h6a3 h6a4 h6a5 h6a7 h6a17 h6a18 (S6_set_wrongAt (S6_set_askedAt (S6_set_asked s6 0) (-1)) r_8) (S6_count (S6_set_wrongAt (S6_set_askedAt (S6_set_asked s6 0) (-1)) r_8)))) hP
        have hD : va_D A (cf_6 cI cZ h6 h6a1 h6a2 h6a3 h6a4 h6a5 h6a7 h6a17 h6a18 (S6_set_length (S6_set_wrongAt (S6_set_askedAt (S6_set_asked s6 0) (-1)) r_8) (S6_count (S6_set_wrongAt (S6_set_askedAt (S6_set_asked s6 0) (-1)) r_8)))) := Eq.mp (congrArg (fun w => va_D A w) (cs6_length cI cZ h6 h6a1 h6a2 h6a3 h6a4 h6a5 h6a7 h6a17 h6a18 (S6_set_wrongAt (S6_set_askedAt (S6_set_asked s6 0) (-1)) r_8) (S6_count (S6_set_wrongAt (S6_set_askedAt (S6_set_asked s6 0) (-1)) r_8)))) hD
        refine lv_iconst (v := 0) hx hb dX6_understand_57 (by decide) ?_
        refine lv_istore_n (lv' := [(1, .int 0), (0, .ref h6)]) hx hb dX6_understand_58 rfl hl (by decide) rfl (fun ls hl => ?_)
        exact J59 64 (S6_set_length (S6_set_wrongAt (S6_set_askedAt (S6_set_asked s6 0) (-1)) r_8) (S6_count (S6_set_wrongAt (S6_set_askedAt (S6_set_asked s6 0) (-1)) r_8))) 0 _ _ hP hD hS _ (lv_sub hl [1, 0] rfl) hf
      · have hf := it_f c_9 hf
        refine lv_iconst (v := 4) hx hb dX6_understand_47 (by decide) ?_
        have hf : (some (4, (S6_set_wrongAt (S6_set_askedAt (S6_set_asked s6 0) (-1)) r_8)) : Option (Int32 × S6)) = some (r, s6f) := hf
        have he := Option.some.inj hf
        have he0 : 4 = r := congrArg (fun q => q.1) he
        have he1 : (S6_set_wrongAt (S6_set_askedAt (S6_set_asked s6 0) (-1)) r_8) = s6f := congrArg (fun q => q.2) he
        exact hret _ _ _ _ _ _ he0 (by rw [← he1]) dX6_understand_48 hP hD hS
  · have hf := it_t c_1 hf
    refine lv_iconst (v := 2) hx hb dX6_understand_7 (by decide) ?_
    have hf : (some (2, s6) : Option (Int32 × S6)) = some (r, s6f) := hf
    have he := Option.some.inj hf
    have he0 : 2 = r := congrArg (fun q => q.1) he
    have he1 : s6 = s6f := congrArg (fun q => q.2) he
    exact hret _ _ _ _ _ _ he0 (by rw [← he1]) dX6_understand_8 hP hD hS
abbrev rmX6_say : Room := { frames := 7, cells := 0, slots := 0, locals := 166 }
set_option maxHeartbeats 2000000 in
set_option maxRecDepth 100000 in
theorem ktX6_say (l : Launch) (dC : Nat → ClassId) (dI : Nat → Nat → Nat) (cI cZ : ClassId) (h6 h6a1 h6a2 h6a3 h6a4 h6a5 h6a7 h6a17 h6a18 : Nat) (sz : Nat) (s6 : S6) (r : Int32) (s6f : S6) (hf : fX6_say s6 = some (r, s6f)) : Met l yX6_say wsX6_say rmX6_say (va_Pc [.ref h6] (pre_w (dC, dI) (cf_6 cI cZ h6 h6a1 h6a2 h6a3 h6a4 h6a5 h6a7 h6a17 h6a18 s6) [(cI, .int), (cZ, .boolean)] sz)) (va_Qi (fun (r' : Int32) (_ : Unit) => r' = r) (post_w (dC, dI) (cf_6 cI cZ h6 h6a1 h6a2 h6a3 h6a4 h6a5 h6a7 h6a17 h6a18 s6f) [(cI, .int), (cZ, .boolean)] (va_A (cf_6 cI cZ h6 h6a1 h6a2 h6a3 h6a4 h6a5 h6a7 h6a17 h6a18 s6) sz)) (va_A (cf_6 cI cZ h6 h6a1 h6a2 h6a3 h6a4 h6a5 h6a7 h6a17 h6a18 s6) sz)) 0 0 (va_A (cf_6 cI cZ h6 h6a1 h6a2 h6a3 h6a4 h6a5 h6a7 h6a17 h6a18 s6) sz) := by
  refine gm_i (cc := cX6_say) (maxL := 1) (by decide) rfl (Nat.le_of_ble_eq_true rfl) ?_
  intro p e s m below meth c A QQ ls hx hb hml hown hts hK hN hA hP hD hS hl hret
  have hown : s.vm.findClass RX6 = some m.cls := hown
  have hl : lv_has ls 1 [(0, .ref h6)] := hl
  have in6 : ∀ w ∈ u_ws RX6 TX6 25, w ∈ wsX6_say := by decide +kernel
  have fl54 := hts (.fieldLink RX6 54 "ParserParlourModel" "thrown" "I") (by decide +kernel)
  have fl33 := hts (.fieldLink RX6 33 "ParserParlourModel" "wrongAt" "I") (by decide +kernel)
  have fl29 := hts (.fieldLink RX6 29 "ParserParlourModel" "outcome" "I") (by decide +kernel)
  have fl170 := hts (.fieldLink RX6 170 "ParserParlourModel" "questions" "I") (by decide +kernel)
  have fl95 := hts (.fieldLink RX6 95 "ParserParlourModel" "count" "I") (by decide +kernel)
  have J36 : ∀ (s6 : S6) (t1 : Int32) (t2 : Int32) (H : Heap) (locs : List Loc), va_P (dC, dI) vwCl (cf_6 cI cZ h6 h6a1 h6a2 h6a3 h6a4 h6a5 h6a7 h6a17 h6a18 s6) H → va_D A (cf_6 cI cZ h6 h6a1 h6a2 h6a3 h6a4 h6a5 h6a7 h6a17 h6a18 s6) → va_S A s.heap H locs → ∀ (ls : Array Slot), lv_has ls 1 [(0, .ref h6)] → fX6_say_36 s6 t1 t2 = some (r, s6f) → W p l e rmX6_say s m ([.ref h6] : List Value).toArray below meth c H locs 0 0 QQ (F0 m 36 ls [.int t2, .int t1, .ref h6]) := by
    intro  s6 t1 t2 H locs hP hD hS ls hl hf
    unfold fX6_say_36 at hf
    refine lv_iadd hx hb dX6_say_36 ?_
    refine va_put (D := (dC, dI)) (ci := 6) (v := .int (t1 + t2)) (ty := .int) (C := RX6) (T := TX6) (N := 25) hx hb hts in6 tyX6 tyX6_ok nmX6 hown hK hP hD hS 0 rfl rfl 15 (by decide) fl170 (fun _ h9 => h9) rfl (by decide +kernel) rfl rfl (Nat.le_of_ble_eq_true rfl) dX6_say_37 (fun H locs hP hD hS => ?_)
    have hP : va_P (dC, dI) vwCl (cf_6 cI cZ h6 h6a1 h6a2 h6a3 h6a4 h6a5 h6a7 h6a17 h6a18 (S6_set_questions s6 (t1 + t2))) H := Eq.mp (congrArg (fun w => va_P (dC, dI) vwCl w H) (cs6_questions cI cZ h6 h6a1 h6a2 h6a3 h6a4 h6a5 h6a7 h6a17 h6a18 s6 (t1 + t2))) hP
    have hD : va_D A (cf_6 cI cZ h6 h6a1 h6a2 h6a3 h6a4 h6a5 h6a7 h6a17 h6a18 (S6_set_questions s6 (t1 + t2))) := Eq.mp (congrArg (fun w => va_D A w) (cs6_questions cI cZ h6 h6a1 h6a2 h6a3 h6a4 h6a5 h6a7 h6a17 h6a18 s6 (t1 + t2))) hD
    refine lv_aload_n hx hb dX6_say_40 rfl (lv_at hl 0 rfl) ?_
    refine lv_iconst (v := 0) hx hb dX6_say_41 (by decide) ?_
    refine va_put (D := (dC, dI)) (ci := 6) (v := .int 0) (ty := .int) (C := RX6) (T := TX6) (N := 25) hx hb hts in6 tyX6 tyX6_ok nmX6 hown hK hP hD hS 0 rfl rfl 6 (by decide) fl95 (fun _ h9 => h9) rfl (by decide +kernel) rfl rfl (Nat.le_of_ble_eq_true rfl) dX6_say_42 (fun H locs hP hD hS => ?_)
    have hP : va_P (dC, dI) vwCl (cf_6 cI cZ h6 h6a1 h6a2 h6a3 h6a4 h6a5 h6a7 h6a17 h6a18 (S6_set_count (S6_set_questions s6 (t1 + t2)) 0)) H := Eq.mp (congrArg (fun w => va_P (dC, dI) vwCl w H) (cs6_count cI cZ h6 h6a1 h6a2 h6a3 h6a4 h6a5 h6a7 h6a17 h6a18 (S6_set_questions s6 (t1 + t2)) 0)) hP
    have hD : va_D A (cf_6 cI cZ h6 h6a1 h6a2 h6a3 h6a4 h6a5 h6a7 h6a17 h6a18 (S6_set_count (S6_set_questions s6 (t1 + t2)) 0)) := Eq.mp (congrArg (fun w => va_D A w) (cs6_count cI cZ h6 h6a1 h6a2 h6a3 h6a4 h6a5 h6a7 h6a17 h6a18 (S6_set_questions s6 (t1 + t2)) 0)) hD
    refine lv_aload_n hx hb dX6_say_45 rfl (lv_at hl 0 rfl) ?_
    refine va_get (D := (dC, dI)) (ci := 6) (v := .int (S6_outcome (S6_set_count (S6_set_questions s6 (t1 + t2)) 0))) (C := RX6) (T := TX6) (N := 25) hx hb hts in6 hown hK hP 0 rfl rfl 8 (by decide) fl29 (fun _ h9 => h9) rfl dX6_say_46 ?_
    have hf : (some ((S6_outcome (S6_set_count (S6_set_questions s6 (t1 + t2)) 0)), (S6_set_count (S6_set_questions s6 (t1 + t2)) 0)) : Option (Int32 × S6)) = some (r, s6f) := hf
    have he := Option.some.inj hf
    have he0 : (S6_outcome (S6_set_count (S6_set_questions s6 (t1 + t2)) 0)) = r := congrArg (fun q => q.1) he
    have he1 : (S6_set_count (S6_set_questions s6 (t1 + t2)) 0) = s6f := congrArg (fun q => q.2) he
    exact hret _ _ _ _ _ _ he0 (by rw [← he1]) dX6_say_49 hP hD hS
  unfold fX6_say at hf
  refine lv_aload_n hx hb dX6_say_0 rfl (lv_at hl 0 rfl) ?_
  refine lv_iconst (v := 0) hx hb dX6_say_1 (by decide) ?_
  refine va_put (D := (dC, dI)) (ci := 6) (v := .int 0) (ty := .int) (C := RX6) (T := TX6) (N := 25) hx hb hts in6 tyX6 tyX6_ok nmX6 hown hK hP hD hS 0 rfl rfl 24 (by decide) fl54 (fun _ h9 => h9) rfl (by decide +kernel) rfl rfl (Nat.le_of_ble_eq_true rfl) dX6_say_2 (fun H locs hP hD hS => ?_)
  have hP : va_P (dC, dI) vwCl (cf_6 cI cZ h6 h6a1 h6a2 h6a3 h6a4 h6a5 h6a7 h6a17 h6a18 (S6_set_thrown s6 0)) H := Eq.mp (congrArg (fun w => va_P (dC, dI) vwCl w H) (cs6_thrown cI cZ h6 h6a1 h6a2 h6a3 h6a4 h6a5 h6a7 h6a17 h6a18 s6 0)) hP
  have hD : va_D A (cf_6 cI cZ h6 h6a1 h6a2 h6a3 h6a4 h6a5 h6a7 h6a17 h6a18 (S6_set_thrown s6 0)) := Eq.mp (congrArg (fun w => va_D A w) (cs6_thrown cI cZ h6 h6a1 h6a2 h6a3 h6a4 h6a5 h6a7 h6a17 h6a18 s6 0)) hD
  refine lv_aload_n hx hb dX6_say_5 rfl (lv_at hl 0 rfl) ?_
  refine lv_iconst (v := (-1)) hx hb dX6_say_6 (by decide) ?_
  refine va_put (D := (dC, dI)) (ci := 6) (v := .int (-1)) (ty := .int) (C := RX6) (T := TX6) (N := 25) hx hb hts in6 tyX6 tyX6_ok nmX6 hown hK hP hD hS 0 rfl rfl 9 (by decide) fl33 (fun _ h9 => h9) rfl (by decide +kernel) rfl rfl (Nat.le_of_ble_eq_true rfl) dX6_say_7 (fun H locs hP hD hS => ?_)
  have hP : va_P (dC, dI) vwCl (cf_6 cI cZ h6 h6a1 h6a2 h6a3 h6a4 h6a5 h6a7 h6a17 h6a18 (S6_set_wrongAt (S6_set_thrown s6 0) (-1))) H := Eq.mp (congrArg (fun w => va_P (dC, dI) vwCl w H) (cs6_wrongAt cI cZ h6 h6a1 h6a2 h6a3 h6a4 h6a5 h6a7 h6a17 h6a18 (S6_set_thrown s6 0) (-1))) hP
  have hD : va_D A (cf_6 cI cZ h6 h6a1 h6a2 h6a3 h6a4 h6a5 h6a7 h6a17 h6a18 (S6_set_wrongAt (S6_set_thrown s6 0) (-1))) := Eq.mp (congrArg (fun w => va_D A w) (cs6_wrongAt cI cZ h6 h6a1 h6a2 h6a3 h6a4 h6a5 h6a7 h6a17 h6a18 (S6_set_thrown s6 0) (-1))) hD
  refine lv_aload_n hx hb dX6_say_10 rfl (lv_at hl 0 rfl) ?_
  refine lv_aload_n hx hb dX6_say_11 rfl (lv_at hl 0 rfl) ?_
  obtain ⟨r_1, s6_1, hc_1, hf⟩ := bn2_ok hf
  refine gc_i (wc := (cf_6 cI cZ h6 h6a1 h6a2 h6a3 h6a4 h6a5 h6a7 h6a17 h6a18 (S6_set_wrongAt (S6_set_thrown s6 0) (-1)))) (wr := ([] : va_W)) (w1 := (cf_6 cI cZ h6 h6a1 h6a2 h6a3 h6a4 h6a5 h6a7 h6a17 h6a18 s6_1)) (ws' := (cf_6 cI cZ h6 h6a1 h6a2 h6a3 h6a4 h6a5 h6a7 h6a17 h6a18 s6_1)) hP hD hS hA [0, 1, 2, 3, 4, 5, 6, 7, 8] [] [0, 1, 2, 3, 4, 5, 6, 7, 8] rfl rfl (by decide) (by decide) rfl (by decide) (va_runV (As := []) (rest := [.ref h6]) ⟨hx, hb, hml, hown, hts⟩ (ktX6_understand l dC dI cI cZ h6 h6a1 h6a2 h6a3 h6a4 h6a5 h6a7 h6a17 h6a18 _ (S6_set_wrongAt (S6_set_thrown s6 0) (-1)) r_1 s6_1 hc_1) (cwV 0 hts gX6_say_X6_understand rfl rfl rfl (by decide +kernel) ⟨Nat.le_of_ble_eq_true rfl, Nat.le_of_ble_eq_true rfl⟩) (gc_V (ci := 6) (q0 := 0) (C := RX6) (T := TX6) (N := 25) (hP.sub (ws' := (cf_6 cI cZ h6 h6a1 h6a2 h6a3 h6a4 h6a5 h6a7 h6a17 h6a18 (S6_set_wrongAt (S6_set_thrown s6 0) (-1)))) [0, 1, 2, 3, 4, 5, 6, 7, 8] rfl) (hK.sub (tys' := [(cI, .int), (cZ, .boolean)]) [0, 1] rfl) (hD.sub (ws' := (cf_6 cI cZ h6 h6a1 h6a2 h6a3 h6a4 h6a5 h6a7 h6a17 h6a18 (S6_set_wrongAt (S6_set_thrown s6 0) (-1)))) [0, 1, 2, 3, 4, 5, 6, 7, 8] (by decide) rfl) hN rfl rfl) rfl rfl hl.1 rfl (lv_room (Nat.le_of_ble_eq_true rfl)) dX6_say_12 ⟨Nat.zero_le _, Nat.zero_le _⟩) (fun H locs hP hD hS => ?_)
  refine va_put (D := (dC, dI)) (ci := 6) (v := .int r_1) (ty := .int) (C := RX6) (T := TX6) (N := 25) hx hb hts in6 tyX6 tyX6_ok nmX6 hown hK hP hD hS 0 rfl rfl 8 (by decide) fl29 (fun _ h9 => h9) rfl (by decide +kernel) rfl rfl (Nat.le_of_ble_eq_true rfl) dX6_say_15 (fun H locs hP hD hS => ?_)
  have hP : va_P (dC, dI) vwCl (cf_6 cI cZ h6 h6a1 h6a2 h6a3 h6a4 h6a5 h6a7 h6a17 h6a18 (S6_set_outcome s6_1 r_1)) H := Eq.mp (congrArg (fun w => va_P (dC, dI) vwCl w H) (cs6_outcome cI cZ h6 h6a1 h6a2 h6a3 h6a4 h6a5 h6a7 h6a17 h6a18 s6_1 r_1)) hP
  have hD : va_D A (cf_6 cI cZ h6 h6a1 h6a2 h6a3 h6a4 h6a5 h6a7 h6a17 h6a18 (S6_set_outcome s6_1 r_1)) := Eq.mp (congrArg (fun w => va_D A w) (cs6_outcome cI cZ h6 h6a1 h6a2 h6a3 h6a4 h6a5 h6a7 h6a17 h6a18 s6_1 r_1)) hD
  refine lv_aload_n hx hb dX6_say_18 rfl (lv_at hl 0 rfl) ?_
  refine lv_dup hx hb dX6_say_19 rfl ?_
  refine va_get (D := (dC, dI)) (ci := 6) (v := .int (S6_questions (S6_set_outcome s6_1 r_1))) (C := RX6) (T := TX6) (N := 25) hx hb hts in6 hown hK hP 0 rfl rfl 15 (by decide) fl170 (fun _ h9 => h9) rfl dX6_say_20 ?_
  refine lv_aload_n hx hb dX6_say_23 rfl (lv_at hl 0 rfl) ?_
  refine va_get (D := (dC, dI)) (ci := 6) (v := .int (S6_outcome (S6_set_outcome s6_1 r_1))) (C := RX6) (T := TX6) (N := 25) hx hb hts in6 hown hK hP 0 rfl rfl 8 (by decide) fl29 (fun _ h9 => h9) rfl dX6_say_24 ?_
  refine lv_iconst (v := 1) hx hb dX6_say_27 (by decide) ?_
  refine lv_icmp_ne (tgt := 35) hx hb dX6_say_28 (by decide) (fun c_2 => ?_) (fun c_2 => ?_)
  · have hf := it_f c_2 hf
    refine lv_iconst (v := 0) hx hb dX6_say_35 (by decide) ?_
    exact J36 (S6_set_outcome s6_1 r_1) (S6_questions (S6_set_outcome s6_1 r_1)) 0 _ _ hP hD hS _ (lv_sub hl [0] rfl) hf
  · have hf := it_t c_2 hf
    refine lv_iconst (v := 1) hx hb dX6_say_31 (by decide) ?_
    refine lv_goto (tgt := 36) hx hb dX6_say_32 (by decide) ?_
    exact J36 (S6_set_outcome s6_1 r_1) (S6_questions (S6_set_outcome s6_1 r_1)) 1 _ _ hP hD hS _ (lv_sub hl [0] rfl) hf
abbrev rmX6_outcome : Room := { frames := 0, cells := 0, slots := 0, locals := 0 }
set_option maxHeartbeats 2000000 in
set_option maxRecDepth 100000 in
theorem ktX6_outcome (l : Launch) (dC : Nat → ClassId) (dI : Nat → Nat → Nat) (cI cZ : ClassId) (h6 h6a1 h6a2 h6a3 h6a4 h6a5 h6a7 h6a17 h6a18 : Nat) (sz : Nat) (s6 : S6) (r : Int32) (s6f : S6) (hf : fX6_outcome s6 = some (r, s6f)) : Met l yX6_outcome wsX6_outcome rmX6_outcome (va_Pc [.ref h6] (pre_w (dC, dI) (cf_6 cI cZ h6 h6a1 h6a2 h6a3 h6a4 h6a5 h6a7 h6a17 h6a18 s6) [(cI, .int), (cZ, .boolean)] sz)) (va_Qi (fun (r' : Int32) (_ : Unit) => r' = r) (post_w (dC, dI) (cf_6 cI cZ h6 h6a1 h6a2 h6a3 h6a4 h6a5 h6a7 h6a17 h6a18 s6f) [(cI, .int), (cZ, .boolean)] (va_A (cf_6 cI cZ h6 h6a1 h6a2 h6a3 h6a4 h6a5 h6a7 h6a17 h6a18 s6) sz)) (va_A (cf_6 cI cZ h6 h6a1 h6a2 h6a3 h6a4 h6a5 h6a7 h6a17 h6a18 s6) sz)) 0 0 (va_A (cf_6 cI cZ h6 h6a1 h6a2 h6a3 h6a4 h6a5 h6a7 h6a17 h6a18 s6) sz) := by
  refine gm_i (cc := cX6_outcome) (maxL := 1) (by decide) rfl (Nat.le_of_ble_eq_true rfl) ?_
  intro p e s m below meth c A QQ ls hx hb hml hown hts hK hN hA hP hD hS hl hret
  have hown : s.vm.findClass RX6 = some m.cls := hown
  have hl : lv_has ls 1 [(0, .ref h6)] := hl
  have in6 : ∀ w ∈ u_ws RX6 TX6 25, w ∈ wsX6_outcome := by decide +kernel
  have fl54 := hts (.fieldLink RX6 54 "ParserParlourModel" "thrown" "I") (by decide +kernel)
  have fl29 := hts (.fieldLink RX6 29 "ParserParlourModel" "outcome" "I") (by decide +kernel)
  unfold fX6_outcome at hf
  refine lv_aload_n hx hb dX6_outcome_0 rfl (lv_at hl 0 rfl) ?_
  refine lv_iconst (v := 0) hx hb dX6_outcome_1 (by decide) ?_
  refine va_put (D := (dC, dI)) (ci := 6) (v := .int 0) (ty := .int) (C := RX6) (T := TX6) (N := 25) hx hb hts in6 tyX6 tyX6_ok nmX6 hown hK hP hD hS 0 rfl rfl 24 (by decide) fl54 (fun _ h9 => h9) rfl (by decide +kernel) rfl rfl (Nat.le_of_ble_eq_true rfl) dX6_outcome_2 (fun H locs hP hD hS => ?_)
  have hP : va_P (dC, dI) vwCl (cf_6 cI cZ h6 h6a1 h6a2 h6a3 h6a4 h6a5 h6a7 h6a17 h6a18 (S6_set_thrown s6 0)) H := Eq.mp (congrArg (fun w => va_P (dC, dI) vwCl w H) (cs6_thrown cI cZ h6 h6a1 h6a2 h6a3 h6a4 h6a5 h6a7 h6a17 h6a18 s6 0)) hP
  have hD : va_D A (cf_6 cI cZ h6 h6a1 h6a2 h6a3 h6a4 h6a5 h6a7 h6a17 h6a18 (S6_set_thrown s6 0)) := Eq.mp (congrArg (fun w => va_D A w) (cs6_thrown cI cZ h6 h6a1 h6a2 h6a3 h6a4 h6a5 h6a7 h6a17 h6a18 s6 0)) hD
  refine lv_aload_n hx hb dX6_outcome_5 rfl (lv_at hl 0 rfl) ?_
  refine va_get (D := (dC, dI)) (ci := 6) (v := .int (S6_outcome (S6_set_thrown s6 0))) (C := RX6) (T := TX6) (N := 25) hx hb hts in6 hown hK hP 0 rfl rfl 8 (by decide) fl29 (fun _ h9 => h9) rfl dX6_outcome_6 ?_
  have hf : (some ((S6_outcome (S6_set_thrown s6 0)), (S6_set_thrown s6 0)) : Option (Int32 × S6)) = some (r, s6f) := hf
  have he := Option.some.inj hf
  have he0 : (S6_outcome (S6_set_thrown s6 0)) = r := congrArg (fun q => q.1) he
  have he1 : (S6_set_thrown s6 0) = s6f := congrArg (fun q => q.2) he
  exact hret _ _ _ _ _ _ he0 (by rw [← he1]) dX6_outcome_9 hP hD hS
abbrev rmX6_wrongAt : Room := { frames := 0, cells := 0, slots := 0, locals := 0 }
set_option maxHeartbeats 2000000 in
set_option maxRecDepth 100000 in
theorem ktX6_wrongAt (l : Launch) (dC : Nat → ClassId) (dI : Nat → Nat → Nat) (cI cZ : ClassId) (h6 h6a1 h6a2 h6a3 h6a4 h6a5 h6a7 h6a17 h6a18 : Nat) (sz : Nat) (s6 : S6) (r : Int32) (s6f : S6) (hf : fX6_wrongAt s6 = some (r, s6f)) : Met l yX6_wrongAt wsX6_wrongAt rmX6_wrongAt (va_Pc [.ref h6] (pre_w (dC, dI) (cf_6 cI cZ h6 h6a1 h6a2 h6a3 h6a4 h6a5 h6a7 h6a17 h6a18 s6) [(cI, .int), (cZ, .boolean)] sz)) (va_Qi (fun (r' : Int32) (_ : Unit) => r' = r) (post_w (dC, dI) (cf_6 cI cZ h6 h6a1 h6a2 h6a3 h6a4 h6a5 h6a7 h6a17 h6a18 s6f) [(cI, .int), (cZ, .boolean)] (va_A (cf_6 cI cZ h6 h6a1 h6a2 h6a3 h6a4 h6a5 h6a7 h6a17 h6a18 s6) sz)) (va_A (cf_6 cI cZ h6 h6a1 h6a2 h6a3 h6a4 h6a5 h6a7 h6a17 h6a18 s6) sz)) 0 0 (va_A (cf_6 cI cZ h6 h6a1 h6a2 h6a3 h6a4 h6a5 h6a7 h6a17 h6a18 s6) sz) := by
  refine gm_i (cc := cX6_wrongAt) (maxL := 1) (by decide) rfl (Nat.le_of_ble_eq_true rfl) ?_
  intro p e s m below meth c A QQ ls hx hb hml hown hts hK hN hA hP hD hS hl hret
  have hown : s.vm.findClass RX6 = some m.cls := hown
  have hl : lv_has ls 1 [(0, .ref h6)] := hl
  have in6 : ∀ w ∈ u_ws RX6 TX6 25, w ∈ wsX6_wrongAt := by decide +kernel
  have fl54 := hts (.fieldLink RX6 54 "ParserParlourModel" "thrown" "I") (by decide +kernel)
  have fl33 := hts (.fieldLink RX6 33 "ParserParlourModel" "wrongAt" "I") (by decide +kernel)
  unfold fX6_wrongAt at hf
  refine lv_aload_n hx hb dX6_wrongAt_0 rfl (lv_at hl 0 rfl) ?_
  refine lv_iconst (v := 0) hx hb dX6_wrongAt_1 (by decide) ?_
  refine va_put (D := (dC, dI)) (ci := 6) (v := .int 0) (ty := .int) (C := RX6) (T := TX6) (N := 25) hx hb hts in6 tyX6 tyX6_ok nmX6 hown hK hP hD hS 0 rfl rfl 24 (by decide) fl54 (fun _ h9 => h9) rfl (by decide +kernel) rfl rfl (Nat.le_of_ble_eq_true rfl) dX6_wrongAt_2 (fun H locs hP hD hS => ?_)
  have hP : va_P (dC, dI) vwCl (cf_6 cI cZ h6 h6a1 h6a2 h6a3 h6a4 h6a5 h6a7 h6a17 h6a18 (S6_set_thrown s6 0)) H := Eq.mp (congrArg (fun w => va_P (dC, dI) vwCl w H) (cs6_thrown cI cZ h6 h6a1 h6a2 h6a3 h6a4 h6a5 h6a7 h6a17 h6a18 s6 0)) hP
  have hD : va_D A (cf_6 cI cZ h6 h6a1 h6a2 h6a3 h6a4 h6a5 h6a7 h6a17 h6a18 (S6_set_thrown s6 0)) := Eq.mp (congrArg (fun w => va_D A w) (cs6_thrown cI cZ h6 h6a1 h6a2 h6a3 h6a4 h6a5 h6a7 h6a17 h6a18 s6 0)) hD
  refine lv_aload_n hx hb dX6_wrongAt_5 rfl (lv_at hl 0 rfl) ?_
  refine va_get (D := (dC, dI)) (ci := 6) (v := .int (S6_wrongAt (S6_set_thrown s6 0))) (C := RX6) (T := TX6) (N := 25) hx hb hts in6 hown hK hP 0 rfl rfl 9 (by decide) fl33 (fun _ h9 => h9) rfl dX6_wrongAt_6 ?_
  have hf : (some ((S6_wrongAt (S6_set_thrown s6 0)), (S6_set_thrown s6 0)) : Option (Int32 × S6)) = some (r, s6f) := hf
  have he := Option.some.inj hf
  have he0 : (S6_wrongAt (S6_set_thrown s6 0)) = r := congrArg (fun q => q.1) he
  have he1 : (S6_set_thrown s6 0) = s6f := congrArg (fun q => q.2) he
  exact hret _ _ _ _ _ _ he0 (by rw [← he1]) dX6_wrongAt_9 hP hD hS
abbrev rmX6_verb : Room := { frames := 0, cells := 0, slots := 0, locals := 0 }
set_option maxHeartbeats 2000000 in
set_option maxRecDepth 100000 in
theorem ktX6_verb (l : Launch) (dC : Nat → ClassId) (dI : Nat → Nat → Nat) (cI cZ : ClassId) (h6 h6a1 h6a2 h6a3 h6a4 h6a5 h6a7 h6a17 h6a18 : Nat) (sz : Nat) (s6 : S6) (r : Int32) (s6f : S6) (hf : fX6_verb s6 = some (r, s6f)) : Met l yX6_verb wsX6_verb rmX6_verb (va_Pc [.ref h6] (pre_w (dC, dI) (cf_6 cI cZ h6 h6a1 h6a2 h6a3 h6a4 h6a5 h6a7 h6a17 h6a18 s6) [(cI, .int), (cZ, .boolean)] sz)) (va_Qi (fun (r' : Int32) (_ : Unit) => r' = r) (post_w (dC, dI) (cf_6 cI cZ h6 h6a1 h6a2 h6a3 h6a4 h6a5 h6a7 h6a17 h6a18 s6f) [(cI, .int), (cZ, .boolean)] (va_A (cf_6 cI cZ h6 h6a1 h6a2 h6a3 h6a4 h6a5 h6a7 h6a17 h6a18 s6) sz)) (va_A (cf_6 cI cZ h6 h6a1 h6a2 h6a3 h6a4 h6a5 h6a7 h6a17 h6a18 s6) sz)) 0 0 (va_A (cf_6 cI cZ h6 h6a1 h6a2 h6a3 h6a4 h6a5 h6a7 h6a17 h6a18 s6) sz) := by
  refine gm_i (cc := cX6_verb) (maxL := 1) (by decide) rfl (Nat.le_of_ble_eq_true rfl) ?_
  intro p e s m below meth c A QQ ls hx hb hml hown hts hK hN hA hP hD hS hl hret
  have hown : s.vm.findClass RX6 = some m.cls := hown
  have hl : lv_has ls 1 [(0, .ref h6)] := hl
  have in6 : ∀ w ∈ u_ws RX6 TX6 25, w ∈ wsX6_verb := by decide +kernel
  have fl54 := hts (.fieldLink RX6 54 "ParserParlourModel" "thrown" "I") (by decide +kernel)
  have fl36 := hts (.fieldLink RX6 36 "ParserParlourModel" "verb" "I") (by decide +kernel)
  unfold fX6_verb at hf
  refine lv_aload_n hx hb dX6_verb_0 rfl (lv_at hl 0 rfl) ?_
  refine lv_iconst (v := 0) hx hb dX6_verb_1 (by decide) ?_
  refine va_put (D := (dC, dI)) (ci := 6) (v := .int 0) (ty := .int) (C := RX6) (T := TX6) (N := 25) hx hb hts in6 tyX6 tyX6_ok nmX6 hown hK hP hD hS 0 rfl rfl 24 (by decide) fl54 (fun _ h9 => h9) rfl (by decide +kernel) rfl rfl (Nat.le_of_ble_eq_true rfl) dX6_verb_2 (fun H locs hP hD hS => ?_)
  have hP : va_P (dC, dI) vwCl (cf_6 cI cZ h6 h6a1 h6a2 h6a3 h6a4 h6a5 h6a7 h6a17 h6a18 (S6_set_thrown s6 0)) H := Eq.mp (congrArg (fun w => va_P (dC, dI) vwCl w H) (cs6_thrown cI cZ h6 h6a1 h6a2 h6a3 h6a4 h6a5 h6a7 h6a17 h6a18 s6 0)) hP
  have hD : va_D A (cf_6 cI cZ h6 h6a1 h6a2 h6a3 h6a4 h6a5 h6a7 h6a17 h6a18 (S6_set_thrown s6 0)) := Eq.mp (congrArg (fun w => va_D A w) (cs6_thrown cI cZ h6 h6a1 h6a2 h6a3 h6a4 h6a5 h6a7 h6a17 h6a18 s6 0)) hD
  refine lv_aload_n hx hb dX6_verb_5 rfl (lv_at hl 0 rfl) ?_
  refine va_get (D := (dC, dI)) (ci := 6) (v := .int (S6_verb (S6_set_thrown s6 0))) (C := RX6) (T := TX6) (N := 25) hx hb hts in6 hown hK hP 0 rfl rfl 10 (by decide) fl36 (fun _ h9 => h9) rfl dX6_verb_6 ?_
  have hf : (some ((S6_verb (S6_set_thrown s6 0)), (S6_set_thrown s6 0)) : Option (Int32 × S6)) = some (r, s6f) := hf
  have he := Option.some.inj hf
  have he0 : (S6_verb (S6_set_thrown s6 0)) = r := congrArg (fun q => q.1) he
  have he1 : (S6_set_thrown s6 0) = s6f := congrArg (fun q => q.2) he
  exact hret _ _ _ _ _ _ he0 (by rw [← he1]) dX6_verb_9 hP hD hS
abbrev rmX6_meant : Room := { frames := 0, cells := 0, slots := 0, locals := 0 }
set_option maxHeartbeats 2000000 in
set_option maxRecDepth 100000 in
theorem ktX6_meant (l : Launch) (dC : Nat → ClassId) (dI : Nat → Nat → Nat) (cI cZ : ClassId) (h6 h6a1 h6a2 h6a3 h6a4 h6a5 h6a7 h6a17 h6a18 : Nat) (sz : Nat) (s6 : S6) (r : Int32) (s6f : S6) (hf : fX6_meant s6 = some (r, s6f)) : Met l yX6_meant wsX6_meant rmX6_meant (va_Pc [.ref h6] (pre_w (dC, dI) (cf_6 cI cZ h6 h6a1 h6a2 h6a3 h6a4 h6a5 h6a7 h6a17 h6a18 s6) [(cI, .int), (cZ, .boolean)] sz)) (va_Qi (fun (r' : Int32) (_ : Unit) => r' = r) (post_w (dC, dI) (cf_6 cI cZ h6 h6a1 h6a2 h6a3 h6a4 h6a5 h6a7 h6a17 h6a18 s6f) [(cI, .int), (cZ, .boolean)] (va_A (cf_6 cI cZ h6 h6a1 h6a2 h6a3 h6a4 h6a5 h6a7 h6a17 h6a18 s6) sz)) (va_A (cf_6 cI cZ h6 h6a1 h6a2 h6a3 h6a4 h6a5 h6a7 h6a17 h6a18 s6) sz)) 0 0 (va_A (cf_6 cI cZ h6 h6a1 h6a2 h6a3 h6a4 h6a5 h6a7 h6a17 h6a18 s6) sz) := by
  refine gm_i (cc := cX6_meant) (maxL := 1) (by decide) rfl (Nat.le_of_ble_eq_true rfl) ?_
  intro p e s m below meth c A QQ ls hx hb hml hown hts hK hN hA hP hD hS hl hret
  have hown : s.vm.findClass RX6 = some m.cls := hown
  have hl : lv_has ls 1 [(0, .ref h6)] := hl
  have in6 : ∀ w ∈ u_ws RX6 TX6 25, w ∈ wsX6_meant := by decide +kernel
  have fl54 := hts (.fieldLink RX6 54 "ParserParlourModel" "thrown" "I") (by decide +kernel)
  have fl140 := hts (.fieldLink RX6 140 "ParserParlourModel" "meant" "I") (by decide +kernel)
  unfold fX6_meant at hf
  refine lv_aload_n hx hb dX6_meant_0 rfl (lv_at hl 0 rfl) ?_
  refine lv_iconst (v := 0) hx hb dX6_meant_1 (by decide) ?_
  refine va_put (D := (dC, dI)) (ci := 6) (v := .int 0) (ty := .int) (C := RX6) (T := TX6) (N := 25) hx hb hts in6 tyX6 tyX6_ok nmX6 hown hK hP hD hS 0 rfl rfl 24 (by decide) fl54 (fun _ h9 => h9) rfl (by decide +kernel) rfl rfl (Nat.le_of_ble_eq_true rfl) dX6_meant_2 (fun H locs hP hD hS => ?_)
  have hP : va_P (dC, dI) vwCl (cf_6 cI cZ h6 h6a1 h6a2 h6a3 h6a4 h6a5 h6a7 h6a17 h6a18 (S6_set_thrown s6 0)) H := Eq.mp (congrArg (fun w => va_P (dC, dI) vwCl w H) (cs6_thrown cI cZ h6 h6a1 h6a2 h6a3 h6a4 h6a5 h6a7 h6a17 h6a18 s6 0)) hP
  have hD : va_D A (cf_6 cI cZ h6 h6a1 h6a2 h6a3 h6a4 h6a5 h6a7 h6a17 h6a18 (S6_set_thrown s6 0)) := Eq.mp (congrArg (fun w => va_D A w) (cs6_thrown cI cZ h6 h6a1 h6a2 h6a3 h6a4 h6a5 h6a7 h6a17 h6a18 s6 0)) hD
  refine lv_aload_n hx hb dX6_meant_5 rfl (lv_at hl 0 rfl) ?_
  refine va_get (D := (dC, dI)) (ci := 6) (v := .int (S6_meant (S6_set_thrown s6 0))) (C := RX6) (T := TX6) (N := 25) hx hb hts in6 hown hK hP 0 rfl rfl 11 (by decide) fl140 (fun _ h9 => h9) rfl dX6_meant_6 ?_
  have hf : (some ((S6_meant (S6_set_thrown s6 0)), (S6_set_thrown s6 0)) : Option (Int32 × S6)) = some (r, s6f) := hf
  have he := Option.some.inj hf
  have he0 : (S6_meant (S6_set_thrown s6 0)) = r := congrArg (fun q => q.1) he
  have he1 : (S6_set_thrown s6 0) = s6f := congrArg (fun q => q.2) he
  exact hret _ _ _ _ _ _ he0 (by rw [← he1]) dX6_meant_9 hP hD hS
abbrev rmX6_done : Room := { frames := 0, cells := 0, slots := 0, locals := 0 }
set_option maxHeartbeats 2000000 in
set_option maxRecDepth 100000 in
theorem ktX6_done (l : Launch) (dC : Nat → ClassId) (dI : Nat → Nat → Nat) (cI cZ : ClassId) (h6 h6a1 h6a2 h6a3 h6a4 h6a5 h6a7 h6a17 h6a18 : Nat) (sz : Nat) (s6 : S6) (r : Int32) (s6f : S6) (hf : fX6_done s6 = some (r, s6f)) : Met l yX6_done wsX6_done rmX6_done (va_Pc [.ref h6] (pre_w (dC, dI) (cf_6 cI cZ h6 h6a1 h6a2 h6a3 h6a4 h6a5 h6a7 h6a17 h6a18 s6) [(cI, .int), (cZ, .boolean)] sz)) (va_Qi (fun (r' : Int32) (_ : Unit) => r' = r) (post_w (dC, dI) (cf_6 cI cZ h6 h6a1 h6a2 h6a3 h6a4 h6a5 h6a7 h6a17 h6a18 s6f) [(cI, .int), (cZ, .boolean)] (va_A (cf_6 cI cZ h6 h6a1 h6a2 h6a3 h6a4 h6a5 h6a7 h6a17 h6a18 s6) sz)) (va_A (cf_6 cI cZ h6 h6a1 h6a2 h6a3 h6a4 h6a5 h6a7 h6a17 h6a18 s6) sz)) 0 0 (va_A (cf_6 cI cZ h6 h6a1 h6a2 h6a3 h6a4 h6a5 h6a7 h6a17 h6a18 s6) sz) := by
  refine gm_i (cc := cX6_done) (maxL := 1) (by decide) rfl (Nat.le_of_ble_eq_true rfl) ?_
  intro p e s m below meth c A QQ ls hx hb hml hown hts hK hN hA hP hD hS hl hret
  have hown : s.vm.findClass RX6 = some m.cls := hown
  have hl : lv_has ls 1 [(0, .ref h6)] := hl
  have in6 : ∀ w ∈ u_ws RX6 TX6 25, w ∈ wsX6_done := by decide +kernel
  have fl54 := hts (.fieldLink RX6 54 "ParserParlourModel" "thrown" "I") (by decide +kernel)
  have fl158 := hts (.fieldLink RX6 158 "ParserParlourModel" "done" "I") (by decide +kernel)
  unfold fX6_done at hf
  refine lv_aload_n hx hb dX6_done_0 rfl (lv_at hl 0 rfl) ?_
  refine lv_iconst (v := 0) hx hb dX6_done_1 (by decide) ?_
  refine va_put (D := (dC, dI)) (ci := 6) (v := .int 0) (ty := .int) (C := RX6) (T := TX6) (N := 25) hx hb hts in6 tyX6 tyX6_ok nmX6 hown hK hP hD hS 0 rfl rfl 24 (by decide) fl54 (fun _ h9 => h9) rfl (by decide +kernel) rfl rfl (Nat.le_of_ble_eq_true rfl) dX6_done_2 (fun H locs hP hD hS => ?_)
  have hP : va_P (dC, dI) vwCl (cf_6 cI cZ h6 h6a1 h6a2 h6a3 h6a4 h6a5 h6a7 h6a17 h6a18 (S6_set_thrown s6 0)) H := Eq.mp (congrArg (fun w => va_P (dC, dI) vwCl w H) (cs6_thrown cI cZ h6 h6a1 h6a2 h6a3 h6a4 h6a5 h6a7 h6a17 h6a18 s6 0)) hP
  have hD : va_D A (cf_6 cI cZ h6 h6a1 h6a2 h6a3 h6a4 h6a5 h6a7 h6a17 h6a18 (S6_set_thrown s6 0)) := Eq.mp (congrArg (fun w => va_D A w) (cs6_thrown cI cZ h6 h6a1 h6a2 h6a3 h6a4 h6a5 h6a7 h6a17 h6a18 s6 0)) hD
  refine lv_aload_n hx hb dX6_done_5 rfl (lv_at hl 0 rfl) ?_
  refine va_get (D := (dC, dI)) (ci := 6) (v := .int (S6_done (S6_set_thrown s6 0))) (C := RX6) (T := TX6) (N := 25) hx hb hts in6 hown hK hP 0 rfl rfl 12 (by decide) fl158 (fun _ h9 => h9) rfl dX6_done_6 ?_
  have hf : (some ((S6_done (S6_set_thrown s6 0)), (S6_set_thrown s6 0)) : Option (Int32 × S6)) = some (r, s6f) := hf
  have he := Option.some.inj hf
  have he0 : (S6_done (S6_set_thrown s6 0)) = r := congrArg (fun q => q.1) he
  have he1 : (S6_set_thrown s6 0) = s6f := congrArg (fun q => q.2) he
  exact hret _ _ _ _ _ _ he0 (by rw [← he1]) dX6_done_9 hP hD hS
abbrev rmX6_into : Room := { frames := 0, cells := 0, slots := 0, locals := 0 }
set_option maxHeartbeats 2000000 in
set_option maxRecDepth 100000 in
theorem ktX6_into (l : Launch) (dC : Nat → ClassId) (dI : Nat → Nat → Nat) (cI cZ : ClassId) (h6 h6a1 h6a2 h6a3 h6a4 h6a5 h6a7 h6a17 h6a18 : Nat) (sz : Nat) (s6 : S6) (r : Int32) (s6f : S6) (hf : fX6_into s6 = some (r, s6f)) : Met l yX6_into wsX6_into rmX6_into (va_Pc [.ref h6] (pre_w (dC, dI) (cf_6 cI cZ h6 h6a1 h6a2 h6a3 h6a4 h6a5 h6a7 h6a17 h6a18 s6) [(cI, .int), (cZ, .boolean)] sz)) (va_Qi (fun (r' : Int32) (_ : Unit) => r' = r) (post_w (dC, dI) (cf_6 cI cZ h6 h6a1 h6a2 h6a3 h6a4 h6a5 h6a7 h6a17 h6a18 s6f) [(cI, .int), (cZ, .boolean)] (va_A (cf_6 cI cZ h6 h6a1 h6a2 h6a3 h6a4 h6a5 h6a7 h6a17 h6a18 s6) sz)) (va_A (cf_6 cI cZ h6 h6a1 h6a2 h6a3 h6a4 h6a5 h6a7 h6a17 h6a18 s6) sz)) 0 0 (va_A (cf_6 cI cZ h6 h6a1 h6a2 h6a3 h6a4 h6a5 h6a7 h6a17 h6a18 s6) sz) := by
  refine gm_i (cc := cX6_into) (maxL := 1) (by decide) rfl (Nat.le_of_ble_eq_true rfl) ?_
  intro p e s m below meth c A QQ ls hx hb hml hown hts hK hN hA hP hD hS hl hret
  have hown : s.vm.findClass RX6 = some m.cls := hown
  have hl : lv_has ls 1 [(0, .ref h6)] := hl
  have in6 : ∀ w ∈ u_ws RX6 TX6 25, w ∈ wsX6_into := by decide +kernel
  have fl54 := hts (.fieldLink RX6 54 "ParserParlourModel" "thrown" "I") (by decide +kernel)
  have fl39 := hts (.fieldLink RX6 39 "ParserParlourModel" "into" "I") (by decide +kernel)
  unfold fX6_into at hf
  refine lv_aload_n hx hb dX6_into_0 rfl (lv_at hl 0 rfl) ?_
  refine lv_iconst (v := 0) hx hb dX6_into_1 (by decide) ?_
  refine va_put (D := (dC, dI)) (ci := 6) (v := .int 0) (ty := .int) (C := RX6) (T := TX6) (N := 25) hx hb hts in6 tyX6 tyX6_ok nmX6 hown hK hP hD hS 0 rfl rfl 24 (by decide) fl54 (fun _ h9 => h9) rfl (by decide +kernel) rfl rfl (Nat.le_of_ble_eq_true rfl) dX6_into_2 (fun H locs hP hD hS => ?_)
  have hP : va_P (dC, dI) vwCl (cf_6 cI cZ h6 h6a1 h6a2 h6a3 h6a4 h6a5 h6a7 h6a17 h6a18 (S6_set_thrown s6 0)) H := Eq.mp (congrArg (fun w => va_P (dC, dI) vwCl w H) (cs6_thrown cI cZ h6 h6a1 h6a2 h6a3 h6a4 h6a5 h6a7 h6a17 h6a18 s6 0)) hP
  have hD : va_D A (cf_6 cI cZ h6 h6a1 h6a2 h6a3 h6a4 h6a5 h6a7 h6a17 h6a18 (S6_set_thrown s6 0)) := Eq.mp (congrArg (fun w => va_D A w) (cs6_thrown cI cZ h6 h6a1 h6a2 h6a3 h6a4 h6a5 h6a7 h6a17 h6a18 s6 0)) hD
  refine lv_aload_n hx hb dX6_into_5 rfl (lv_at hl 0 rfl) ?_
  refine va_get (D := (dC, dI)) (ci := 6) (v := .int (S6_into (S6_set_thrown s6 0))) (C := RX6) (T := TX6) (N := 25) hx hb hts in6 hown hK hP 0 rfl rfl 13 (by decide) fl39 (fun _ h9 => h9) rfl dX6_into_6 ?_
  have hf : (some ((S6_into (S6_set_thrown s6 0)), (S6_set_thrown s6 0)) : Option (Int32 × S6)) = some (r, s6f) := hf
  have he := Option.some.inj hf
  have he0 : (S6_into (S6_set_thrown s6 0)) = r := congrArg (fun q => q.1) he
  have he1 : (S6_set_thrown s6 0) = s6f := congrArg (fun q => q.2) he
  exact hret _ _ _ _ _ _ he0 (by rw [← he1]) dX6_into_9 hP hD hS
abbrev rmX6_asked : Room := { frames := 0, cells := 0, slots := 0, locals := 0 }
set_option maxHeartbeats 2000000 in
set_option maxRecDepth 100000 in
theorem ktX6_asked (l : Launch) (dC : Nat → ClassId) (dI : Nat → Nat → Nat) (cI cZ : ClassId) (h6 h6a1 h6a2 h6a3 h6a4 h6a5 h6a7 h6a17 h6a18 : Nat) (sz : Nat) (s6 : S6) (r : Int32) (s6f : S6) (hf : fX6_asked s6 = some (r, s6f)) : Met l yX6_asked wsX6_asked rmX6_asked (va_Pc [.ref h6] (pre_w (dC, dI) (cf_6 cI cZ h6 h6a1 h6a2 h6a3 h6a4 h6a5 h6a7 h6a17 h6a18 s6) [(cI, .int), (cZ, .boolean)] sz)) (va_Qi (fun (r' : Int32) (_ : Unit) => r' = r) (post_w (dC, dI) (cf_6 cI cZ h6 h6a1 h6a2 h6a3 h6a4 h6a5 h6a7 h6a17 h6a18 s6f) [(cI, .int), (cZ, .boolean)] (va_A (cf_6 cI cZ h6 h6a1 h6a2 h6a3 h6a4 h6a5 h6a7 h6a17 h6a18 s6) sz)) (va_A (cf_6 cI cZ h6 h6a1 h6a2 h6a3 h6a4 h6a5 h6a7 h6a17 h6a18 s6) sz)) 0 0 (va_A (cf_6 cI cZ h6 h6a1 h6a2 h6a3 h6a4 h6a5 h6a7 h6a17 h6a18 s6) sz) := by
  refine gm_i (cc := cX6_asked) (maxL := 1) (by decide) rfl (Nat.le_of_ble_eq_true rfl) ?_
  intro p e s m below meth c A QQ ls hx hb hml hown hts hK hN hA hP hD hS hl hret
  have hown : s.vm.findClass RX6 = some m.cls := hown
  have hl : lv_has ls 1 [(0, .ref h6)] := hl
  have in6 : ∀ w ∈ u_ws RX6 TX6 25, w ∈ wsX6_asked := by decide +kernel
  have fl54 := hts (.fieldLink RX6 54 "ParserParlourModel" "thrown" "I") (by decide +kernel)
  have fl149 := hts (.fieldLink RX6 149 "ParserParlourModel" "asked" "I") (by decide +kernel)
  unfold fX6_asked at hf
  refine lv_aload_n hx hb dX6_asked_0 rfl (lv_at hl 0 rfl) ?_
  refine lv_iconst (v := 0) hx hb dX6_asked_1 (by decide) ?_
  refine va_put (D := (dC, dI)) (ci := 6) (v := .int 0) (ty := .int) (C := RX6) (T := TX6) (N := 25) hx hb hts in6 tyX6 tyX6_ok nmX6 hown hK hP hD hS 0 rfl rfl 24 (by decide) fl54 (fun _ h9 => h9) rfl (by decide +kernel) rfl rfl (Nat.le_of_ble_eq_true rfl) dX6_asked_2 (fun H locs hP hD hS => ?_)
  have hP : va_P (dC, dI) vwCl (cf_6 cI cZ h6 h6a1 h6a2 h6a3 h6a4 h6a5 h6a7 h6a17 h6a18 (S6_set_thrown s6 0)) H := Eq.mp (congrArg (fun w => va_P (dC, dI) vwCl w H) (cs6_thrown cI cZ h6 h6a1 h6a2 h6a3 h6a4 h6a5 h6a7 h6a17 h6a18 s6 0)) hP
  have hD : va_D A (cf_6 cI cZ h6 h6a1 h6a2 h6a3 h6a4 h6a5 h6a7 h6a17 h6a18 (S6_set_thrown s6 0)) := Eq.mp (congrArg (fun w => va_D A w) (cs6_thrown cI cZ h6 h6a1 h6a2 h6a3 h6a4 h6a5 h6a7 h6a17 h6a18 s6 0)) hD
  refine lv_aload_n hx hb dX6_asked_5 rfl (lv_at hl 0 rfl) ?_
  refine va_get (D := (dC, dI)) (ci := 6) (v := .int (S6_asked (S6_set_thrown s6 0))) (C := RX6) (T := TX6) (N := 25) hx hb hts in6 hown hK hP 0 rfl rfl 19 (by decide) fl149 (fun _ h9 => h9) rfl dX6_asked_6 ?_
  have hf : (some ((S6_asked (S6_set_thrown s6 0)), (S6_set_thrown s6 0)) : Option (Int32 × S6)) = some (r, s6f) := hf
  have he := Option.some.inj hf
  have he0 : (S6_asked (S6_set_thrown s6 0)) = r := congrArg (fun q => q.1) he
  have he1 : (S6_set_thrown s6 0) = s6f := congrArg (fun q => q.2) he
  exact hret _ _ _ _ _ _ he0 (by rw [← he1]) dX6_asked_9 hP hD hS
abbrev rmX6_askedAt : Room := { frames := 0, cells := 0, slots := 0, locals := 0 }
set_option maxHeartbeats 2000000 in
set_option maxRecDepth 100000 in
theorem ktX6_askedAt (l : Launch) (dC : Nat → ClassId) (dI : Nat → Nat → Nat) (cI cZ : ClassId) (h6 h6a1 h6a2 h6a3 h6a4 h6a5 h6a7 h6a17 h6a18 : Nat) (sz : Nat) (s6 : S6) (r : Int32) (s6f : S6) (hf : fX6_askedAt s6 = some (r, s6f)) : Met l yX6_askedAt wsX6_askedAt rmX6_askedAt (va_Pc [.ref h6] (pre_w (dC, dI) (cf_6 cI cZ h6 h6a1 h6a2 h6a3 h6a4 h6a5 h6a7 h6a17 h6a18 s6) [(cI, .int), (cZ, .boolean)] sz)) (va_Qi (fun (r' : Int32) (_ : Unit) => r' = r) (post_w (dC, dI) (cf_6 cI cZ h6 h6a1 h6a2 h6a3 h6a4 h6a5 h6a7 h6a17 h6a18 s6f) [(cI, .int), (cZ, .boolean)] (va_A (cf_6 cI cZ h6 h6a1 h6a2 h6a3 h6a4 h6a5 h6a7 h6a17 h6a18 s6) sz)) (va_A (cf_6 cI cZ h6 h6a1 h6a2 h6a3 h6a4 h6a5 h6a7 h6a17 h6a18 s6) sz)) 0 0 (va_A (cf_6 cI cZ h6 h6a1 h6a2 h6a3 h6a4 h6a5 h6a7 h6a17 h6a18 s6) sz) := by
  refine gm_i (cc := cX6_askedAt) (maxL := 1) (by decide) rfl (Nat.le_of_ble_eq_true rfl) ?_
  intro p e s m below meth c A QQ ls hx hb hml hown hts hK hN hA hP hD hS hl hret
  have hown : s.vm.findClass RX6 = some m.cls := hown
  have hl : lv_has ls 1 [(0, .ref h6)] := hl
  have in6 : ∀ w ∈ u_ws RX6 TX6 25, w ∈ wsX6_askedAt := by decide +kernel
  have fl54 := hts (.fieldLink RX6 54 "ParserParlourModel" "thrown" "I") (by decide +kernel)
  have fl51 := hts (.fieldLink RX6 51 "ParserParlourModel" "askedAt" "I") (by decide +kernel)
  unfold fX6_askedAt at hf
  refine lv_aload_n hx hb dX6_askedAt_0 rfl (lv_at hl 0 rfl) ?_
  refine lv_iconst (v := 0) hx hb dX6_askedAt_1 (by decide) ?_
  refine va_put (D := (dC, dI)) (ci := 6) (v := .int 0) (ty := .int) (C := RX6) (T := TX6) (N := 25) hx hb hts in6 tyX6 tyX6_ok nmX6 hown hK hP hD hS 0 rfl rfl 24 (by decide) fl54 (fun _ h9 => h9) rfl (by decide +kernel) rfl rfl (Nat.le_of_ble_eq_true rfl) dX6_askedAt_2 (fun H locs hP hD hS => ?_)
  have hP : va_P (dC, dI) vwCl (cf_6 cI cZ h6 h6a1 h6a2 h6a3 h6a4 h6a5 h6a7 h6a17 h6a18 (S6_set_thrown s6 0)) H := Eq.mp (congrArg (fun w => va_P (dC, dI) vwCl w H) (cs6_thrown cI cZ h6 h6a1 h6a2 h6a3 h6a4 h6a5 h6a7 h6a17 h6a18 s6 0)) hP
  have hD : va_D A (cf_6 cI cZ h6 h6a1 h6a2 h6a3 h6a4 h6a5 h6a7 h6a17 h6a18 (S6_set_thrown s6 0)) := Eq.mp (congrArg (fun w => va_D A w) (cs6_thrown cI cZ h6 h6a1 h6a2 h6a3 h6a4 h6a5 h6a7 h6a17 h6a18 s6 0)) hD
  refine lv_aload_n hx hb dX6_askedAt_5 rfl (lv_at hl 0 rfl) ?_
  refine va_get (D := (dC, dI)) (ci := 6) (v := .int (S6_askedAt (S6_set_thrown s6 0))) (C := RX6) (T := TX6) (N := 25) hx hb hts in6 hown hK hP 0 rfl rfl 20 (by decide) fl51 (fun _ h9 => h9) rfl dX6_askedAt_6 ?_
  have hf : (some ((S6_askedAt (S6_set_thrown s6 0)), (S6_set_thrown s6 0)) : Option (Int32 × S6)) = some (r, s6f) := hf
  have he := Option.some.inj hf
  have he0 : (S6_askedAt (S6_set_thrown s6 0)) = r := congrArg (fun q => q.1) he
  have he1 : (S6_set_thrown s6 0) = s6f := congrArg (fun q => q.2) he
  exact hret _ _ _ _ _ _ he0 (by rw [← he1]) dX6_askedAt_9 hP hD hS
abbrev rmX6_questions : Room := { frames := 0, cells := 0, slots := 0, locals := 0 }
set_option maxHeartbeats 2000000 in
set_option maxRecDepth 100000 in
theorem ktX6_questions (l : Launch) (dC : Nat → ClassId) (dI : Nat → Nat → Nat) (cI cZ : ClassId) (h6 h6a1 h6a2 h6a3 h6a4 h6a5 h6a7 h6a17 h6a18 : Nat) (sz : Nat) (s6 : S6) (r : Int32) (s6f : S6) (hf : fX6_questions s6 = some (r, s6f)) : Met l yX6_questions wsX6_questions rmX6_questions (va_Pc [.ref h6] (pre_w (dC, dI) (cf_6 cI cZ h6 h6a1 h6a2 h6a3 h6a4 h6a5 h6a7 h6a17 h6a18 s6) [(cI, .int), (cZ, .boolean)] sz)) (va_Qi (fun (r' : Int32) (_ : Unit) => r' = r) (post_w (dC, dI) (cf_6 cI cZ h6 h6a1 h6a2 h6a3 h6a4 h6a5 h6a7 h6a17 h6a18 s6f) [(cI, .int), (cZ, .boolean)] (va_A (cf_6 cI cZ h6 h6a1 h6a2 h6a3 h6a4 h6a5 h6a7 h6a17 h6a18 s6) sz)) (va_A (cf_6 cI cZ h6 h6a1 h6a2 h6a3 h6a4 h6a5 h6a7 h6a17 h6a18 s6) sz)) 0 0 (va_A (cf_6 cI cZ h6 h6a1 h6a2 h6a3 h6a4 h6a5 h6a7 h6a17 h6a18 s6) sz) := by
  refine gm_i (cc := cX6_questions) (maxL := 1) (by decide) rfl (Nat.le_of_ble_eq_true rfl) ?_
  intro p e s m below meth c A QQ ls hx hb hml hown hts hK hN hA hP hD hS hl hret
  have hown : s.vm.findClass RX6 = some m.cls := hown
  have hl : lv_has ls 1 [(0, .ref h6)] := hl
  have in6 : ∀ w ∈ u_ws RX6 TX6 25, w ∈ wsX6_questions := by decide +kernel
  have fl54 := hts (.fieldLink RX6 54 "ParserParlourModel" "thrown" "I") (by decide +kernel)
  have fl170 := hts (.fieldLink RX6 170 "ParserParlourModel" "questions" "I") (by decide +kernel)
  unfold fX6_questions at hf
  refine lv_aload_n hx hb dX6_questions_0 rfl (lv_at hl 0 rfl) ?_
  refine lv_iconst (v := 0) hx hb dX6_questions_1 (by decide) ?_
  refine va_put (D := (dC, dI)) (ci := 6) (v := .int 0) (ty := .int) (C := RX6) (T := TX6) (N := 25) hx hb hts in6 tyX6 tyX6_ok nmX6 hown hK hP hD hS 0 rfl rfl 24 (by decide) fl54 (fun _ h9 => h9) rfl (by decide +kernel) rfl rfl (Nat.le_of_ble_eq_true rfl) dX6_questions_2 (fun H locs hP hD hS => ?_)
  have hP : va_P (dC, dI) vwCl (cf_6 cI cZ h6 h6a1 h6a2 h6a3 h6a4 h6a5 h6a7 h6a17 h6a18 (S6_set_thrown s6 0)) H := Eq.mp (congrArg (fun w => va_P (dC, dI) vwCl w H) (cs6_thrown cI cZ h6 h6a1 h6a2 h6a3 h6a4 h6a5 h6a7 h6a17 h6a18 s6 0)) hP
  have hD : va_D A (cf_6 cI cZ h6 h6a1 h6a2 h6a3 h6a4 h6a5 h6a7 h6a17 h6a18 (S6_set_thrown s6 0)) := Eq.mp (congrArg (fun w => va_D A w) (cs6_thrown cI cZ h6 h6a1 h6a2 h6a3 h6a4 h6a5 h6a7 h6a17 h6a18 s6 0)) hD
  refine lv_aload_n hx hb dX6_questions_5 rfl (lv_at hl 0 rfl) ?_
  refine va_get (D := (dC, dI)) (ci := 6) (v := .int (S6_questions (S6_set_thrown s6 0))) (C := RX6) (T := TX6) (N := 25) hx hb hts in6 hown hK hP 0 rfl rfl 15 (by decide) fl170 (fun _ h9 => h9) rfl dX6_questions_6 ?_
  have hf : (some ((S6_questions (S6_set_thrown s6 0)), (S6_set_thrown s6 0)) : Option (Int32 × S6)) = some (r, s6f) := hf
  have he := Option.some.inj hf
  have he0 : (S6_questions (S6_set_thrown s6 0)) = r := congrArg (fun q => q.1) he
  have he1 : (S6_set_thrown s6 0) = s6f := congrArg (fun q => q.2) he
  exact hret _ _ _ _ _ _ he0 (by rw [← he1]) dX6_questions_9 hP hD hS
