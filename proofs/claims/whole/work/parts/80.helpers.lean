abbrev pre_h (D : va_G) (ws : va_W) (tys : List (ClassId × FieldType)) (sz : Nat) (U : State) : Prop := pre_x D ws tys sz U ∧ va_Nc xISE xIAE U
abbrev rmL_thing : Room := { frames := 7, cells := 1, slots := 6, locals := 105 }
set_option maxHeartbeats 2000000 in
set_option maxRecDepth 100000 in
theorem ktL_thing (l : Launch) (hst : l.stackTraces = false) (dC : Nat → ClassId) (dI : Nat → Nat → Nat) (cI cJ : ClassId) (h4 h4a0 h4a1 h4a2 h5 h3 h2 h1 h0 ho : Nat) (sz : Nat) (s4 : S4) (s5 : S5) (g : Nat → Int64) (a1 : Int32) (a2 : Int32) (a3 : Int32) (k r : Int32) (s4f s4r : S4) (gr : Nat → Int64) (hf : fX5_thing s4 s5 a1 a2 a3 = some (k, r, s4f)) (eq0 : k = 0 → s4r = s4f ∧ gr = vp_updL g 0 r.toInt64) (eq1 : k ≠ 0 → s4r = s4 ∧ gr = g) : Met l yL_thing wsL_thing rmL_thing (va_Pc [.ref h5, .int a1, .int a2, .int a3, .ref ho] (pre_h (dC, dI) ((cf_45 cI h4 h4a0 h4a1 h4a2 h5 h3 h2 h1 h0 s4 s5) ++ [(ho, .inl (cJ, 1, .inr (.inl g)))]) [(cI, .int), (cJ, .long)] sz)) (va_Qi (fun (r' : Int32) (_ : Unit) => r' = k) (post_w (dC, dI) ((cf_45 cI h4 h4a0 h4a1 h4a2 h5 h3 h2 h1 h0 s4r s5) ++ [(ho, .inl (cJ, 1, .inr (.inl gr)))]) [(cI, .int), (cJ, .long)] (va_A ((cf_45 cI h4 h4a0 h4a1 h4a2 h5 h3 h2 h1 h0 s4 s5) ++ [(ho, .inl (cJ, 1, .inr (.inl g)))]) sz)) (va_A ((cf_45 cI h4 h4a0 h4a1 h4a2 h5 h3 h2 h1 h0 s4 s5) ++ [(ho, .inl (cJ, 1, .inr (.inl g)))]) sz)) 1 6 (va_A ((cf_45 cI h4 h4a0 h4a1 h4a2 h5 h3 h2 h1 h0 s4 s5) ++ [(ho, .inl (cJ, 1, .inr (.inl g)))]) sz) := by
  refine va_MetW (cc := cL_thing) (maxL := 6) (ret := some .int) (hh := [(0, 12, 15, 13), (0, 12, 19, 15)]) (by decide) rfl ?_
  intro p e s m args below meth c s₁ B hml hv
  obtain ⟨rfl, ⟨⟨hsz, hP, hK, hD0, hN⟩, hSW, hXW, hZ⟩, hNc⟩ := hv
  have hx := B.exec
  have hb := B.bytes
  have hr := B.returns
  have hts := atoms_spec (ws := wsL_thing) B.pre
  have hown : s.vm.findClass RL = some m.cls := findClass_of_methodNamed B.named
  have hlocks := B.notSynchronized
  have htab : c.exceptionTable.toList = tableOf [(0, 12, 15, 13), (0, 12, 19, 15)] := vx_table (x := yL_law) B (hts _ List.mem_cons_self)
  subst hsz
  have hD := hD0.self (sz := s.heap.size)
  generalize hAe : va_A ((cf_45 cI h4 h4a0 h4a1 h4a2 h5 h3 h2 h1 h0 s4 s5) ++ [(ho, .inl (cJ, 1, .inr (.inl g)))]) s.heap.size = A at hD hZ ⊢
  have hA : ∀ q : Nat, s.heap.size ≤ q → A q := fun q h => by rw [← hAe]; exact Or.inr h
  have hS : va_S A s.heap s.heap [] := va_S.rf
  have hl := lv_entry [.ref h5, .int a1, .int a2, .int a3, .ref ho] (n := 6) (Nat.le_of_ble_eq_true rfl)
  rw [lg_entry_eq]
  generalize (lg_sl [.ref h5, .int a1, .int a2, .int a3, .ref ho] ++ List.replicate (6 - (lg_sl [.ref h5, .int a1, .int a2, .int a3, .ref ho]).length) Slot.unset).toArray = ls at hl ⊢
  have hl : lv_has ls 6 [(0, .ref h5), (1, .int a1), (2, .int a2), (3, .int a3), (4, .ref ho)] := hl
  refine lv_aload hx hb dL_thing_0 (lv_at hl 4 rfl) ?_
  refine lv_iconst (v := 0) hx hb dL_thing_2 (by decide) ?_
  refine lv_aload_n hx hb dL_thing_3 rfl (lv_at hl 0 rfl) ?_
  refine lv_iload_n hx hb dL_thing_4 rfl (lv_at hl 1 rfl) ?_
  refine lv_iload_n hx hb dL_thing_5 rfl (lv_at hl 2 rfl) ?_
  refine lv_iload_n hx hb dL_thing_6 rfl (lv_at hl 3 rfl) ?_
  have hPc := hP.sub (ws' := (cf_45 cI h4 h4a0 h4a1 h4a2 h5 h3 h2 h1 h0 s4 s5)) [0, 1, 2, 3, 4] rfl
  have hDc := hD.sub (ws' := (cf_45 cI h4 h4a0 h4a1 h4a2 h5 h3 h2 h1 h0 s4 s5)) [0, 1, 2, 3, 4] (by decide) rfl
  have hKc := hK.sub (tys' := [(cI, .int)]) [0] rfl
  have hFc := va_free (wc := (cf_45 cI h4 h4a0 h4a1 h4a2 h5 h3 h2 h1 h0 s4 s5)) hD hS hA [0, 1, 2, 3, 4] rfl
  refine vx_calli (vx_runV (As := [.int a1, .int a2, .int a3]) (rest := [.int 0, .ref ho]) ⟨hx, hb, hml, hown, hts⟩ (ktX5_thing l hst dC dI cI h4 h4a0 h4a1 h4a2 h5 h3 h2 h1 h0 _ s4 s5 a1 a2 a3 k r s4f hf) (cwV 3 hts gL_thing_X5_thing rfl rfl rfl (by decide +kernel) ⟨Nat.le_of_ble_eq_true rfl, Nat.le_of_ble_eq_true rfl⟩) (gx_V (ws := ((cf_45 cI h4 h4a0 h4a1 h4a2 h5 h3 h2 h1 h0 s4 s5) ++ [(ho, .inl (cJ, 1, .inr (.inl g)))])) (locs := []) (H0 := s.heap) (ci := 5) (q0 := 4) (C := RX5) (T := TX5) (N := 10) hPc hKc hDc hN hSW hXW hZ hFc rfl rfl) rfl rfl hl.1 rfl (lv_room (Nat.le_of_ble_eq_true rfl)) dL_thing_7 ⟨Nat.le_of_ble_eq_true rfl, Nat.le_of_ble_eq_true rfl⟩) hS (fun q _ h => hFc q h) hFc (fun q _ h => hFc q h) (fun E ce q9 u t H1 locs1 ht hvm hpx hB hz hk9 hS => ?_) (fun r9 u t H1 locs1 ht hvm hw hB hz hk9 hS => ?_)
  · intro hce hcv hcl
    obtain ⟨hxe, hP1, -, hD1⟩ := hB
    rw [ht] at hP1
    obtain ⟨hP2, hD2⟩ := va_join (wr := [(ho, .inl (cJ, 1, .inr (.inl g)))]) (w1 := (cf_45 cI h4 h4a0 h4a1 h4a2 h5 h3 h2 h1 h0 s4 s5)) hP hD [0, 1, 2, 3, 4] [5] rfl rfl (by decide) (by decide) hk9 hFc hP1 hD1
    have hP : va_P (dC, dI) vwCl ((cf_45 cI h4 h4a0 h4a1 h4a2 h5 h3 h2 h1 h0 s4 s5) ++ [(ho, .inl (cJ, 1, .inr (.inl g)))]) H1 := hP2.sub [1, 2, 3, 4, 5, 0] rfl
    have hD : va_D A ((cf_45 cI h4 h4a0 h4a1 h4a2 h5 h3 h2 h1 h0 s4 s5) ++ [(ho, .inl (cJ, 1, .inr (.inl g)))]) := hD2.sub [1, 2, 3, 4, 5, 0] (by decide) rfl
    rcases hxe with ⟨rfl, rfl⟩ | ⟨rfl, rfl⟩
    · obtain ⟨rfl, rfl⟩ := eq1 (by decide)
      refine vx_catch hown [] ⟨0, 12, 15, 13⟩ [⟨0, 12, 19, 15⟩] (by rw [htab]; rfl) (fun z hz => by cases hz) (by decide) (by decide) (hts (.classLink RL 13 "java/lang/IllegalArgumentException") (by decide +kernel)) (va_Nw.use (by rfl) (hXW _ (List.mem_of_getElem? (i := 0) rfl))) hce hcv hcl ?_
      refine lv_astore (lv' := [(5, .ref q9), (0, .ref h5), (1, .int a1), (2, .int a2), (3, .int a3), (4, .ref ho)]) hx hb dL_thing_15 hl (by decide) rfl (fun ls hl => ?_)
      refine lv_iconst (v := 1) hx hb dL_thing_17 (by decide) ?_
      exact W.iret (v := 1) hx hb hr (fun t ht hW => ⟨⟨1, (), rfl, rfl, by rw [ht]; exact hP, va_K.moved hW.alike hK, hD⟩, hS.F ht⟩) hS.2.2 dL_thing_18
    · obtain ⟨rfl, rfl⟩ := eq1 (by decide)
      refine vx_catch hown [⟨0, 12, 15, 13⟩] ⟨0, 12, 19, 15⟩ [] (by rw [htab]; rfl) (fun z hz => by rcases List.mem_cons.mp hz with rfl | hz; exact Or.inr ⟨by decide, xIAE, hts (.classLink RL 13 xIAE) (by decide +kernel), hNc⟩; cases hz) (by decide) (by decide) (hts (.classLink RL 15 "java/lang/IllegalStateException") (by decide +kernel)) (va_Nw.use (by rfl) (hXW _ (List.mem_of_getElem? (i := 1) rfl))) hce hcv hcl ?_
      refine lv_astore (lv' := [(5, .ref q9), (0, .ref h5), (1, .int a1), (2, .int a2), (3, .int a3), (4, .ref ho)]) hx hb dL_thing_19 hl (by decide) rfl (fun ls hl => ?_)
      refine lv_iconst (v := 2) hx hb dL_thing_21 (by decide) ?_
      exact W.iret (v := 2) hx hb hr (fun t ht hW => ⟨⟨2, (), rfl, rfl, by rw [ht]; exact hP, va_K.moved hW.alike hK, hD⟩, hS.F ht⟩) hS.2.2 dL_thing_22
  · obtain ⟨hk0, rfl⟩ := hw
    obtain ⟨hP1, -, hD1⟩ := hB
    rw [ht] at hP1
    obtain ⟨hP2, hD2⟩ := va_join (wr := [(ho, .inl (cJ, 1, .inr (.inl g)))]) (w1 := (cf_45 cI h4 h4a0 h4a1 h4a2 h5 h3 h2 h1 h0 s4f s5)) hP hD [0, 1, 2, 3, 4] [5] rfl rfl (by decide) (by decide) hk9 hFc hP1 hD1
    have hP : va_P (dC, dI) vwCl ((cf_45 cI h4 h4a0 h4a1 h4a2 h5 h3 h2 h1 h0 s4f s5) ++ [(ho, .inl (cJ, 1, .inr (.inl g)))]) H1 := hP2.sub [1, 2, 3, 4, 5, 0] rfl
    have hD : va_D A ((cf_45 cI h4 h4a0 h4a1 h4a2 h5 h3 h2 h1 h0 s4f s5) ++ [(ho, .inl (cJ, 1, .inr (.inl g)))]) := hD2.sub [1, 2, 3, 4, 5, 0] (by decide) rfl
    obtain ⟨rfl, rfl⟩ := eq0 hk0
    refine lv_i2l (v := r9.toInt64) hx hb dL_thing_10 rfl ?_
    refine va_last hx hb hK hP hD hS 5 1 rfl rfl (show vp_in 0 1 by unfold vp_in; decide) dL_thing_11 (fun H locs hP hD hS => ?_)
    have hP : va_P (dC, dI) vwCl ((cf_45 cI h4 h4a0 h4a1 h4a2 h5 h3 h2 h1 h0 s4r s5) ++ [(ho, .inl (cJ, 1, .inr (.inl (vp_updL g 0 r9.toInt64))))]) H := hP
    have hD : va_D A ((cf_45 cI h4 h4a0 h4a1 h4a2 h5 h3 h2 h1 h0 s4r s5) ++ [(ho, .inl (cJ, 1, .inr (.inl (vp_updL g 0 r9.toInt64))))]) := hD
    refine lv_goto (tgt := 23) hx hb dL_thing_12 (by decide) ?_
    refine lv_iconst (v := 0) hx hb dL_thing_23 (by decide) ?_
    exact W.iret (v := 0) hx hb hr (fun t ht hW => ⟨⟨0, (), rfl, hk0.symm, by rw [ht]; exact hP, va_K.moved hW.alike hK, hD⟩, hS.F ht⟩) hS.2.2 dL_thing_24
abbrev rmL_placeOf : Room := { frames := 7, cells := 1, slots := 6, locals := 103 }
set_option maxHeartbeats 2000000 in
set_option maxRecDepth 100000 in
theorem ktL_placeOf (l : Launch) (hst : l.stackTraces = false) (dC : Nat → ClassId) (dI : Nat → Nat → Nat) (cI cJ : ClassId) (h4 h4a0 h4a1 h4a2 h5 h3 h2 h1 h0 ho : Nat) (sz : Nat) (s4 : S4) (s5 : S5) (g : Nat → Int64) (a1 : Int32) (k r : Int32) (gr : Nat → Int64) (hf : fX5_placeOf s4 s5 a1 = some (k, r)) (eq0 : k = 0 → gr = vp_updL g 0 r.toInt64) (eq1 : k ≠ 0 → gr = g) : Met l yL_placeOf wsL_placeOf rmL_placeOf (va_Pc [.ref h5, .int a1, .ref ho] (pre_h (dC, dI) ((cf_45 cI h4 h4a0 h4a1 h4a2 h5 h3 h2 h1 h0 s4 s5) ++ [(ho, .inl (cJ, 1, .inr (.inl g)))]) [(cI, .int), (cJ, .long)] sz)) (va_Qi (fun (r' : Int32) (_ : Unit) => r' = k) (post_w (dC, dI) ((cf_45 cI h4 h4a0 h4a1 h4a2 h5 h3 h2 h1 h0 s4 s5) ++ [(ho, .inl (cJ, 1, .inr (.inl gr)))]) [(cI, .int), (cJ, .long)] (va_A ((cf_45 cI h4 h4a0 h4a1 h4a2 h5 h3 h2 h1 h0 s4 s5) ++ [(ho, .inl (cJ, 1, .inr (.inl g)))]) sz)) (va_A ((cf_45 cI h4 h4a0 h4a1 h4a2 h5 h3 h2 h1 h0 s4 s5) ++ [(ho, .inl (cJ, 1, .inr (.inl g)))]) sz)) 1 6 (va_A ((cf_45 cI h4 h4a0 h4a1 h4a2 h5 h3 h2 h1 h0 s4 s5) ++ [(ho, .inl (cJ, 1, .inr (.inl g)))]) sz) := by
  refine va_MetW (cc := cL_placeOf) (maxL := 4) (ret := some .int) (hh := [(0, 9, 12, 21)]) (by decide) rfl ?_
  intro p e s m args below meth c s₁ B hml hv
  obtain ⟨rfl, ⟨⟨hsz, hP, hK, hD0, hN⟩, hSW, hXW, hZ⟩, hNc⟩ := hv
  have hx := B.exec
  have hb := B.bytes
  have hr := B.returns
  have hts := atoms_spec (ws := wsL_placeOf) B.pre
  have hown : s.vm.findClass RL = some m.cls := findClass_of_methodNamed B.named
  have hlocks := B.notSynchronized
  have htab : c.exceptionTable.toList = tableOf [(0, 9, 12, 21)] := vx_table (x := yL_law) B (hts _ List.mem_cons_self)
  subst hsz
  have hD := hD0.self (sz := s.heap.size)
  generalize hAe : va_A ((cf_45 cI h4 h4a0 h4a1 h4a2 h5 h3 h2 h1 h0 s4 s5) ++ [(ho, .inl (cJ, 1, .inr (.inl g)))]) s.heap.size = A at hD hZ ⊢
  have hA : ∀ q : Nat, s.heap.size ≤ q → A q := fun q h => by rw [← hAe]; exact Or.inr h
  have hS : va_S A s.heap s.heap [] := va_S.rf
  have hl := lv_entry [.ref h5, .int a1, .ref ho] (n := 4) (Nat.le_of_ble_eq_true rfl)
  rw [lg_entry_eq]
  generalize (lg_sl [.ref h5, .int a1, .ref ho] ++ List.replicate (4 - (lg_sl [.ref h5, .int a1, .ref ho]).length) Slot.unset).toArray = ls at hl ⊢
  have hl : lv_has ls 4 [(0, .ref h5), (1, .int a1), (2, .ref ho)] := hl
  refine lv_aload_n hx hb dL_placeOf_0 rfl (lv_at hl 2 rfl) ?_
  refine lv_iconst (v := 0) hx hb dL_placeOf_1 (by decide) ?_
  refine lv_aload_n hx hb dL_placeOf_2 rfl (lv_at hl 0 rfl) ?_
  refine lv_iload_n hx hb dL_placeOf_3 rfl (lv_at hl 1 rfl) ?_
  have hPc := hP.sub (ws' := (cf_45 cI h4 h4a0 h4a1 h4a2 h5 h3 h2 h1 h0 s4 s5)) [0, 1, 2, 3, 4] rfl
  have hDc := hD.sub (ws' := (cf_45 cI h4 h4a0 h4a1 h4a2 h5 h3 h2 h1 h0 s4 s5)) [0, 1, 2, 3, 4] (by decide) rfl
  have hKc := hK.sub (tys' := [(cI, .int)]) [0] rfl
  have hFc := va_free (wc := (cf_45 cI h4 h4a0 h4a1 h4a2 h5 h3 h2 h1 h0 s4 s5)) hD hS hA [0, 1, 2, 3, 4] rfl
  refine vx_calli (vx_runV (As := [.int a1]) (rest := [.int 0, .ref ho]) ⟨hx, hb, hml, hown, hts⟩ (ktX5_placeOf l hst dC dI cI h4 h4a0 h4a1 h4a2 h5 h3 h2 h1 h0 _ s4 s5 a1 k r hf) (cwV 1 hts gL_placeOf_X5_placeOf rfl rfl rfl (by decide +kernel) ⟨Nat.le_of_ble_eq_true rfl, Nat.le_of_ble_eq_true rfl⟩) (gx_V (ws := ((cf_45 cI h4 h4a0 h4a1 h4a2 h5 h3 h2 h1 h0 s4 s5) ++ [(ho, .inl (cJ, 1, .inr (.inl g)))])) (locs := []) (H0 := s.heap) (ci := 5) (q0 := 4) (C := RX5) (T := TX5) (N := 10) hPc hKc hDc hN hSW hXW hZ hFc rfl rfl) rfl rfl hl.1 rfl (lv_room (Nat.le_of_ble_eq_true rfl)) dL_placeOf_4 ⟨Nat.le_of_ble_eq_true rfl, Nat.le_of_ble_eq_true rfl⟩) hS (fun q _ h => hFc q h) hFc (fun q _ h => hFc q h) (fun E ce q9 u t H1 locs1 ht hvm hpx hB hz hk9 hS => ?_) (fun r9 u t H1 locs1 ht hvm hw hB hz hk9 hS => ?_)
  · intro hce hcv hcl
    obtain ⟨hxe, hP1, -, hD1⟩ := hB
    rw [ht] at hP1
    obtain ⟨hP2, hD2⟩ := va_join (wr := [(ho, .inl (cJ, 1, .inr (.inl g)))]) (w1 := (cf_45 cI h4 h4a0 h4a1 h4a2 h5 h3 h2 h1 h0 s4 s5)) hP hD [0, 1, 2, 3, 4] [5] rfl rfl (by decide) (by decide) hk9 hFc hP1 hD1
    have hP : va_P (dC, dI) vwCl ((cf_45 cI h4 h4a0 h4a1 h4a2 h5 h3 h2 h1 h0 s4 s5) ++ [(ho, .inl (cJ, 1, .inr (.inl g)))]) H1 := hP2.sub [1, 2, 3, 4, 5, 0] rfl
    have hD : va_D A ((cf_45 cI h4 h4a0 h4a1 h4a2 h5 h3 h2 h1 h0 s4 s5) ++ [(ho, .inl (cJ, 1, .inr (.inl g)))]) := hD2.sub [1, 2, 3, 4, 5, 0] (by decide) rfl
    obtain ⟨rfl, rfl⟩ := hxe
    obtain rfl := eq1 (by decide)
    refine vx_catch hown [] ⟨0, 9, 12, 21⟩ [] (by rw [htab]; rfl) (fun z hz => by cases hz) (by decide) (by decide) (hts (.classLink RL 21 "java/lang/IndexOutOfBoundsException") (by decide +kernel)) (va_Nw.use (by rfl) (hXW _ (List.mem_of_getElem? (i := 2) rfl))) hce hcv hcl ?_
    refine lv_astore_n (lv' := [(3, .ref q9), (0, .ref h5), (1, .int a1), (2, .ref ho)]) hx hb dL_placeOf_12 rfl hl (by decide) rfl (fun ls hl => ?_)
    refine lv_iconst (v := 1) hx hb dL_placeOf_13 (by decide) ?_
    exact W.iret (v := 1) hx hb hr (fun t ht hW => ⟨⟨1, (), rfl, rfl, by rw [ht]; exact hP, va_K.moved hW.alike hK, hD⟩, hS.F ht⟩) hS.2.2 dL_placeOf_14
  · obtain ⟨hk0, rfl⟩ := hw
    obtain ⟨hP1, -, hD1⟩ := hB
    rw [ht] at hP1
    obtain ⟨hP2, hD2⟩ := va_join (wr := [(ho, .inl (cJ, 1, .inr (.inl g)))]) (w1 := (cf_45 cI h4 h4a0 h4a1 h4a2 h5 h3 h2 h1 h0 s4 s5)) hP hD [0, 1, 2, 3, 4] [5] rfl rfl (by decide) (by decide) hk9 hFc hP1 hD1
    have hP : va_P (dC, dI) vwCl ((cf_45 cI h4 h4a0 h4a1 h4a2 h5 h3 h2 h1 h0 s4 s5) ++ [(ho, .inl (cJ, 1, .inr (.inl g)))]) H1 := hP2.sub [1, 2, 3, 4, 5, 0] rfl
    have hD : va_D A ((cf_45 cI h4 h4a0 h4a1 h4a2 h5 h3 h2 h1 h0 s4 s5) ++ [(ho, .inl (cJ, 1, .inr (.inl g)))]) := hD2.sub [1, 2, 3, 4, 5, 0] (by decide) rfl
    obtain rfl := eq0 hk0
    refine lv_i2l (v := r9.toInt64) hx hb dL_placeOf_7 rfl ?_
    refine va_last hx hb hK hP hD hS 5 1 rfl rfl (show vp_in 0 1 by unfold vp_in; decide) dL_placeOf_8 (fun H locs hP hD hS => ?_)
    have hP : va_P (dC, dI) vwCl ((cf_45 cI h4 h4a0 h4a1 h4a2 h5 h3 h2 h1 h0 s4 s5) ++ [(ho, .inl (cJ, 1, .inr (.inl (vp_updL g 0 r9.toInt64))))]) H := hP
    have hD : va_D A ((cf_45 cI h4 h4a0 h4a1 h4a2 h5 h3 h2 h1 h0 s4 s5) ++ [(ho, .inl (cJ, 1, .inr (.inl (vp_updL g 0 r9.toInt64))))]) := hD
    refine lv_goto (tgt := 15) hx hb dL_placeOf_9 (by decide) ?_
    refine lv_iconst (v := 0) hx hb dL_placeOf_15 (by decide) ?_
    exact W.iret (v := 0) hx hb hr (fun t ht hW => ⟨⟨0, (), rfl, hk0.symm, by rw [ht]; exact hP, va_K.moved hW.alike hK, hD⟩, hS.F ht⟩) hS.2.2 dL_placeOf_16
abbrev rmL_isOpen : Room := { frames := 7, cells := 1, slots := 6, locals := 103 }
set_option maxHeartbeats 2000000 in
set_option maxRecDepth 100000 in
theorem ktL_isOpen (l : Launch) (hst : l.stackTraces = false) (dC : Nat → ClassId) (dI : Nat → Nat → Nat) (cI cJ : ClassId) (h4 h4a0 h4a1 h4a2 h5 h3 h2 h1 h0 ho : Nat) (sz : Nat) (s4 : S4) (s5 : S5) (g : Nat → Int64) (a1 : Int32) (k r : Int32) (gr : Nat → Int64) (hf : fX5_isOpen s4 s5 a1 = some (k, r)) (eq0 : k = 0 → gr = vp_updL g 0 (if r = 0 then 0 else 1)) (eq1 : k ≠ 0 → gr = g) : Met l yL_isOpen wsL_isOpen rmL_isOpen (va_Pc [.ref h5, .int a1, .ref ho] (pre_h (dC, dI) ((cf_45 cI h4 h4a0 h4a1 h4a2 h5 h3 h2 h1 h0 s4 s5) ++ [(ho, .inl (cJ, 1, .inr (.inl g)))]) [(cI, .int), (cJ, .long)] sz)) (va_Qi (fun (r' : Int32) (_ : Unit) => r' = k) (post_w (dC, dI) ((cf_45 cI h4 h4a0 h4a1 h4a2 h5 h3 h2 h1 h0 s4 s5) ++ [(ho, .inl (cJ, 1, .inr (.inl gr)))]) [(cI, .int), (cJ, .long)] (va_A ((cf_45 cI h4 h4a0 h4a1 h4a2 h5 h3 h2 h1 h0 s4 s5) ++ [(ho, .inl (cJ, 1, .inr (.inl g)))]) sz)) (va_A ((cf_45 cI h4 h4a0 h4a1 h4a2 h5 h3 h2 h1 h0 s4 s5) ++ [(ho, .inl (cJ, 1, .inr (.inl g)))]) sz)) 1 6 (va_A ((cf_45 cI h4 h4a0 h4a1 h4a2 h5 h3 h2 h1 h0 s4 s5) ++ [(ho, .inl (cJ, 1, .inr (.inl g)))]) sz) := by
  refine va_MetW (cc := cL_isOpen) (maxL := 4) (ret := some .int) (hh := [(0, 16, 19, 21)]) (by decide) rfl ?_
  intro p e s m args below meth c s₁ B hml hv
  obtain ⟨rfl, ⟨⟨hsz, hP, hK, hD0, hN⟩, hSW, hXW, hZ⟩, hNc⟩ := hv
  have hx := B.exec
  have hb := B.bytes
  have hr := B.returns
  have hts := atoms_spec (ws := wsL_isOpen) B.pre
  have hown : s.vm.findClass RL = some m.cls := findClass_of_methodNamed B.named
  have hlocks := B.notSynchronized
  have htab : c.exceptionTable.toList = tableOf [(0, 16, 19, 21)] := vx_table (x := yL_law) B (hts _ List.mem_cons_self)
  subst hsz
  have hD := hD0.self (sz := s.heap.size)
  generalize hAe : va_A ((cf_45 cI h4 h4a0 h4a1 h4a2 h5 h3 h2 h1 h0 s4 s5) ++ [(ho, .inl (cJ, 1, .inr (.inl g)))]) s.heap.size = A at hD hZ ⊢
  have hA : ∀ q : Nat, s.heap.size ≤ q → A q := fun q h => by rw [← hAe]; exact Or.inr h
  have hS : va_S A s.heap s.heap [] := va_S.rf
  have hl := lv_entry [.ref h5, .int a1, .ref ho] (n := 4) (Nat.le_of_ble_eq_true rfl)
  rw [lg_entry_eq]
  generalize (lg_sl [.ref h5, .int a1, .ref ho] ++ List.replicate (4 - (lg_sl [.ref h5, .int a1, .ref ho]).length) Slot.unset).toArray = ls at hl ⊢
  have hl : lv_has ls 4 [(0, .ref h5), (1, .int a1), (2, .ref ho)] := hl
  refine lv_aload_n hx hb dL_isOpen_0 rfl (lv_at hl 2 rfl) ?_
  refine lv_iconst (v := 0) hx hb dL_isOpen_1 (by decide) ?_
  refine lv_aload_n hx hb dL_isOpen_2 rfl (lv_at hl 0 rfl) ?_
  refine lv_iload_n hx hb dL_isOpen_3 rfl (lv_at hl 1 rfl) ?_
  have hPc := hP.sub (ws' := (cf_45 cI h4 h4a0 h4a1 h4a2 h5 h3 h2 h1 h0 s4 s5)) [0, 1, 2, 3, 4] rfl
  have hDc := hD.sub (ws' := (cf_45 cI h4 h4a0 h4a1 h4a2 h5 h3 h2 h1 h0 s4 s5)) [0, 1, 2, 3, 4] (by decide) rfl
  have hKc := hK.sub (tys' := [(cI, .int)]) [0] rfl
  have hFc := va_free (wc := (cf_45 cI h4 h4a0 h4a1 h4a2 h5 h3 h2 h1 h0 s4 s5)) hD hS hA [0, 1, 2, 3, 4] rfl
  refine vx_calli (vx_runV (As := [.int a1]) (rest := [.int 0, .ref ho]) ⟨hx, hb, hml, hown, hts⟩ (ktX5_isOpen l hst dC dI cI h4 h4a0 h4a1 h4a2 h5 h3 h2 h1 h0 _ s4 s5 a1 k r hf) (cwV 1 hts gL_isOpen_X5_isOpen rfl rfl rfl (by decide +kernel) ⟨Nat.le_of_ble_eq_true rfl, Nat.le_of_ble_eq_true rfl⟩) (gx_V (ws := ((cf_45 cI h4 h4a0 h4a1 h4a2 h5 h3 h2 h1 h0 s4 s5) ++ [(ho, .inl (cJ, 1, .inr (.inl g)))])) (locs := []) (H0 := s.heap) (ci := 5) (q0 := 4) (C := RX5) (T := TX5) (N := 10) hPc hKc hDc hN hSW hXW hZ hFc rfl rfl) rfl rfl hl.1 rfl (lv_room (Nat.le_of_ble_eq_true rfl)) dL_isOpen_4 ⟨Nat.le_of_ble_eq_true rfl, Nat.le_of_ble_eq_true rfl⟩) hS (fun q _ h => hFc q h) hFc (fun q _ h => hFc q h) (fun E ce q9 u t H1 locs1 ht hvm hpx hB hz hk9 hS => ?_) (fun r9 u t H1 locs1 ht hvm hw hB hz hk9 hS => ?_)
  · intro hce hcv hcl
    obtain ⟨hxe, hP1, -, hD1⟩ := hB
    rw [ht] at hP1
    obtain ⟨hP2, hD2⟩ := va_join (wr := [(ho, .inl (cJ, 1, .inr (.inl g)))]) (w1 := (cf_45 cI h4 h4a0 h4a1 h4a2 h5 h3 h2 h1 h0 s4 s5)) hP hD [0, 1, 2, 3, 4] [5] rfl rfl (by decide) (by decide) hk9 hFc hP1 hD1
    have hP : va_P (dC, dI) vwCl ((cf_45 cI h4 h4a0 h4a1 h4a2 h5 h3 h2 h1 h0 s4 s5) ++ [(ho, .inl (cJ, 1, .inr (.inl g)))]) H1 := hP2.sub [1, 2, 3, 4, 5, 0] rfl
    have hD : va_D A ((cf_45 cI h4 h4a0 h4a1 h4a2 h5 h3 h2 h1 h0 s4 s5) ++ [(ho, .inl (cJ, 1, .inr (.inl g)))]) := hD2.sub [1, 2, 3, 4, 5, 0] (by decide) rfl
    obtain ⟨rfl, rfl⟩ := hxe
    obtain rfl := eq1 (by decide)
    refine vx_catch hown [] ⟨0, 16, 19, 21⟩ [] (by rw [htab]; rfl) (fun z hz => by cases hz) (by decide) (by decide) (hts (.classLink RL 21 "java/lang/IndexOutOfBoundsException") (by decide +kernel)) (va_Nw.use (by rfl) (hXW _ (List.mem_of_getElem? (i := 2) rfl))) hce hcv hcl ?_
    refine lv_astore_n (lv' := [(3, .ref q9), (0, .ref h5), (1, .int a1), (2, .ref ho)]) hx hb dL_isOpen_19 rfl hl (by decide) rfl (fun ls hl => ?_)
    refine lv_iconst (v := 1) hx hb dL_isOpen_20 (by decide) ?_
    exact W.iret (v := 1) hx hb hr (fun t ht hW => ⟨⟨1, (), rfl, rfl, by rw [ht]; exact hP, va_K.moved hW.alike hK, hD⟩, hS.F ht⟩) hS.2.2 dL_isOpen_21
  · obtain ⟨hk0, rfl⟩ := hw
    obtain ⟨hP1, -, hD1⟩ := hB
    rw [ht] at hP1
    obtain ⟨hP2, hD2⟩ := va_join (wr := [(ho, .inl (cJ, 1, .inr (.inl g)))]) (w1 := (cf_45 cI h4 h4a0 h4a1 h4a2 h5 h3 h2 h1 h0 s4 s5)) hP hD [0, 1, 2, 3, 4] [5] rfl rfl (by decide) (by decide) hk9 hFc hP1 hD1
    have hP : va_P (dC, dI) vwCl ((cf_45 cI h4 h4a0 h4a1 h4a2 h5 h3 h2 h1 h0 s4 s5) ++ [(ho, .inl (cJ, 1, .inr (.inl g)))]) H1 := hP2.sub [1, 2, 3, 4, 5, 0] rfl
    have hD : va_D A ((cf_45 cI h4 h4a0 h4a1 h4a2 h5 h3 h2 h1 h0 s4 s5) ++ [(ho, .inl (cJ, 1, .inr (.inl g)))]) := hD2.sub [1, 2, 3, 4, 5, 0] (by decide) rfl
    obtain rfl := eq0 hk0
    refine lv_if_eq (tgt := 14) hx hb dL_isOpen_7 (by decide) (fun cz => ?_) (fun cz => ?_)
    · rw [if_pos cz]
      refine lv_lconst (v := 0) hx hb dL_isOpen_14 (by decide) ?_
      refine va_last hx hb hK hP hD hS 5 1 rfl rfl (show vp_in 0 1 by unfold vp_in; decide) dL_isOpen_15 (fun H locs hP hD hS => ?_)
      have hP : va_P (dC, dI) vwCl ((cf_45 cI h4 h4a0 h4a1 h4a2 h5 h3 h2 h1 h0 s4 s5) ++ [(ho, .inl (cJ, 1, .inr (.inl (vp_updL g 0 0))))]) H := hP
      have hD : va_D A ((cf_45 cI h4 h4a0 h4a1 h4a2 h5 h3 h2 h1 h0 s4 s5) ++ [(ho, .inl (cJ, 1, .inr (.inl (vp_updL g 0 0))))]) := hD
      refine lv_goto (tgt := 22) hx hb dL_isOpen_16 (by decide) ?_
      refine lv_iconst (v := 0) hx hb dL_isOpen_22 (by decide) ?_
      exact W.iret (v := 0) hx hb hr (fun t ht hW => ⟨⟨0, (), rfl, hk0.symm, by rw [ht]; exact hP, va_K.moved hW.alike hK, hD⟩, hS.F ht⟩) hS.2.2 dL_isOpen_23
    · rw [if_neg cz]
      refine lv_lconst (v := 1) hx hb dL_isOpen_10 (by decide) ?_
      refine lv_goto (tgt := 15) hx hb dL_isOpen_11 (by decide) ?_
      refine va_last hx hb hK hP hD hS 5 1 rfl rfl (show vp_in 0 1 by unfold vp_in; decide) dL_isOpen_15 (fun H locs hP hD hS => ?_)
      have hP : va_P (dC, dI) vwCl ((cf_45 cI h4 h4a0 h4a1 h4a2 h5 h3 h2 h1 h0 s4 s5) ++ [(ho, .inl (cJ, 1, .inr (.inl (vp_updL g 0 1))))]) H := hP
      have hD : va_D A ((cf_45 cI h4 h4a0 h4a1 h4a2 h5 h3 h2 h1 h0 s4 s5) ++ [(ho, .inl (cJ, 1, .inr (.inl (vp_updL g 0 1))))]) := hD
      refine lv_goto (tgt := 22) hx hb dL_isOpen_16 (by decide) ?_
      refine lv_iconst (v := 0) hx hb dL_isOpen_22 (by decide) ?_
      exact W.iret (v := 0) hx hb hr (fun t ht hW => ⟨⟨0, (), rfl, hk0.symm, by rw [ht]; exact hP, va_K.moved hW.alike hK, hD⟩, hS.F ht⟩) hS.2.2 dL_isOpen_23
abbrev rmL_word : Room := { frames := 7, cells := 1, slots := 6, locals := 103 }
set_option maxHeartbeats 2000000 in
set_option maxRecDepth 100000 in
theorem ktL_word (l : Launch) (hst : l.stackTraces = false) (dC : Nat → ClassId) (dI : Nat → Nat → Nat) (cI cJ : ClassId) (h3 h3a0 h5 h4 h2 h1 h0 ho : Nat) (sz : Nat) (s3 : S3) (s5 : S5) (g : Nat → Int64) (a1 : Int32) (k r : Int32) (s3f s3r : S3) (gr : Nat → Int64) (hf : fX5_word s3 s5 a1 = some (k, r, s3f)) (eq0 : k = 0 → s3r = s3f ∧ gr = vp_updL g 0 r.toInt64) (eq1 : k ≠ 0 → s3r = s3 ∧ gr = g) : Met l yL_word wsL_word rmL_word (va_Pc [.ref h5, .int a1, .ref ho] (pre_h (dC, dI) ((cf_35 cI h3 h3a0 h5 h4 h2 h1 h0 s3 s5) ++ [(ho, .inl (cJ, 1, .inr (.inl g)))]) [(cI, .int), (cJ, .long)] sz)) (va_Qi (fun (r' : Int32) (_ : Unit) => r' = k) (post_w (dC, dI) ((cf_35 cI h3 h3a0 h5 h4 h2 h1 h0 s3r s5) ++ [(ho, .inl (cJ, 1, .inr (.inl gr)))]) [(cI, .int), (cJ, .long)] (va_A ((cf_35 cI h3 h3a0 h5 h4 h2 h1 h0 s3 s5) ++ [(ho, .inl (cJ, 1, .inr (.inl g)))]) sz)) (va_A ((cf_35 cI h3 h3a0 h5 h4 h2 h1 h0 s3 s5) ++ [(ho, .inl (cJ, 1, .inr (.inl g)))]) sz)) 1 6 (va_A ((cf_35 cI h3 h3a0 h5 h4 h2 h1 h0 s3 s5) ++ [(ho, .inl (cJ, 1, .inr (.inl g)))]) sz) := by
  refine va_MetW (cc := cL_word) (maxL := 4) (ret := some .int) (hh := [(0, 9, 12, 13), (0, 9, 15, 15)]) (by decide) rfl ?_
  intro p e s m args below meth c s₁ B hml hv
  obtain ⟨rfl, ⟨⟨hsz, hP, hK, hD0, hN⟩, hSW, hXW, hZ⟩, hNc⟩ := hv
  have hx := B.exec
  have hb := B.bytes
  have hr := B.returns
  have hts := atoms_spec (ws := wsL_word) B.pre
  have hown : s.vm.findClass RL = some m.cls := findClass_of_methodNamed B.named
  have hlocks := B.notSynchronized
  have htab : c.exceptionTable.toList = tableOf [(0, 9, 12, 13), (0, 9, 15, 15)] := vx_table (x := yL_law) B (hts _ List.mem_cons_self)
  subst hsz
  have hD := hD0.self (sz := s.heap.size)
  generalize hAe : va_A ((cf_35 cI h3 h3a0 h5 h4 h2 h1 h0 s3 s5) ++ [(ho, .inl (cJ, 1, .inr (.inl g)))]) s.heap.size = A at hD hZ ⊢
  have hA : ∀ q : Nat, s.heap.size ≤ q → A q := fun q h => by rw [← hAe]; exact Or.inr h
  have hS : va_S A s.heap s.heap [] := va_S.rf
  have hl := lv_entry [.ref h5, .int a1, .ref ho] (n := 4) (Nat.le_of_ble_eq_true rfl)
  rw [lg_entry_eq]
  generalize (lg_sl [.ref h5, .int a1, .ref ho] ++ List.replicate (4 - (lg_sl [.ref h5, .int a1, .ref ho]).length) Slot.unset).toArray = ls at hl ⊢
  have hl : lv_has ls 4 [(0, .ref h5), (1, .int a1), (2, .ref ho)] := hl
  refine lv_aload_n hx hb dL_word_0 rfl (lv_at hl 2 rfl) ?_
  refine lv_iconst (v := 0) hx hb dL_word_1 (by decide) ?_
  refine lv_aload_n hx hb dL_word_2 rfl (lv_at hl 0 rfl) ?_
  refine lv_iload_n hx hb dL_word_3 rfl (lv_at hl 1 rfl) ?_
  have hPc := hP.sub (ws' := (cf_35 cI h3 h3a0 h5 h4 h2 h1 h0 s3 s5)) [0, 1, 2] rfl
  have hDc := hD.sub (ws' := (cf_35 cI h3 h3a0 h5 h4 h2 h1 h0 s3 s5)) [0, 1, 2] (by decide) rfl
  have hKc := hK.sub (tys' := [(cI, .int)]) [0] rfl
  have hFc := va_free (wc := (cf_35 cI h3 h3a0 h5 h4 h2 h1 h0 s3 s5)) hD hS hA [0, 1, 2] rfl
  refine vx_calli (vx_runV (As := [.int a1]) (rest := [.int 0, .ref ho]) ⟨hx, hb, hml, hown, hts⟩ (ktX5_word l hst dC dI cI h3 h3a0 h5 h4 h2 h1 h0 _ s3 s5 a1 k r s3f hf) (cwV 1 hts gL_word_X5_word rfl rfl rfl (by decide +kernel) ⟨Nat.le_of_ble_eq_true rfl, Nat.le_of_ble_eq_true rfl⟩) (gx_V (ws := ((cf_35 cI h3 h3a0 h5 h4 h2 h1 h0 s3 s5) ++ [(ho, .inl (cJ, 1, .inr (.inl g)))])) (locs := []) (H0 := s.heap) (ci := 5) (q0 := 2) (C := RX5) (T := TX5) (N := 10) hPc hKc hDc hN hSW hXW hZ hFc rfl rfl) rfl rfl hl.1 rfl (lv_room (Nat.le_of_ble_eq_true rfl)) dL_word_4 ⟨Nat.le_of_ble_eq_true rfl, Nat.le_of_ble_eq_true rfl⟩) hS (fun q _ h => hFc q h) hFc (fun q _ h => hFc q h) (fun E ce q9 u t H1 locs1 ht hvm hpx hB hz hk9 hS => ?_) (fun r9 u t H1 locs1 ht hvm hw hB hz hk9 hS => ?_)
  · intro hce hcv hcl
    obtain ⟨hxe, hP1, -, hD1⟩ := hB
    rw [ht] at hP1
    obtain ⟨hP2, hD2⟩ := va_join (wr := [(ho, .inl (cJ, 1, .inr (.inl g)))]) (w1 := (cf_35 cI h3 h3a0 h5 h4 h2 h1 h0 s3 s5)) hP hD [0, 1, 2] [3] rfl rfl (by decide) (by decide) hk9 hFc hP1 hD1
    have hP : va_P (dC, dI) vwCl ((cf_35 cI h3 h3a0 h5 h4 h2 h1 h0 s3 s5) ++ [(ho, .inl (cJ, 1, .inr (.inl g)))]) H1 := hP2.sub [1, 2, 3, 0] rfl
    have hD : va_D A ((cf_35 cI h3 h3a0 h5 h4 h2 h1 h0 s3 s5) ++ [(ho, .inl (cJ, 1, .inr (.inl g)))]) := hD2.sub [1, 2, 3, 0] (by decide) rfl
    rcases hxe with ⟨rfl, rfl⟩ | ⟨rfl, rfl⟩
    · obtain ⟨rfl, rfl⟩ := eq1 (by decide)
      refine vx_catch hown [] ⟨0, 9, 12, 13⟩ [⟨0, 9, 15, 15⟩] (by rw [htab]; rfl) (fun z hz => by cases hz) (by decide) (by decide) (hts (.classLink RL 13 "java/lang/IllegalArgumentException") (by decide +kernel)) (va_Nw.use (by rfl) (hXW _ (List.mem_of_getElem? (i := 0) rfl))) hce hcv hcl ?_
      refine lv_astore_n (lv' := [(3, .ref q9), (0, .ref h5), (1, .int a1), (2, .ref ho)]) hx hb dL_word_12 rfl hl (by decide) rfl (fun ls hl => ?_)
      refine lv_iconst (v := 1) hx hb dL_word_13 (by decide) ?_
      exact W.iret (v := 1) hx hb hr (fun t ht hW => ⟨⟨1, (), rfl, rfl, by rw [ht]; exact hP, va_K.moved hW.alike hK, hD⟩, hS.F ht⟩) hS.2.2 dL_word_14
    · obtain ⟨rfl, rfl⟩ := eq1 (by decide)
      refine vx_catch hown [⟨0, 9, 12, 13⟩] ⟨0, 9, 15, 15⟩ [] (by rw [htab]; rfl) (fun z hz => by rcases List.mem_cons.mp hz with rfl | hz; exact Or.inr ⟨by decide, xIAE, hts (.classLink RL 13 xIAE) (by decide +kernel), hNc⟩; cases hz) (by decide) (by decide) (hts (.classLink RL 15 "java/lang/IllegalStateException") (by decide +kernel)) (va_Nw.use (by rfl) (hXW _ (List.mem_of_getElem? (i := 1) rfl))) hce hcv hcl ?_
      refine lv_astore_n (lv' := [(3, .ref q9), (0, .ref h5), (1, .int a1), (2, .ref ho)]) hx hb dL_word_15 rfl hl (by decide) rfl (fun ls hl => ?_)
      refine lv_iconst (v := 2) hx hb dL_word_16 (by decide) ?_
      exact W.iret (v := 2) hx hb hr (fun t ht hW => ⟨⟨2, (), rfl, rfl, by rw [ht]; exact hP, va_K.moved hW.alike hK, hD⟩, hS.F ht⟩) hS.2.2 dL_word_17
  · obtain ⟨hk0, rfl⟩ := hw
    obtain ⟨hP1, -, hD1⟩ := hB
    rw [ht] at hP1
    obtain ⟨hP2, hD2⟩ := va_join (wr := [(ho, .inl (cJ, 1, .inr (.inl g)))]) (w1 := (cf_35 cI h3 h3a0 h5 h4 h2 h1 h0 s3f s5)) hP hD [0, 1, 2] [3] rfl rfl (by decide) (by decide) hk9 hFc hP1 hD1
    have hP : va_P (dC, dI) vwCl ((cf_35 cI h3 h3a0 h5 h4 h2 h1 h0 s3f s5) ++ [(ho, .inl (cJ, 1, .inr (.inl g)))]) H1 := hP2.sub [1, 2, 3, 0] rfl
    have hD : va_D A ((cf_35 cI h3 h3a0 h5 h4 h2 h1 h0 s3f s5) ++ [(ho, .inl (cJ, 1, .inr (.inl g)))]) := hD2.sub [1, 2, 3, 0] (by decide) rfl
    obtain ⟨rfl, rfl⟩ := eq0 hk0
    refine lv_i2l (v := r9.toInt64) hx hb dL_word_7 rfl ?_
    refine va_last hx hb hK hP hD hS 3 1 rfl rfl (show vp_in 0 1 by unfold vp_in; decide) dL_word_8 (fun H locs hP hD hS => ?_)
    have hP : va_P (dC, dI) vwCl ((cf_35 cI h3 h3a0 h5 h4 h2 h1 h0 s3r s5) ++ [(ho, .inl (cJ, 1, .inr (.inl (vp_updL g 0 r9.toInt64))))]) H := hP
    have hD : va_D A ((cf_35 cI h3 h3a0 h5 h4 h2 h1 h0 s3r s5) ++ [(ho, .inl (cJ, 1, .inr (.inl (vp_updL g 0 r9.toInt64))))]) := hD
    refine lv_goto (tgt := 18) hx hb dL_word_9 (by decide) ?_
    refine lv_iconst (v := 0) hx hb dL_word_18 (by decide) ?_
    exact W.iret (v := 0) hx hb hr (fun t ht hW => ⟨⟨0, (), rfl, hk0.symm, by rw [ht]; exact hP, va_K.moved hW.alike hK, hD⟩, hS.F ht⟩) hS.2.2 dL_word_19
abbrev rmL_back : Room := { frames := 7, cells := 1, slots := 6, locals := 102 }
set_option maxHeartbeats 2000000 in
set_option maxRecDepth 100000 in
theorem ktL_back (l : Launch) (hst : l.stackTraces = false) (dC : Nat → ClassId) (dI : Nat → Nat → Nat) (cI cJ : ClassId) (h3 h3a0 h5 h4 h2 h1 h0 ho : Nat) (sz : Nat) (s3 : S3) (s5 : S5) (g : Nat → Int64) (k r : Int32) (s3f s3r : S3) (gr : Nat → Int64) (hf : fX5_back s3 s5 = some (k, r, s3f)) (eq0 : k = 0 → s3r = s3f ∧ gr = vp_updL g 0 r.toInt64) (eq1 : k ≠ 0 → s3r = s3 ∧ gr = g) : Met l yL_back wsL_back rmL_back (va_Pc [.ref h5, .ref ho] (pre_h (dC, dI) ((cf_35 cI h3 h3a0 h5 h4 h2 h1 h0 s3 s5) ++ [(ho, .inl (cJ, 1, .inr (.inl g)))]) [(cI, .int), (cJ, .long)] sz)) (va_Qi (fun (r' : Int32) (_ : Unit) => r' = k) (post_w (dC, dI) ((cf_35 cI h3 h3a0 h5 h4 h2 h1 h0 s3r s5) ++ [(ho, .inl (cJ, 1, .inr (.inl gr)))]) [(cI, .int), (cJ, .long)] (va_A ((cf_35 cI h3 h3a0 h5 h4 h2 h1 h0 s3 s5) ++ [(ho, .inl (cJ, 1, .inr (.inl g)))]) sz)) (va_A ((cf_35 cI h3 h3a0 h5 h4 h2 h1 h0 s3 s5) ++ [(ho, .inl (cJ, 1, .inr (.inl g)))]) sz)) 1 6 (va_A ((cf_35 cI h3 h3a0 h5 h4 h2 h1 h0 s3 s5) ++ [(ho, .inl (cJ, 1, .inr (.inl g)))]) sz) := by
  refine va_MetW (cc := cL_back) (maxL := 3) (ret := some .int) (hh := [(0, 8, 11, 15)]) (by decide) rfl ?_
  intro p e s m args below meth c s₁ B hml hv
  obtain ⟨rfl, ⟨⟨hsz, hP, hK, hD0, hN⟩, hSW, hXW, hZ⟩, hNc⟩ := hv
  have hx := B.exec
  have hb := B.bytes
  have hr := B.returns
  have hts := atoms_spec (ws := wsL_back) B.pre
  have hown : s.vm.findClass RL = some m.cls := findClass_of_methodNamed B.named
  have hlocks := B.notSynchronized
  have htab : c.exceptionTable.toList = tableOf [(0, 8, 11, 15)] := vx_table (x := yL_law) B (hts _ List.mem_cons_self)
  subst hsz
  have hD := hD0.self (sz := s.heap.size)
  generalize hAe : va_A ((cf_35 cI h3 h3a0 h5 h4 h2 h1 h0 s3 s5) ++ [(ho, .inl (cJ, 1, .inr (.inl g)))]) s.heap.size = A at hD hZ ⊢
  have hA : ∀ q : Nat, s.heap.size ≤ q → A q := fun q h => by rw [← hAe]; exact Or.inr h
  have hS : va_S A s.heap s.heap [] := va_S.rf
  have hl := lv_entry [.ref h5, .ref ho] (n := 3) (Nat.le_of_ble_eq_true rfl)
  rw [lg_entry_eq]
  generalize (lg_sl [.ref h5, .ref ho] ++ List.replicate (3 - (lg_sl [.ref h5, .ref ho]).length) Slot.unset).toArray = ls at hl ⊢
  have hl : lv_has ls 3 [(0, .ref h5), (1, .ref ho)] := hl
  refine lv_aload_n hx hb dL_back_0 rfl (lv_at hl 1 rfl) ?_
  refine lv_iconst (v := 0) hx hb dL_back_1 (by decide) ?_
  refine lv_aload_n hx hb dL_back_2 rfl (lv_at hl 0 rfl) ?_
  have hPc := hP.sub (ws' := (cf_35 cI h3 h3a0 h5 h4 h2 h1 h0 s3 s5)) [0, 1, 2] rfl
  have hDc := hD.sub (ws' := (cf_35 cI h3 h3a0 h5 h4 h2 h1 h0 s3 s5)) [0, 1, 2] (by decide) rfl
  have hKc := hK.sub (tys' := [(cI, .int)]) [0] rfl
  have hFc := va_free (wc := (cf_35 cI h3 h3a0 h5 h4 h2 h1 h0 s3 s5)) hD hS hA [0, 1, 2] rfl
  refine vx_calli (vx_runV (As := []) (rest := [.int 0, .ref ho]) ⟨hx, hb, hml, hown, hts⟩ (ktX5_back l hst dC dI cI h3 h3a0 h5 h4 h2 h1 h0 _ s3 s5 k r s3f hf) (cwV 0 hts gL_back_X5_back rfl rfl rfl (by decide +kernel) ⟨Nat.le_of_ble_eq_true rfl, Nat.le_of_ble_eq_true rfl⟩) (gx_V (ws := ((cf_35 cI h3 h3a0 h5 h4 h2 h1 h0 s3 s5) ++ [(ho, .inl (cJ, 1, .inr (.inl g)))])) (locs := []) (H0 := s.heap) (ci := 5) (q0 := 2) (C := RX5) (T := TX5) (N := 10) hPc hKc hDc hN hSW hXW hZ hFc rfl rfl) rfl rfl hl.1 rfl (lv_room (Nat.le_of_ble_eq_true rfl)) dL_back_3 ⟨Nat.le_of_ble_eq_true rfl, Nat.le_of_ble_eq_true rfl⟩) hS (fun q _ h => hFc q h) hFc (fun q _ h => hFc q h) (fun E ce q9 u t H1 locs1 ht hvm hpx hB hz hk9 hS => ?_) (fun r9 u t H1 locs1 ht hvm hw hB hz hk9 hS => ?_)
  · intro hce hcv hcl
    obtain ⟨hxe, hP1, -, hD1⟩ := hB
    rw [ht] at hP1
    obtain ⟨hP2, hD2⟩ := va_join (wr := [(ho, .inl (cJ, 1, .inr (.inl g)))]) (w1 := (cf_35 cI h3 h3a0 h5 h4 h2 h1 h0 s3 s5)) hP hD [0, 1, 2] [3] rfl rfl (by decide) (by decide) hk9 hFc hP1 hD1
    have hP : va_P (dC, dI) vwCl ((cf_35 cI h3 h3a0 h5 h4 h2 h1 h0 s3 s5) ++ [(ho, .inl (cJ, 1, .inr (.inl g)))]) H1 := hP2.sub [1, 2, 3, 0] rfl
    have hD : va_D A ((cf_35 cI h3 h3a0 h5 h4 h2 h1 h0 s3 s5) ++ [(ho, .inl (cJ, 1, .inr (.inl g)))]) := hD2.sub [1, 2, 3, 0] (by decide) rfl
    obtain ⟨rfl, rfl⟩ := hxe
    obtain ⟨rfl, rfl⟩ := eq1 (by decide)
    refine vx_catch hown [] ⟨0, 8, 11, 15⟩ [] (by rw [htab]; rfl) (fun z hz => by cases hz) (by decide) (by decide) (hts (.classLink RL 15 "java/lang/IllegalStateException") (by decide +kernel)) (va_Nw.use (by rfl) (hXW _ (List.mem_of_getElem? (i := 1) rfl))) hce hcv hcl ?_
    refine lv_astore_n (lv' := [(2, .ref q9), (0, .ref h5), (1, .ref ho)]) hx hb dL_back_11 rfl hl (by decide) rfl (fun ls hl => ?_)
    refine lv_iconst (v := 1) hx hb dL_back_12 (by decide) ?_
    exact W.iret (v := 1) hx hb hr (fun t ht hW => ⟨⟨1, (), rfl, rfl, by rw [ht]; exact hP, va_K.moved hW.alike hK, hD⟩, hS.F ht⟩) hS.2.2 dL_back_13
  · obtain ⟨hk0, rfl⟩ := hw
    obtain ⟨hP1, -, hD1⟩ := hB
    rw [ht] at hP1
    obtain ⟨hP2, hD2⟩ := va_join (wr := [(ho, .inl (cJ, 1, .inr (.inl g)))]) (w1 := (cf_35 cI h3 h3a0 h5 h4 h2 h1 h0 s3f s5)) hP hD [0, 1, 2] [3] rfl rfl (by decide) (by decide) hk9 hFc hP1 hD1
    have hP : va_P (dC, dI) vwCl ((cf_35 cI h3 h3a0 h5 h4 h2 h1 h0 s3f s5) ++ [(ho, .inl (cJ, 1, .inr (.inl g)))]) H1 := hP2.sub [1, 2, 3, 0] rfl
    have hD : va_D A ((cf_35 cI h3 h3a0 h5 h4 h2 h1 h0 s3f s5) ++ [(ho, .inl (cJ, 1, .inr (.inl g)))]) := hD2.sub [1, 2, 3, 0] (by decide) rfl
    obtain ⟨rfl, rfl⟩ := eq0 hk0
    refine lv_i2l (v := r9.toInt64) hx hb dL_back_6 rfl ?_
    refine va_last hx hb hK hP hD hS 3 1 rfl rfl (show vp_in 0 1 by unfold vp_in; decide) dL_back_7 (fun H locs hP hD hS => ?_)
    have hP : va_P (dC, dI) vwCl ((cf_35 cI h3 h3a0 h5 h4 h2 h1 h0 s3r s5) ++ [(ho, .inl (cJ, 1, .inr (.inl (vp_updL g 0 r9.toInt64))))]) H := hP
    have hD : va_D A ((cf_35 cI h3 h3a0 h5 h4 h2 h1 h0 s3r s5) ++ [(ho, .inl (cJ, 1, .inr (.inl (vp_updL g 0 r9.toInt64))))]) := hD
    refine lv_goto (tgt := 14) hx hb dL_back_8 (by decide) ?_
    refine lv_iconst (v := 0) hx hb dL_back_14 (by decide) ?_
    exact W.iret (v := 0) hx hb hr (fun t ht hW => ⟨⟨0, (), rfl, hk0.symm, by rw [ht]; exact hP, va_K.moved hW.alike hK, hD⟩, hS.F ht⟩) hS.2.2 dL_back_15
