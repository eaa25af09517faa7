abbrev rmL_worded : Room := { frames := 7, cells := 1, slots := 6, locals := 103 }
set_option maxHeartbeats 2000000 in
set_option maxRecDepth 100000 in
theorem ktL_worded (l : Launch) (hst : l.stackTraces = false) (dC : Nat → ClassId) (dI : Nat → Nat → Nat) (cI : ClassId) (h3 h3a0 h5 h4 h2 h1 h0 : Nat) (sz : Nat) (s3 : S3) (s5 : S5) (a1 : Int32) (r : Int32) (s3f : S3) (hf : fL_worded s3 s5 a1 = some (r, s3f)) : Met l yL_worded wsL_worded rmL_worded (va_Pc [.ref h5, .int a1] (pre_l XH (dC, dI) (cf_35 cI h3 h3a0 h5 h4 h2 h1 h0 s3 s5) [(cI, .int)] sz)) (va_Qi (fun (r' : Int32) (_ : Unit) => r' = r) (post_w (dC, dI) (cf_35 cI h3 h3a0 h5 h4 h2 h1 h0 s3f s5) [(cI, .int)] (va_A (cf_35 cI h3 h3a0 h5 h4 h2 h1 h0 s3 s5) sz)) (va_A (cf_35 cI h3 h3a0 h5 h4 h2 h1 h0 s3 s5) sz)) 1 6 (va_A (cf_35 cI h3 h3a0 h5 h4 h2 h1 h0 s3 s5) sz) := by
  unfold fL_worded at hf
  obtain ⟨k, r0, s3n, hc, hf⟩ := bn3_ok hf
  have he := Option.some.inj hf
  have e0 := congrArg (fun q => q.1) he
  have e1 := congrArg (fun q => q.2) he
  dsimp only at e0 e1
  refine va_MetW (cc := cL_worded) (maxL := 3) (ret := some .int) (hh := [(0, 5, 6, 74), (0, 5, 10, 76)]) (by decide) rfl ?_
  intro p e s m args below meth c s₁ B hml hv
  obtain ⟨rfl, ⟨hsz, hP, hK, hD0, hN⟩, hX⟩ := hv
  obtain ⟨hSW, hXW, hZ, hNc⟩ := hX
  have hx := B.exec
  have hb := B.bytes
  have hr := B.returns
  have hts := atoms_spec (ws := wsL_worded) B.pre
  have hown : s.vm.findClass RL = some m.cls := findClass_of_methodNamed B.named
  have hlocks := B.notSynchronized
  have htab : c.exceptionTable.toList = tableOf [(0, 5, 6, 74), (0, 5, 10, 76)] := vx_table (x := yL_law) B (hts _ List.mem_cons_self)
  subst hsz
  have hD := hD0.self (sz := s.heap.size)
  generalize hAe : va_A (cf_35 cI h3 h3a0 h5 h4 h2 h1 h0 s3 s5) s.heap.size = A at hD hZ ⊢
  have hA : ∀ q : Nat, s.heap.size ≤ q → A q := fun q h => by rw [← hAe]; exact Or.inr h
  have hS : va_S A s.heap s.heap [] := va_S.rf
  have hl := lv_entry [.ref h5, .int a1] (n := 3) (Nat.le_of_ble_eq_true rfl)
  rw [lg_entry_eq]
  generalize (lg_sl [.ref h5, .int a1] ++ List.replicate (3 - (lg_sl [.ref h5, .int a1]).length) Slot.unset).toArray = ls at hl ⊢
  have hl : lv_has ls 3 [(0, .ref h5), (1, .int a1)] := hl
  refine lv_aload_n hx hb dL_worded_0 rfl (lv_at hl 0 rfl) ?_
  refine lv_iload_n hx hb dL_worded_1 rfl (lv_at hl 1 rfl) ?_
  have hPc := hP.sub (ws' := (cf_35 cI h3 h3a0 h5 h4 h2 h1 h0 s3 s5)) [0, 1, 2] rfl
  have hDc := hD.sub (ws' := (cf_35 cI h3 h3a0 h5 h4 h2 h1 h0 s3 s5)) [0, 1, 2] (by decide) rfl
  have hKc := hK.sub (tys' := [(cI, .int)]) [0] rfl
  have hFc := va_free (wc := (cf_35 cI h3 h3a0 h5 h4 h2 h1 h0 s3 s5)) hD hS hA [0, 1, 2] rfl
  refine vx_calli (vx_runV (As := [.int a1]) (rest := []) ⟨hx, hb, hml, hown, hts⟩ (ktX5_word l hst dC dI cI h3 h3a0 h5 h4 h2 h1 h0 _ s3 s5 a1 k r0 s3n hc) (cwV 1 hts gL_worded_X5_word rfl rfl rfl (by decide +kernel) ⟨Nat.le_of_ble_eq_true rfl, Nat.le_of_ble_eq_true rfl⟩) (gx_V (ws := (cf_35 cI h3 h3a0 h5 h4 h2 h1 h0 s3 s5)) (locs := []) (H0 := s.heap) (ci := 5) (q0 := 2) (C := RX5) (T := TX5) (N := 10) hPc hKc hDc hN hSW hXW hZ hFc rfl rfl) rfl rfl hl.1 rfl (lv_room (Nat.le_of_ble_eq_true rfl)) dL_worded_2 ⟨Nat.le_of_ble_eq_true rfl, Nat.le_of_ble_eq_true rfl⟩) hS (fun q _ h => hFc q h) hFc (fun q _ h => hFc q h) (fun E ce q9 u t H1 locs1 ht hvm hpx hB hz hk9 hS => ?_) (fun r9 u t H1 locs1 ht hvm hw hB hz hk9 hS => ?_)
  · intro hce hcv hcl
    obtain ⟨hxe, hP1, -, hD1⟩ := hB
    rw [ht] at hP1
    obtain ⟨hP2, hD2⟩ := va_join (wr := ([] : va_W)) (w1 := (cf_35 cI h3 h3a0 h5 h4 h2 h1 h0 s3 s5)) hP hD [0, 1, 2] [] rfl rfl (by decide) (by decide) hk9 hFc hP1 hD1
    have hP : va_P (dC, dI) vwCl (cf_35 cI h3 h3a0 h5 h4 h2 h1 h0 s3 s5) H1 := hP2.sub [0, 1, 2] rfl
    have hD : va_D A (cf_35 cI h3 h3a0 h5 h4 h2 h1 h0 s3 s5) := hD2.sub [0, 1, 2] (by decide) rfl
    rcases hxe with ⟨rfl, rfl⟩ | ⟨rfl, rfl⟩
    · rw [if_neg (by decide), if_pos rfl] at e0
      rw [if_neg (by decide)] at e1
      subst e1
      subst e0
      refine vx_catch hown [] ⟨0, 5, 6, 74⟩ [⟨0, 5, 10, 76⟩] (by rw [htab]; rfl) (fun z hz => by cases hz) (by decide) (by decide) (hts (.classLink RL 74 "java/lang/IllegalArgumentException") (by decide +kernel)) (va_Nw.use (by rfl) (hXW _ (List.mem_of_getElem? (i := 0) rfl))) hce hcv hcl ?_
      refine lv_astore_n (lv' := [(2, .ref q9), (0, .ref h5), (1, .int a1)]) hx hb dL_worded_6 rfl hl (by decide) rfl (fun ls hl => ?_)
      refine lv_bipush (v := (-101)) hx hb dL_worded_7 (by decide) ?_
      exact W.iret (v := (-101)) hx hb hr (fun t ht hW => ⟨⟨(-101), (), rfl, rfl, by rw [ht]; exact hP, va_K.moved hW.alike hK, hD⟩, hS.F ht⟩) hS.2.2 dL_worded_9
    · rw [if_neg (by decide), if_neg (by decide)] at e0
      rw [if_neg (by decide)] at e1
      subst e1
      subst e0
      refine vx_catch hown [⟨0, 5, 6, 74⟩] ⟨0, 5, 10, 76⟩ [] (by rw [htab]; rfl) (fun z hz => by rcases List.mem_cons.mp hz with rfl | hz; exact Or.inr ⟨by decide, xIAE, hts (.classLink RL 74 xIAE) (by decide +kernel), hNc⟩; cases hz) (by decide) (by decide) (hts (.classLink RL 76 "java/lang/IllegalStateException") (by decide +kernel)) (va_Nw.use (by rfl) (hXW _ (List.mem_of_getElem? (i := 1) rfl))) hce hcv hcl ?_
      refine lv_astore_n (lv' := [(2, .ref q9), (0, .ref h5), (1, .int a1)]) hx hb dL_worded_10 rfl hl (by decide) rfl (fun ls hl => ?_)
      refine lv_bipush (v := (-102)) hx hb dL_worded_11 (by decide) ?_
      exact W.iret (v := (-102)) hx hb hr (fun t ht hW => ⟨⟨(-102), (), rfl, rfl, by rw [ht]; exact hP, va_K.moved hW.alike hK, hD⟩, hS.F ht⟩) hS.2.2 dL_worded_13
  · obtain ⟨hk0, rfl⟩ := hw
    obtain ⟨hP1, -, hD1⟩ := hB
    rw [ht] at hP1
    obtain ⟨hP2, hD2⟩ := va_join (wr := ([] : va_W)) (w1 := (cf_35 cI h3 h3a0 h5 h4 h2 h1 h0 s3n s5)) hP hD [0, 1, 2] [] rfl rfl (by decide) (by decide) hk9 hFc hP1 hD1
    have hP : va_P (dC, dI) vwCl (cf_35 cI h3 h3a0 h5 h4 h2 h1 h0 s3n s5) H1 := hP2.sub [0, 1, 2] rfl
    have hD : va_D A (cf_35 cI h3 h3a0 h5 h4 h2 h1 h0 s3n s5) := hD2.sub [0, 1, 2] (by decide) rfl
    rw [if_pos hk0] at e0
    rw [if_pos hk0] at e1
    subst e1
    subst e0
    exact W.iret (v := r9) hx hb hr (fun t ht hW => ⟨⟨r9, (), rfl, rfl, by rw [ht]; exact hP, va_K.moved hW.alike hK, hD⟩, hS.F ht⟩) hS.2.2 dL_worded_5
abbrev rmL_backed : Room := { frames := 7, cells := 1, slots := 6, locals := 102 }
set_option maxHeartbeats 2000000 in
set_option maxRecDepth 100000 in
theorem ktL_backed (l : Launch) (hst : l.stackTraces = false) (dC : Nat → ClassId) (dI : Nat → Nat → Nat) (cI : ClassId) (h3 h3a0 h5 h4 h2 h1 h0 : Nat) (sz : Nat) (s3 : S3) (s5 : S5) (r : Int32) (s3f : S3) (hf : fL_backed s3 s5 = some (r, s3f)) : Met l yL_backed wsL_backed rmL_backed (va_Pc [.ref h5] (pre_l XH (dC, dI) (cf_35 cI h3 h3a0 h5 h4 h2 h1 h0 s3 s5) [(cI, .int)] sz)) (va_Qi (fun (r' : Int32) (_ : Unit) => r' = r) (post_w (dC, dI) (cf_35 cI h3 h3a0 h5 h4 h2 h1 h0 s3f s5) [(cI, .int)] (va_A (cf_35 cI h3 h3a0 h5 h4 h2 h1 h0 s3 s5) sz)) (va_A (cf_35 cI h3 h3a0 h5 h4 h2 h1 h0 s3 s5) sz)) 1 6 (va_A (cf_35 cI h3 h3a0 h5 h4 h2 h1 h0 s3 s5) sz) := by
  unfold fL_backed at hf
  obtain ⟨k, r0, s3n, hc, hf⟩ := bn3_ok hf
  have he := Option.some.inj hf
  have e0 := congrArg (fun q => q.1) he
  have e1 := congrArg (fun q => q.2) he
  dsimp only at e0 e1
  refine va_MetW (cc := cL_backed) (maxL := 2) (ret := some .int) (hh := [(0, 4, 5, 76)]) (by decide) rfl ?_
  intro p e s m args below meth c s₁ B hml hv
  obtain ⟨rfl, ⟨hsz, hP, hK, hD0, hN⟩, hX⟩ := hv
  obtain ⟨hSW, hXW, hZ, hNc⟩ := hX
  have hx := B.exec
  have hb := B.bytes
  have hr := B.returns
  have hts := atoms_spec (ws := wsL_backed) B.pre
  have hown : s.vm.findClass RL = some m.cls := findClass_of_methodNamed B.named
  have hlocks := B.notSynchronized
  have htab : c.exceptionTable.toList = tableOf [(0, 4, 5, 76)] := vx_table (x := yL_law) B (hts _ List.mem_cons_self)
  subst hsz
  have hD := hD0.self (sz := s.heap.size)
  generalize hAe : va_A (cf_35 cI h3 h3a0 h5 h4 h2 h1 h0 s3 s5) s.heap.size = A at hD hZ ⊢
  have hA : ∀ q : Nat, s.heap.size ≤ q → A q := fun q h => by rw [← hAe]; exact Or.inr h
  have hS : va_S A s.heap s.heap [] := va_S.rf
  have hl := lv_entry [.ref h5] (n := 2) (Nat.le_of_ble_eq_true rfl)
  rw [lg_entry_eq]
  generalize (lg_sl [.ref h5] ++ List.replicate (2 - (lg_sl [.ref h5]).length) Slot.unset).toArray = ls at hl ⊢
  have hl : lv_has ls 2 [(0, .ref h5)] := hl
  refine lv_aload_n hx hb dL_backed_0 rfl (lv_at hl 0 rfl) ?_
  have hPc := hP.sub (ws' := (cf_35 cI h3 h3a0 h5 h4 h2 h1 h0 s3 s5)) [0, 1, 2] rfl
  have hDc := hD.sub (ws' := (cf_35 cI h3 h3a0 h5 h4 h2 h1 h0 s3 s5)) [0, 1, 2] (by decide) rfl
  have hKc := hK.sub (tys' := [(cI, .int)]) [0] rfl
  have hFc := va_free (wc := (cf_35 cI h3 h3a0 h5 h4 h2 h1 h0 s3 s5)) hD hS hA [0, 1, 2] rfl
  refine vx_calli (vx_runV (As := []) (rest := []) ⟨hx, hb, hml, hown, hts⟩ (ktX5_back l hst dC dI cI h3 h3a0 h5 h4 h2 h1 h0 _ s3 s5 k r0 s3n hc) (cwV 0 hts gL_backed_X5_back rfl rfl rfl (by decide +kernel) ⟨Nat.le_of_ble_eq_true rfl, Nat.le_of_ble_eq_true rfl⟩) (gx_V (ws := (cf_35 cI h3 h3a0 h5 h4 h2 h1 h0 s3 s5)) (locs := []) (H0 := s.heap) (ci := 5) (q0 := 2) (C := RX5) (T := TX5) (N := 10) hPc hKc hDc hN hSW hXW hZ hFc rfl rfl) rfl rfl hl.1 rfl (lv_room (Nat.le_of_ble_eq_true rfl)) dL_backed_1 ⟨Nat.le_of_ble_eq_true rfl, Nat.le_of_ble_eq_true rfl⟩) hS (fun q _ h => hFc q h) hFc (fun q _ h => hFc q h) (fun E ce q9 u t H1 locs1 ht hvm hpx hB hz hk9 hS => ?_) (fun r9 u t H1 locs1 ht hvm hw hB hz hk9 hS => ?_)
  · intro hce hcv hcl
    obtain ⟨hxe, hP1, -, hD1⟩ := hB
    rw [ht] at hP1
    obtain ⟨hP2, hD2⟩ := va_join (wr := ([] : va_W)) (w1 := (cf_35 cI h3 h3a0 h5 h4 h2 h1 h0 s3 s5)) hP hD [0, 1, 2] [] rfl rfl (by decide) (by decide) hk9 hFc hP1 hD1
    have hP : va_P (dC, dI) vwCl (cf_35 cI h3 h3a0 h5 h4 h2 h1 h0 s3 s5) H1 := hP2.sub [0, 1, 2] rfl
    have hD : va_D A (cf_35 cI h3 h3a0 h5 h4 h2 h1 h0 s3 s5) := hD2.sub [0, 1, 2] (by decide) rfl
    obtain ⟨rfl, rfl⟩ := hxe
    rw [if_neg (by decide)] at e0
    rw [if_neg (by decide)] at e1
    subst e1
    subst e0
    refine vx_catch hown [] ⟨0, 4, 5, 76⟩ [] (by rw [htab]; rfl) (fun z hz => by cases hz) (by decide) (by decide) (hts (.classLink RL 76 "java/lang/IllegalStateException") (by decide +kernel)) (va_Nw.use (by rfl) (hXW _ (List.mem_of_getElem? (i := 1) rfl))) hce hcv hcl ?_
    refine lv_astore_n (lv' := [(1, .ref q9), (0, .ref h5)]) hx hb dL_backed_5 rfl hl (by decide) rfl (fun ls hl => ?_)
    refine lv_bipush (v := (-101)) hx hb dL_backed_6 (by decide) ?_
    exact W.iret (v := (-101)) hx hb hr (fun t ht hW => ⟨⟨(-101), (), rfl, rfl, by rw [ht]; exact hP, va_K.moved hW.alike hK, hD⟩, hS.F ht⟩) hS.2.2 dL_backed_8
  · obtain ⟨hk0, rfl⟩ := hw
    obtain ⟨hP1, -, hD1⟩ := hB
    rw [ht] at hP1
    obtain ⟨hP2, hD2⟩ := va_join (wr := ([] : va_W)) (w1 := (cf_35 cI h3 h3a0 h5 h4 h2 h1 h0 s3n s5)) hP hD [0, 1, 2] [] rfl rfl (by decide) (by decide) hk9 hFc hP1 hD1
    have hP : va_P (dC, dI) vwCl (cf_35 cI h3 h3a0 h5 h4 h2 h1 h0 s3n s5) H1 := hP2.sub [0, 1, 2] rfl
    have hD : va_D A (cf_35 cI h3 h3a0 h5 h4 h2 h1 h0 s3n s5) := hD2.sub [0, 1, 2] (by decide) rfl
    rw [if_pos hk0] at e0
    rw [if_pos hk0] at e1
    subst e1
    subst e0
    exact W.iret (v := r9) hx hb hr (fun t ht hW => ⟨⟨r9, (), rfl, rfl, by rw [ht]; exact hP, va_K.moved hW.alike hK, hD⟩, hS.F ht⟩) hS.2.2 dL_backed_4
abbrev rmL_placed : Room := { frames := 7, cells := 1, slots := 6, locals := 103 }
set_option maxHeartbeats 2000000 in
set_option maxRecDepth 100000 in
theorem ktL_placed (l : Launch) (hst : l.stackTraces = false) (dC : Nat → ClassId) (dI : Nat → Nat → Nat) (cI : ClassId) (h4 h4a0 h4a1 h4a2 h5 h3 h2 h1 h0 : Nat) (sz : Nat) (s4 : S4) (s5 : S5) (a1 : Int32) (r : Int32) (hf : fL_placed s4 s5 a1 = some r) : Met l yL_placed wsL_placed rmL_placed (va_Pc [.ref h5, .int a1] (pre_l XH (dC, dI) (cf_45 cI h4 h4a0 h4a1 h4a2 h5 h3 h2 h1 h0 s4 s5) [(cI, .int)] sz)) (va_Qi (fun (r' : Int32) (_ : Unit) => r' = r) (post_w (dC, dI) (cf_45 cI h4 h4a0 h4a1 h4a2 h5 h3 h2 h1 h0 s4 s5) [(cI, .int)] (va_A (cf_45 cI h4 h4a0 h4a1 h4a2 h5 h3 h2 h1 h0 s4 s5) sz)) (va_A (cf_45 cI h4 h4a0 h4a1 h4a2 h5 h3 h2 h1 h0 s4 s5) sz)) 1 6 (va_A (cf_45 cI h4 h4a0 h4a1 h4a2 h5 h3 h2 h1 h0 s4 s5) sz) := by
  unfold fL_placed at hf
  obtain ⟨k, r0, hc, hf⟩ := bn2_ok hf
  have he := Option.some.inj hf
  have e0 := he
  refine va_MetW (cc := cL_placed) (maxL := 3) (ret := some .int) (hh := [(0, 5, 6, 85)]) (by decide) rfl ?_
  intro p e s m args below meth c s₁ B hml hv
  obtain ⟨rfl, ⟨hsz, hP, hK, hD0, hN⟩, hX⟩ := hv
  obtain ⟨hSW, hXW, hZ, hNc⟩ := hX
  have hx := B.exec
  have hb := B.bytes
  have hr := B.returns
  have hts := atoms_spec (ws := wsL_placed) B.pre
  have hown : s.vm.findClass RL = some m.cls := findClass_of_methodNamed B.named
  have hlocks := B.notSynchronized
  have htab : c.exceptionTable.toList = tableOf [(0, 5, 6, 85)] := vx_table (x := yL_law) B (hts _ List.mem_cons_self)
  subst hsz
  have hD := hD0.self (sz := s.heap.size)
  generalize hAe : va_A (cf_45 cI h4 h4a0 h4a1 h4a2 h5 h3 h2 h1 h0 s4 s5) s.heap.size = A at hD hZ ⊢
  have hA : ∀ q : Nat, s.heap.size ≤ q → A q := fun q h => by rw [← hAe]; exact Or.inr h
  have hS : va_S A s.heap s.heap [] := va_S.rf
  have hl := lv_entry [.ref h5, .int a1] (n := 3) (Nat.le_of_ble_eq_true rfl)
  rw [lg_entry_eq]
  generalize (lg_sl [.ref h5, .int a1] ++ List.replicate (3 - (lg_sl [.ref h5, .int a1]).length) Slot.unset).toArray = ls at hl ⊢
  have hl : lv_has ls 3 [(0, .ref h5), (1, .int a1)] := hl
  refine lv_aload_n hx hb dL_placed_0 rfl (lv_at hl 0 rfl) ?_
  refine lv_iload_n hx hb dL_placed_1 rfl (lv_at hl 1 rfl) ?_
  have hPc := hP.sub (ws' := (cf_45 cI h4 h4a0 h4a1 h4a2 h5 h3 h2 h1 h0 s4 s5)) [0, 1, 2, 3, 4] rfl
  have hDc := hD.sub (ws' := (cf_45 cI h4 h4a0 h4a1 h4a2 h5 h3 h2 h1 h0 s4 s5)) [0, 1, 2, 3, 4] (by decide) rfl
  have hKc := hK.sub (tys' := [(cI, .int)]) [0] rfl
  have hFc := va_free (wc := (cf_45 cI h4 h4a0 h4a1 h4a2 h5 h3 h2 h1 h0 s4 s5)) hD hS hA [0, 1, 2, 3, 4] rfl
  refine vx_calli (vx_runV (As := [.int a1]) (rest := []) ⟨hx, hb, hml, hown, hts⟩ (ktX5_placeOf l hst dC dI cI h4 h4a0 h4a1 h4a2 h5 h3 h2 h1 h0 _ s4 s5 a1 k r0 hc) (cwV 1 hts gL_placed_X5_placeOf rfl rfl rfl (by decide +kernel) ⟨Nat.le_of_ble_eq_true rfl, Nat.le_of_ble_eq_true rfl⟩) (gx_V (ws := (cf_45 cI h4 h4a0 h4a1 h4a2 h5 h3 h2 h1 h0 s4 s5)) (locs := []) (H0 := s.heap) (ci := 5) (q0 := 4) (C := RX5) (T := TX5) (N := 10) hPc hKc hDc hN hSW hXW hZ hFc rfl rfl) rfl rfl hl.1 rfl (lv_room (Nat.le_of_ble_eq_true rfl)) dL_placed_2 ⟨Nat.le_of_ble_eq_true rfl, Nat.le_of_ble_eq_true rfl⟩) hS (fun q _ h => hFc q h) hFc (fun q _ h => hFc q h) (fun E ce q9 u t H1 locs1 ht hvm hpx hB hz hk9 hS => ?_) (fun r9 u t H1 locs1 ht hvm hw hB hz hk9 hS => ?_)
  · intro hce hcv hcl
    obtain ⟨hxe, hP1, -, hD1⟩ := hB
    rw [ht] at hP1
    obtain ⟨hP2, hD2⟩ := va_join (wr := ([] : va_W)) (w1 := (cf_45 cI h4 h4a0 h4a1 h4a2 h5 h3 h2 h1 h0 s4 s5)) hP hD [0, 1, 2, 3, 4] [] rfl rfl (by decide) (by decide) hk9 hFc hP1 hD1
    have hP : va_P (dC, dI) vwCl (cf_45 cI h4 h4a0 h4a1 h4a2 h5 h3 h2 h1 h0 s4 s5) H1 := hP2.sub [0, 1, 2, 3, 4] rfl
    have hD : va_D A (cf_45 cI h4 h4a0 h4a1 h4a2 h5 h3 h2 h1 h0 s4 s5) := hD2.sub [0, 1, 2, 3, 4] (by decide) rfl
    obtain ⟨rfl, rfl⟩ := hxe
    rw [if_neg (by decide)] at e0
    subst e0
    refine vx_catch hown [] ⟨0, 5, 6, 85⟩ [] (by rw [htab]; rfl) (fun z hz => by cases hz) (by decide) (by decide) (hts (.classLink RL 85 "java/lang/IndexOutOfBoundsException") (by decide +kernel)) (va_Nw.use (by rfl) (hXW _ (List.mem_of_getElem? (i := 2) rfl))) hce hcv hcl ?_
    refine lv_astore_n (lv' := [(2, .ref q9), (0, .ref h5), (1, .int a1)]) hx hb dL_placed_6 rfl hl (by decide) rfl (fun ls hl => ?_)
    refine lv_bipush (v := (-101)) hx hb dL_placed_7 (by decide) ?_
    exact W.iret (v := (-101)) hx hb hr (fun t ht hW => ⟨⟨(-101), (), rfl, rfl, by rw [ht]; exact hP, va_K.moved hW.alike hK, hD⟩, hS.F ht⟩) hS.2.2 dL_placed_9
  · obtain ⟨hk0, rfl⟩ := hw
    obtain ⟨hP1, -, hD1⟩ := hB
    rw [ht] at hP1
    obtain ⟨hP2, hD2⟩ := va_join (wr := ([] : va_W)) (w1 := (cf_45 cI h4 h4a0 h4a1 h4a2 h5 h3 h2 h1 h0 s4 s5)) hP hD [0, 1, 2, 3, 4] [] rfl rfl (by decide) (by decide) hk9 hFc hP1 hD1
    have hP : va_P (dC, dI) vwCl (cf_45 cI h4 h4a0 h4a1 h4a2 h5 h3 h2 h1 h0 s4 s5) H1 := hP2.sub [0, 1, 2, 3, 4] rfl
    have hD : va_D A (cf_45 cI h4 h4a0 h4a1 h4a2 h5 h3 h2 h1 h0 s4 s5) := hD2.sub [0, 1, 2, 3, 4] (by decide) rfl
    rw [if_pos hk0] at e0
    subst e0
    exact W.iret (v := r9) hx hb hr (fun t ht hW => ⟨⟨r9, (), rfl, rfl, by rw [ht]; exact hP, va_K.moved hW.alike hK, hD⟩, hS.F ht⟩) hS.2.2 dL_placed_5
abbrev rmL_opened : Room := { frames := 7, cells := 1, slots := 6, locals := 103 }
set_option maxHeartbeats 2000000 in
set_option maxRecDepth 100000 in
theorem ktL_opened (l : Launch) (hst : l.stackTraces = false) (dC : Nat → ClassId) (dI : Nat → Nat → Nat) (cI : ClassId) (h4 h4a0 h4a1 h4a2 h5 h3 h2 h1 h0 : Nat) (sz : Nat) (s4 : S4) (s5 : S5) (a1 : Int32) (r : Int32) (hf : fL_opened s4 s5 a1 = some r) : Met l yL_opened wsL_opened rmL_opened (va_Pc [.ref h5, .int a1] (pre_l XH (dC, dI) (cf_45 cI h4 h4a0 h4a1 h4a2 h5 h3 h2 h1 h0 s4 s5) [(cI, .int)] sz)) (va_Qi (fun (r' : Int32) (_ : Unit) => r' = r) (post_w (dC, dI) (cf_45 cI h4 h4a0 h4a1 h4a2 h5 h3 h2 h1 h0 s4 s5) [(cI, .int)] (va_A (cf_45 cI h4 h4a0 h4a1 h4a2 h5 h3 h2 h1 h0 s4 s5) sz)) (va_A (cf_45 cI h4 h4a0 h4a1 h4a2 h5 h3 h2 h1 h0 s4 s5) sz)) 1 6 (va_A (cf_45 cI h4 h4a0 h4a1 h4a2 h5 h3 h2 h1 h0 s4 s5) sz) := by
  unfold fL_opened at hf
  obtain ⟨k, r0, hc, hf⟩ := bn2_ok hf
  have he := Option.some.inj hf
  have e0 := he
  refine va_MetW (cc := cL_opened) (maxL := 3) (ret := some .int) (hh := [(0, 13, 14, 85)]) (by decide) rfl ?_
  intro p e s m args below meth c s₁ B hml hv
  obtain ⟨rfl, ⟨hsz, hP, hK, hD0, hN⟩, hX⟩ := hv
  obtain ⟨hSW, hXW, hZ, hNc⟩ := hX
  have hx := B.exec
  have hb := B.bytes
  have hr := B.returns
  have hts := atoms_spec (ws := wsL_opened) B.pre
  have hown : s.vm.findClass RL = some m.cls := findClass_of_methodNamed B.named
  have hlocks := B.notSynchronized
  have htab : c.exceptionTable.toList = tableOf [(0, 13, 14, 85)] := vx_table (x := yL_law) B (hts _ List.mem_cons_self)
  subst hsz
  have hD := hD0.self (sz := s.heap.size)
  generalize hAe : va_A (cf_45 cI h4 h4a0 h4a1 h4a2 h5 h3 h2 h1 h0 s4 s5) s.heap.size = A at hD hZ ⊢
  have hA : ∀ q : Nat, s.heap.size ≤ q → A q := fun q h => by rw [← hAe]; exact Or.inr h
  have hS : va_S A s.heap s.heap [] := va_S.rf
  have hl := lv_entry [.ref h5, .int a1] (n := 3) (Nat.le_of_ble_eq_true rfl)
  rw [lg_entry_eq]
  generalize (lg_sl [.ref h5, .int a1] ++ List.replicate (3 - (lg_sl [.ref h5, .int a1]).length) Slot.unset).toArray = ls at hl ⊢
  have hl : lv_has ls 3 [(0, .ref h5), (1, .int a1)] := hl
  refine lv_aload_n hx hb dL_opened_0 rfl (lv_at hl 0 rfl) ?_
  refine lv_iload_n hx hb dL_opened_1 rfl (lv_at hl 1 rfl) ?_
  have hPc := hP.sub (ws' := (cf_45 cI h4 h4a0 h4a1 h4a2 h5 h3 h2 h1 h0 s4 s5)) [0, 1, 2, 3, 4] rfl
  have hDc := hD.sub (ws' := (cf_45 cI h4 h4a0 h4a1 h4a2 h5 h3 h2 h1 h0 s4 s5)) [0, 1, 2, 3, 4] (by decide) rfl
  have hKc := hK.sub (tys' := [(cI, .int)]) [0] rfl
  have hFc := va_free (wc := (cf_45 cI h4 h4a0 h4a1 h4a2 h5 h3 h2 h1 h0 s4 s5)) hD hS hA [0, 1, 2, 3, 4] rfl
  refine vx_calli (vx_runV (As := [.int a1]) (rest := []) ⟨hx, hb, hml, hown, hts⟩ (ktX5_isOpen l hst dC dI cI h4 h4a0 h4a1 h4a2 h5 h3 h2 h1 h0 _ s4 s5 a1 k r0 hc) (cwV 1 hts gL_opened_X5_isOpen rfl rfl rfl (by decide +kernel) ⟨Nat.le_of_ble_eq_true rfl, Nat.le_of_ble_eq_true rfl⟩) (gx_V (ws := (cf_45 cI h4 h4a0 h4a1 h4a2 h5 h3 h2 h1 h0 s4 s5)) (locs := []) (H0 := s.heap) (ci := 5) (q0 := 4) (C := RX5) (T := TX5) (N := 10) hPc hKc hDc hN hSW hXW hZ hFc rfl rfl) rfl rfl hl.1 rfl (lv_room (Nat.le_of_ble_eq_true rfl)) dL_opened_2 ⟨Nat.le_of_ble_eq_true rfl, Nat.le_of_ble_eq_true rfl⟩) hS (fun q _ h => hFc q h) hFc (fun q _ h => hFc q h) (fun E ce q9 u t H1 locs1 ht hvm hpx hB hz hk9 hS => ?_) (fun r9 u t H1 locs1 ht hvm hw hB hz hk9 hS => ?_)
  · intro hce hcv hcl
    obtain ⟨hxe, hP1, -, hD1⟩ := hB
    rw [ht] at hP1
    obtain ⟨hP2, hD2⟩ := va_join (wr := ([] : va_W)) (w1 := (cf_45 cI h4 h4a0 h4a1 h4a2 h5 h3 h2 h1 h0 s4 s5)) hP hD [0, 1, 2, 3, 4] [] rfl rfl (by decide) (by decide) hk9 hFc hP1 hD1
    have hP : va_P (dC, dI) vwCl (cf_45 cI h4 h4a0 h4a1 h4a2 h5 h3 h2 h1 h0 s4 s5) H1 := hP2.sub [0, 1, 2, 3, 4] rfl
    have hD : va_D A (cf_45 cI h4 h4a0 h4a1 h4a2 h5 h3 h2 h1 h0 s4 s5) := hD2.sub [0, 1, 2, 3, 4] (by decide) rfl
    obtain ⟨rfl, rfl⟩ := hxe
    rw [if_neg (by decide)] at e0
    subst e0
    refine vx_catch hown [] ⟨0, 13, 14, 85⟩ [] (by rw [htab]; rfl) (fun z hz => by cases hz) (by decide) (by decide) (hts (.classLink RL 85 "java/lang/IndexOutOfBoundsException") (by decide +kernel)) (va_Nw.use (by rfl) (hXW _ (List.mem_of_getElem? (i := 2) rfl))) hce hcv hcl ?_
    refine lv_astore_n (lv' := [(2, .ref q9), (0, .ref h5), (1, .int a1)]) hx hb dL_opened_14 rfl hl (by decide) rfl (fun ls hl => ?_)
    refine lv_bipush (v := (-101)) hx hb dL_opened_15 (by decide) ?_
    exact W.iret (v := (-101)) hx hb hr (fun t ht hW => ⟨⟨(-101), (), rfl, rfl, by rw [ht]; exact hP, va_K.moved hW.alike hK, hD⟩, hS.F ht⟩) hS.2.2 dL_opened_17
  · obtain ⟨hk0, rfl⟩ := hw
    obtain ⟨hP1, -, hD1⟩ := hB
    rw [ht] at hP1
    obtain ⟨hP2, hD2⟩ := va_join (wr := ([] : va_W)) (w1 := (cf_45 cI h4 h4a0 h4a1 h4a2 h5 h3 h2 h1 h0 s4 s5)) hP hD [0, 1, 2, 3, 4] [] rfl rfl (by decide) (by decide) hk9 hFc hP1 hD1
    have hP : va_P (dC, dI) vwCl (cf_45 cI h4 h4a0 h4a1 h4a2 h5 h3 h2 h1 h0 s4 s5) H1 := hP2.sub [0, 1, 2, 3, 4] rfl
    have hD : va_D A (cf_45 cI h4 h4a0 h4a1 h4a2 h5 h3 h2 h1 h0 s4 s5) := hD2.sub [0, 1, 2, 3, 4] (by decide) rfl
    rw [if_pos hk0] at e0
    refine lv_if_eq (tgt := 12) hx hb dL_opened_5 (by decide) (fun cz => ?_) (fun cz => ?_)
    · rw [if_pos cz] at e0
      subst e0
      refine lv_iconst (v := 0) hx hb dL_opened_12 (by decide) ?_
      exact W.iret (v := 0) hx hb hr (fun t ht hW => ⟨⟨0, (), rfl, rfl, by rw [ht]; exact hP, va_K.moved hW.alike hK, hD⟩, hS.F ht⟩) hS.2.2 dL_opened_13
    · rw [if_neg cz] at e0
      subst e0
      refine lv_iconst (v := 1) hx hb dL_opened_8 (by decide) ?_
      refine lv_goto (tgt := 13) hx hb dL_opened_9 (by decide) ?_
      exact W.iret (v := 1) hx hb hr (fun t ht hW => ⟨⟨1, (), rfl, rfl, by rw [ht]; exact hP, va_K.moved hW.alike hK, hD⟩, hS.F ht⟩) hS.2.2 dL_opened_13
