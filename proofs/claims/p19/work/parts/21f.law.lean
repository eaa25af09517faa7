abbrev rmL_adds : Room := { frames := 8, cells := 1, slots := 6, locals := 125 }
set_option maxHeartbeats 4000000 in
set_option maxRecDepth 100000 in
theorem ktL_adds (l : Launch) (hst : l.stackTraces = false) (dC : Nat → ClassId) (dI : Nat → Nat → Nat) (cI : ClassId) (h3 h3a0 h5 hyz hyw h4 h2 h1 h0 : Nat) (sz : Nat) (s3 : S3) (s5 : S5) (syz : Syz) (syw : Syw) (a3 : Int32) (r : Int32) (s3f : S3) (syzf : Syz) (sywf : Syw) (hf : fL_adds s3 s5 syz syw a3 = some (r, s3f, syzf, sywf)) : Met l yL_adds wsL_adds rmL_adds (va_Pc [.ref h5, .ref hyw, .ref hyz, .int a3] (pre_l XH (dC, dI) (cf_35yzyw cI h3 h3a0 h5 hyz hyw h4 h2 h1 h0 s3 s5 syz syw) [(cI, .int)] sz)) (va_Qi (fun (r' : Int32) (_ : Unit) => r' = r) (post_w (dC, dI) (cf_35yzyw cI h3 h3a0 h5 hyz hyw h4 h2 h1 h0 s3f s5 syzf sywf) [(cI, .int)] (va_A (cf_35yzyw cI h3 h3a0 h5 hyz hyw h4 h2 h1 h0 s3 s5 syz syw) sz)) (va_A (cf_35yzyw cI h3 h3a0 h5 hyz hyw h4 h2 h1 h0 s3 s5 syz syw) sz)) 1 6 (va_A (cf_35yzyw cI h3 h3a0 h5 hyz hyw h4 h2 h1 h0 s3 s5 syz syw) sz) := by
  refine gml (X := XH) (mc := 1) (ms := 6) (ty := .boolean) (cc := cL_adds) (maxL := 4) (by decide) rfl (Nat.le_of_ble_eq_true rfl) ?_
  intro p e s m below meth c A QQ ls hx hb hml hown hts hK hN hX hA hP hD hS hl hret
  have hXH : XH A s s.heap := hX
  have hown : s.vm.findClass RL = some m.cls := hown
  have hl : lv_has ls 4 [(0, .ref h5), (1, .ref hyw), (2, .ref hyz), (3, .int a3)] := hl
  have J23 : ∀ (s3 : S3) (syz : Syz) (syw : Syw) (t0 : Int32) (H : Heap) (locs : List Loc), va_P (dC, dI) vwCl (cf_35yzyw cI h3 h3a0 h5 hyz hyw h4 h2 h1 h0 s3 s5 syz syw) H → va_D A (cf_35yzyw cI h3 h3a0 h5 hyz hyw h4 h2 h1 h0 s3 s5 syz syw) → va_S A s.heap H locs → ∀ (ls : Array Slot), lv_has ls 4 [] → fL_adds_23 s5 a3 s3 syz syw t0 = some (r, s3f, syzf, sywf) → W p l e rmL_adds s m ([.ref h5, .ref hyw, .ref hyz, .int a3] : List Value).toArray below meth c H locs (1) (6) QQ (F0 m 23 ls [.int t0]) := by
    intro s3 syz syw t0 H locs hP hD hS ls hl hf
    unfold fL_adds_23 at hf
    obtain ⟨hz_1, hf⟩ := bo_ok hf
    have hf : (some (t0, s3, syz, syw) : Option (Int32 × S3 × Syz × Syw)) = some (r, s3f, syzf, sywf) := hf
    have he := Option.some.inj hf
    have he0 : t0 = r := congrArg (fun q => q.1) he
    have he1 : s3 = s3f := congrArg (fun q => q.2.1) he
    have he2 : syz = syzf := congrArg (fun q => q.2.2.1) he
    have he3 : syw = sywf := congrArg (fun q => q.2.2.2) he
    exact hret _ _ _ _ _ _ hz_1 he0 (by rw [← he1, ← he2, ← he3]) dL_adds_23 hP hD hS
  have J53 : ∀ (s3 : S3) (syz : Syz) (syw : Syw) (t0 : Int32) (H : Heap) (locs : List Loc), va_P (dC, dI) vwCl (cf_35yzyw cI h3 h3a0 h5 hyz hyw h4 h2 h1 h0 s3 s5 syz syw) H → va_D A (cf_35yzyw cI h3 h3a0 h5 hyz hyw h4 h2 h1 h0 s3 s5 syz syw) → va_S A s.heap H locs → ∀ (ls : Array Slot), lv_has ls 4 [] → fL_adds_53 s5 a3 s3 syz syw t0 = some (r, s3f, syzf, sywf) → W p l e rmL_adds s m ([.ref h5, .ref hyw, .ref hyz, .int a3] : List Value).toArray below meth c H locs (1) (6) QQ (F0 m 53 ls [.int t0]) := by
    intro s3 syz syw t0 H locs hP hD hS ls hl hf
    unfold fL_adds_53 at hf
    obtain ⟨hz_1, hf⟩ := bo_ok hf
    have hf : (some (t0, s3, syz, syw) : Option (Int32 × S3 × Syz × Syw)) = some (r, s3f, syzf, sywf) := hf
    have he := Option.some.inj hf
    have he0 : t0 = r := congrArg (fun q => q.1) he
    have he1 : s3 = s3f := congrArg (fun q => q.2.1) he
    have he2 : syz = syzf := congrArg (fun q => q.2.2.1) he
    have he3 : syw = sywf := congrArg (fun q => q.2.2.2) he
    exact hret _ _ _ _ _ _ hz_1 he0 (by rw [← he1, ← he2, ← he3]) dL_adds_53 hP hD hS
  unfold fL_adds at hf
  refine lv_aload_n hx hb dL_adds_0 rfl (lv_at hl 2 rfl) ?_
  refine lv_iconst (v := 1) hx hb dL_adds_1 (by decide) ?_
  obtain ⟨hi_1, hf⟩ := ai_ok hf
  refine va_iald (n := 13) (f := syz) hx hb hK hP 3 0 rfl rfl hi_1 dL_adds_2 ?_
  refine lv_bipush (v := 24) hx hb dL_adds_3 (by decide) ?_
  refine lv_icmp_ne (tgt := 24) hx hb dL_adds_5 (by decide) (fun c_2 => ?_) (fun c_2 => ?_)
  · have hf := it_f c_2 hf
    refine lv_aload_n hx hb dL_adds_24 rfl (lv_at hl 1 rfl) ?_
    refine lv_aload_n hx hb dL_adds_25 rfl (lv_at hl 2 rfl) ?_
    refine lv_iconst (v := 1) hx hb dL_adds_26 (by decide) ?_
    obtain ⟨hi_3, hf⟩ := ai_ok hf
    refine va_iald (n := 13) (f := syz) hx hb hK hP 3 0 rfl rfl hi_3 dL_adds_27 ?_
    refine lv_iload_n hx hb dL_adds_28 rfl (lv_at hl 3 rfl) ?_
    obtain ⟨hi_4, hf⟩ := ai_ok hf
    refine va_iast (n := 24) (f := syw) hx hb hK hP hD hS 4 0 rfl rfl hi_4 dL_adds_29 (fun H locs hP hD hS => ?_)
    have hP : va_P (dC, dI) vwCl (cf_35yzyw cI h3 h3a0 h5 hyz hyw h4 h2 h1 h0 s3 s5 syz (upd syw (syz (1 : Int32).toNatClampNeg).toNatClampNeg a3)) H := hP
    have hD : va_D A (cf_35yzyw cI h3 h3a0 h5 hyz hyw h4 h2 h1 h0 s3 s5 syz (upd syw (syz (1 : Int32).toNatClampNeg).toNatClampNeg a3)) := hD
    refine lv_aload_n hx hb dL_adds_30 rfl (lv_at hl 2 rfl) ?_
    refine lv_iconst (v := 1) hx hb dL_adds_31 (by decide) ?_
    refine lv_dup2_11 hx hb dL_adds_32 rfl rfl ?_
    obtain ⟨hi_5, hf⟩ := ai_ok hf
    refine va_iald (n := 13) (f := syz) hx hb hK hP 3 0 rfl rfl hi_5 dL_adds_33 ?_
    refine lv_iconst (v := 1) hx hb dL_adds_34 (by decide) ?_
    refine lv_iadd hx hb dL_adds_35 ?_
    obtain ⟨hi_6, hf⟩ := ai_ok hf
    refine va_iast (n := 13) (f := syz) hx hb hK hP hD hS 3 0 rfl rfl hi_6 dL_adds_36 (fun H locs hP hD hS => ?_)
    have hP : va_P (dC, dI) vwCl (cf_35yzyw cI h3 h3a0 h5 hyz hyw h4 h2 h1 h0 s3 s5 (upd syz (1 : Int32).toNatClampNeg ((syz (1 : Int32).toNatClampNeg) + 1)) (upd syw (syz (1 : Int32).toNatClampNeg).toNatClampNeg a3)) H := hP
    have hD : va_D A (cf_35yzyw cI h3 h3a0 h5 hyz hyw h4 h2 h1 h0 s3 s5 (upd syz (1 : Int32).toNatClampNeg ((syz (1 : Int32).toNatClampNeg) + 1)) (upd syw (syz (1 : Int32).toNatClampNeg).toNatClampNeg a3)) := hD
    refine lv_aload_n hx hb dL_adds_37 rfl (lv_at hl 0 rfl) ?_
    refine lv_iload_n hx hb dL_adds_38 rfl (lv_at hl 3 rfl) ?_
    obtain ⟨r_7, s3_7, hc_7, hf⟩ := bn2_ok hf
    refine gc_h (wc := (cf_35 cI h3 h3a0 h5 h4 h2 h1 h0 s3 s5)) (wr := (cf_yzyw cI hyz hyw (upd syz (1 : Int32).toNatClampNeg ((syz (1 : Int32).toNatClampNeg) + 1)) (upd syw (syz (1 : Int32).toNatClampNeg).toNatClampNeg a3))) (w1 := (cf_35 cI h3 h3a0 h5 h4 h2 h1 h0 s3_7 s5)) (ws' := (cf_35yzyw cI h3 h3a0 h5 hyz hyw h4 h2 h1 h0 s3_7 s5 (upd syz (1 : Int32).toNatClampNeg ((syz (1 : Int32).toNatClampNeg) + 1)) (upd syw (syz (1 : Int32).toNatClampNeg).toNatClampNeg a3))) hP hD hS hA [0, 1, 2] [3, 4] [2, 3, 4, 0, 1] rfl rfl (by decide) (by decide) rfl (by decide) (vx_runSW (As := [.ref h5, .int a3]) (rest := []) ⟨hx, hb, hml, hown, hts⟩ (ktL_worded l hst dC dI cI h3 h3a0 h5 h4 h2 h1 h0 _ s3 s5 a3 r_7 s3_7 hc_7) (vx_cwSW 2 hts gL_adds_L_worded rfl rfl rfl (by decide +kernel) ⟨Nat.le_of_ble_eq_true rfl, Nat.le_of_ble_eq_true rfl⟩) (gl_S XH_ok (hP.sub (ws' := (cf_35 cI h3 h3a0 h5 h4 h2 h1 h0 s3 s5)) [0, 1, 2] rfl) (hK.sub (tys' := [(cI, .int)]) [0] rfl) (hD.sub (ws' := (cf_35 cI h3 h3a0 h5 h4 h2 h1 h0 s3 s5)) [0, 1, 2] (by decide) rfl) hN (XH_ok.2.2.2 A s s.heap _ hS.1 hS.2.1 hXH) (va_free (wc := (cf_35 cI h3 h3a0 h5 h4 h2 h1 h0 s3 s5)) hD hS hA [0, 1, 2] rfl)) rfl rfl hl.1 rfl (lv_room (Nat.le_of_ble_eq_true rfl)) dL_adds_39 ⟨by show (0) + 1 ≤ 1; omega, by show (0) + 6 ≤ 6; omega⟩) (fun H locs hP hD hS => ?_)
    refine lv_aload_n hx hb dL_adds_42 rfl (lv_at hl 2 rfl) ?_
    refine lv_iconst (v := 1) hx hb dL_adds_43 (by decide) ?_
    obtain ⟨hi_8, hf⟩ := ai_ok hf
    refine va_iald (n := 13) (f := (upd syz (1 : Int32).toNatClampNeg ((syz (1 : Int32).toNatClampNeg) + 1))) hx hb hK hP 3 0 rfl rfl hi_8 dL_adds_44 ?_
    refine lv_icmp_ne (tgt := 52) hx hb dL_adds_45 (by decide) (fun c_9 => ?_) (fun c_9 => ?_)
    · have hf := it_f c_9 hf
      refine lv_iconst (v := 0) hx hb dL_adds_52 (by decide) ?_
      refine W.widen (k := 1) (n := 6) (by omega) (by omega) ?_
      exact J53 s3_7 (upd syz (1 : Int32).toNatClampNeg ((syz (1 : Int32).toNatClampNeg) + 1)) (upd syw (syz (1 : Int32).toNatClampNeg).toNatClampNeg a3) 0 _ _ hP hD hS _ (lv_sub hl [] rfl) hf
    · have hf := it_t c_9 hf
      refine lv_iconst (v := 1) hx hb dL_adds_48 (by decide) ?_
      refine lv_goto (tgt := 53) hx hb dL_adds_49 (by decide) ?_
      refine W.widen (k := 1) (n := 6) (by omega) (by omega) ?_
      exact J53 s3_7 (upd syz (1 : Int32).toNatClampNeg ((syz (1 : Int32).toNatClampNeg) + 1)) (upd syw (syz (1 : Int32).toNatClampNeg).toNatClampNeg a3) 1 _ _ hP hD hS _ (lv_sub hl [] rfl) hf
  · have hf := it_t c_2 hf
    refine lv_aload_n hx hb dL_adds_8 rfl (lv_at hl 0 rfl) ?_
    refine lv_iload_n hx hb dL_adds_9 rfl (lv_at hl 3 rfl) ?_
    obtain ⟨r_10, s3_10, hc_10, hf⟩ := bn2_ok hf
    refine gc_h (wc := (cf_35 cI h3 h3a0 h5 h4 h2 h1 h0 s3 s5)) (wr := (cf_yzyw cI hyz hyw syz syw)) (w1 := (cf_35 cI h3 h3a0 h5 h4 h2 h1 h0 s3_10 s5)) (ws' := (cf_35yzyw cI h3 h3a0 h5 hyz hyw h4 h2 h1 h0 s3_10 s5 syz syw)) hP hD hS hA [0, 1, 2] [3, 4] [2, 3, 4, 0, 1] rfl rfl (by decide) (by decide) rfl (by decide) (vx_runSW (As := [.ref h5, .int a3]) (rest := []) ⟨hx, hb, hml, hown, hts⟩ (ktL_worded l hst dC dI cI h3 h3a0 h5 h4 h2 h1 h0 _ s3 s5 a3 r_10 s3_10 hc_10) (vx_cwSW 2 hts gL_adds_L_worded rfl rfl rfl (by decide +kernel) ⟨Nat.le_of_ble_eq_true rfl, Nat.le_of_ble_eq_true rfl⟩) (gl_S XH_ok (hP.sub (ws' := (cf_35 cI h3 h3a0 h5 h4 h2 h1 h0 s3 s5)) [0, 1, 2] rfl) (hK.sub (tys' := [(cI, .int)]) [0] rfl) (hD.sub (ws' := (cf_35 cI h3 h3a0 h5 h4 h2 h1 h0 s3 s5)) [0, 1, 2] (by decide) rfl) hN (XH_ok.2.2.2 A s s.heap _ hS.1 hS.2.1 hXH) (va_free (wc := (cf_35 cI h3 h3a0 h5 h4 h2 h1 h0 s3 s5)) hD hS hA [0, 1, 2] rfl)) rfl rfl hl.1 rfl (lv_room (Nat.le_of_ble_eq_true rfl)) dL_adds_10 ⟨by show (0) + 1 ≤ 1; omega, by show (0) + 6 ≤ 6; omega⟩) (fun H locs hP hD hS => ?_)
    refine lv_bipush (v := (-102)) hx hb dL_adds_13 (by decide) ?_
    refine lv_icmp_ne (tgt := 22) hx hb dL_adds_15 (by decide) (fun c_11 => ?_) (fun c_11 => ?_)
    · have hf := it_f c_11 hf
      refine lv_iconst (v := 0) hx hb dL_adds_22 (by decide) ?_
      refine W.widen (k := 1) (n := 6) (by omega) (by omega) ?_
      exact J23 s3_10 syz syw 0 _ _ hP hD hS _ (lv_sub hl [] rfl) hf
    · have hf := it_t c_11 hf
      refine lv_iconst (v := 1) hx hb dL_adds_18 (by decide) ?_
      refine lv_goto (tgt := 23) hx hb dL_adds_19 (by decide) ?_
      refine W.widen (k := 1) (n := 6) (by omega) (by omega) ?_
      exact J23 s3_10 syz syw 1 _ _ hP hD hS _ (lv_sub hl [] rfl) hf
abbrev rmL_phrase : Room := { frames := 9, cells := 3, slots := 18, locals := 148 }
set_option maxHeartbeats 4000000 in
set_option maxRecDepth 100000 in
theorem ktL_phrase (l : Launch) (hst : l.stackTraces = false) (dC : Nat → ClassId) (dI : Nat → Nat → Nat) (cI : ClassId) (h3 h3a0 h5 hyz hyw h4 h2 h1 h0 : Nat) (sz : Nat) (s3 : S3) (s5 : S5) (syz : Syz) (syw : Syw) (a1 : Int32) (a4 : Int32) (r : Int32) (s3f : S3) (syzf : Syz) (sywf : Syw) (hf : fL_phrase s3 s5 syz syw a1 a4 = some (r, s3f, syzf, sywf)) : Met l yL_phrase wsL_phrase rmL_phrase (va_Pc [.ref h5, .int a1, .ref hyw, .ref hyz, .int a4] (pre_l XH (dC, dI) (cf_35yzyw cI h3 h3a0 h5 hyz hyw h4 h2 h1 h0 s3 s5 syz syw) [(cI, .int)] sz)) (va_Qi (fun (r' : Int32) (_ : Unit) => r' = r) (post_w (dC, dI) (cf_35yzyw cI h3 h3a0 h5 hyz hyw h4 h2 h1 h0 s3f s5 syzf sywf) [(cI, .int)] (va_A (cf_35yzyw cI h3 h3a0 h5 hyz hyw h4 h2 h1 h0 s3 s5 syz syw) sz)) (va_A (cf_35yzyw cI h3 h3a0 h5 hyz hyw h4 h2 h1 h0 s3 s5 syz syw) sz)) 3 18 (va_A (cf_35yzyw cI h3 h3a0 h5 hyz hyw h4 h2 h1 h0 s3 s5 syz syw) sz) := by
  refine gml (X := XH) (mc := 3) (ms := 18) (ty := .boolean) (cc := cL_phrase) (maxL := 8) (by decide) rfl (Nat.le_of_ble_eq_true rfl) ?_
  intro p e s m below meth c A QQ ls hx hb hml hown hts hK hN hX hA hP hD hS hl hret
  have hXH : XH A s s.heap := hX
  have hown : s.vm.findClass RL = some m.cls := hown
  have hl : lv_has ls 8 [(0, .ref h5), (1, .int a1), (2, .ref hyw), (3, .ref hyz), (4, .int a4)] := hl
  have J239 : ∀ (s3 : S3) (syz : Syz) (syw : Syw) (t0 : Int32) (H : Heap) (locs : List Loc), va_P (dC, dI) vwCl (cf_35yzyw cI h3 h3a0 h5 hyz hyw h4 h2 h1 h0 s3 s5 syz syw) H → va_D A (cf_35yzyw cI h3 h3a0 h5 hyz hyw h4 h2 h1 h0 s3 s5 syz syw) → va_S A s.heap H locs → ∀ (ls : Array Slot), lv_has ls 8 [] → fL_phrase_239 s5 a1 a4 s3 syz syw t0 = some (r, s3f, syzf, sywf) → W p l e rmL_phrase s m ([.ref h5, .int a1, .ref hyw, .ref hyz, .int a4] : List Value).toArray below meth c H locs (3) (18) QQ (F0 m 239 ls [.int t0]) := by
    intro s3 syz syw t0 H locs hP hD hS ls hl hf
    unfold fL_phrase_239 at hf
    obtain ⟨hz_1, hf⟩ := bo_ok hf
    have hf : (some (t0, s3, syz, syw) : Option (Int32 × S3 × Syz × Syw)) = some (r, s3f, syzf, sywf) := hf
    have he := Option.some.inj hf
    have he0 : t0 = r := congrArg (fun q => q.1) he
    have he1 : s3 = s3f := congrArg (fun q => q.2.1) he
    have he2 : syz = syzf := congrArg (fun q => q.2.2.1) he
    have he3 : syw = sywf := congrArg (fun q => q.2.2.2) he
    exact hret _ _ _ _ _ _ hz_1 he0 (by rw [← he1, ← he2, ← he3]) dL_phrase_239 hP hD hS
  have J238 : ∀ (s3 : S3) (syz : Syz) (syw : Syw) (H : Heap) (locs : List Loc), va_P (dC, dI) vwCl (cf_35yzyw cI h3 h3a0 h5 hyz hyw h4 h2 h1 h0 s3 s5 syz syw) H → va_D A (cf_35yzyw cI h3 h3a0 h5 hyz hyw h4 h2 h1 h0 s3 s5 syz syw) → va_S A s.heap H locs → ∀ (ls : Array Slot), lv_has ls 8 [] → fL_phrase_238 s5 a1 a4 s3 syz syw = some (r, s3f, syzf, sywf) → W p l e rmL_phrase s m ([.ref h5, .int a1, .ref hyw, .ref hyz, .int a4] : List Value).toArray below meth c H locs (3) (18) QQ (F0 m 238 ls []) := by
    intro s3 syz syw H locs hP hD hS ls hl hf
    unfold fL_phrase_238 at hf
    refine lv_iconst (v := 0) hx hb dL_phrase_238 (by decide) ?_
    exact J239 s3 syz syw 0 _ _ hP hD hS _ (lv_sub hl [] rfl) hf
  have J228 : ∀ (s3 : S3) (syz : Syz) (syw : Syw) (t3 : Int32) (H : Heap) (locs : List Loc), va_P (dC, dI) vwCl (cf_35yzyw cI h3 h3a0 h5 hyz hyw h4 h2 h1 h0 s3 s5 syz syw) H → va_D A (cf_35yzyw cI h3 h3a0 h5 hyz hyw h4 h2 h1 h0 s3 s5 syz syw) → va_S A s.heap H locs → ∀ (ls : Array Slot), lv_has ls 8 [] → fL_phrase_228 s5 a1 a4 s3 syz syw t3 = some (r, s3f, syzf, sywf) → W p l e rmL_phrase s m ([.ref h5, .int a1, .ref hyw, .ref hyz, .int a4] : List Value).toArray below meth c H locs (2) (12) QQ (F0 m 228 ls [.int t3, .ref hyz, .ref hyw, .ref h5]) := by
    intro s3 syz syw t3 H locs hP hD hS ls hl hf
    unfold fL_phrase_228 at hf
    obtain ⟨r_1, s3_1, syz_1, syw_1, hc_1, hf⟩ := bn4_ok hf
    refine gc_h (wc := (cf_35yzyw cI h3 h3a0 h5 hyz hyw h4 h2 h1 h0 s3 s5 syz syw)) (wr := ([] : va_W)) (w1 := (cf_35yzyw cI h3 h3a0 h5 hyz hyw h4 h2 h1 h0 s3_1 s5 syz_1 syw_1)) (ws' := (cf_35yzyw cI h3 h3a0 h5 hyz hyw h4 h2 h1 h0 s3_1 s5 syz_1 syw_1)) hP hD hS hA [0, 1, 2, 3, 4] [] [0, 1, 2, 3, 4] rfl rfl (by decide) (by decide) rfl (by decide) (va_runS (As := [.ref h5, .ref hyw, .ref hyz, .int t3]) (rest := []) ⟨hx, hb, hml, hown, hts⟩ (ktL_adds l hst dC dI cI h3 h3a0 h5 hyz hyw h4 h2 h1 h0 _ s3 s5 syz syw t3 r_1 s3_1 syz_1 syw_1 hc_1) (va_cwS 4 hts gL_phrase_L_adds rfl rfl rfl (by decide +kernel) ⟨Nat.le_of_ble_eq_true rfl, Nat.le_of_ble_eq_true rfl⟩) (gl_S XH_ok (hP.sub (ws' := (cf_35yzyw cI h3 h3a0 h5 hyz hyw h4 h2 h1 h0 s3 s5 syz syw)) [0, 1, 2, 3, 4] rfl) (hK.sub (tys' := [(cI, .int)]) [0] rfl) (hD.sub (ws' := (cf_35yzyw cI h3 h3a0 h5 hyz hyw h4 h2 h1 h0 s3 s5 syz syw)) [0, 1, 2, 3, 4] (by decide) rfl) hN (XH_ok.2.2.2 A s s.heap _ hS.1 hS.2.1 hXH) (va_free (wc := (cf_35yzyw cI h3 h3a0 h5 hyz hyw h4 h2 h1 h0 s3 s5 syz syw)) hD hS hA [0, 1, 2, 3, 4] rfl)) rfl rfl hl.1 rfl (lv_room (Nat.le_of_ble_eq_true rfl)) dL_phrase_228 ⟨by show (2) + 1 ≤ 3; omega, by show (12) + 6 ≤ 18; omega⟩) (fun H locs hP hD hS => ?_)
    refine lv_if_eq (tgt := 238) hx hb dL_phrase_231 (by decide) (fun c_2 => ?_) (fun c_2 => ?_)
    · have hf := it_t c_2 hf
      refine W.widen (k := 3) (n := 18) (by omega) (by omega) ?_
      exact J238 s3_1 syz_1 syw_1 _ _ hP hD hS _ (lv_sub hl [] rfl) hf
    · have hf := it_f c_2 hf
      refine lv_iconst (v := 1) hx hb dL_phrase_234 (by decide) ?_
      refine lv_goto (tgt := 239) hx hb dL_phrase_235 (by decide) ?_
      refine W.widen (k := 3) (n := 18) (by omega) (by omega) ?_
      exact J239 s3_1 syz_1 syw_1 1 _ _ hP hD hS _ (lv_sub hl [] rfl) hf
  have J217 : ∀ (s3 : S3) (syz : Syz) (syw : Syw) (H : Heap) (locs : List Loc), va_P (dC, dI) vwCl (cf_35yzyw cI h3 h3a0 h5 hyz hyw h4 h2 h1 h0 s3 s5 syz syw) H → va_D A (cf_35yzyw cI h3 h3a0 h5 hyz hyw h4 h2 h1 h0 s3 s5 syz syw) → va_S A s.heap H locs → ∀ (ls : Array Slot), lv_has ls 8 [(1, .int a1)] → fL_phrase_217 s5 a1 a4 s3 syz syw = some (r, s3f, syzf, sywf) → W p l e rmL_phrase s m ([.ref h5, .int a1, .ref hyw, .ref hyz, .int a4] : List Value).toArray below meth c H locs (2) (12) QQ (F0 m 217 ls [.ref hyz, .ref hyw, .ref h5]) := by
    intro s3 syz syw H locs hP hD hS ls hl hf
    unfold fL_phrase_217 at hf
    refine lv_bipush (v := 30) hx hb dL_phrase_217 (by decide) ?_
    refine lv_iload_n hx hb dL_phrase_219 rfl (lv_at hl 0 rfl) ?_
    refine lv_bipush (v := 12) hx hb dL_phrase_220 (by decide) ?_
    refine lv_ishr hx hb dL_phrase_222 ?_
    refine lv_iconst (v := 2) hx hb dL_phrase_223 (by decide) ?_
    obtain ⟨r_1, hc_1, hf⟩ := bn1_ok hf
    refine gc_i (wc := ([] : va_W)) (wr := (cf_35yzyw cI h3 h3a0 h5 hyz hyw h4 h2 h1 h0 s3 s5 syz syw)) (w1 := ([] : va_W)) (ws' := (cf_35yzyw cI h3 h3a0 h5 hyz hyw h4 h2 h1 h0 s3 s5 syz syw)) hP hD hS hA [] [0, 1, 2, 3, 4] [0, 1, 2, 3, 4] rfl rfl (by decide) (by decide) rfl (by decide) (va_runS (As := [.int (a1 >>> (12 &&& 31)), .int 2]) (rest := [.int 30, .ref hyz, .ref hyw, .ref h5]) ⟨hx, hb, hml, hown, hts⟩ (ktL_some l dC dI _ (a1 >>> (12 &&& 31)) 2 r_1 hc_1) (va_cwS 2 hts gL_phrase_L_some rfl rfl rfl (by decide +kernel) ⟨Nat.le_of_ble_eq_true rfl, Nat.le_of_ble_eq_true rfl⟩) (gc_S (hP.sub (ws' := ([] : va_W)) [] rfl) (hK.sub (tys' := []) [] rfl) (hD.sub (ws' := ([] : va_W)) [] (by decide) rfl) hN) rfl rfl hl.1 rfl (lv_room (Nat.le_of_ble_eq_true rfl)) dL_phrase_224 ⟨by show (2) + 0 ≤ 3; omega, by show (12) + 0 ≤ 18; omega⟩) (fun H locs hP hD hS => ?_)
    refine lv_iadd hx hb dL_phrase_227 ?_
    exact J228 s3 syz syw (30 + r_1) _ _ hP hD hS _ (lv_sub hl [] rfl) hf
  have J196 : ∀ (s3 : S3) (syz : Syz) (syw : Syw) (x7 : Int32) (H : Heap) (locs : List Loc), va_P (dC, dI) vwCl (cf_35yzyw cI h3 h3a0 h5 hyz hyw h4 h2 h1 h0 s3 s5 syz syw) H → va_D A (cf_35yzyw cI h3 h3a0 h5 hyz hyw h4 h2 h1 h0 s3 s5 syz syw) → va_S A s.heap H locs → ∀ (ls : Array Slot), lv_has ls 8 [(1, .int a1), (7, .int x7)] → fL_phrase_196 s5 a1 a4 s3 syz syw x7 = some (r, s3f, syzf, sywf) → W p l e rmL_phrase s m ([.ref h5, .int a1, .ref hyw, .ref hyz, .int a4] : List Value).toArray below meth c H locs (2) (12) QQ (F0 m 196 ls [.ref hyz, .ref hyw, .ref h5]) := by
    intro s3 syz syw x7 H locs hP hD hS ls hl hf
    unfold fL_phrase_196 at hf
    refine lv_iload hx hb dL_phrase_196 (lv_at hl 1 rfl) ?_
    refine lv_if_eq (tgt := 217) hx hb dL_phrase_198 (by decide) (fun c_1 => ?_) (fun c_1 => ?_)
    · have hf := it_t c_1 hf
      exact J217 s3 syz syw _ _ hP hD hS _ (lv_sub hl [0] rfl) hf
    · have hf := it_f c_1 hf
      refine lv_iload_n hx hb dL_phrase_201 rfl (lv_at hl 0 rfl) ?_
      refine lv_bipush (v := 14) hx hb dL_phrase_202 (by decide) ?_
      refine lv_ishr hx hb dL_phrase_204 ?_
      refine lv_iconst (v := 3) hx hb dL_phrase_205 (by decide) ?_
      obtain ⟨r_2, hc_2, hf⟩ := bn1_ok hf
      refine gc_i (wc := ([] : va_W)) (wr := (cf_35yzyw cI h3 h3a0 h5 hyz hyw h4 h2 h1 h0 s3 s5 syz syw)) (w1 := ([] : va_W)) (ws' := (cf_35yzyw cI h3 h3a0 h5 hyz hyw h4 h2 h1 h0 s3 s5 syz syw)) hP hD hS hA [] [0, 1, 2, 3, 4] [0, 1, 2, 3, 4] rfl rfl (by decide) (by decide) rfl (by decide) (va_runS (As := [.int (a1 >>> (14 &&& 31)), .int 3]) (rest := [.ref hyz, .ref hyw, .ref h5]) ⟨hx, hb, hml, hown, hts⟩ (ktL_some l dC dI _ (a1 >>> (14 &&& 31)) 3 r_2 hc_2) (va_cwS 2 hts gL_phrase_L_some rfl rfl rfl (by decide +kernel) ⟨Nat.le_of_ble_eq_true rfl, Nat.le_of_ble_eq_true rfl⟩) (gc_S (hP.sub (ws' := ([] : va_W)) [] rfl) (hK.sub (tys' := []) [] rfl) (hD.sub (ws' := ([] : va_W)) [] (by decide) rfl) hN) rfl rfl hl.1 rfl (lv_room (Nat.le_of_ble_eq_true rfl)) dL_phrase_206 ⟨by show (2) + 0 ≤ 3; omega, by show (12) + 0 ≤ 18; omega⟩) (fun H locs hP hD hS => ?_)
      refine lv_if_ne (tgt := 217) hx hb dL_phrase_209 (by decide) (fun c_3 => ?_) (fun c_3 => ?_)
      · have hf := it_f c_3 hf
        exact J217 s3 syz syw _ _ hP hD hS _ (lv_sub hl [0] rfl) hf
      · have hf := it_t c_3 hf
        refine lv_bipush (v := 17) hx hb dL_phrase_212 (by decide) ?_
        refine lv_goto (tgt := 228) hx hb dL_phrase_214 (by decide) ?_
        exact J228 s3 syz syw 17 _ _ hP hD hS _ (lv_sub hl [] rfl) hf
  have J182 : ∀ (s3 : S3) (syz : Syz) (syw : Syw) (H : Heap) (locs : List Loc), va_P (dC, dI) vwCl (cf_35yzyw cI h3 h3a0 h5 hyz hyw h4 h2 h1 h0 s3 s5 syz syw) H → va_D A (cf_35yzyw cI h3 h3a0 h5 hyz hyw h4 h2 h1 h0 s3 s5 syz syw) → va_S A s.heap H locs → ∀ (ls : Array Slot), lv_has ls 8 [(1, .int a1)] → fL_phrase_182 s5 a1 a4 s3 syz syw = some (r, s3f, syzf, sywf) → W p l e rmL_phrase s m ([.ref h5, .int a1, .ref hyw, .ref hyz, .int a4] : List Value).toArray below meth c H locs (2) (12) QQ (F0 m 182 ls [.ref hyz, .ref hyw, .ref h5]) := by
    intro s3 syz syw H locs hP hD hS ls hl hf
    unfold fL_phrase_182 at hf
    refine lv_bipush (v := 40) hx hb dL_phrase_182 (by decide) ?_
    refine lv_iload_n hx hb dL_phrase_184 rfl (lv_at hl 0 rfl) ?_
    refine lv_bipush (v := 12) hx hb dL_phrase_185 (by decide) ?_
    refine lv_ishr hx hb dL_phrase_187 ?_
    refine lv_iconst (v := 2) hx hb dL_phrase_188 (by decide) ?_
    obtain ⟨r_1, hc_1, hf⟩ := bn1_ok hf
    refine gc_i (wc := ([] : va_W)) (wr := (cf_35yzyw cI h3 h3a0 h5 hyz hyw h4 h2 h1 h0 s3 s5 syz syw)) (w1 := ([] : va_W)) (ws' := (cf_35yzyw cI h3 h3a0 h5 hyz hyw h4 h2 h1 h0 s3 s5 syz syw)) hP hD hS hA [] [0, 1, 2, 3, 4] [0, 1, 2, 3, 4] rfl rfl (by decide) (by decide) rfl (by decide) (va_runS (As := [.int (a1 >>> (12 &&& 31)), .int 2]) (rest := [.int 40, .ref hyz, .ref hyw, .ref h5]) ⟨hx, hb, hml, hown, hts⟩ (ktL_some l dC dI _ (a1 >>> (12 &&& 31)) 2 r_1 hc_1) (va_cwS 2 hts gL_phrase_L_some rfl rfl rfl (by decide +kernel) ⟨Nat.le_of_ble_eq_true rfl, Nat.le_of_ble_eq_true rfl⟩) (gc_S (hP.sub (ws' := ([] : va_W)) [] rfl) (hK.sub (tys' := []) [] rfl) (hD.sub (ws' := ([] : va_W)) [] (by decide) rfl) hN) rfl rfl hl.1 rfl (lv_room (Nat.le_of_ble_eq_true rfl)) dL_phrase_189 ⟨by show (2) + 0 ≤ 3; omega, by show (12) + 0 ≤ 18; omega⟩) (fun H locs hP hD hS => ?_)
    refine lv_iadd hx hb dL_phrase_192 ?_
    refine lv_goto (tgt := 228) hx hb dL_phrase_193 (by decide) ?_
    exact J228 s3 syz syw (40 + r_1) _ _ hP hD hS _ (lv_sub hl [] rfl) hf
  have J156 : ∀ (s3 : S3) (syz : Syz) (syw : Syw) (x5 : Int32) (x6 : Int32) (x7 : Int32) (H : Heap) (locs : List Loc), va_P (dC, dI) vwCl (cf_35yzyw cI h3 h3a0 h5 hyz hyw h4 h2 h1 h0 s3 s5 syz syw) H → va_D A (cf_35yzyw cI h3 h3a0 h5 hyz hyw h4 h2 h1 h0 s3 s5 syz syw) → va_S A s.heap H locs → ∀ (ls : Array Slot), lv_has ls 8 [(0, .ref h5), (1, .int a1), (2, .ref hyw), (3, .ref hyz), (4, .int a4), (5, .int x5), (6, .int x6), (7, .int x7)] → fL_phrase_156 s5 a1 a4 s3 syz syw x5 x6 x7 = some (r, s3f, syzf, sywf) → W p l e rmL_phrase s m ([.ref h5, .int a1, .ref hyw, .ref hyz, .int a4] : List Value).toArray below meth c H locs (2) (12) QQ (F0 m 156 ls []) := by
    intro s3 syz syw x5 x6 x7 H locs hP hD hS ls hl hf
    unfold fL_phrase_156 at hf
    refine lv_iload hx hb dL_phrase_156 (lv_at hl 6 rfl) ?_
    refine lv_if_eq (tgt := 238) hx hb dL_phrase_158 (by decide) (fun c_1 => ?_) (fun c_1 => ?_)
    · have hf := it_t c_1 hf
      refine W.widen (k := 3) (n := 18) (by omega) (by omega) ?_
      exact J238 s3 syz syw _ _ hP hD hS _ (lv_sub hl [] rfl) hf
    · have hf := it_f c_1 hf
      refine lv_aload_n hx hb dL_phrase_161 rfl (lv_at hl 0 rfl) ?_
      refine lv_aload_n hx hb dL_phrase_162 rfl (lv_at hl 2 rfl) ?_
      refine lv_aload_n hx hb dL_phrase_163 rfl (lv_at hl 3 rfl) ?_
      refine lv_iload hx hb dL_phrase_164 (lv_at hl 4 rfl) ?_
      refine lv_if_ne (tgt := 196) hx hb dL_phrase_166 (by decide) (fun c_2 => ?_) (fun c_2 => ?_)
      · have hf := it_f c_2 hf
        exact J196 s3 syz syw x7 _ _ hP hD hS _ (lv_sub hl [1, 7] rfl) hf
      · have hf := it_t c_2 hf
        refine lv_iload hx hb dL_phrase_169 (lv_at hl 5 rfl) ?_
        refine lv_iconst (v := 2) hx hb dL_phrase_171 (by decide) ?_
        refine lv_icmp_eq (tgt := 182) hx hb dL_phrase_172 (by decide) (fun c_3 => ?_) (fun c_3 => ?_)
        · have hf := it_t c_3 hf
          exact J182 s3 syz syw _ _ hP hD hS _ (lv_sub hl [1] rfl) hf
        · have hf := it_f c_3 hf
          refine lv_iload hx hb dL_phrase_175 (lv_at hl 5 rfl) ?_
          refine lv_bipush (v := 6) hx hb dL_phrase_177 (by decide) ?_
          refine lv_icmp_ge (tgt := 196) hx hb dL_phrase_179 (by decide) (fun c_4 => ?_) (fun c_4 => ?_)
          · have hf := it_t c_4 hf
            exact J196 s3 syz syw x7 _ _ hP hD hS _ (lv_sub hl [1, 7] rfl) hf
          · have hf := it_f c_4 hf
            exact J182 s3 syz syw _ _ hP hD hS _ (lv_sub hl [1] rfl) hf
  have J154 : ∀ (s3 : S3) (syz : Syz) (syw : Syw) (x5 : Int32) (x7 : Int32) (t0 : Int32) (H : Heap) (locs : List Loc), va_P (dC, dI) vwCl (cf_35yzyw cI h3 h3a0 h5 hyz hyw h4 h2 h1 h0 s3 s5 syz syw) H → va_D A (cf_35yzyw cI h3 h3a0 h5 hyz hyw h4 h2 h1 h0 s3 s5 syz syw) → va_S A s.heap H locs → ∀ (ls : Array Slot), lv_has ls 8 [(0, .ref h5), (1, .int a1), (2, .ref hyw), (3, .ref hyz), (4, .int a4), (5, .int x5), (7, .int x7)] → fL_phrase_154 s5 a1 a4 s3 syz syw x5 x7 t0 = some (r, s3f, syzf, sywf) → W p l e rmL_phrase s m ([.ref h5, .int a1, .ref hyw, .ref hyz, .int a4] : List Value).toArray below meth c H locs (2) (12) QQ (F0 m 154 ls [.int t0]) := by
    intro s3 syz syw x5 x7 t0 H locs hP hD hS ls hl hf
    unfold fL_phrase_154 at hf
    refine lv_istore (lv' := [(6, .int t0), (0, .ref h5), (1, .int a1), (2, .ref hyw), (3, .ref hyz), (4, .int a4), (5, .int x5), (7, .int x7)]) hx hb dL_phrase_154 hl (by decide) rfl (fun ls hl => ?_)
    exact J156 s3 syz syw x5 t0 x7 _ _ hP hD hS _ (lv_sub hl [1, 2, 3, 4, 5, 6, 0, 7] rfl) hf
  have J153 : ∀ (s3 : S3) (syz : Syz) (syw : Syw) (x5 : Int32) (x7 : Int32) (H : Heap) (locs : List Loc), va_P (dC, dI) vwCl (cf_35yzyw cI h3 h3a0 h5 hyz hyw h4 h2 h1 h0 s3 s5 syz syw) H → va_D A (cf_35yzyw cI h3 h3a0 h5 hyz hyw h4 h2 h1 h0 s3 s5 syz syw) → va_S A s.heap H locs → ∀ (ls : Array Slot), lv_has ls 8 [(0, .ref h5), (1, .int a1), (2, .ref hyw), (3, .ref hyz), (4, .int a4), (5, .int x5), (7, .int x7)] → fL_phrase_153 s5 a1 a4 s3 syz syw x5 x7 = some (r, s3f, syzf, sywf) → W p l e rmL_phrase s m ([.ref h5, .int a1, .ref hyw, .ref hyz, .int a4] : List Value).toArray below meth c H locs (2) (12) QQ (F0 m 153 ls []) := by
    intro s3 syz syw x5 x7 H locs hP hD hS ls hl hf
    unfold fL_phrase_153 at hf
    refine lv_iconst (v := 0) hx hb dL_phrase_153 (by decide) ?_
    exact J154 s3 syz syw x5 x7 0 _ _ hP hD hS _ (lv_sub hl [0, 1, 2, 3, 4, 5, 6] rfl) hf
  have J117 : ∀ (s3 : S3) (syz : Syz) (syw : Syw) (x5 : Int32) (x6 : Int32) (t0 : Int32) (H : Heap) (locs : List Loc), va_P (dC, dI) vwCl (cf_35yzyw cI h3 h3a0 h5 hyz hyw h4 h2 h1 h0 s3 s5 syz syw) H → va_D A (cf_35yzyw cI h3 h3a0 h5 hyz hyw h4 h2 h1 h0 s3 s5 syz syw) → va_S A s.heap H locs → ∀ (ls : Array Slot), lv_has ls 8 [(0, .ref h5), (1, .int a1), (2, .ref hyw), (3, .ref hyz), (4, .int a4), (5, .int x5), (6, .int x6)] → fL_phrase_117 s5 a1 a4 s3 syz syw x5 x6 t0 = some (r, s3f, syzf, sywf) → W p l e rmL_phrase s m ([.ref h5, .int a1, .ref hyw, .ref hyz, .int a4] : List Value).toArray below meth c H locs (1) (6) QQ (F0 m 117 ls [.int t0]) := by
    intro s3 syz syw x5 x6 t0 H locs hP hD hS ls hl hf
    unfold fL_phrase_117 at hf
    refine lv_istore (lv' := [(7, .int t0), (0, .ref h5), (1, .int a1), (2, .ref hyw), (3, .ref hyz), (4, .int a4), (5, .int x5), (6, .int x6)]) hx hb dL_phrase_117 hl (by decide) rfl (fun ls hl => ?_)
    refine lv_iload hx hb dL_phrase_119 (lv_at hl 0 rfl) ?_
    refine lv_if_eq (tgt := 156) hx hb dL_phrase_121 (by decide) (fun c_1 => ?_) (fun c_1 => ?_)
    · have hf := it_t c_1 hf
      refine W.widen (k := 2) (n := 12) (by omega) (by omega) ?_
      exact J156 s3 syz syw x5 x6 t0 _ _ hP hD hS _ (lv_sub hl [1, 2, 3, 4, 5, 6, 7, 0] rfl) hf
    · have hf := it_f c_1 hf
      refine lv_iload hx hb dL_phrase_124 (lv_at hl 7 rfl) ?_
      refine lv_if_eq (tgt := 153) hx hb dL_phrase_126 (by decide) (fun c_2 => ?_) (fun c_2 => ?_)
      · have hf := it_t c_2 hf
        refine W.widen (k := 2) (n := 12) (by omega) (by omega) ?_
        exact J153 s3 syz syw x5 t0 _ _ hP hD hS _ (lv_sub hl [1, 2, 3, 4, 5, 6, 0] rfl) hf
      · have hf := it_f c_2 hf
        refine lv_aload_n hx hb dL_phrase_129 rfl (lv_at hl 1 rfl) ?_
        refine lv_aload_n hx hb dL_phrase_130 rfl (lv_at hl 3 rfl) ?_
        refine lv_aload_n hx hb dL_phrase_131 rfl (lv_at hl 4 rfl) ?_
        refine lv_bipush (v := 20) hx hb dL_phrase_132 (by decide) ?_
        refine lv_iload_n hx hb dL_phrase_134 rfl (lv_at hl 2 rfl) ?_
        refine lv_bipush (v := 9) hx hb dL_phrase_135 (by decide) ?_
        refine lv_ishr hx hb dL_phrase_137 ?_
        refine lv_iconst (v := 2) hx hb dL_phrase_138 (by decide) ?_
        obtain ⟨r_3, hc_3, hf⟩ := bn1_ok hf
        refine gc_i (wc := ([] : va_W)) (wr := (cf_35yzyw cI h3 h3a0 h5 hyz hyw h4 h2 h1 h0 s3 s5 syz syw)) (w1 := ([] : va_W)) (ws' := (cf_35yzyw cI h3 h3a0 h5 hyz hyw h4 h2 h1 h0 s3 s5 syz syw)) hP hD hS hA [] [0, 1, 2, 3, 4] [0, 1, 2, 3, 4] rfl rfl (by decide) (by decide) rfl (by decide) (va_runS (As := [.int (a1 >>> (9 &&& 31)), .int 2]) (rest := [.int 20, .ref hyz, .ref hyw, .ref h5]) ⟨hx, hb, hml, hown, hts⟩ (ktL_some l dC dI _ (a1 >>> (9 &&& 31)) 2 r_3 hc_3) (va_cwS 2 hts gL_phrase_L_some rfl rfl rfl (by decide +kernel) ⟨Nat.le_of_ble_eq_true rfl, Nat.le_of_ble_eq_true rfl⟩) (gc_S (hP.sub (ws' := ([] : va_W)) [] rfl) (hK.sub (tys' := []) [] rfl) (hD.sub (ws' := ([] : va_W)) [] (by decide) rfl) hN) rfl rfl hl.1 rfl (lv_room (Nat.le_of_ble_eq_true rfl)) dL_phrase_139 ⟨by show (1) + 0 ≤ 3; omega, by show (6) + 0 ≤ 18; omega⟩) (fun H locs hP hD hS => ?_)
        refine lv_iadd hx hb dL_phrase_142 ?_
        obtain ⟨r_4, s3_4, syz_4, syw_4, hc_4, hf⟩ := bn4_ok hf
        refine gc_h (wc := (cf_35yzyw cI h3 h3a0 h5 hyz hyw h4 h2 h1 h0 s3 s5 syz syw)) (wr := ([] : va_W)) (w1 := (cf_35yzyw cI h3 h3a0 h5 hyz hyw h4 h2 h1 h0 s3_4 s5 syz_4 syw_4)) (ws' := (cf_35yzyw cI h3 h3a0 h5 hyz hyw h4 h2 h1 h0 s3_4 s5 syz_4 syw_4)) hP hD hS hA [0, 1, 2, 3, 4] [] [0, 1, 2, 3, 4] rfl rfl (by decide) (by decide) rfl (by decide) (va_runS (As := [.ref h5, .ref hyw, .ref hyz, .int (20 + r_3)]) (rest := []) ⟨hx, hb, hml, hown, hts⟩ (ktL_adds l hst dC dI cI h3 h3a0 h5 hyz hyw h4 h2 h1 h0 _ s3 s5 syz syw (20 + r_3) r_4 s3_4 syz_4 syw_4 hc_4) (va_cwS 4 hts gL_phrase_L_adds rfl rfl rfl (by decide +kernel) ⟨Nat.le_of_ble_eq_true rfl, Nat.le_of_ble_eq_true rfl⟩) (gl_S XH_ok (hP.sub (ws' := (cf_35yzyw cI h3 h3a0 h5 hyz hyw h4 h2 h1 h0 s3 s5 syz syw)) [0, 1, 2, 3, 4] rfl) (hK.sub (tys' := [(cI, .int)]) [0] rfl) (hD.sub (ws' := (cf_35yzyw cI h3 h3a0 h5 hyz hyw h4 h2 h1 h0 s3 s5 syz syw)) [0, 1, 2, 3, 4] (by decide) rfl) hN (XH_ok.2.2.2 A s s.heap _ hS.1 hS.2.1 hXH) (va_free (wc := (cf_35yzyw cI h3 h3a0 h5 hyz hyw h4 h2 h1 h0 s3 s5 syz syw)) hD hS hA [0, 1, 2, 3, 4] rfl)) rfl rfl hl.1 rfl (lv_room (Nat.le_of_ble_eq_true rfl)) dL_phrase_143 ⟨by show (1) + 1 ≤ 3; omega, by show (6) + 6 ≤ 18; omega⟩) (fun H locs hP hD hS => ?_)
        refine lv_if_eq (tgt := 153) hx hb dL_phrase_146 (by decide) (fun c_5 => ?_) (fun c_5 => ?_)
        · have hf := it_t c_5 hf
          refine W.widen (k := 2) (n := 12) (by omega) (by omega) ?_
          exact J153 s3_4 syz_4 syw_4 x5 t0 _ _ hP hD hS _ (lv_sub hl [1, 2, 3, 4, 5, 6, 0] rfl) hf
        · have hf := it_f c_5 hf
          refine lv_iconst (v := 1) hx hb dL_phrase_149 (by decide) ?_
          refine lv_goto (tgt := 154) hx hb dL_phrase_150 (by decide) ?_
          refine W.widen (k := 2) (n := 12) (by omega) (by omega) ?_
          exact J154 s3_4 syz_4 syw_4 x5 t0 1 _ _ hP hD hS _ (lv_sub hl [1, 2, 3, 4, 5, 6, 0] rfl) hf
  have J101 : ∀ (s3 : S3) (syz : Syz) (syw : Syw) (x5 : Int32) (x6 : Int32) (H : Heap) (locs : List Loc), va_P (dC, dI) vwCl (cf_35yzyw cI h3 h3a0 h5 hyz hyw h4 h2 h1 h0 s3 s5 syz syw) H → va_D A (cf_35yzyw cI h3 h3a0 h5 hyz hyw h4 h2 h1 h0 s3 s5 syz syw) → va_S A s.heap H locs → ∀ (ls : Array Slot), lv_has ls 8 [(0, .ref h5), (1, .int a1), (2, .ref hyw), (3, .ref hyz), (4, .int a4), (5, .int x5), (6, .int x6)] → fL_phrase_101 s5 a1 a4 s3 syz syw x5 x6 = some (r, s3f, syzf, sywf) → W p l e rmL_phrase s m ([.ref h5, .int a1, .ref hyw, .ref hyz, .int a4] : List Value).toArray below meth c H locs (1) (6) QQ (F0 m 101 ls []) := by
    intro s3 syz syw x5 x6 H locs hP hD hS ls hl hf
    unfold fL_phrase_101 at hf
    refine lv_iload_n hx hb dL_phrase_101 rfl (lv_at hl 1 rfl) ?_
    refine lv_bipush (v := 7) hx hb dL_phrase_102 (by decide) ?_
    refine lv_ishr hx hb dL_phrase_104 ?_
    refine lv_iconst (v := 2) hx hb dL_phrase_105 (by decide) ?_
    obtain ⟨r_1, hc_1, hf⟩ := bn1_ok hf
    refine gc_i (wc := ([] : va_W)) (wr := (cf_35yzyw cI h3 h3a0 h5 hyz hyw h4 h2 h1 h0 s3 s5 syz syw)) (w1 := ([] : va_W)) (ws' := (cf_35yzyw cI h3 h3a0 h5 hyz hyw h4 h2 h1 h0 s3 s5 syz syw)) hP hD hS hA [] [0, 1, 2, 3, 4] [0, 1, 2, 3, 4] rfl rfl (by decide) (by decide) rfl (by decide) (va_runS (As := [.int (a1 >>> (7 &&& 31)), .int 2]) (rest := []) ⟨hx, hb, hml, hown, hts⟩ (ktL_some l dC dI _ (a1 >>> (7 &&& 31)) 2 r_1 hc_1) (va_cwS 2 hts gL_phrase_L_some rfl rfl rfl (by decide +kernel) ⟨Nat.le_of_ble_eq_true rfl, Nat.le_of_ble_eq_true rfl⟩) (gc_S (hP.sub (ws' := ([] : va_W)) [] rfl) (hK.sub (tys' := []) [] rfl) (hD.sub (ws' := ([] : va_W)) [] (by decide) rfl) hN) rfl rfl hl.1 rfl (lv_room (Nat.le_of_ble_eq_true rfl)) dL_phrase_106 ⟨by show (1) + 0 ≤ 3; omega, by show (6) + 0 ≤ 18; omega⟩) (fun H locs hP hD hS => ?_)
    refine lv_if_ne (tgt := 116) hx hb dL_phrase_109 (by decide) (fun c_2 => ?_) (fun c_2 => ?_)
    · have hf := it_f c_2 hf
      refine lv_iconst (v := 0) hx hb dL_phrase_116 (by decide) ?_
      exact J117 s3 syz syw x5 x6 0 _ _ hP hD hS _ (lv_sub hl [0, 1, 2, 3, 4, 5, 6] rfl) hf
    · have hf := it_t c_2 hf
      refine lv_iconst (v := 1) hx hb dL_phrase_112 (by decide) ?_
      refine lv_goto (tgt := 117) hx hb dL_phrase_113 (by decide) ?_
      exact J117 s3 syz syw x5 x6 1 _ _ hP hD hS _ (lv_sub hl [0, 1, 2, 3, 4, 5, 6] rfl) hf
  have J81 : ∀ (s3 : S3) (syz : Syz) (syw : Syw) (x5 : Int32) (x6 : Int32) (H : Heap) (locs : List Loc), va_P (dC, dI) vwCl (cf_35yzyw cI h3 h3a0 h5 hyz hyw h4 h2 h1 h0 s3 s5 syz syw) H → va_D A (cf_35yzyw cI h3 h3a0 h5 hyz hyw h4 h2 h1 h0 s3 s5 syz syw) → va_S A s.heap H locs → ∀ (ls : Array Slot), lv_has ls 8 [(0, .ref h5), (1, .int a1), (2, .ref hyw), (3, .ref hyz), (4, .int a4), (5, .int x5), (6, .int x6)] → fL_phrase_81 s5 a1 a4 s3 syz syw x5 x6 = some (r, s3f, syzf, sywf) → W p l e rmL_phrase s m ([.ref h5, .int a1, .ref hyw, .ref hyz, .int a4] : List Value).toArray below meth c H locs (0) (0) QQ (F0 m 81 ls []) := by
    intro s3 syz syw x5 x6 H locs hP hD hS ls hl hf
    unfold fL_phrase_81 at hf
    refine lv_iload_n hx hb dL_phrase_81 rfl (lv_at hl 1 rfl) ?_
    refine lv_iconst (v := 4) hx hb dL_phrase_82 (by decide) ?_
    refine lv_ishr hx hb dL_phrase_83 ?_
    refine lv_iconst (v := 2) hx hb dL_phrase_84 (by decide) ?_
    obtain ⟨r_1, hc_1, hf⟩ := bn1_ok hf
    refine gc_i (wc := ([] : va_W)) (wr := (cf_35yzyw cI h3 h3a0 h5 hyz hyw h4 h2 h1 h0 s3 s5 syz syw)) (w1 := ([] : va_W)) (ws' := (cf_35yzyw cI h3 h3a0 h5 hyz hyw h4 h2 h1 h0 s3 s5 syz syw)) hP hD hS hA [] [0, 1, 2, 3, 4] [0, 1, 2, 3, 4] rfl rfl (by decide) (by decide) rfl (by decide) (va_runS (As := [.int (a1 >>> (4 &&& 31)), .int 2]) (rest := []) ⟨hx, hb, hml, hown, hts⟩ (ktL_some l dC dI _ (a1 >>> (4 &&& 31)) 2 r_1 hc_1) (va_cwS 2 hts gL_phrase_L_some rfl rfl rfl (by decide +kernel) ⟨Nat.le_of_ble_eq_true rfl, Nat.le_of_ble_eq_true rfl⟩) (gc_S (hP.sub (ws' := ([] : va_W)) [] rfl) (hK.sub (tys' := []) [] rfl) (hD.sub (ws' := ([] : va_W)) [] (by decide) rfl) hN) rfl rfl hl.1 rfl (lv_room (Nat.le_of_ble_eq_true rfl)) dL_phrase_85 ⟨by show (0) + 0 ≤ 3; omega, by show (0) + 0 ≤ 18; omega⟩) (fun H locs hP hD hS => ?_)
    refine lv_if_ne (tgt := 101) hx hb dL_phrase_88 (by decide) (fun c_2 => ?_) (fun c_2 => ?_)
    · have hf := it_f c_2 hf
      refine W.widen (k := 1) (n := 6) (by omega) (by omega) ?_
      exact J101 s3 syz syw x5 x6 _ _ hP hD hS _ (lv_sub hl [0, 1, 2, 3, 4, 5, 6] rfl) hf
    · have hf := it_t c_2 hf
      refine lv_aload_n hx hb dL_phrase_91 rfl (lv_at hl 0 rfl) ?_
      refine lv_aload_n hx hb dL_phrase_92 rfl (lv_at hl 2 rfl) ?_
      refine lv_aload_n hx hb dL_phrase_93 rfl (lv_at hl 3 rfl) ?_
      refine lv_bipush (v := 10) hx hb dL_phrase_94 (by decide) ?_
      obtain ⟨r_3, s3_3, syz_3, syw_3, hc_3, hf⟩ := bn4_ok hf
      refine gc_h (wc := (cf_35yzyw cI h3 h3a0 h5 hyz hyw h4 h2 h1 h0 s3 s5 syz syw)) (wr := ([] : va_W)) (w1 := (cf_35yzyw cI h3 h3a0 h5 hyz hyw h4 h2 h1 h0 s3_3 s5 syz_3 syw_3)) (ws' := (cf_35yzyw cI h3 h3a0 h5 hyz hyw h4 h2 h1 h0 s3_3 s5 syz_3 syw_3)) hP hD hS hA [0, 1, 2, 3, 4] [] [0, 1, 2, 3, 4] rfl rfl (by decide) (by decide) rfl (by decide) (va_runS (As := [.ref h5, .ref hyw, .ref hyz, .int 10]) (rest := []) ⟨hx, hb, hml, hown, hts⟩ (ktL_adds l hst dC dI cI h3 h3a0 h5 hyz hyw h4 h2 h1 h0 _ s3 s5 syz syw 10 r_3 s3_3 syz_3 syw_3 hc_3) (va_cwS 4 hts gL_phrase_L_adds rfl rfl rfl (by decide +kernel) ⟨Nat.le_of_ble_eq_true rfl, Nat.le_of_ble_eq_true rfl⟩) (gl_S XH_ok (hP.sub (ws' := (cf_35yzyw cI h3 h3a0 h5 hyz hyw h4 h2 h1 h0 s3 s5 syz syw)) [0, 1, 2, 3, 4] rfl) (hK.sub (tys' := [(cI, .int)]) [0] rfl) (hD.sub (ws' := (cf_35yzyw cI h3 h3a0 h5 hyz hyw h4 h2 h1 h0 s3 s5 syz syw)) [0, 1, 2, 3, 4] (by decide) rfl) hN (XH_ok.2.2.2 A s s.heap _ hS.1 hS.2.1 hXH) (va_free (wc := (cf_35yzyw cI h3 h3a0 h5 hyz hyw h4 h2 h1 h0 s3 s5 syz syw)) hD hS hA [0, 1, 2, 3, 4] rfl)) rfl rfl hl.1 rfl (lv_room (Nat.le_of_ble_eq_true rfl)) dL_phrase_96 ⟨by show (0) + 1 ≤ 3; omega, by show (0) + 6 ≤ 18; omega⟩) (fun H locs hP hD hS => ?_)
      refine lv_istore (lv' := [(6, .int r_3), (0, .ref h5), (1, .int a1), (2, .ref hyw), (3, .ref hyz), (4, .int a4), (5, .int x5)]) hx hb dL_phrase_99 hl (by decide) rfl (fun ls hl => ?_)
      refine W.widen (k := 1) (n := 6) (by omega) (by omega) ?_
      exact J101 s3_3 syz_3 syw_3 x5 r_3 _ _ hP hD hS _ (lv_sub hl [1, 2, 3, 4, 5, 6, 0] rfl) hf
  have J62 : ∀ (s3 : S3) (syz : Syz) (syw : Syw) (x5 : Int32) (H : Heap) (locs : List Loc), va_P (dC, dI) vwCl (cf_35yzyw cI h3 h3a0 h5 hyz hyw h4 h2 h1 h0 s3 s5 syz syw) H → va_D A (cf_35yzyw cI h3 h3a0 h5 hyz hyw h4 h2 h1 h0 s3 s5 syz syw) → va_S A s.heap H locs → ∀ (ls : Array Slot), lv_has ls 8 [(0, .ref h5), (1, .int a1), (2, .ref hyw), (3, .ref hyz), (4, .int a4), (5, .int x5)] → fL_phrase_62 s5 a1 a4 s3 syz syw x5 = some (r, s3f, syzf, sywf) → W p l e rmL_phrase s m ([.ref h5, .int a1, .ref hyw, .ref hyz, .int a4] : List Value).toArray below meth c H locs (0) (0) QQ (F0 m 62 ls []) := by
    intro s3 syz syw x5 H locs hP hD hS ls hl hf
    unfold fL_phrase_62 at hf
    refine lv_aload_n hx hb dL_phrase_62 rfl (lv_at hl 0 rfl) ?_
    refine lv_aload_n hx hb dL_phrase_63 rfl (lv_at hl 2 rfl) ?_
    refine lv_aload_n hx hb dL_phrase_64 rfl (lv_at hl 3 rfl) ?_
    refine lv_bipush (v := 11) hx hb dL_phrase_65 (by decide) ?_
    obtain ⟨r_1, s3_1, syz_1, syw_1, hc_1, hf⟩ := bn4_ok hf
    refine gc_h (wc := (cf_35yzyw cI h3 h3a0 h5 hyz hyw h4 h2 h1 h0 s3 s5 syz syw)) (wr := ([] : va_W)) (w1 := (cf_35yzyw cI h3 h3a0 h5 hyz hyw h4 h2 h1 h0 s3_1 s5 syz_1 syw_1)) (ws' := (cf_35yzyw cI h3 h3a0 h5 hyz hyw h4 h2 h1 h0 s3_1 s5 syz_1 syw_1)) hP hD hS hA [0, 1, 2, 3, 4] [] [0, 1, 2, 3, 4] rfl rfl (by decide) (by decide) rfl (by decide) (va_runS (As := [.ref h5, .ref hyw, .ref hyz, .int 11]) (rest := []) ⟨hx, hb, hml, hown, hts⟩ (ktL_adds l hst dC dI cI h3 h3a0 h5 hyz hyw h4 h2 h1 h0 _ s3 s5 syz syw 11 r_1 s3_1 syz_1 syw_1 hc_1) (va_cwS 4 hts gL_phrase_L_adds rfl rfl rfl (by decide +kernel) ⟨Nat.le_of_ble_eq_true rfl, Nat.le_of_ble_eq_true rfl⟩) (gl_S XH_ok (hP.sub (ws' := (cf_35yzyw cI h3 h3a0 h5 hyz hyw h4 h2 h1 h0 s3 s5 syz syw)) [0, 1, 2, 3, 4] rfl) (hK.sub (tys' := [(cI, .int)]) [0] rfl) (hD.sub (ws' := (cf_35yzyw cI h3 h3a0 h5 hyz hyw h4 h2 h1 h0 s3 s5 syz syw)) [0, 1, 2, 3, 4] (by decide) rfl) hN (XH_ok.2.2.2 A s s.heap _ hS.1 hS.2.1 hXH) (va_free (wc := (cf_35yzyw cI h3 h3a0 h5 hyz hyw h4 h2 h1 h0 s3 s5 syz syw)) hD hS hA [0, 1, 2, 3, 4] rfl)) rfl rfl hl.1 rfl (lv_room (Nat.le_of_ble_eq_true rfl)) dL_phrase_67 ⟨by show (0) + 1 ≤ 3; omega, by show (0) + 6 ≤ 18; omega⟩) (fun H locs hP hD hS => ?_)
    refine lv_istore (lv' := [(6, .int r_1), (0, .ref h5), (1, .int a1), (2, .ref hyw), (3, .ref hyz), (4, .int a4), (5, .int x5)]) hx hb dL_phrase_70 hl (by decide) rfl (fun ls hl => ?_)
    refine lv_iload hx hb dL_phrase_72 (lv_at hl 6 rfl) ?_
    refine lv_iconst (v := 3) hx hb dL_phrase_74 (by decide) ?_
    refine lv_icmp_ne (tgt := 101) hx hb dL_phrase_75 (by decide) (fun c_2 => ?_) (fun c_2 => ?_)
    · have hf := it_f c_2 hf
      refine W.widen (k := 1) (n := 6) (by omega) (by omega) ?_
      exact J101 s3_1 syz_1 syw_1 x5 r_1 _ _ hP hD hS _ (lv_sub hl [1, 2, 3, 4, 5, 6, 0] rfl) hf
    · have hf := it_t c_2 hf
      refine lv_iload hx hb dL_phrase_78 (lv_at hl 0 rfl) ?_
      obtain ⟨hz_3, hf⟩ := bo_ok hf
      have hf : (some (r_1, s3_1, syz_1, syw_1) : Option (Int32 × S3 × Syz × Syw)) = some (r, s3f, syzf, sywf) := hf
      have he := Option.some.inj hf
      have he0 : r_1 = r := congrArg (fun q => q.1) he
      have he1 : s3_1 = s3f := congrArg (fun q => q.2.1) he
      have he2 : syz_1 = syzf := congrArg (fun q => q.2.2.1) he
      have he3 : syw_1 = sywf := congrArg (fun q => q.2.2.2) he
      refine W.widen (k := 3) (n := 18) (by omega) (by omega) ?_
      exact hret _ _ _ _ _ _ hz_3 he0 (by rw [← he1, ← he2, ← he3]) dL_phrase_80 hP hD hS
  have J45 : ∀ (s3 : S3) (syz : Syz) (syw : Syw) (x5 : Int32) (x6 : Int32) (H : Heap) (locs : List Loc), va_P (dC, dI) vwCl (cf_35yzyw cI h3 h3a0 h5 hyz hyw h4 h2 h1 h0 s3 s5 syz syw) H → va_D A (cf_35yzyw cI h3 h3a0 h5 hyz hyw h4 h2 h1 h0 s3 s5 syz syw) → va_S A s.heap H locs → ∀ (ls : Array Slot), lv_has ls 8 [(0, .ref h5), (1, .int a1), (2, .ref hyw), (3, .ref hyz), (4, .int a4), (5, .int x5), (6, .int x6)] → fL_phrase_45 s5 a1 a4 s3 syz syw x5 x6 = some (r, s3f, syzf, sywf) → W p l e rmL_phrase s m ([.ref h5, .int a1, .ref hyw, .ref hyz, .int a4] : List Value).toArray below meth c H locs (0) (0) QQ (F0 m 45 ls []) := by
    intro s3 syz syw x5 x6 H locs hP hD hS ls hl hf
    unfold fL_phrase_45 at hf
    refine lv_iload hx hb dL_phrase_45 (lv_at hl 4 rfl) ?_
    refine lv_if_ne (tgt := 81) hx hb dL_phrase_47 (by decide) (fun c_1 => ?_) (fun c_1 => ?_)
    · have hf := it_f c_1 hf
      exact J81 s3 syz syw x5 x6 _ _ hP hD hS _ (lv_sub hl [0, 1, 2, 3, 4, 5, 6] rfl) hf
    · have hf := it_t c_1 hf
      refine lv_iload hx hb dL_phrase_50 (lv_at hl 5 rfl) ?_
      refine lv_iconst (v := 2) hx hb dL_phrase_52 (by decide) ?_
      refine lv_icmp_eq (tgt := 62) hx hb dL_phrase_53 (by decide) (fun c_2 => ?_) (fun c_2 => ?_)
      · have hf := it_t c_2 hf
        exact J62 s3 syz syw x5 _ _ hP hD hS _ (lv_sub hl [0, 1, 2, 3, 4, 5] rfl) hf
      · have hf := it_f c_2 hf
        refine lv_iload hx hb dL_phrase_56 (lv_at hl 5 rfl) ?_
        refine lv_iconst (v := 3) hx hb dL_phrase_58 (by decide) ?_
        refine lv_icmp_ne (tgt := 81) hx hb dL_phrase_59 (by decide) (fun c_3 => ?_) (fun c_3 => ?_)
        · have hf := it_f c_3 hf
          exact J81 s3 syz syw x5 x6 _ _ hP hD hS _ (lv_sub hl [0, 1, 2, 3, 4, 5, 6] rfl) hf
        · have hf := it_t c_3 hf
          exact J62 s3 syz syw x5 _ _ hP hD hS _ (lv_sub hl [0, 1, 2, 3, 4, 5] rfl) hf
  unfold fL_phrase at hf
  refine lv_iload_n hx hb dL_phrase_0 rfl (lv_at hl 1 rfl) ?_
  refine lv_bipush (v := 12) hx hb dL_phrase_1 (by decide) ?_
  obtain ⟨r_1, hc_1, hf⟩ := bn1_ok hf
  refine gc_i (wc := ([] : va_W)) (wr := (cf_35yzyw cI h3 h3a0 h5 hyz hyw h4 h2 h1 h0 s3 s5 syz syw)) (w1 := ([] : va_W)) (ws' := (cf_35yzyw cI h3 h3a0 h5 hyz hyw h4 h2 h1 h0 s3 s5 syz syw)) hP hD hS hA [] [0, 1, 2, 3, 4] [0, 1, 2, 3, 4] rfl rfl (by decide) (by decide) rfl (by decide) (va_runS (As := [.int a1, .int 12]) (rest := []) ⟨hx, hb, hml, hown, hts⟩ (ktL_some l dC dI _ a1 12 r_1 hc_1) (va_cwS 2 hts gL_phrase_L_some rfl rfl rfl (by decide +kernel) ⟨Nat.le_of_ble_eq_true rfl, Nat.le_of_ble_eq_true rfl⟩) (gc_S (hP.sub (ws' := ([] : va_W)) [] rfl) (hK.sub (tys' := []) [] rfl) (hD.sub (ws' := ([] : va_W)) [] (by decide) rfl) hN) rfl rfl hl.1 rfl (lv_room (Nat.le_of_ble_eq_true rfl)) dL_phrase_3 ⟨by show (0) + 0 ≤ 3; omega, by show (0) + 0 ≤ 18; omega⟩) (fun H locs hP hD hS => ?_)
  refine lv_istore (lv' := [(5, .int r_1), (0, .ref h5), (1, .int a1), (2, .ref hyw), (3, .ref hyz), (4, .int a4)]) hx hb dL_phrase_6 hl (by decide) rfl (fun ls hl => ?_)
  refine lv_iconst (v := 1) hx hb dL_phrase_8 (by decide) ?_
  refine lv_istore (lv' := [(6, .int 1), (5, .int r_1), (0, .ref h5), (1, .int a1), (2, .ref hyw), (3, .ref hyz), (4, .int a4)]) hx hb dL_phrase_9 hl (by decide) rfl (fun ls hl => ?_)
  refine lv_iload hx hb dL_phrase_11 (lv_at hl 1 rfl) ?_
  refine lv_if_ne (tgt := 25) hx hb dL_phrase_13 (by decide) (fun c_2 => ?_) (fun c_2 => ?_)
  · have hf := it_f c_2 hf
    refine lv_iload hx hb dL_phrase_25 (lv_at hl 6 rfl) ?_
    refine lv_if_ne (tgt := 45) hx hb dL_phrase_27 (by decide) (fun c_3 => ?_) (fun c_3 => ?_)
    · have hf := it_f c_3 hf
      exact J45 s3 syz syw r_1 1 _ _ hP hD hS _ (lv_sub hl [2, 3, 4, 5, 6, 1, 0] rfl) hf
    · have hf := it_t c_3 hf
      refine lv_iload hx hb dL_phrase_30 (lv_at hl 1 rfl) ?_
      refine lv_iconst (v := 1) hx hb dL_phrase_32 (by decide) ?_
      refine lv_icmp_ne (tgt := 45) hx hb dL_phrase_33 (by decide) (fun c_4 => ?_) (fun c_4 => ?_)
      · have hf := it_f c_4 hf
        exact J45 s3 syz syw r_1 1 _ _ hP hD hS _ (lv_sub hl [2, 3, 4, 5, 6, 1, 0] rfl) hf
      · have hf := it_t c_4 hf
        refine lv_aload_n hx hb dL_phrase_36 rfl (lv_at hl 2 rfl) ?_
        refine lv_aload_n hx hb dL_phrase_37 rfl (lv_at hl 4 rfl) ?_
        refine lv_aload_n hx hb dL_phrase_38 rfl (lv_at hl 5 rfl) ?_
        refine lv_bipush (v := 15) hx hb dL_phrase_39 (by decide) ?_
        obtain ⟨r_5, s3_5, syz_5, syw_5, hc_5, hf⟩ := bn4_ok hf
        refine gc_h (wc := (cf_35yzyw cI h3 h3a0 h5 hyz hyw h4 h2 h1 h0 s3 s5 syz syw)) (wr := ([] : va_W)) (w1 := (cf_35yzyw cI h3 h3a0 h5 hyz hyw h4 h2 h1 h0 s3_5 s5 syz_5 syw_5)) (ws' := (cf_35yzyw cI h3 h3a0 h5 hyz hyw h4 h2 h1 h0 s3_5 s5 syz_5 syw_5)) hP hD hS hA [0, 1, 2, 3, 4] [] [0, 1, 2, 3, 4] rfl rfl (by decide) (by decide) rfl (by decide) (va_runS (As := [.ref h5, .ref hyw, .ref hyz, .int 15]) (rest := []) ⟨hx, hb, hml, hown, hts⟩ (ktL_adds l hst dC dI cI h3 h3a0 h5 hyz hyw h4 h2 h1 h0 _ s3 s5 syz syw 15 r_5 s3_5 syz_5 syw_5 hc_5) (va_cwS 4 hts gL_phrase_L_adds rfl rfl rfl (by decide +kernel) ⟨Nat.le_of_ble_eq_true rfl, Nat.le_of_ble_eq_true rfl⟩) (gl_S XH_ok (hP.sub (ws' := (cf_35yzyw cI h3 h3a0 h5 hyz hyw h4 h2 h1 h0 s3 s5 syz syw)) [0, 1, 2, 3, 4] rfl) (hK.sub (tys' := [(cI, .int)]) [0] rfl) (hD.sub (ws' := (cf_35yzyw cI h3 h3a0 h5 hyz hyw h4 h2 h1 h0 s3 s5 syz syw)) [0, 1, 2, 3, 4] (by decide) rfl) hN (XH_ok.2.2.2 A s s.heap _ hS.1 hS.2.1 hXH) (va_free (wc := (cf_35yzyw cI h3 h3a0 h5 hyz hyw h4 h2 h1 h0 s3 s5 syz syw)) hD hS hA [0, 1, 2, 3, 4] rfl)) rfl rfl hl.1 rfl (lv_room (Nat.le_of_ble_eq_true rfl)) dL_phrase_41 ⟨by show (0) + 1 ≤ 3; omega, by show (0) + 6 ≤ 18; omega⟩) (fun H locs hP hD hS => ?_)
        obtain ⟨hz_6, hf⟩ := bo_ok hf
        have hf : (some (r_5, s3_5, syz_5, syw_5) : Option (Int32 × S3 × Syz × Syw)) = some (r, s3f, syzf, sywf) := hf
        have he := Option.some.inj hf
        have he0 : r_5 = r := congrArg (fun q => q.1) he
        have he1 : s3_5 = s3f := congrArg (fun q => q.2.1) he
        have he2 : syz_5 = syzf := congrArg (fun q => q.2.2.1) he
        have he3 : syw_5 = sywf := congrArg (fun q => q.2.2.2) he
        refine W.widen (k := 3) (n := 18) (by omega) (by omega) ?_
        exact hret _ _ _ _ _ _ hz_6 he0 (by rw [← he1, ← he2, ← he3]) dL_phrase_44 hP hD hS
  · have hf := it_t c_2 hf
    refine lv_aload_n hx hb dL_phrase_16 rfl (lv_at hl 2 rfl) ?_
    refine lv_aload_n hx hb dL_phrase_17 rfl (lv_at hl 4 rfl) ?_
    refine lv_aload_n hx hb dL_phrase_18 rfl (lv_at hl 5 rfl) ?_
    refine lv_bipush (v := 14) hx hb dL_phrase_19 (by decide) ?_
    obtain ⟨r_7, s3_7, syz_7, syw_7, hc_7, hf⟩ := bn4_ok hf
    refine gc_h (wc := (cf_35yzyw cI h3 h3a0 h5 hyz hyw h4 h2 h1 h0 s3 s5 syz syw)) (wr := ([] : va_W)) (w1 := (cf_35yzyw cI h3 h3a0 h5 hyz hyw h4 h2 h1 h0 s3_7 s5 syz_7 syw_7)) (ws' := (cf_35yzyw cI h3 h3a0 h5 hyz hyw h4 h2 h1 h0 s3_7 s5 syz_7 syw_7)) hP hD hS hA [0, 1, 2, 3, 4] [] [0, 1, 2, 3, 4] rfl rfl (by decide) (by decide) rfl (by decide) (va_runS (As := [.ref h5, .ref hyw, .ref hyz, .int 14]) (rest := []) ⟨hx, hb, hml, hown, hts⟩ (ktL_adds l hst dC dI cI h3 h3a0 h5 hyz hyw h4 h2 h1 h0 _ s3 s5 syz syw 14 r_7 s3_7 syz_7 syw_7 hc_7) (va_cwS 4 hts gL_phrase_L_adds rfl rfl rfl (by decide +kernel) ⟨Nat.le_of_ble_eq_true rfl, Nat.le_of_ble_eq_true rfl⟩) (gl_S XH_ok (hP.sub (ws' := (cf_35yzyw cI h3 h3a0 h5 hyz hyw h4 h2 h1 h0 s3 s5 syz syw)) [0, 1, 2, 3, 4] rfl) (hK.sub (tys' := [(cI, .int)]) [0] rfl) (hD.sub (ws' := (cf_35yzyw cI h3 h3a0 h5 hyz hyw h4 h2 h1 h0 s3 s5 syz syw)) [0, 1, 2, 3, 4] (by decide) rfl) hN (XH_ok.2.2.2 A s s.heap _ hS.1 hS.2.1 hXH) (va_free (wc := (cf_35yzyw cI h3 h3a0 h5 hyz hyw h4 h2 h1 h0 s3 s5 syz syw)) hD hS hA [0, 1, 2, 3, 4] rfl)) rfl rfl hl.1 rfl (lv_room (Nat.le_of_ble_eq_true rfl)) dL_phrase_21 ⟨by show (0) + 1 ≤ 3; omega, by show (0) + 6 ≤ 18; omega⟩) (fun H locs hP hD hS => ?_)
    obtain ⟨hz_8, hf⟩ := bo_ok hf
    have hf : (some (r_7, s3_7, syz_7, syw_7) : Option (Int32 × S3 × Syz × Syw)) = some (r, s3f, syzf, sywf) := hf
    have he := Option.some.inj hf
    have he0 : r_7 = r := congrArg (fun q => q.1) he
    have he1 : s3_7 = s3f := congrArg (fun q => q.2.1) he
    have he2 : syz_7 = syzf := congrArg (fun q => q.2.2.1) he
    have he3 : syw_7 = sywf := congrArg (fun q => q.2.2.2) he
    refine W.widen (k := 3) (n := 18) (by omega) (by omega) ?_
    exact hret _ _ _ _ _ _ hz_8 he0 (by rw [← he1, ← he2, ← he3]) dL_phrase_24 hP hD hS
