abbrev rmL_speaks : Room := { frames := 10, cells := 18, slots := 108, locals := 175 }
set_option maxHeartbeats 4000000 in
set_option maxRecDepth 100000 in
theorem ktL_speaks (l : Launch) (hst : l.stackTraces = false) (dC : Nat → ClassId) (dI : Nat → Nat → Nat) (b L : Nat) (xs : Nat → Int32) (cI : ClassId) (h3 h3a0 h5 hyz hyw h4 h2 h1 h0 : Nat) (sz : Nat) (s3 : S3) (s5 : S5) (syz : Syz) (syw : Syw) (a2 : Int32) (r : Int32) (s3f : S3) (syzf : Syz) (sywf : Syw) (hf : fL_speaks L xs s3 s5 syz syw a2 = some (r, s3f, syzf, sywf)) : Met l yL_speaks wsL_speaks rmL_speaks (va_Pc [.ref h5, .ref b, .int a2, .ref hyw, .ref hyz] (pre_l (XHS b L xs) (dC, dI) (cf_35yzyw cI h3 h3a0 h5 hyz hyw h4 h2 h1 h0 s3 s5 syz syw) [(cI, .int)] sz)) (va_Qi (fun (r' : Int32) (_ : Unit) => r' = r) (post_w (dC, dI) (cf_35yzyw cI h3 h3a0 h5 hyz hyw h4 h2 h1 h0 s3f s5 syzf sywf) [(cI, .int)] (va_A (cf_35yzyw cI h3 h3a0 h5 hyz hyw h4 h2 h1 h0 s3 s5 syz syw) sz)) (va_A (cf_35yzyw cI h3 h3a0 h5 hyz hyw h4 h2 h1 h0 s3 s5 syz syw) sz)) 18 108 (va_A (cf_35yzyw cI h3 h3a0 h5 hyz hyw h4 h2 h1 h0 s3 s5 syz syw) sz) := by
  refine gml (X := (XHS b L xs)) (mc := 18) (ms := 108) (ty := .boolean) (cc := cL_speaks) (maxL := 9) (by decide) rfl (Nat.le_of_ble_eq_true rfl) ?_
  intro p e s m below meth c A QQ ls hx hb hml hown hts hK hN hX hA hP hD hS hl hret
  have hXH : XH A s s.heap := hX.1
  have hXS : XS b L xs A s s.heap := hX.2
  have hown : s.vm.findClass RL = some m.cls := hown
  have hl : lv_has ls 9 [(0, .ref h5), (1, .ref b), (2, .int a2), (3, .ref hyw), (4, .ref hyz)] := hl
  have J524 : ∀ (s3 : S3) (syz : Syz) (syw : Syw) (t0 : Int32) (H : Heap) (locs : List Loc), va_P (dC, dI) vwCl (cf_35yzyw cI h3 h3a0 h5 hyz hyw h4 h2 h1 h0 s3 s5 syz syw) H → va_D A (cf_35yzyw cI h3 h3a0 h5 hyz hyw h4 h2 h1 h0 s3 s5 syz syw) → va_S A s.heap H locs → ∀ (ls : Array Slot), lv_has ls 9 [] → fL_speaks_524 L xs s5 a2 s3 syz syw t0 = some (r, s3f, syzf, sywf) → W p l e rmL_speaks s m ([.ref h5, .ref b, .int a2, .ref hyw, .ref hyz] : List Value).toArray below meth c H locs (18) (108) QQ (F0 m 524 ls [.int t0]) := by
    intro s3 syz syw t0 H locs hP hD hS ls hl hf
    unfold fL_speaks_524 at hf
    obtain ⟨hz_1, hf⟩ := bo_ok hf
    have hf : (some (t0, s3, syz, syw) : Option (Int32 × S3 × Syz × Syw)) = some (r, s3f, syzf, sywf) := hf
    have he := Option.some.inj hf
    have he0 : t0 = r := congrArg (fun q => q.1) he
    have he1 : s3 = s3f := congrArg (fun q => q.2.1) he
    have he2 : syz = syzf := congrArg (fun q => q.2.2.1) he
    have he3 : syw = sywf := congrArg (fun q => q.2.2.2) he
    exact hret _ _ _ _ _ _ hz_1 he0 (by rw [← he1, ← he2, ← he3]) dL_speaks_524 hP hD hS
  have J523 : ∀ (s3 : S3) (syz : Syz) (syw : Syw) (H : Heap) (locs : List Loc), va_P (dC, dI) vwCl (cf_35yzyw cI h3 h3a0 h5 hyz hyw h4 h2 h1 h0 s3 s5 syz syw) H → va_D A (cf_35yzyw cI h3 h3a0 h5 hyz hyw h4 h2 h1 h0 s3 s5 syz syw) → va_S A s.heap H locs → ∀ (ls : Array Slot), lv_has ls 9 [] → fL_speaks_523 L xs s5 a2 s3 syz syw = some (r, s3f, syzf, sywf) → W p l e rmL_speaks s m ([.ref h5, .ref b, .int a2, .ref hyw, .ref hyz] : List Value).toArray below meth c H locs (18) (108) QQ (F0 m 523 ls []) := by
    intro s3 syz syw H locs hP hD hS ls hl hf
    unfold fL_speaks_523 at hf
    refine lv_iconst (v := 0) hx hb dL_speaks_523 (by decide) ?_
    exact J524 s3 syz syw 0 _ _ hP hD hS _ (lv_sub hl [] rfl) hf
  have J519 : ∀ (s3 : S3) (syz : Syz) (syw : Syw) (H : Heap) (locs : List Loc), va_P (dC, dI) vwCl (cf_35yzyw cI h3 h3a0 h5 hyz hyw h4 h2 h1 h0 s3 s5 syz syw) H → va_D A (cf_35yzyw cI h3 h3a0 h5 hyz hyw h4 h2 h1 h0 s3 s5 syz syw) → va_S A s.heap H locs → ∀ (ls : Array Slot), lv_has ls 9 [] → fL_speaks_519 L xs s5 a2 s3 syz syw = some (r, s3f, syzf, sywf) → W p l e rmL_speaks s m ([.ref h5, .ref b, .int a2, .ref hyw, .ref hyz] : List Value).toArray below meth c H locs (18) (108) QQ (F0 m 519 ls []) := by
    intro s3 syz syw H locs hP hD hS ls hl hf
    unfold fL_speaks_519 at hf
    refine lv_iconst (v := 1) hx hb dL_speaks_519 (by decide) ?_
    refine lv_goto (tgt := 524) hx hb dL_speaks_520 (by decide) ?_
    exact J524 s3 syz syw 1 _ _ hP hD hS _ (lv_sub hl [] rfl) hf
  have J485 : ∀ (s3 : S3) (syz : Syz) (syw : Syw) (x5 : Int32) (x6 : Int32) (x8 : Int32) (H : Heap) (locs : List Loc), va_P (dC, dI) vwCl (cf_35yzyw cI h3 h3a0 h5 hyz hyw h4 h2 h1 h0 s3 s5 syz syw) H → va_D A (cf_35yzyw cI h3 h3a0 h5 hyz hyw h4 h2 h1 h0 s3 s5 syz syw) → va_S A s.heap H locs → ∀ (ls : Array Slot), lv_has ls 9 [(0, .ref h5), (3, .ref hyw), (4, .ref hyz), (5, .int x5), (6, .int x6), (8, .int x8)] → fL_speaks_485 L xs s5 a2 s3 syz syw x5 x6 x8 = some (r, s3f, syzf, sywf) → W p l e rmL_speaks s m ([.ref h5, .ref b, .int a2, .ref hyw, .ref hyz] : List Value).toArray below meth c H locs (17) (102) QQ (F0 m 485 ls []) := by
    intro s3 syz syw x5 x6 x8 H locs hP hD hS ls hl hf
    unfold fL_speaks_485 at hf
    refine lv_iload hx hb dL_speaks_485 (lv_at hl 4 rfl) ?_
    refine lv_if_eq (tgt := 523) hx hb dL_speaks_487 (by decide) (fun c_1 => ?_) (fun c_1 => ?_)
    · have hf := it_t c_1 hf
      refine W.widen (k := 18) (n := 108) (by omega) (by omega) ?_
      exact J523 s3 syz syw _ _ hP hD hS _ (lv_sub hl [] rfl) hf
    · have hf := it_f c_1 hf
      refine lv_iload hx hb dL_speaks_490 (lv_at hl 5 rfl) ?_
      refine lv_iconst (v := 1) hx hb dL_speaks_492 (by decide) ?_
      refine lv_icmp_ne (tgt := 519) hx hb dL_speaks_493 (by decide) (fun c_2 => ?_) (fun c_2 => ?_)
      · have hf := it_f c_2 hf
        refine W.widen (k := 18) (n := 108) (by omega) (by omega) ?_
        exact J519 s3 syz syw _ _ hP hD hS _ (lv_sub hl [] rfl) hf
      · have hf := it_t c_2 hf
        refine lv_aload_n hx hb dL_speaks_496 rfl (lv_at hl 0 rfl) ?_
        refine lv_aload_n hx hb dL_speaks_497 rfl (lv_at hl 1 rfl) ?_
        refine lv_aload hx hb dL_speaks_498 (lv_at hl 2 rfl) ?_
        refine lv_bipush (v := 10) hx hb dL_speaks_500 (by decide) ?_
        refine lv_iload hx hb dL_speaks_502 (lv_at hl 3 rfl) ?_
        refine lv_bipush (v := 10) hx hb dL_speaks_504 (by decide) ?_
        refine lv_ishr hx hb dL_speaks_506 ?_
        refine lv_bipush (v := 8) hx hb dL_speaks_507 (by decide) ?_
        obtain ⟨r_3, hc_3, hf⟩ := bn1_ok hf
        refine gc_i (wc := ([] : va_W)) (wr := (cf_35yzyw cI h3 h3a0 h5 hyz hyw h4 h2 h1 h0 s3 s5 syz syw)) (w1 := ([] : va_W)) (ws' := (cf_35yzyw cI h3 h3a0 h5 hyz hyw h4 h2 h1 h0 s3 s5 syz syw)) hP hD hS hA [] [0, 1, 2, 3, 4] [0, 1, 2, 3, 4] rfl rfl (by decide) (by decide) rfl (by decide) (va_runS (As := [.int (x5 >>> (10 &&& 31)), .int 8]) (rest := [.int 10, .ref hyz, .ref hyw, .ref h5]) ⟨hx, hb, hml, hown, hts⟩ (ktL_some l dC dI _ (x5 >>> (10 &&& 31)) 8 r_3 hc_3) (va_cwS 2 hts gL_speaks_L_some rfl rfl rfl (by decide +kernel) ⟨Nat.le_of_ble_eq_true rfl, Nat.le_of_ble_eq_true rfl⟩) (gc_S (hP.sub (ws' := ([] : va_W)) [] rfl) (hK.sub (tys' := []) [] rfl) (hD.sub (ws' := ([] : va_W)) [] (by decide) rfl) hN) rfl rfl hl.1 rfl (lv_room (Nat.le_of_ble_eq_true rfl)) dL_speaks_509 ⟨by show (17) + 0 ≤ 18; omega, by show (102) + 0 ≤ 108; omega⟩) (fun H locs hP hD hS => ?_)
        refine lv_iadd hx hb dL_speaks_512 ?_
        obtain ⟨r_4, s3_4, syz_4, syw_4, hc_4, hf⟩ := bn4_ok hf
        refine gc_h (wc := (cf_35yzyw cI h3 h3a0 h5 hyz hyw h4 h2 h1 h0 s3 s5 syz syw)) (wr := ([] : va_W)) (w1 := (cf_35yzyw cI h3 h3a0 h5 hyz hyw h4 h2 h1 h0 s3_4 s5 syz_4 syw_4)) (ws' := (cf_35yzyw cI h3 h3a0 h5 hyz hyw h4 h2 h1 h0 s3_4 s5 syz_4 syw_4)) hP hD hS hA [0, 1, 2, 3, 4] [] [0, 1, 2, 3, 4] rfl rfl (by decide) (by decide) rfl (by decide) (va_runS (As := [.ref h5, .ref hyw, .ref hyz, .int (10 + r_3)]) (rest := []) ⟨hx, hb, hml, hown, hts⟩ (ktL_adds l hst dC dI cI h3 h3a0 h5 hyz hyw h4 h2 h1 h0 _ s3 s5 syz syw (10 + r_3) r_4 s3_4 syz_4 syw_4 hc_4) (va_cwS 4 hts gL_speaks_L_adds rfl rfl rfl (by decide +kernel) ⟨Nat.le_of_ble_eq_true rfl, Nat.le_of_ble_eq_true rfl⟩) (gl_S XH_ok (hP.sub (ws' := (cf_35yzyw cI h3 h3a0 h5 hyz hyw h4 h2 h1 h0 s3 s5 syz syw)) [0, 1, 2, 3, 4] rfl) (hK.sub (tys' := [(cI, .int)]) [0] rfl) (hD.sub (ws' := (cf_35yzyw cI h3 h3a0 h5 hyz hyw h4 h2 h1 h0 s3 s5 syz syw)) [0, 1, 2, 3, 4] (by decide) rfl) hN (XH_ok.2.2.2 A s s.heap _ hS.1 hS.2.1 hXH) (va_free (wc := (cf_35yzyw cI h3 h3a0 h5 hyz hyw h4 h2 h1 h0 s3 s5 syz syw)) hD hS hA [0, 1, 2, 3, 4] rfl)) rfl rfl hl.1 rfl (lv_room (Nat.le_of_ble_eq_true rfl)) dL_speaks_513 ⟨by show (17) + 1 ≤ 18; omega, by show (102) + 6 ≤ 108; omega⟩) (fun H locs hP hD hS => ?_)
        refine lv_if_eq (tgt := 523) hx hb dL_speaks_516 (by decide) (fun c_5 => ?_) (fun c_5 => ?_)
        · have hf := it_t c_5 hf
          refine W.widen (k := 18) (n := 108) (by omega) (by omega) ?_
          exact J523 s3_4 syz_4 syw_4 _ _ hP hD hS _ (lv_sub hl [] rfl) hf
        · have hf := it_f c_5 hf
          refine W.widen (k := 18) (n := 108) (by omega) (by omega) ?_
          exact J519 s3_4 syz_4 syw_4 _ _ hP hD hS _ (lv_sub hl [] rfl) hf
  have J483 : ∀ (s3 : S3) (syz : Syz) (syw : Syw) (x5 : Int32) (x8 : Int32) (t0 : Int32) (H : Heap) (locs : List Loc), va_P (dC, dI) vwCl (cf_35yzyw cI h3 h3a0 h5 hyz hyw h4 h2 h1 h0 s3 s5 syz syw) H → va_D A (cf_35yzyw cI h3 h3a0 h5 hyz hyw h4 h2 h1 h0 s3 s5 syz syw) → va_S A s.heap H locs → ∀ (ls : Array Slot), lv_has ls 9 [(0, .ref h5), (3, .ref hyw), (4, .ref hyz), (5, .int x5), (8, .int x8)] → fL_speaks_483 L xs s5 a2 s3 syz syw x5 x8 t0 = some (r, s3f, syzf, sywf) → W p l e rmL_speaks s m ([.ref h5, .ref b, .int a2, .ref hyw, .ref hyz] : List Value).toArray below meth c H locs (17) (102) QQ (F0 m 483 ls [.int t0]) := by
    intro s3 syz syw x5 x8 t0 H locs hP hD hS ls hl hf
    unfold fL_speaks_483 at hf
    refine lv_istore (lv' := [(6, .int t0), (0, .ref h5), (3, .ref hyw), (4, .ref hyz), (5, .int x5), (8, .int x8)]) hx hb dL_speaks_483 hl (by decide) rfl (fun ls hl => ?_)
    exact J485 s3 syz syw x5 t0 x8 _ _ hP hD hS _ (lv_sub hl [1, 2, 3, 4, 0, 5] rfl) hf
  have J482 : ∀ (s3 : S3) (syz : Syz) (syw : Syw) (x5 : Int32) (x8 : Int32) (H : Heap) (locs : List Loc), va_P (dC, dI) vwCl (cf_35yzyw cI h3 h3a0 h5 hyz hyw h4 h2 h1 h0 s3 s5 syz syw) H → va_D A (cf_35yzyw cI h3 h3a0 h5 hyz hyw h4 h2 h1 h0 s3 s5 syz syw) → va_S A s.heap H locs → ∀ (ls : Array Slot), lv_has ls 9 [(0, .ref h5), (3, .ref hyw), (4, .ref hyz), (5, .int x5), (8, .int x8)] → fL_speaks_482 L xs s5 a2 s3 syz syw x5 x8 = some (r, s3f, syzf, sywf) → W p l e rmL_speaks s m ([.ref h5, .ref b, .int a2, .ref hyw, .ref hyz] : List Value).toArray below meth c H locs (17) (102) QQ (F0 m 482 ls []) := by
    intro s3 syz syw x5 x8 H locs hP hD hS ls hl hf
    unfold fL_speaks_482 at hf
    refine lv_iconst (v := 0) hx hb dL_speaks_482 (by decide) ?_
    exact J483 s3 syz syw x5 x8 0 _ _ hP hD hS _ (lv_sub hl [0, 1, 2, 3, 4] rfl) hf
  have J435 : ∀ (s3 : S3) (syz : Syz) (syw : Syw) (x5 : Int32) (x6 : Int32) (H : Heap) (locs : List Loc), va_P (dC, dI) vwCl (cf_35yzyw cI h3 h3a0 h5 hyz hyw h4 h2 h1 h0 s3 s5 syz syw) H → va_D A (cf_35yzyw cI h3 h3a0 h5 hyz hyw h4 h2 h1 h0 s3 s5 syz syw) → va_S A s.heap H locs → ∀ (ls : Array Slot), lv_has ls 9 [(0, .ref h5), (3, .ref hyw), (4, .ref hyz), (5, .int x5), (6, .int x6)] → fL_speaks_435 L xs s5 a2 s3 syz syw x5 x6 = some (r, s3f, syzf, sywf) → W p l e rmL_speaks s m ([.ref h5, .ref b, .int a2, .ref hyw, .ref hyz] : List Value).toArray below meth c H locs (16) (96) QQ (F0 m 435 ls []) := by
    intro s3 syz syw x5 x6 H locs hP hD hS ls hl hf
    unfold fL_speaks_435 at hf
    refine lv_iload hx hb dL_speaks_435 (lv_at hl 3 rfl) ?_
    refine lv_bipush (v := 15) hx hb dL_speaks_437 (by decide) ?_
    refine lv_ishr hx hb dL_speaks_439 ?_
    refine lv_bipush (v := 12) hx hb dL_speaks_440 (by decide) ?_
    obtain ⟨r_1, hc_1, hf⟩ := bn1_ok hf
    refine gc_i (wc := ([] : va_W)) (wr := (cf_35yzyw cI h3 h3a0 h5 hyz hyw h4 h2 h1 h0 s3 s5 syz syw)) (w1 := ([] : va_W)) (ws' := (cf_35yzyw cI h3 h3a0 h5 hyz hyw h4 h2 h1 h0 s3 s5 syz syw)) hP hD hS hA [] [0, 1, 2, 3, 4] [0, 1, 2, 3, 4] rfl rfl (by decide) (by decide) rfl (by decide) (va_runS (As := [.int (x5 >>> (15 &&& 31)), .int 12]) (rest := []) ⟨hx, hb, hml, hown, hts⟩ (ktL_some l dC dI _ (x5 >>> (15 &&& 31)) 12 r_1 hc_1) (va_cwS 2 hts gL_speaks_L_some rfl rfl rfl (by decide +kernel) ⟨Nat.le_of_ble_eq_true rfl, Nat.le_of_ble_eq_true rfl⟩) (gc_S (hP.sub (ws' := ([] : va_W)) [] rfl) (hK.sub (tys' := []) [] rfl) (hD.sub (ws' := ([] : va_W)) [] (by decide) rfl) hN) rfl rfl hl.1 rfl (lv_room (Nat.le_of_ble_eq_true rfl)) dL_speaks_442 ⟨by show (16) + 0 ≤ 18; omega, by show (96) + 0 ≤ 108; omega⟩) (fun H locs hP hD hS => ?_)
    refine lv_istore (lv' := [(8, .int r_1), (0, .ref h5), (3, .ref hyw), (4, .ref hyz), (5, .int x5), (6, .int x6)]) hx hb dL_speaks_445 hl (by decide) rfl (fun ls hl => ?_)
    refine lv_iload hx hb dL_speaks_447 (lv_at hl 0 rfl) ?_
    refine lv_if_ne (tgt := 485) hx hb dL_speaks_449 (by decide) (fun c_2 => ?_) (fun c_2 => ?_)
    · have hf := it_f c_2 hf
      refine W.widen (k := 17) (n := 102) (by omega) (by omega) ?_
      exact J485 s3 syz syw x5 x6 r_1 _ _ hP hD hS _ (lv_sub hl [1, 2, 3, 4, 5, 0] rfl) hf
    · have hf := it_t c_2 hf
      refine lv_aload hx hb dL_speaks_452 (lv_at hl 3 rfl) ?_
      refine lv_iconst (v := 1) hx hb dL_speaks_454 (by decide) ?_
      refine lv_dup2_11 hx hb dL_speaks_455 rfl rfl ?_
      obtain ⟨hi_3, hf⟩ := ai_ok hf
      refine va_iald (n := 13) (f := syz) hx hb hK hP 3 0 rfl rfl hi_3 dL_speaks_456 ?_
      refine lv_iconst (v := 1) hx hb dL_speaks_457 (by decide) ?_
      refine lv_isub hx hb dL_speaks_458 ?_
      obtain ⟨hi_4, hf⟩ := ai_ok hf
      refine va_iast (n := 13) (f := syz) hx hb hK hP hD hS 3 0 rfl rfl hi_4 dL_speaks_459 (fun H locs hP hD hS => ?_)
      have hP : va_P (dC, dI) vwCl (cf_35yzyw cI h3 h3a0 h5 hyz hyw h4 h2 h1 h0 s3 s5 (upd syz (1 : Int32).toNatClampNeg ((syz (1 : Int32).toNatClampNeg) - 1)) syw) H := hP
      have hD : va_D A (cf_35yzyw cI h3 h3a0 h5 hyz hyw h4 h2 h1 h0 s3 s5 (upd syz (1 : Int32).toNatClampNeg ((syz (1 : Int32).toNatClampNeg) - 1)) syw) := hD
      refine lv_iload hx hb dL_speaks_460 (lv_at hl 5 rfl) ?_
      refine lv_if_eq (tgt := 482) hx hb dL_speaks_462 (by decide) (fun c_5 => ?_) (fun c_5 => ?_)
      · have hf := it_t c_5 hf
        refine W.widen (k := 17) (n := 102) (by omega) (by omega) ?_
        exact J482 s3 (upd syz (1 : Int32).toNatClampNeg ((syz (1 : Int32).toNatClampNeg) - 1)) syw x5 r_1 _ _ hP hD hS _ (lv_sub hl [1, 2, 3, 4, 0] rfl) hf
      · have hf := it_f c_5 hf
        refine lv_aload_n hx hb dL_speaks_465 rfl (lv_at hl 1 rfl) ?_
        obtain ⟨r_6, s3_6, hc_6, hf⟩ := bn2_ok hf
        refine gc_h (wc := (cf_35 cI h3 h3a0 h5 h4 h2 h1 h0 s3 s5)) (wr := (cf_yzyw cI hyz hyw (upd syz (1 : Int32).toNatClampNeg ((syz (1 : Int32).toNatClampNeg) - 1)) syw)) (w1 := (cf_35 cI h3 h3a0 h5 h4 h2 h1 h0 s3_6 s5)) (ws' := (cf_35yzyw cI h3 h3a0 h5 hyz hyw h4 h2 h1 h0 s3_6 s5 (upd syz (1 : Int32).toNatClampNeg ((syz (1 : Int32).toNatClampNeg) - 1)) syw)) hP hD hS hA [0, 1, 2] [3, 4] [2, 3, 4, 0, 1] rfl rfl (by decide) (by decide) rfl (by decide) (vx_runSW (As := [.ref h5]) (rest := []) ⟨hx, hb, hml, hown, hts⟩ (ktL_backed l hst dC dI cI h3 h3a0 h5 h4 h2 h1 h0 _ s3 s5 r_6 s3_6 hc_6) (vx_cwSW 1 hts gL_speaks_L_backed rfl rfl rfl (by decide +kernel) ⟨Nat.le_of_ble_eq_true rfl, Nat.le_of_ble_eq_true rfl⟩) (gl_S XH_ok (hP.sub (ws' := (cf_35 cI h3 h3a0 h5 h4 h2 h1 h0 s3 s5)) [0, 1, 2] rfl) (hK.sub (tys' := [(cI, .int)]) [0] rfl) (hD.sub (ws' := (cf_35 cI h3 h3a0 h5 h4 h2 h1 h0 s3 s5)) [0, 1, 2] (by decide) rfl) hN (XH_ok.2.2.2 A s s.heap _ hS.1 hS.2.1 hXH) (va_free (wc := (cf_35 cI h3 h3a0 h5 h4 h2 h1 h0 s3 s5)) hD hS hA [0, 1, 2] rfl)) rfl rfl hl.1 rfl (lv_room (Nat.le_of_ble_eq_true rfl)) dL_speaks_466 ⟨by show (16) + 1 ≤ 18; omega, by show (96) + 6 ≤ 108; omega⟩) (fun H locs hP hD hS => ?_)
        refine lv_aload_n hx hb dL_speaks_469 rfl (lv_at hl 2 rfl) ?_
        refine lv_aload hx hb dL_speaks_470 (lv_at hl 3 rfl) ?_
        refine lv_iconst (v := 1) hx hb dL_speaks_472 (by decide) ?_
        obtain ⟨hi_7, hf⟩ := ai_ok hf
        refine va_iald (n := 13) (f := (upd syz (1 : Int32).toNatClampNeg ((syz (1 : Int32).toNatClampNeg) - 1))) hx hb hK hP 3 0 rfl rfl hi_7 dL_speaks_473 ?_
        obtain ⟨hi_8, hf⟩ := ai_ok hf
        refine va_iald (n := 24) (f := syw) hx hb hK hP 4 0 rfl rfl hi_8 dL_speaks_474 ?_
        refine lv_icmp_ne (tgt := 482) hx hb dL_speaks_475 (by decide) (fun c_9 => ?_) (fun c_9 => ?_)
        · have hf := it_f c_9 hf
          refine W.widen (k := 17) (n := 102) (by omega) (by omega) ?_
          exact J482 s3_6 (upd syz (1 : Int32).toNatClampNeg ((syz (1 : Int32).toNatClampNeg) - 1)) syw x5 r_1 _ _ hP hD hS _ (lv_sub hl [1, 2, 3, 4, 0] rfl) hf
        · have hf := it_t c_9 hf
          refine lv_iconst (v := 1) hx hb dL_speaks_478 (by decide) ?_
          refine lv_goto (tgt := 483) hx hb dL_speaks_479 (by decide) ?_
          refine W.widen (k := 17) (n := 102) (by omega) (by omega) ?_
          exact J483 s3_6 (upd syz (1 : Int32).toNatClampNeg ((syz (1 : Int32).toNatClampNeg) - 1)) syw x5 r_1 1 _ _ hP hD hS _ (lv_sub hl [1, 2, 3, 4, 0] rfl) hf
  have J433 : ∀ (s3 : S3) (syz : Syz) (syw : Syw) (x5 : Int32) (t0 : Int32) (H : Heap) (locs : List Loc), va_P (dC, dI) vwCl (cf_35yzyw cI h3 h3a0 h5 hyz hyw h4 h2 h1 h0 s3 s5 syz syw) H → va_D A (cf_35yzyw cI h3 h3a0 h5 hyz hyw h4 h2 h1 h0 s3 s5 syz syw) → va_S A s.heap H locs → ∀ (ls : Array Slot), lv_has ls 9 [(0, .ref h5), (3, .ref hyw), (4, .ref hyz), (5, .int x5)] → fL_speaks_433 L xs s5 a2 s3 syz syw x5 t0 = some (r, s3f, syzf, sywf) → W p l e rmL_speaks s m ([.ref h5, .ref b, .int a2, .ref hyw, .ref hyz] : List Value).toArray below meth c H locs (16) (96) QQ (F0 m 433 ls [.int t0]) := by
    intro s3 syz syw x5 t0 H locs hP hD hS ls hl hf
    unfold fL_speaks_433 at hf
    refine lv_istore (lv' := [(6, .int t0), (0, .ref h5), (3, .ref hyw), (4, .ref hyz), (5, .int x5)]) hx hb dL_speaks_433 hl (by decide) rfl (fun ls hl => ?_)
    exact J435 s3 syz syw x5 t0 _ _ hP hD hS _ (lv_sub hl [1, 2, 3, 4, 0] rfl) hf
  have J432 : ∀ (s3 : S3) (syz : Syz) (syw : Syw) (x5 : Int32) (H : Heap) (locs : List Loc), va_P (dC, dI) vwCl (cf_35yzyw cI h3 h3a0 h5 hyz hyw h4 h2 h1 h0 s3 s5 syz syw) H → va_D A (cf_35yzyw cI h3 h3a0 h5 hyz hyw h4 h2 h1 h0 s3 s5 syz syw) → va_S A s.heap H locs → ∀ (ls : Array Slot), lv_has ls 9 [(0, .ref h5), (3, .ref hyw), (4, .ref hyz), (5, .int x5)] → fL_speaks_432 L xs s5 a2 s3 syz syw x5 = some (r, s3f, syzf, sywf) → W p l e rmL_speaks s m ([.ref h5, .ref b, .int a2, .ref hyw, .ref hyz] : List Value).toArray below meth c H locs (16) (96) QQ (F0 m 432 ls []) := by
    intro s3 syz syw x5 H locs hP hD hS ls hl hf
    unfold fL_speaks_432 at hf
    refine lv_iconst (v := 0) hx hb dL_speaks_432 (by decide) ?_
    exact J433 s3 syz syw x5 0 _ _ hP hD hS _ (lv_sub hl [0, 1, 2, 3] rfl) hf
  have J374 : ∀ (s3 : S3) (syz : Syz) (syw : Syw) (x5 : Int32) (x6 : Int32) (x7 : Int32) (H : Heap) (locs : List Loc), va_P (dC, dI) vwCl (cf_35yzyw cI h3 h3a0 h5 hyz hyw h4 h2 h1 h0 s3 s5 syz syw) H → va_D A (cf_35yzyw cI h3 h3a0 h5 hyz hyw h4 h2 h1 h0 s3 s5 syz syw) → va_S A s.heap H locs → ∀ (ls : Array Slot), lv_has ls 9 [(0, .ref h5), (1, .ref b), (2, .int a2), (3, .ref hyw), (4, .ref hyz), (5, .int x5), (6, .int x6), (7, .int x7)] → fL_speaks_374 L xs s5 a2 s3 syz syw x5 x6 x7 = some (r, s3f, syzf, sywf) → W p l e rmL_speaks s m ([.ref h5, .ref b, .int a2, .ref hyw, .ref hyz] : List Value).toArray below meth c H locs (12) (72) QQ (F0 m 374 ls []) := by
    intro s3 syz syw x5 x6 x7 H locs hP hD hS ls hl hf
    unfold fL_speaks_374 at hf
    refine lv_iload hx hb dL_speaks_374 (lv_at hl 7 rfl) ?_
    refine lv_iconst (v := 2) hx hb dL_speaks_376 (by decide) ?_
    refine lv_icmp_ne (tgt := 435) hx hb dL_speaks_377 (by decide) (fun c_1 => ?_) (fun c_1 => ?_)
    · have hf := it_f c_1 hf
      refine W.widen (k := 16) (n := 96) (by omega) (by omega) ?_
      exact J435 s3 syz syw x5 x6 _ _ hP hD hS _ (lv_sub hl [0, 3, 4, 5, 6] rfl) hf
    · have hf := it_t c_1 hf
      refine lv_iload hx hb dL_speaks_380 (lv_at hl 5 rfl) ?_
      refine lv_bipush (v := 14) hx hb dL_speaks_382 (by decide) ?_
      refine lv_ishr hx hb dL_speaks_384 ?_
      refine lv_bipush (v := 9) hx hb dL_speaks_385 (by decide) ?_
      obtain ⟨r_2, hc_2, hf⟩ := bn1_ok hf
      refine gc_i (wc := ([] : va_W)) (wr := (cf_35yzyw cI h3 h3a0 h5 hyz hyw h4 h2 h1 h0 s3 s5 syz syw)) (w1 := ([] : va_W)) (ws' := (cf_35yzyw cI h3 h3a0 h5 hyz hyw h4 h2 h1 h0 s3 s5 syz syw)) hP hD hS hA [] [0, 1, 2, 3, 4] [0, 1, 2, 3, 4] rfl rfl (by decide) (by decide) rfl (by decide) (va_runS (As := [.int (x5 >>> (14 &&& 31)), .int 9]) (rest := []) ⟨hx, hb, hml, hown, hts⟩ (ktL_some l dC dI _ (x5 >>> (14 &&& 31)) 9 r_2 hc_2) (va_cwS 2 hts gL_speaks_L_some rfl rfl rfl (by decide +kernel) ⟨Nat.le_of_ble_eq_true rfl, Nat.le_of_ble_eq_true rfl⟩) (gc_S (hP.sub (ws' := ([] : va_W)) [] rfl) (hK.sub (tys' := []) [] rfl) (hD.sub (ws' := ([] : va_W)) [] (by decide) rfl) hN) rfl rfl hl.1 rfl (lv_room (Nat.le_of_ble_eq_true rfl)) dL_speaks_387 ⟨by show (12) + 0 ≤ 18; omega, by show (72) + 0 ≤ 108; omega⟩) (fun H locs hP hD hS => ?_)
      refine lv_if_le (tgt := 435) hx hb dL_speaks_390 (by decide) (fun c_3 => ?_) (fun c_3 => ?_)
      · have hf := it_t c_3 hf
        refine W.widen (k := 16) (n := 96) (by omega) (by omega) ?_
        exact J435 s3 syz syw x5 x6 _ _ hP hD hS _ (lv_sub hl [0, 3, 4, 5, 6] rfl) hf
      · have hf := it_f c_3 hf
        refine lv_iload hx hb dL_speaks_393 (lv_at hl 6 rfl) ?_
        refine lv_if_eq (tgt := 432) hx hb dL_speaks_395 (by decide) (fun c_4 => ?_) (fun c_4 => ?_)
        · have hf := it_t c_4 hf
          refine W.widen (k := 16) (n := 96) (by omega) (by omega) ?_
          exact J432 s3 syz syw x5 _ _ hP hD hS _ (lv_sub hl [0, 3, 4, 5] rfl) hf
        · have hf := it_f c_4 hf
          refine lv_aload_n hx hb dL_speaks_398 rfl (lv_at hl 0 rfl) ?_
          refine lv_aload_n hx hb dL_speaks_399 rfl (lv_at hl 3 rfl) ?_
          refine lv_aload hx hb dL_speaks_400 (lv_at hl 4 rfl) ?_
          refine lv_bipush (v := 16) hx hb dL_speaks_402 (by decide) ?_
          obtain ⟨r_5, s3_5, syz_5, syw_5, hc_5, hf⟩ := bn4_ok hf
          refine gc_h (wc := (cf_35yzyw cI h3 h3a0 h5 hyz hyw h4 h2 h1 h0 s3 s5 syz syw)) (wr := ([] : va_W)) (w1 := (cf_35yzyw cI h3 h3a0 h5 hyz hyw h4 h2 h1 h0 s3_5 s5 syz_5 syw_5)) (ws' := (cf_35yzyw cI h3 h3a0 h5 hyz hyw h4 h2 h1 h0 s3_5 s5 syz_5 syw_5)) hP hD hS hA [0, 1, 2, 3, 4] [] [0, 1, 2, 3, 4] rfl rfl (by decide) (by decide) rfl (by decide) (va_runS (As := [.ref h5, .ref hyw, .ref hyz, .int 16]) (rest := []) ⟨hx, hb, hml, hown, hts⟩ (ktL_adds l hst dC dI cI h3 h3a0 h5 hyz hyw h4 h2 h1 h0 _ s3 s5 syz syw 16 r_5 s3_5 syz_5 syw_5 hc_5) (va_cwS 4 hts gL_speaks_L_adds rfl rfl rfl (by decide +kernel) ⟨Nat.le_of_ble_eq_true rfl, Nat.le_of_ble_eq_true rfl⟩) (gl_S XH_ok (hP.sub (ws' := (cf_35yzyw cI h3 h3a0 h5 hyz hyw h4 h2 h1 h0 s3 s5 syz syw)) [0, 1, 2, 3, 4] rfl) (hK.sub (tys' := [(cI, .int)]) [0] rfl) (hD.sub (ws' := (cf_35yzyw cI h3 h3a0 h5 hyz hyw h4 h2 h1 h0 s3 s5 syz syw)) [0, 1, 2, 3, 4] (by decide) rfl) hN (XH_ok.2.2.2 A s s.heap _ hS.1 hS.2.1 hXH) (va_free (wc := (cf_35yzyw cI h3 h3a0 h5 hyz hyw h4 h2 h1 h0 s3 s5 syz syw)) hD hS hA [0, 1, 2, 3, 4] rfl)) rfl rfl hl.1 rfl (lv_room (Nat.le_of_ble_eq_true rfl)) dL_speaks_404 ⟨by show (12) + 1 ≤ 18; omega, by show (72) + 6 ≤ 108; omega⟩) (fun H locs hP hD hS => ?_)
          refine lv_if_eq (tgt := 432) hx hb dL_speaks_407 (by decide) (fun c_6 => ?_) (fun c_6 => ?_)
          · have hf := it_t c_6 hf
            refine W.widen (k := 16) (n := 96) (by omega) (by omega) ?_
            exact J432 s3_5 syz_5 syw_5 x5 _ _ hP hD hS _ (lv_sub hl [0, 3, 4, 5] rfl) hf
          · have hf := it_f c_6 hf
            refine lv_aload_n hx hb dL_speaks_410 rfl (lv_at hl 0 rfl) ?_
            refine lv_aload_n hx hb dL_speaks_411 rfl (lv_at hl 1 rfl) ?_
            refine lv_iload_n hx hb dL_speaks_412 rfl (lv_at hl 2 rfl) ?_
            refine lv_iconst (v := 4) hx hb dL_speaks_413 (by decide) ?_
            refine lv_iadd hx hb dL_speaks_414 ?_
            obtain ⟨r_7, hc_7, hf⟩ := bn1_ok hf
            refine gc_i (wc := ([] : va_W)) (wr := (cf_35yzyw cI h3 h3a0 h5 hyz hyw h4 h2 h1 h0 s3_5 s5 syz_5 syw_5)) (w1 := ([] : va_W)) (ws' := (cf_35yzyw cI h3 h3a0 h5 hyz hyw h4 h2 h1 h0 s3_5 s5 syz_5 syw_5)) hP hD hS hA [] [0, 1, 2, 3, 4] [0, 1, 2, 3, 4] rfl rfl (by decide) (by decide) rfl (by decide) (va_runS (As := [.ref b, .int (a2 + 4)]) (rest := [.ref h5]) ⟨hx, hb, hml, hown, hts⟩ (ktL_cell l dC dI b L xs _ (a2 + 4) r_7 hc_7) (va_cwS 2 hts gL_speaks_L_cell rfl rfl rfl (by decide +kernel) ⟨Nat.le_of_ble_eq_true rfl, Nat.le_of_ble_eq_true rfl⟩) (gl_S (XS_ok b L xs) (hP.sub (ws' := ([] : va_W)) [] rfl) (hK.sub (tys' := []) [] rfl) (hD.sub (ws' := ([] : va_W)) [] (by decide) rfl) hN ((XS_ok b L xs).2.2.2 A s s.heap _ hS.1 hS.2.1 hXS) (va_free (wc := ([] : va_W)) hD hS hA [] rfl)) rfl rfl hl.1 rfl (lv_room (Nat.le_of_ble_eq_true rfl)) dL_speaks_415 ⟨by show (12 + 1) + 0 ≤ 18; omega, by show (72 + 6) + 0 ≤ 108; omega⟩) (fun H locs hP hD hS => ?_)
            refine lv_aload_n hx hb dL_speaks_418 rfl (lv_at hl 3 rfl) ?_
            refine lv_aload hx hb dL_speaks_419 (lv_at hl 4 rfl) ?_
            refine lv_iconst (v := 1) hx hb dL_speaks_421 (by decide) ?_
            obtain ⟨r_8, s3_8, syz_8, syw_8, hc_8, hf⟩ := bn4_ok hf
            refine gc_h (wc := (cf_35yzyw cI h3 h3a0 h5 hyz hyw h4 h2 h1 h0 s3_5 s5 syz_5 syw_5)) (wr := ([] : va_W)) (w1 := (cf_35yzyw cI h3 h3a0 h5 hyz hyw h4 h2 h1 h0 s3_8 s5 syz_8 syw_8)) (ws' := (cf_35yzyw cI h3 h3a0 h5 hyz hyw h4 h2 h1 h0 s3_8 s5 syz_8 syw_8)) hP hD hS hA [0, 1, 2, 3, 4] [] [0, 1, 2, 3, 4] rfl rfl (by decide) (by decide) rfl (by decide) (va_runS (As := [.ref h5, .int r_7, .ref hyw, .ref hyz, .int 1]) (rest := []) ⟨hx, hb, hml, hown, hts⟩ (ktL_phrase l hst dC dI cI h3 h3a0 h5 hyz hyw h4 h2 h1 h0 _ s3_5 s5 syz_5 syw_5 r_7 1 r_8 s3_8 syz_8 syw_8 hc_8) (va_cwS 5 hts gL_speaks_L_phrase rfl rfl rfl (by decide +kernel) ⟨Nat.le_of_ble_eq_true rfl, Nat.le_of_ble_eq_true rfl⟩) (gl_S XH_ok (hP.sub (ws' := (cf_35yzyw cI h3 h3a0 h5 hyz hyw h4 h2 h1 h0 s3_5 s5 syz_5 syw_5)) [0, 1, 2, 3, 4] rfl) (hK.sub (tys' := [(cI, .int)]) [0] rfl) (hD.sub (ws' := (cf_35yzyw cI h3 h3a0 h5 hyz hyw h4 h2 h1 h0 s3_5 s5 syz_5 syw_5)) [0, 1, 2, 3, 4] (by decide) rfl) hN (XH_ok.2.2.2 A s s.heap _ hS.1 hS.2.1 hXH) (va_free (wc := (cf_35yzyw cI h3 h3a0 h5 hyz hyw h4 h2 h1 h0 s3_5 s5 syz_5 syw_5)) hD hS hA [0, 1, 2, 3, 4] rfl)) rfl rfl hl.1 rfl (lv_room (Nat.le_of_ble_eq_true rfl)) dL_speaks_422 ⟨by show (12 + 1) + 3 ≤ 18; omega, by show (72 + 6) + 18 ≤ 108; omega⟩) (fun H locs hP hD hS => ?_)
            refine lv_if_eq (tgt := 432) hx hb dL_speaks_425 (by decide) (fun c_9 => ?_) (fun c_9 => ?_)
            · have hf := it_t c_9 hf
              refine W.widen (k := 16) (n := 96) (by omega) (by omega) ?_
              exact J432 s3_8 syz_8 syw_8 x5 _ _ hP hD hS _ (lv_sub hl [0, 3, 4, 5] rfl) hf
            · have hf := it_f c_9 hf
              refine lv_iconst (v := 1) hx hb dL_speaks_428 (by decide) ?_
              refine lv_goto (tgt := 433) hx hb dL_speaks_429 (by decide) ?_
              refine W.widen (k := 16) (n := 96) (by omega) (by omega) ?_
              exact J433 s3_8 syz_8 syw_8 x5 1 _ _ hP hD hS _ (lv_sub hl [0, 3, 4, 5] rfl) hf
  have J372 : ∀ (s3 : S3) (syz : Syz) (syw : Syw) (x5 : Int32) (x7 : Int32) (t0 : Int32) (H : Heap) (locs : List Loc), va_P (dC, dI) vwCl (cf_35yzyw cI h3 h3a0 h5 hyz hyw h4 h2 h1 h0 s3 s5 syz syw) H → va_D A (cf_35yzyw cI h3 h3a0 h5 hyz hyw h4 h2 h1 h0 s3 s5 syz syw) → va_S A s.heap H locs → ∀ (ls : Array Slot), lv_has ls 9 [(0, .ref h5), (1, .ref b), (2, .int a2), (3, .ref hyw), (4, .ref hyz), (5, .int x5), (7, .int x7)] → fL_speaks_372 L xs s5 a2 s3 syz syw x5 x7 t0 = some (r, s3f, syzf, sywf) → W p l e rmL_speaks s m ([.ref h5, .ref b, .int a2, .ref hyw, .ref hyz] : List Value).toArray below meth c H locs (12) (72) QQ (F0 m 372 ls [.int t0]) := by
    intro s3 syz syw x5 x7 t0 H locs hP hD hS ls hl hf
    unfold fL_speaks_372 at hf
    refine lv_istore (lv' := [(6, .int t0), (0, .ref h5), (1, .ref b), (2, .int a2), (3, .ref hyw), (4, .ref hyz), (5, .int x5), (7, .int x7)]) hx hb dL_speaks_372 hl (by decide) rfl (fun ls hl => ?_)
    exact J374 s3 syz syw x5 t0 x7 _ _ hP hD hS _ (lv_sub hl [1, 2, 3, 4, 5, 6, 0, 7] rfl) hf
  have J371 : ∀ (s3 : S3) (syz : Syz) (syw : Syw) (x5 : Int32) (x7 : Int32) (H : Heap) (locs : List Loc), va_P (dC, dI) vwCl (cf_35yzyw cI h3 h3a0 h5 hyz hyw h4 h2 h1 h0 s3 s5 syz syw) H → va_D A (cf_35yzyw cI h3 h3a0 h5 hyz hyw h4 h2 h1 h0 s3 s5 syz syw) → va_S A s.heap H locs → ∀ (ls : Array Slot), lv_has ls 9 [(0, .ref h5), (1, .ref b), (2, .int a2), (3, .ref hyw), (4, .ref hyz), (5, .int x5), (7, .int x7)] → fL_speaks_371 L xs s5 a2 s3 syz syw x5 x7 = some (r, s3f, syzf, sywf) → W p l e rmL_speaks s m ([.ref h5, .ref b, .int a2, .ref hyw, .ref hyz] : List Value).toArray below meth c H locs (12) (72) QQ (F0 m 371 ls []) := by
    intro s3 syz syw x5 x7 H locs hP hD hS ls hl hf
    unfold fL_speaks_371 at hf
    refine lv_iconst (v := 0) hx hb dL_speaks_371 (by decide) ?_
    exact J372 s3 syz syw x5 x7 0 _ _ hP hD hS _ (lv_sub hl [0, 1, 2, 3, 4, 5, 6] rfl) hf
  have J361 : ∀ (s3 : S3) (syz : Syz) (syw : Syw) (x5 : Int32) (x7 : Int32) (t1 : Int32) (t4 : Int32) (H : Heap) (locs : List Loc), va_P (dC, dI) vwCl (cf_35yzyw cI h3 h3a0 h5 hyz hyw h4 h2 h1 h0 s3 s5 syz syw) H → va_D A (cf_35yzyw cI h3 h3a0 h5 hyz hyw h4 h2 h1 h0 s3 s5 syz syw) → va_S A s.heap H locs → ∀ (ls : Array Slot), lv_has ls 9 [(0, .ref h5), (1, .ref b), (2, .int a2), (3, .ref hyw), (4, .ref hyz), (5, .int x5), (7, .int x7)] → fL_speaks_361 L xs s5 a2 s3 syz syw x5 x7 t1 t4 = some (r, s3f, syzf, sywf) → W p l e rmL_speaks s m ([.ref h5, .ref b, .int a2, .ref hyw, .ref hyz] : List Value).toArray below meth c H locs (9) (54) QQ (F0 m 361 ls [.int t4, .ref hyz, .ref hyw, .int t1, .ref h5]) := by
    intro s3 syz syw x5 x7 t1 t4 H locs hP hD hS ls hl hf
    unfold fL_speaks_361 at hf
    obtain ⟨r_1, s3_1, syz_1, syw_1, hc_1, hf⟩ := bn4_ok hf
    refine gc_h (wc := (cf_35yzyw cI h3 h3a0 h5 hyz hyw h4 h2 h1 h0 s3 s5 syz syw)) (wr := ([] : va_W)) (w1 := (cf_35yzyw cI h3 h3a0 h5 hyz hyw h4 h2 h1 h0 s3_1 s5 syz_1 syw_1)) (ws' := (cf_35yzyw cI h3 h3a0 h5 hyz hyw h4 h2 h1 h0 s3_1 s5 syz_1 syw_1)) hP hD hS hA [0, 1, 2, 3, 4] [] [0, 1, 2, 3, 4] rfl rfl (by decide) (by decide) rfl (by decide) (va_runS (As := [.ref h5, .int t1, .ref hyw, .ref hyz, .int t4]) (rest := []) ⟨hx, hb, hml, hown, hts⟩ (ktL_phrase l hst dC dI cI h3 h3a0 h5 hyz hyw h4 h2 h1 h0 _ s3 s5 syz syw t1 t4 r_1 s3_1 syz_1 syw_1 hc_1) (va_cwS 5 hts gL_speaks_L_phrase rfl rfl rfl (by decide +kernel) ⟨Nat.le_of_ble_eq_true rfl, Nat.le_of_ble_eq_true rfl⟩) (gl_S XH_ok (hP.sub (ws' := (cf_35yzyw cI h3 h3a0 h5 hyz hyw h4 h2 h1 h0 s3 s5 syz syw)) [0, 1, 2, 3, 4] rfl) (hK.sub (tys' := [(cI, .int)]) [0] rfl) (hD.sub (ws' := (cf_35yzyw cI h3 h3a0 h5 hyz hyw h4 h2 h1 h0 s3 s5 syz syw)) [0, 1, 2, 3, 4] (by decide) rfl) hN (XH_ok.2.2.2 A s s.heap _ hS.1 hS.2.1 hXH) (va_free (wc := (cf_35yzyw cI h3 h3a0 h5 hyz hyw h4 h2 h1 h0 s3 s5 syz syw)) hD hS hA [0, 1, 2, 3, 4] rfl)) rfl rfl hl.1 rfl (lv_room (Nat.le_of_ble_eq_true rfl)) dL_speaks_361 ⟨by show (9) + 3 ≤ 18; omega, by show (54) + 18 ≤ 108; omega⟩) (fun H locs hP hD hS => ?_)
    refine lv_if_eq (tgt := 371) hx hb dL_speaks_364 (by decide) (fun c_2 => ?_) (fun c_2 => ?_)
    · have hf := it_t c_2 hf
      refine W.widen (k := 12) (n := 72) (by omega) (by omega) ?_
      exact J371 s3_1 syz_1 syw_1 x5 x7 _ _ hP hD hS _ (lv_sub hl [0, 1, 2, 3, 4, 5, 6] rfl) hf
    · have hf := it_f c_2 hf
      refine lv_iconst (v := 1) hx hb dL_speaks_367 (by decide) ?_
      refine lv_goto (tgt := 372) hx hb dL_speaks_368 (by decide) ?_
      refine W.widen (k := 12) (n := 72) (by omega) (by omega) ?_
      exact J372 s3_1 syz_1 syw_1 x5 x7 1 _ _ hP hD hS _ (lv_sub hl [0, 1, 2, 3, 4, 5, 6] rfl) hf
  have J302 : ∀ (s3 : S3) (syz : Syz) (syw : Syw) (x5 : Int32) (x7 : Int32) (t0 : Int32) (H : Heap) (locs : List Loc), va_P (dC, dI) vwCl (cf_35yzyw cI h3 h3a0 h5 hyz hyw h4 h2 h1 h0 s3 s5 syz syw) H → va_D A (cf_35yzyw cI h3 h3a0 h5 hyz hyw h4 h2 h1 h0 s3 s5 syz syw) → va_S A s.heap H locs → ∀ (ls : Array Slot), lv_has ls 9 [(0, .ref h5), (1, .ref b), (2, .int a2), (3, .ref hyw), (4, .ref hyz), (5, .int x5), (7, .int x7)] → fL_speaks_302 L xs s5 a2 s3 syz syw x5 x7 t0 = some (r, s3f, syzf, sywf) → W p l e rmL_speaks s m ([.ref h5, .ref b, .int a2, .ref hyw, .ref hyz] : List Value).toArray below meth c H locs (8) (48) QQ (F0 m 302 ls [.int t0]) := by
    intro s3 syz syw x5 x7 t0 H locs hP hD hS ls hl hf
    unfold fL_speaks_302 at hf
    refine lv_istore (lv' := [(6, .int t0), (0, .ref h5), (1, .ref b), (2, .int a2), (3, .ref hyw), (4, .ref hyz), (5, .int x5), (7, .int x7)]) hx hb dL_speaks_302 hl (by decide) rfl (fun ls hl => ?_)
    refine lv_iload hx hb dL_speaks_304 (lv_at hl 6 rfl) ?_
    refine lv_bipush (v := 11) hx hb dL_speaks_306 (by decide) ?_
    refine lv_ishr hx hb dL_speaks_308 ?_
    refine lv_iconst (v := 2) hx hb dL_speaks_309 (by decide) ?_
    obtain ⟨r_1, hc_1, hf⟩ := bn1_ok hf
    refine gc_i (wc := ([] : va_W)) (wr := (cf_35yzyw cI h3 h3a0 h5 hyz hyw h4 h2 h1 h0 s3 s5 syz syw)) (w1 := ([] : va_W)) (ws' := (cf_35yzyw cI h3 h3a0 h5 hyz hyw h4 h2 h1 h0 s3 s5 syz syw)) hP hD hS hA [] [0, 1, 2, 3, 4] [0, 1, 2, 3, 4] rfl rfl (by decide) (by decide) rfl (by decide) (va_runS (As := [.int (x5 >>> (11 &&& 31)), .int 2]) (rest := []) ⟨hx, hb, hml, hown, hts⟩ (ktL_some l dC dI _ (x5 >>> (11 &&& 31)) 2 r_1 hc_1) (va_cwS 2 hts gL_speaks_L_some rfl rfl rfl (by decide +kernel) ⟨Nat.le_of_ble_eq_true rfl, Nat.le_of_ble_eq_true rfl⟩) (gc_S (hP.sub (ws' := ([] : va_W)) [] rfl) (hK.sub (tys' := []) [] rfl) (hD.sub (ws' := ([] : va_W)) [] (by decide) rfl) hN) rfl rfl hl.1 rfl (lv_room (Nat.le_of_ble_eq_true rfl)) dL_speaks_310 ⟨by show (8) + 0 ≤ 18; omega, by show (48) + 0 ≤ 108; omega⟩) (fun H locs hP hD hS => ?_)
    refine lv_if_ne (tgt := 374) hx hb dL_speaks_313 (by decide) (fun c_2 => ?_) (fun c_2 => ?_)
    · have hf := it_f c_2 hf
      refine W.widen (k := 12) (n := 72) (by omega) (by omega) ?_
      exact J374 s3 syz syw x5 t0 x7 _ _ hP hD hS _ (lv_sub hl [1, 2, 3, 4, 5, 6, 0, 7] rfl) hf
    · have hf := it_t c_2 hf
      refine lv_iload hx hb dL_speaks_316 (lv_at hl 0 rfl) ?_
      refine lv_if_eq (tgt := 371) hx hb dL_speaks_318 (by decide) (fun c_3 => ?_) (fun c_3 => ?_)
      · have hf := it_t c_3 hf
        refine W.widen (k := 12) (n := 72) (by omega) (by omega) ?_
        exact J371 s3 syz syw x5 x7 _ _ hP hD hS _ (lv_sub hl [1, 2, 3, 4, 5, 6, 7] rfl) hf
      · have hf := it_f c_3 hf
        refine lv_aload_n hx hb dL_speaks_321 rfl (lv_at hl 1 rfl) ?_
        refine lv_aload_n hx hb dL_speaks_322 rfl (lv_at hl 4 rfl) ?_
        refine lv_aload hx hb dL_speaks_323 (lv_at hl 5 rfl) ?_
        refine lv_bipush (v := 13) hx hb dL_speaks_325 (by decide) ?_
        obtain ⟨r_4, s3_4, syz_4, syw_4, hc_4, hf⟩ := bn4_ok hf
        refine gc_h (wc := (cf_35yzyw cI h3 h3a0 h5 hyz hyw h4 h2 h1 h0 s3 s5 syz syw)) (wr := ([] : va_W)) (w1 := (cf_35yzyw cI h3 h3a0 h5 hyz hyw h4 h2 h1 h0 s3_4 s5 syz_4 syw_4)) (ws' := (cf_35yzyw cI h3 h3a0 h5 hyz hyw h4 h2 h1 h0 s3_4 s5 syz_4 syw_4)) hP hD hS hA [0, 1, 2, 3, 4] [] [0, 1, 2, 3, 4] rfl rfl (by decide) (by decide) rfl (by decide) (va_runS (As := [.ref h5, .ref hyw, .ref hyz, .int 13]) (rest := []) ⟨hx, hb, hml, hown, hts⟩ (ktL_adds l hst dC dI cI h3 h3a0 h5 hyz hyw h4 h2 h1 h0 _ s3 s5 syz syw 13 r_4 s3_4 syz_4 syw_4 hc_4) (va_cwS 4 hts gL_speaks_L_adds rfl rfl rfl (by decide +kernel) ⟨Nat.le_of_ble_eq_true rfl, Nat.le_of_ble_eq_true rfl⟩) (gl_S XH_ok (hP.sub (ws' := (cf_35yzyw cI h3 h3a0 h5 hyz hyw h4 h2 h1 h0 s3 s5 syz syw)) [0, 1, 2, 3, 4] rfl) (hK.sub (tys' := [(cI, .int)]) [0] rfl) (hD.sub (ws' := (cf_35yzyw cI h3 h3a0 h5 hyz hyw h4 h2 h1 h0 s3 s5 syz syw)) [0, 1, 2, 3, 4] (by decide) rfl) hN (XH_ok.2.2.2 A s s.heap _ hS.1 hS.2.1 hXH) (va_free (wc := (cf_35yzyw cI h3 h3a0 h5 hyz hyw h4 h2 h1 h0 s3 s5 syz syw)) hD hS hA [0, 1, 2, 3, 4] rfl)) rfl rfl hl.1 rfl (lv_room (Nat.le_of_ble_eq_true rfl)) dL_speaks_327 ⟨by show (8) + 1 ≤ 18; omega, by show (48) + 6 ≤ 108; omega⟩) (fun H locs hP hD hS => ?_)
        refine lv_if_eq (tgt := 371) hx hb dL_speaks_330 (by decide) (fun c_5 => ?_) (fun c_5 => ?_)
        · have hf := it_t c_5 hf
          refine W.widen (k := 12) (n := 72) (by omega) (by omega) ?_
          exact J371 s3_4 syz_4 syw_4 x5 x7 _ _ hP hD hS _ (lv_sub hl [1, 2, 3, 4, 5, 6, 7] rfl) hf
        · have hf := it_f c_5 hf
          refine lv_aload_n hx hb dL_speaks_333 rfl (lv_at hl 1 rfl) ?_
          refine lv_aload_n hx hb dL_speaks_334 rfl (lv_at hl 2 rfl) ?_
          refine lv_iload_n hx hb dL_speaks_335 rfl (lv_at hl 3 rfl) ?_
          refine lv_iconst (v := 3) hx hb dL_speaks_336 (by decide) ?_
          refine lv_iadd hx hb dL_speaks_337 ?_
          obtain ⟨r_6, hc_6, hf⟩ := bn1_ok hf
          refine gc_i (wc := ([] : va_W)) (wr := (cf_35yzyw cI h3 h3a0 h5 hyz hyw h4 h2 h1 h0 s3_4 s5 syz_4 syw_4)) (w1 := ([] : va_W)) (ws' := (cf_35yzyw cI h3 h3a0 h5 hyz hyw h4 h2 h1 h0 s3_4 s5 syz_4 syw_4)) hP hD hS hA [] [0, 1, 2, 3, 4] [0, 1, 2, 3, 4] rfl rfl (by decide) (by decide) rfl (by decide) (va_runS (As := [.ref b, .int (a2 + 3)]) (rest := [.ref h5]) ⟨hx, hb, hml, hown, hts⟩ (ktL_cell l dC dI b L xs _ (a2 + 3) r_6 hc_6) (va_cwS 2 hts gL_speaks_L_cell rfl rfl rfl (by decide +kernel) ⟨Nat.le_of_ble_eq_true rfl, Nat.le_of_ble_eq_true rfl⟩) (gl_S (XS_ok b L xs) (hP.sub (ws' := ([] : va_W)) [] rfl) (hK.sub (tys' := []) [] rfl) (hD.sub (ws' := ([] : va_W)) [] (by decide) rfl) hN ((XS_ok b L xs).2.2.2 A s s.heap _ hS.1 hS.2.1 hXS) (va_free (wc := ([] : va_W)) hD hS hA [] rfl)) rfl rfl hl.1 rfl (lv_room (Nat.le_of_ble_eq_true rfl)) dL_speaks_338 ⟨by show (8 + 1) + 0 ≤ 18; omega, by show (48 + 6) + 0 ≤ 108; omega⟩) (fun H locs hP hD hS => ?_)
          refine lv_aload_n hx hb dL_speaks_341 rfl (lv_at hl 4 rfl) ?_
          refine lv_aload hx hb dL_speaks_342 (lv_at hl 5 rfl) ?_
          refine lv_iload hx hb dL_speaks_344 (lv_at hl 6 rfl) ?_
          refine lv_bipush (v := 12) hx hb dL_speaks_346 (by decide) ?_
          refine lv_ishr hx hb dL_speaks_348 ?_
          refine lv_iconst (v := 2) hx hb dL_speaks_349 (by decide) ?_
          obtain ⟨r_7, hc_7, hf⟩ := bn1_ok hf
          refine gc_i (wc := ([] : va_W)) (wr := (cf_35yzyw cI h3 h3a0 h5 hyz hyw h4 h2 h1 h0 s3_4 s5 syz_4 syw_4)) (w1 := ([] : va_W)) (ws' := (cf_35yzyw cI h3 h3a0 h5 hyz hyw h4 h2 h1 h0 s3_4 s5 syz_4 syw_4)) hP hD hS hA [] [0, 1, 2, 3, 4] [0, 1, 2, 3, 4] rfl rfl (by decide) (by decide) rfl (by decide) (va_runS (As := [.int (x5 >>> (12 &&& 31)), .int 2]) (rest := [.ref hyz, .ref hyw, .int r_6, .ref h5]) ⟨hx, hb, hml, hown, hts⟩ (ktL_some l dC dI _ (x5 >>> (12 &&& 31)) 2 r_7 hc_7) (va_cwS 2 hts gL_speaks_L_some rfl rfl rfl (by decide +kernel) ⟨Nat.le_of_ble_eq_true rfl, Nat.le_of_ble_eq_true rfl⟩) (gc_S (hP.sub (ws' := ([] : va_W)) [] rfl) (hK.sub (tys' := []) [] rfl) (hD.sub (ws' := ([] : va_W)) [] (by decide) rfl) hN) rfl rfl hl.1 rfl (lv_room (Nat.le_of_ble_eq_true rfl)) dL_speaks_350 ⟨by show (8 + 1) + 0 ≤ 18; omega, by show (48 + 6) + 0 ≤ 108; omega⟩) (fun H locs hP hD hS => ?_)
          refine lv_if_ne (tgt := 360) hx hb dL_speaks_353 (by decide) (fun c_8 => ?_) (fun c_8 => ?_)
          · have hf := it_f c_8 hf
            refine lv_iconst (v := 0) hx hb dL_speaks_360 (by decide) ?_
            refine W.widen (k := 9) (n := 54) (by omega) (by omega) ?_
            exact J361 s3_4 syz_4 syw_4 x5 x7 r_6 0 _ _ hP hD hS _ (lv_sub hl [1, 2, 3, 4, 5, 6, 7] rfl) hf
          · have hf := it_t c_8 hf
            refine lv_iconst (v := 1) hx hb dL_speaks_356 (by decide) ?_
            refine lv_goto (tgt := 361) hx hb dL_speaks_357 (by decide) ?_
            refine W.widen (k := 9) (n := 54) (by omega) (by omega) ?_
            exact J361 s3_4 syz_4 syw_4 x5 x7 r_6 1 _ _ hP hD hS _ (lv_sub hl [1, 2, 3, 4, 5, 6, 7] rfl) hf
  have J301 : ∀ (s3 : S3) (syz : Syz) (syw : Syw) (x5 : Int32) (x7 : Int32) (H : Heap) (locs : List Loc), va_P (dC, dI) vwCl (cf_35yzyw cI h3 h3a0 h5 hyz hyw h4 h2 h1 h0 s3 s5 syz syw) H → va_D A (cf_35yzyw cI h3 h3a0 h5 hyz hyw h4 h2 h1 h0 s3 s5 syz syw) → va_S A s.heap H locs → ∀ (ls : Array Slot), lv_has ls 9 [(0, .ref h5), (1, .ref b), (2, .int a2), (3, .ref hyw), (4, .ref hyz), (5, .int x5), (7, .int x7)] → fL_speaks_301 L xs s5 a2 s3 syz syw x5 x7 = some (r, s3f, syzf, sywf) → W p l e rmL_speaks s m ([.ref h5, .ref b, .int a2, .ref hyw, .ref hyz] : List Value).toArray below meth c H locs (8) (48) QQ (F0 m 301 ls []) := by
    intro s3 syz syw x5 x7 H locs hP hD hS ls hl hf
    unfold fL_speaks_301 at hf
    refine lv_iconst (v := 0) hx hb dL_speaks_301 (by decide) ?_
    exact J302 s3 syz syw x5 x7 0 _ _ hP hD hS _ (lv_sub hl [0, 1, 2, 3, 4, 5, 6] rfl) hf
  have J291 : ∀ (s3 : S3) (syz : Syz) (syw : Syw) (x5 : Int32) (x7 : Int32) (t1 : Int32) (t4 : Int32) (H : Heap) (locs : List Loc), va_P (dC, dI) vwCl (cf_35yzyw cI h3 h3a0 h5 hyz hyw h4 h2 h1 h0 s3 s5 syz syw) H → va_D A (cf_35yzyw cI h3 h3a0 h5 hyz hyw h4 h2 h1 h0 s3 s5 syz syw) → va_S A s.heap H locs → ∀ (ls : Array Slot), lv_has ls 9 [(0, .ref h5), (1, .ref b), (2, .int a2), (3, .ref hyw), (4, .ref hyz), (5, .int x5), (7, .int x7)] → fL_speaks_291 L xs s5 a2 s3 syz syw x5 x7 t1 t4 = some (r, s3f, syzf, sywf) → W p l e rmL_speaks s m ([.ref h5, .ref b, .int a2, .ref hyw, .ref hyz] : List Value).toArray below meth c H locs (5) (30) QQ (F0 m 291 ls [.int t4, .ref hyz, .ref hyw, .int t1, .ref h5]) := by
    intro s3 syz syw x5 x7 t1 t4 H locs hP hD hS ls hl hf
    unfold fL_speaks_291 at hf
    obtain ⟨r_1, s3_1, syz_1, syw_1, hc_1, hf⟩ := bn4_ok hf
    refine gc_h (wc := (cf_35yzyw cI h3 h3a0 h5 hyz hyw h4 h2 h1 h0 s3 s5 syz syw)) (wr := ([] : va_W)) (w1 := (cf_35yzyw cI h3 h3a0 h5 hyz hyw h4 h2 h1 h0 s3_1 s5 syz_1 syw_1)) (ws' := (cf_35yzyw cI h3 h3a0 h5 hyz hyw h4 h2 h1 h0 s3_1 s5 syz_1 syw_1)) hP hD hS hA [0, 1, 2, 3, 4] [] [0, 1, 2, 3, 4] rfl rfl (by decide) (by decide) rfl (by decide) (va_runS (As := [.ref h5, .int t1, .ref hyw, .ref hyz, .int t4]) (rest := []) ⟨hx, hb, hml, hown, hts⟩ (ktL_phrase l hst dC dI cI h3 h3a0 h5 hyz hyw h4 h2 h1 h0 _ s3 s5 syz syw t1 t4 r_1 s3_1 syz_1 syw_1 hc_1) (va_cwS 5 hts gL_speaks_L_phrase rfl rfl rfl (by decide +kernel) ⟨Nat.le_of_ble_eq_true rfl, Nat.le_of_ble_eq_true rfl⟩) (gl_S XH_ok (hP.sub (ws' := (cf_35yzyw cI h3 h3a0 h5 hyz hyw h4 h2 h1 h0 s3 s5 syz syw)) [0, 1, 2, 3, 4] rfl) (hK.sub (tys' := [(cI, .int)]) [0] rfl) (hD.sub (ws' := (cf_35yzyw cI h3 h3a0 h5 hyz hyw h4 h2 h1 h0 s3 s5 syz syw)) [0, 1, 2, 3, 4] (by decide) rfl) hN (XH_ok.2.2.2 A s s.heap _ hS.1 hS.2.1 hXH) (va_free (wc := (cf_35yzyw cI h3 h3a0 h5 hyz hyw h4 h2 h1 h0 s3 s5 syz syw)) hD hS hA [0, 1, 2, 3, 4] rfl)) rfl rfl hl.1 rfl (lv_room (Nat.le_of_ble_eq_true rfl)) dL_speaks_291 ⟨by show (5) + 3 ≤ 18; omega, by show (30) + 18 ≤ 108; omega⟩) (fun H locs hP hD hS => ?_)
    refine lv_if_eq (tgt := 301) hx hb dL_speaks_294 (by decide) (fun c_2 => ?_) (fun c_2 => ?_)
    · have hf := it_t c_2 hf
      refine W.widen (k := 8) (n := 48) (by omega) (by omega) ?_
      exact J301 s3_1 syz_1 syw_1 x5 x7 _ _ hP hD hS _ (lv_sub hl [0, 1, 2, 3, 4, 5, 6] rfl) hf
    · have hf := it_f c_2 hf
      refine lv_iconst (v := 1) hx hb dL_speaks_297 (by decide) ?_
      refine lv_goto (tgt := 302) hx hb dL_speaks_298 (by decide) ?_
      refine W.widen (k := 8) (n := 48) (by omega) (by omega) ?_
      exact J302 s3_1 syz_1 syw_1 x5 x7 1 _ _ hP hD hS _ (lv_sub hl [0, 1, 2, 3, 4, 5, 6] rfl) hf
  have J257 : ∀ (s3 : S3) (syz : Syz) (syw : Syw) (x5 : Int32) (x7 : Int32) (t3 : Int32) (H : Heap) (locs : List Loc), va_P (dC, dI) vwCl (cf_35yzyw cI h3 h3a0 h5 hyz hyw h4 h2 h1 h0 s3 s5 syz syw) H → va_D A (cf_35yzyw cI h3 h3a0 h5 hyz hyw h4 h2 h1 h0 s3 s5 syz syw) → va_S A s.heap H locs → ∀ (ls : Array Slot), lv_has ls 9 [(0, .ref h5), (1, .ref b), (2, .int a2), (3, .ref hyw), (4, .ref hyz), (5, .int x5), (7, .int x7)] → fL_speaks_257 L xs s5 a2 s3 syz syw x5 x7 t3 = some (r, s3f, syzf, sywf) → W p l e rmL_speaks s m ([.ref h5, .ref b, .int a2, .ref hyw, .ref hyz] : List Value).toArray below meth c H locs (4) (24) QQ (F0 m 257 ls [.int t3, .ref hyz, .ref hyw, .ref h5]) := by
    intro s3 syz syw x5 x7 t3 H locs hP hD hS ls hl hf
    unfold fL_speaks_257 at hf
    obtain ⟨r_1, s3_1, syz_1, syw_1, hc_1, hf⟩ := bn4_ok hf
    refine gc_h (wc := (cf_35yzyw cI h3 h3a0 h5 hyz hyw h4 h2 h1 h0 s3 s5 syz syw)) (wr := ([] : va_W)) (w1 := (cf_35yzyw cI h3 h3a0 h5 hyz hyw h4 h2 h1 h0 s3_1 s5 syz_1 syw_1)) (ws' := (cf_35yzyw cI h3 h3a0 h5 hyz hyw h4 h2 h1 h0 s3_1 s5 syz_1 syw_1)) hP hD hS hA [0, 1, 2, 3, 4] [] [0, 1, 2, 3, 4] rfl rfl (by decide) (by decide) rfl (by decide) (va_runS (As := [.ref h5, .ref hyw, .ref hyz, .int t3]) (rest := []) ⟨hx, hb, hml, hown, hts⟩ (ktL_adds l hst dC dI cI h3 h3a0 h5 hyz hyw h4 h2 h1 h0 _ s3 s5 syz syw t3 r_1 s3_1 syz_1 syw_1 hc_1) (va_cwS 4 hts gL_speaks_L_adds rfl rfl rfl (by decide +kernel) ⟨Nat.le_of_ble_eq_true rfl, Nat.le_of_ble_eq_true rfl⟩) (gl_S XH_ok (hP.sub (ws' := (cf_35yzyw cI h3 h3a0 h5 hyz hyw h4 h2 h1 h0 s3 s5 syz syw)) [0, 1, 2, 3, 4] rfl) (hK.sub (tys' := [(cI, .int)]) [0] rfl) (hD.sub (ws' := (cf_35yzyw cI h3 h3a0 h5 hyz hyw h4 h2 h1 h0 s3 s5 syz syw)) [0, 1, 2, 3, 4] (by decide) rfl) hN (XH_ok.2.2.2 A s s.heap _ hS.1 hS.2.1 hXH) (va_free (wc := (cf_35yzyw cI h3 h3a0 h5 hyz hyw h4 h2 h1 h0 s3 s5 syz syw)) hD hS hA [0, 1, 2, 3, 4] rfl)) rfl rfl hl.1 rfl (lv_room (Nat.le_of_ble_eq_true rfl)) dL_speaks_257 ⟨by show (4) + 1 ≤ 18; omega, by show (24) + 6 ≤ 108; omega⟩) (fun H locs hP hD hS => ?_)
    refine lv_if_eq (tgt := 301) hx hb dL_speaks_260 (by decide) (fun c_2 => ?_) (fun c_2 => ?_)
    · have hf := it_t c_2 hf
      refine W.widen (k := 8) (n := 48) (by omega) (by omega) ?_
      exact J301 s3_1 syz_1 syw_1 x5 x7 _ _ hP hD hS _ (lv_sub hl [0, 1, 2, 3, 4, 5, 6] rfl) hf
    · have hf := it_f c_2 hf
      refine lv_aload_n hx hb dL_speaks_263 rfl (lv_at hl 0 rfl) ?_
      refine lv_aload_n hx hb dL_speaks_264 rfl (lv_at hl 1 rfl) ?_
      refine lv_iload_n hx hb dL_speaks_265 rfl (lv_at hl 2 rfl) ?_
      refine lv_iconst (v := 2) hx hb dL_speaks_266 (by decide) ?_
      refine lv_iadd hx hb dL_speaks_267 ?_
      obtain ⟨r_3, hc_3, hf⟩ := bn1_ok hf
      refine gc_i (wc := ([] : va_W)) (wr := (cf_35yzyw cI h3 h3a0 h5 hyz hyw h4 h2 h1 h0 s3_1 s5 syz_1 syw_1)) (w1 := ([] : va_W)) (ws' := (cf_35yzyw cI h3 h3a0 h5 hyz hyw h4 h2 h1 h0 s3_1 s5 syz_1 syw_1)) hP hD hS hA [] [0, 1, 2, 3, 4] [0, 1, 2, 3, 4] rfl rfl (by decide) (by decide) rfl (by decide) (va_runS (As := [.ref b, .int (a2 + 2)]) (rest := [.ref h5]) ⟨hx, hb, hml, hown, hts⟩ (ktL_cell l dC dI b L xs _ (a2 + 2) r_3 hc_3) (va_cwS 2 hts gL_speaks_L_cell rfl rfl rfl (by decide +kernel) ⟨Nat.le_of_ble_eq_true rfl, Nat.le_of_ble_eq_true rfl⟩) (gl_S (XS_ok b L xs) (hP.sub (ws' := ([] : va_W)) [] rfl) (hK.sub (tys' := []) [] rfl) (hD.sub (ws' := ([] : va_W)) [] (by decide) rfl) hN ((XS_ok b L xs).2.2.2 A s s.heap _ hS.1 hS.2.1 hXS) (va_free (wc := ([] : va_W)) hD hS hA [] rfl)) rfl rfl hl.1 rfl (lv_room (Nat.le_of_ble_eq_true rfl)) dL_speaks_268 ⟨by show (4 + 1) + 0 ≤ 18; omega, by show (24 + 6) + 0 ≤ 108; omega⟩) (fun H locs hP hD hS => ?_)
      refine lv_aload_n hx hb dL_speaks_271 rfl (lv_at hl 3 rfl) ?_
      refine lv_aload hx hb dL_speaks_272 (lv_at hl 4 rfl) ?_
      refine lv_iload hx hb dL_speaks_274 (lv_at hl 5 rfl) ?_
      refine lv_bipush (v := 9) hx hb dL_speaks_276 (by decide) ?_
      refine lv_ishr hx hb dL_speaks_278 ?_
      refine lv_iconst (v := 2) hx hb dL_speaks_279 (by decide) ?_
      obtain ⟨r_4, hc_4, hf⟩ := bn1_ok hf
      refine gc_i (wc := ([] : va_W)) (wr := (cf_35yzyw cI h3 h3a0 h5 hyz hyw h4 h2 h1 h0 s3_1 s5 syz_1 syw_1)) (w1 := ([] : va_W)) (ws' := (cf_35yzyw cI h3 h3a0 h5 hyz hyw h4 h2 h1 h0 s3_1 s5 syz_1 syw_1)) hP hD hS hA [] [0, 1, 2, 3, 4] [0, 1, 2, 3, 4] rfl rfl (by decide) (by decide) rfl (by decide) (va_runS (As := [.int (x5 >>> (9 &&& 31)), .int 2]) (rest := [.ref hyz, .ref hyw, .int r_3, .ref h5]) ⟨hx, hb, hml, hown, hts⟩ (ktL_some l dC dI _ (x5 >>> (9 &&& 31)) 2 r_4 hc_4) (va_cwS 2 hts gL_speaks_L_some rfl rfl rfl (by decide +kernel) ⟨Nat.le_of_ble_eq_true rfl, Nat.le_of_ble_eq_true rfl⟩) (gc_S (hP.sub (ws' := ([] : va_W)) [] rfl) (hK.sub (tys' := []) [] rfl) (hD.sub (ws' := ([] : va_W)) [] (by decide) rfl) hN) rfl rfl hl.1 rfl (lv_room (Nat.le_of_ble_eq_true rfl)) dL_speaks_280 ⟨by show (4 + 1) + 0 ≤ 18; omega, by show (24 + 6) + 0 ≤ 108; omega⟩) (fun H locs hP hD hS => ?_)
      refine lv_if_ne (tgt := 290) hx hb dL_speaks_283 (by decide) (fun c_5 => ?_) (fun c_5 => ?_)
      · have hf := it_f c_5 hf
        refine lv_iconst (v := 0) hx hb dL_speaks_290 (by decide) ?_
        refine W.widen (k := 5) (n := 30) (by omega) (by omega) ?_
        exact J291 s3_1 syz_1 syw_1 x5 x7 r_3 0 _ _ hP hD hS _ (lv_sub hl [0, 1, 2, 3, 4, 5, 6] rfl) hf
      · have hf := it_t c_5 hf
        refine lv_iconst (v := 1) hx hb dL_speaks_286 (by decide) ?_
        refine lv_goto (tgt := 291) hx hb dL_speaks_287 (by decide) ?_
        refine W.widen (k := 5) (n := 30) (by omega) (by omega) ?_
        exact J291 s3_1 syz_1 syw_1 x5 x7 r_3 1 _ _ hP hD hS _ (lv_sub hl [0, 1, 2, 3, 4, 5, 6] rfl) hf
  have J215 : ∀ (s3 : S3) (syz : Syz) (syw : Syw) (x5 : Int32) (x7 : Int32) (t0 : Int32) (H : Heap) (locs : List Loc), va_P (dC, dI) vwCl (cf_35yzyw cI h3 h3a0 h5 hyz hyw h4 h2 h1 h0 s3 s5 syz syw) H → va_D A (cf_35yzyw cI h3 h3a0 h5 hyz hyw h4 h2 h1 h0 s3 s5 syz syw) → va_S A s.heap H locs → ∀ (ls : Array Slot), lv_has ls 9 [(0, .ref h5), (1, .ref b), (2, .int a2), (3, .ref hyw), (4, .ref hyz), (5, .int x5), (7, .int x7)] → fL_speaks_215 L xs s5 a2 s3 syz syw x5 x7 t0 = some (r, s3f, syzf, sywf) → W p l e rmL_speaks s m ([.ref h5, .ref b, .int a2, .ref hyw, .ref hyz] : List Value).toArray below meth c H locs (4) (24) QQ (F0 m 215 ls [.int t0]) := by
    intro s3 syz syw x5 x7 t0 H locs hP hD hS ls hl hf
    unfold fL_speaks_215 at hf
    refine lv_istore (lv' := [(6, .int t0), (0, .ref h5), (1, .ref b), (2, .int a2), (3, .ref hyw), (4, .ref hyz), (5, .int x5), (7, .int x7)]) hx hb dL_speaks_215 hl (by decide) rfl (fun ls hl => ?_)
    refine lv_iload hx hb dL_speaks_217 (lv_at hl 6 rfl) ?_
    refine lv_bipush (v := 6) hx hb dL_speaks_219 (by decide) ?_
    refine lv_ishr hx hb dL_speaks_221 ?_
    refine lv_iconst (v := 3) hx hb dL_speaks_222 (by decide) ?_
    obtain ⟨r_1, hc_1, hf⟩ := bn1_ok hf
    refine gc_i (wc := ([] : va_W)) (wr := (cf_35yzyw cI h3 h3a0 h5 hyz hyw h4 h2 h1 h0 s3 s5 syz syw)) (w1 := ([] : va_W)) (ws' := (cf_35yzyw cI h3 h3a0 h5 hyz hyw h4 h2 h1 h0 s3 s5 syz syw)) hP hD hS hA [] [0, 1, 2, 3, 4] [0, 1, 2, 3, 4] rfl rfl (by decide) (by decide) rfl (by decide) (va_runS (As := [.int (x5 >>> (6 &&& 31)), .int 3]) (rest := []) ⟨hx, hb, hml, hown, hts⟩ (ktL_some l dC dI _ (x5 >>> (6 &&& 31)) 3 r_1 hc_1) (va_cwS 2 hts gL_speaks_L_some rfl rfl rfl (by decide +kernel) ⟨Nat.le_of_ble_eq_true rfl, Nat.le_of_ble_eq_true rfl⟩) (gc_S (hP.sub (ws' := ([] : va_W)) [] rfl) (hK.sub (tys' := []) [] rfl) (hD.sub (ws' := ([] : va_W)) [] (by decide) rfl) hN) rfl rfl hl.1 rfl (lv_room (Nat.le_of_ble_eq_true rfl)) dL_speaks_223 ⟨by show (4) + 0 ≤ 18; omega, by show (24) + 0 ≤ 108; omega⟩) (fun H locs hP hD hS => ?_)
    refine lv_if_ne (tgt := 374) hx hb dL_speaks_226 (by decide) (fun c_2 => ?_) (fun c_2 => ?_)
    · have hf := it_f c_2 hf
      refine W.widen (k := 12) (n := 72) (by omega) (by omega) ?_
      exact J374 s3 syz syw x5 t0 x7 _ _ hP hD hS _ (lv_sub hl [1, 2, 3, 4, 5, 6, 0, 7] rfl) hf
    · have hf := it_t c_2 hf
      refine lv_iload hx hb dL_speaks_229 (lv_at hl 0 rfl) ?_
      refine lv_if_eq (tgt := 301) hx hb dL_speaks_231 (by decide) (fun c_3 => ?_) (fun c_3 => ?_)
      · have hf := it_t c_3 hf
        refine W.widen (k := 8) (n := 48) (by omega) (by omega) ?_
        exact J301 s3 syz syw x5 x7 _ _ hP hD hS _ (lv_sub hl [1, 2, 3, 4, 5, 6, 7] rfl) hf
      · have hf := it_f c_3 hf
        refine lv_aload_n hx hb dL_speaks_234 rfl (lv_at hl 1 rfl) ?_
        refine lv_aload_n hx hb dL_speaks_235 rfl (lv_at hl 4 rfl) ?_
        refine lv_aload hx hb dL_speaks_236 (lv_at hl 5 rfl) ?_
        refine lv_iload hx hb dL_speaks_238 (lv_at hl 6 rfl) ?_
        refine lv_bipush (v := 8) hx hb dL_speaks_240 (by decide) ?_
        refine lv_ishr hx hb dL_speaks_242 ?_
        refine lv_iconst (v := 2) hx hb dL_speaks_243 (by decide) ?_
        obtain ⟨r_4, hc_4, hf⟩ := bn1_ok hf
        refine gc_i (wc := ([] : va_W)) (wr := (cf_35yzyw cI h3 h3a0 h5 hyz hyw h4 h2 h1 h0 s3 s5 syz syw)) (w1 := ([] : va_W)) (ws' := (cf_35yzyw cI h3 h3a0 h5 hyz hyw h4 h2 h1 h0 s3 s5 syz syw)) hP hD hS hA [] [0, 1, 2, 3, 4] [0, 1, 2, 3, 4] rfl rfl (by decide) (by decide) rfl (by decide) (va_runS (As := [.int (x5 >>> (8 &&& 31)), .int 2]) (rest := [.ref hyz, .ref hyw, .ref h5]) ⟨hx, hb, hml, hown, hts⟩ (ktL_some l dC dI _ (x5 >>> (8 &&& 31)) 2 r_4 hc_4) (va_cwS 2 hts gL_speaks_L_some rfl rfl rfl (by decide +kernel) ⟨Nat.le_of_ble_eq_true rfl, Nat.le_of_ble_eq_true rfl⟩) (gc_S (hP.sub (ws' := ([] : va_W)) [] rfl) (hK.sub (tys' := []) [] rfl) (hD.sub (ws' := ([] : va_W)) [] (by decide) rfl) hN) rfl rfl hl.1 rfl (lv_room (Nat.le_of_ble_eq_true rfl)) dL_speaks_244 ⟨by show (4) + 0 ≤ 18; omega, by show (24) + 0 ≤ 108; omega⟩) (fun H locs hP hD hS => ?_)
        refine lv_if_ne (tgt := 255) hx hb dL_speaks_247 (by decide) (fun c_5 => ?_) (fun c_5 => ?_)
        · have hf := it_f c_5 hf
          refine lv_bipush (v := 12) hx hb dL_speaks_255 (by decide) ?_
          exact J257 s3 syz syw x5 x7 12 _ _ hP hD hS _ (lv_sub hl [1, 2, 3, 4, 5, 6, 7] rfl) hf
        · have hf := it_t c_5 hf
          refine lv_bipush (v := 13) hx hb dL_speaks_250 (by decide) ?_
          refine lv_goto (tgt := 257) hx hb dL_speaks_252 (by decide) ?_
          exact J257 s3 syz syw x5 x7 13 _ _ hP hD hS _ (lv_sub hl [1, 2, 3, 4, 5, 6, 7] rfl) hf
  have J214 : ∀ (s3 : S3) (syz : Syz) (syw : Syw) (x5 : Int32) (x7 : Int32) (H : Heap) (locs : List Loc), va_P (dC, dI) vwCl (cf_35yzyw cI h3 h3a0 h5 hyz hyw h4 h2 h1 h0 s3 s5 syz syw) H → va_D A (cf_35yzyw cI h3 h3a0 h5 hyz hyw h4 h2 h1 h0 s3 s5 syz syw) → va_S A s.heap H locs → ∀ (ls : Array Slot), lv_has ls 9 [(0, .ref h5), (1, .ref b), (2, .int a2), (3, .ref hyw), (4, .ref hyz), (5, .int x5), (7, .int x7)] → fL_speaks_214 L xs s5 a2 s3 syz syw x5 x7 = some (r, s3f, syzf, sywf) → W p l e rmL_speaks s m ([.ref h5, .ref b, .int a2, .ref hyw, .ref hyz] : List Value).toArray below meth c H locs (4) (24) QQ (F0 m 214 ls []) := by
    intro s3 syz syw x5 x7 H locs hP hD hS ls hl hf
    unfold fL_speaks_214 at hf
    refine lv_iconst (v := 0) hx hb dL_speaks_214 (by decide) ?_
    exact J215 s3 syz syw x5 x7 0 _ _ hP hD hS _ (lv_sub hl [0, 1, 2, 3, 4, 5, 6] rfl) hf
  have J170 : ∀ (s3 : S3) (syz : Syz) (syw : Syw) (x5 : Int32) (H : Heap) (locs : List Loc), va_P (dC, dI) vwCl (cf_35yzyw cI h3 h3a0 h5 hyz hyw h4 h2 h1 h0 s3 s5 syz syw) H → va_D A (cf_35yzyw cI h3 h3a0 h5 hyz hyw h4 h2 h1 h0 s3 s5 syz syw) → va_S A s.heap H locs → ∀ (ls : Array Slot), lv_has ls 9 [(0, .ref h5), (1, .ref b), (2, .int a2), (3, .ref hyw), (4, .ref hyz), (5, .int x5)] → fL_speaks_170 L xs s5 a2 s3 syz syw x5 = some (r, s3f, syzf, sywf) → W p l e rmL_speaks s m ([.ref h5, .ref b, .int a2, .ref hyw, .ref hyz] : List Value).toArray below meth c H locs (0) (0) QQ (F0 m 170 ls []) := by
    intro s3 syz syw x5 H locs hP hD hS ls hl hf
    unfold fL_speaks_170 at hf
    refine lv_iload hx hb dL_speaks_170 (lv_at hl 5 rfl) ?_
    refine lv_iconst (v := 3) hx hb dL_speaks_172 (by decide) ?_
    refine lv_ishr hx hb dL_speaks_173 ?_
    refine lv_iconst (v := 5) hx hb dL_speaks_174 (by decide) ?_
    obtain ⟨r_1, hc_1, hf⟩ := bn1_ok hf
    refine gc_i (wc := ([] : va_W)) (wr := (cf_35yzyw cI h3 h3a0 h5 hyz hyw h4 h2 h1 h0 s3 s5 syz syw)) (w1 := ([] : va_W)) (ws' := (cf_35yzyw cI h3 h3a0 h5 hyz hyw h4 h2 h1 h0 s3 s5 syz syw)) hP hD hS hA [] [0, 1, 2, 3, 4] [0, 1, 2, 3, 4] rfl rfl (by decide) (by decide) rfl (by decide) (va_runS (As := [.int (x5 >>> (3 &&& 31)), .int 5]) (rest := []) ⟨hx, hb, hml, hown, hts⟩ (ktL_some l dC dI _ (x5 >>> (3 &&& 31)) 5 r_1 hc_1) (va_cwS 2 hts gL_speaks_L_some rfl rfl rfl (by decide +kernel) ⟨Nat.le_of_ble_eq_true rfl, Nat.le_of_ble_eq_true rfl⟩) (gc_S (hP.sub (ws' := ([] : va_W)) [] rfl) (hK.sub (tys' := []) [] rfl) (hD.sub (ws' := ([] : va_W)) [] (by decide) rfl) hN) rfl rfl hl.1 rfl (lv_room (Nat.le_of_ble_eq_true rfl)) dL_speaks_175 ⟨by show (0) + 0 ≤ 18; omega, by show (0) + 0 ≤ 108; omega⟩) (fun H locs hP hD hS => ?_)
    refine lv_istore (lv' := [(7, .int r_1), (0, .ref h5), (1, .ref b), (2, .int a2), (3, .ref hyw), (4, .ref hyz), (5, .int x5)]) hx hb dL_speaks_178 hl (by decide) rfl (fun ls hl => ?_)
    refine lv_aload_n hx hb dL_speaks_180 rfl (lv_at hl 1 rfl) ?_
    refine lv_aload_n hx hb dL_speaks_181 rfl (lv_at hl 4 rfl) ?_
    refine lv_aload hx hb dL_speaks_182 (lv_at hl 5 rfl) ?_
    refine lv_iload hx hb dL_speaks_184 (lv_at hl 0 rfl) ?_
    obtain ⟨r_2, s3_2, syz_2, syw_2, hc_2, hf⟩ := bn4_ok hf
    refine gc_h (wc := (cf_35yzyw cI h3 h3a0 h5 hyz hyw h4 h2 h1 h0 s3 s5 syz syw)) (wr := ([] : va_W)) (w1 := (cf_35yzyw cI h3 h3a0 h5 hyz hyw h4 h2 h1 h0 s3_2 s5 syz_2 syw_2)) (ws' := (cf_35yzyw cI h3 h3a0 h5 hyz hyw h4 h2 h1 h0 s3_2 s5 syz_2 syw_2)) hP hD hS hA [0, 1, 2, 3, 4] [] [0, 1, 2, 3, 4] rfl rfl (by decide) (by decide) rfl (by decide) (va_runS (As := [.ref h5, .ref hyw, .ref hyz, .int r_1]) (rest := []) ⟨hx, hb, hml, hown, hts⟩ (ktL_adds l hst dC dI cI h3 h3a0 h5 hyz hyw h4 h2 h1 h0 _ s3 s5 syz syw r_1 r_2 s3_2 syz_2 syw_2 hc_2) (va_cwS 4 hts gL_speaks_L_adds rfl rfl rfl (by decide +kernel) ⟨Nat.le_of_ble_eq_true rfl, Nat.le_of_ble_eq_true rfl⟩) (gl_S XH_ok (hP.sub (ws' := (cf_35yzyw cI h3 h3a0 h5 hyz hyw h4 h2 h1 h0 s3 s5 syz syw)) [0, 1, 2, 3, 4] rfl) (hK.sub (tys' := [(cI, .int)]) [0] rfl) (hD.sub (ws' := (cf_35yzyw cI h3 h3a0 h5 hyz hyw h4 h2 h1 h0 s3 s5 syz syw)) [0, 1, 2, 3, 4] (by decide) rfl) hN (XH_ok.2.2.2 A s s.heap _ hS.1 hS.2.1 hXH) (va_free (wc := (cf_35yzyw cI h3 h3a0 h5 hyz hyw h4 h2 h1 h0 s3 s5 syz syw)) hD hS hA [0, 1, 2, 3, 4] rfl)) rfl rfl hl.1 rfl (lv_room (Nat.le_of_ble_eq_true rfl)) dL_speaks_186 ⟨by show (0) + 1 ≤ 18; omega, by show (0) + 6 ≤ 108; omega⟩) (fun H locs hP hD hS => ?_)
    refine lv_if_eq (tgt := 214) hx hb dL_speaks_189 (by decide) (fun c_3 => ?_) (fun c_3 => ?_)
    · have hf := it_t c_3 hf
      refine W.widen (k := 4) (n := 24) (by omega) (by omega) ?_
      exact J214 s3_2 syz_2 syw_2 x5 r_1 _ _ hP hD hS _ (lv_sub hl [1, 2, 3, 4, 5, 6, 0] rfl) hf
    · have hf := it_f c_3 hf
      refine lv_aload_n hx hb dL_speaks_192 rfl (lv_at hl 1 rfl) ?_
      refine lv_aload_n hx hb dL_speaks_193 rfl (lv_at hl 2 rfl) ?_
      refine lv_iload_n hx hb dL_speaks_194 rfl (lv_at hl 3 rfl) ?_
      refine lv_iconst (v := 1) hx hb dL_speaks_195 (by decide) ?_
      refine lv_iadd hx hb dL_speaks_196 ?_
      obtain ⟨r_4, hc_4, hf⟩ := bn1_ok hf
      refine gc_i (wc := ([] : va_W)) (wr := (cf_35yzyw cI h3 h3a0 h5 hyz hyw h4 h2 h1 h0 s3_2 s5 syz_2 syw_2)) (w1 := ([] : va_W)) (ws' := (cf_35yzyw cI h3 h3a0 h5 hyz hyw h4 h2 h1 h0 s3_2 s5 syz_2 syw_2)) hP hD hS hA [] [0, 1, 2, 3, 4] [0, 1, 2, 3, 4] rfl rfl (by decide) (by decide) rfl (by decide) (va_runS (As := [.ref b, .int (a2 + 1)]) (rest := [.ref h5]) ⟨hx, hb, hml, hown, hts⟩ (ktL_cell l dC dI b L xs _ (a2 + 1) r_4 hc_4) (va_cwS 2 hts gL_speaks_L_cell rfl rfl rfl (by decide +kernel) ⟨Nat.le_of_ble_eq_true rfl, Nat.le_of_ble_eq_true rfl⟩) (gl_S (XS_ok b L xs) (hP.sub (ws' := ([] : va_W)) [] rfl) (hK.sub (tys' := []) [] rfl) (hD.sub (ws' := ([] : va_W)) [] (by decide) rfl) hN ((XS_ok b L xs).2.2.2 A s s.heap _ hS.1 hS.2.1 hXS) (va_free (wc := ([] : va_W)) hD hS hA [] rfl)) rfl rfl hl.1 rfl (lv_room (Nat.le_of_ble_eq_true rfl)) dL_speaks_197 ⟨by show (0 + 1) + 0 ≤ 18; omega, by show (0 + 6) + 0 ≤ 108; omega⟩) (fun H locs hP hD hS => ?_)
      refine lv_aload_n hx hb dL_speaks_200 rfl (lv_at hl 4 rfl) ?_
      refine lv_aload hx hb dL_speaks_201 (lv_at hl 5 rfl) ?_
      refine lv_iconst (v := 0) hx hb dL_speaks_203 (by decide) ?_
      obtain ⟨r_5, s3_5, syz_5, syw_5, hc_5, hf⟩ := bn4_ok hf
      refine gc_h (wc := (cf_35yzyw cI h3 h3a0 h5 hyz hyw h4 h2 h1 h0 s3_2 s5 syz_2 syw_2)) (wr := ([] : va_W)) (w1 := (cf_35yzyw cI h3 h3a0 h5 hyz hyw h4 h2 h1 h0 s3_5 s5 syz_5 syw_5)) (ws' := (cf_35yzyw cI h3 h3a0 h5 hyz hyw h4 h2 h1 h0 s3_5 s5 syz_5 syw_5)) hP hD hS hA [0, 1, 2, 3, 4] [] [0, 1, 2, 3, 4] rfl rfl (by decide) (by decide) rfl (by decide) (va_runS (As := [.ref h5, .int r_4, .ref hyw, .ref hyz, .int 0]) (rest := []) ⟨hx, hb, hml, hown, hts⟩ (ktL_phrase l hst dC dI cI h3 h3a0 h5 hyz hyw h4 h2 h1 h0 _ s3_2 s5 syz_2 syw_2 r_4 0 r_5 s3_5 syz_5 syw_5 hc_5) (va_cwS 5 hts gL_speaks_L_phrase rfl rfl rfl (by decide +kernel) ⟨Nat.le_of_ble_eq_true rfl, Nat.le_of_ble_eq_true rfl⟩) (gl_S XH_ok (hP.sub (ws' := (cf_35yzyw cI h3 h3a0 h5 hyz hyw h4 h2 h1 h0 s3_2 s5 syz_2 syw_2)) [0, 1, 2, 3, 4] rfl) (hK.sub (tys' := [(cI, .int)]) [0] rfl) (hD.sub (ws' := (cf_35yzyw cI h3 h3a0 h5 hyz hyw h4 h2 h1 h0 s3_2 s5 syz_2 syw_2)) [0, 1, 2, 3, 4] (by decide) rfl) hN (XH_ok.2.2.2 A s s.heap _ hS.1 hS.2.1 hXH) (va_free (wc := (cf_35yzyw cI h3 h3a0 h5 hyz hyw h4 h2 h1 h0 s3_2 s5 syz_2 syw_2)) hD hS hA [0, 1, 2, 3, 4] rfl)) rfl rfl hl.1 rfl (lv_room (Nat.le_of_ble_eq_true rfl)) dL_speaks_204 ⟨by show (0 + 1) + 3 ≤ 18; omega, by show (0 + 6) + 18 ≤ 108; omega⟩) (fun H locs hP hD hS => ?_)
      refine lv_if_eq (tgt := 214) hx hb dL_speaks_207 (by decide) (fun c_6 => ?_) (fun c_6 => ?_)
      · have hf := it_t c_6 hf
        refine W.widen (k := 4) (n := 24) (by omega) (by omega) ?_
        exact J214 s3_5 syz_5 syw_5 x5 r_1 _ _ hP hD hS _ (lv_sub hl [1, 2, 3, 4, 5, 6, 0] rfl) hf
      · have hf := it_f c_6 hf
        refine lv_iconst (v := 1) hx hb dL_speaks_210 (by decide) ?_
        refine lv_goto (tgt := 215) hx hb dL_speaks_211 (by decide) ?_
        refine W.widen (k := 4) (n := 24) (by omega) (by omega) ?_
        exact J215 s3_5 syz_5 syw_5 x5 r_1 1 _ _ hP hD hS _ (lv_sub hl [1, 2, 3, 4, 5, 6, 0] rfl) hf
  have J169 : ∀ (s3 : S3) (syz : Syz) (syw : Syw) (t0 : Int32) (H : Heap) (locs : List Loc), va_P (dC, dI) vwCl (cf_35yzyw cI h3 h3a0 h5 hyz hyw h4 h2 h1 h0 s3 s5 syz syw) H → va_D A (cf_35yzyw cI h3 h3a0 h5 hyz hyw h4 h2 h1 h0 s3 s5 syz syw) → va_S A s.heap H locs → ∀ (ls : Array Slot), lv_has ls 9 [] → fL_speaks_169 L xs s5 a2 s3 syz syw t0 = some (r, s3f, syzf, sywf) → W p l e rmL_speaks s m ([.ref h5, .ref b, .int a2, .ref hyw, .ref hyz] : List Value).toArray below meth c H locs (3) (18) QQ (F0 m 169 ls [.int t0]) := by
    intro s3 syz syw t0 H locs hP hD hS ls hl hf
    unfold fL_speaks_169 at hf
    obtain ⟨hz_1, hf⟩ := bo_ok hf
    have hf : (some (t0, s3, syz, syw) : Option (Int32 × S3 × Syz × Syw)) = some (r, s3f, syzf, sywf) := hf
    have he := Option.some.inj hf
    have he0 : t0 = r := congrArg (fun q => q.1) he
    have he1 : s3 = s3f := congrArg (fun q => q.2.1) he
    have he2 : syz = syzf := congrArg (fun q => q.2.2.1) he
    have he3 : syw = sywf := congrArg (fun q => q.2.2.2) he
    refine W.widen (k := 18) (n := 108) (by omega) (by omega) ?_
    exact hret _ _ _ _ _ _ hz_1 he0 (by rw [← he1, ← he2, ← he3]) dL_speaks_169 hP hD hS
  have J168 : ∀ (s3 : S3) (syz : Syz) (syw : Syw) (H : Heap) (locs : List Loc), va_P (dC, dI) vwCl (cf_35yzyw cI h3 h3a0 h5 hyz hyw h4 h2 h1 h0 s3 s5 syz syw) H → va_D A (cf_35yzyw cI h3 h3a0 h5 hyz hyw h4 h2 h1 h0 s3 s5 syz syw) → va_S A s.heap H locs → ∀ (ls : Array Slot), lv_has ls 9 [] → fL_speaks_168 L xs s5 a2 s3 syz syw = some (r, s3f, syzf, sywf) → W p l e rmL_speaks s m ([.ref h5, .ref b, .int a2, .ref hyw, .ref hyz] : List Value).toArray below meth c H locs (3) (18) QQ (F0 m 168 ls []) := by
    intro s3 syz syw H locs hP hD hS ls hl hf
    unfold fL_speaks_168 at hf
    refine lv_iconst (v := 0) hx hb dL_speaks_168 (by decide) ?_
    exact J169 s3 syz syw 0 _ _ hP hD hS _ (lv_sub hl [] rfl) hf
  have J164 : ∀ (s3 : S3) (syz : Syz) (syw : Syw) (H : Heap) (locs : List Loc), va_P (dC, dI) vwCl (cf_35yzyw cI h3 h3a0 h5 hyz hyw h4 h2 h1 h0 s3 s5 syz syw) H → va_D A (cf_35yzyw cI h3 h3a0 h5 hyz hyw h4 h2 h1 h0 s3 s5 syz syw) → va_S A s.heap H locs → ∀ (ls : Array Slot), lv_has ls 9 [] → fL_speaks_164 L xs s5 a2 s3 syz syw = some (r, s3f, syzf, sywf) → W p l e rmL_speaks s m ([.ref h5, .ref b, .int a2, .ref hyw, .ref hyz] : List Value).toArray below meth c H locs (3) (18) QQ (F0 m 164 ls []) := by
    intro s3 syz syw H locs hP hD hS ls hl hf
    unfold fL_speaks_164 at hf
    refine lv_iconst (v := 1) hx hb dL_speaks_164 (by decide) ?_
    refine lv_goto (tgt := 169) hx hb dL_speaks_165 (by decide) ?_
    exact J169 s3 syz syw 1 _ _ hP hD hS _ (lv_sub hl [] rfl) hf
  have J158 : ∀ (s3 : S3) (syz : Syz) (syw : Syw) (t3 : Int32) (H : Heap) (locs : List Loc), va_P (dC, dI) vwCl (cf_35yzyw cI h3 h3a0 h5 hyz hyw h4 h2 h1 h0 s3 s5 syz syw) H → va_D A (cf_35yzyw cI h3 h3a0 h5 hyz hyw h4 h2 h1 h0 s3 s5 syz syw) → va_S A s.heap H locs → ∀ (ls : Array Slot), lv_has ls 9 [] → fL_speaks_158 L xs s5 a2 s3 syz syw t3 = some (r, s3f, syzf, sywf) → W p l e rmL_speaks s m ([.ref h5, .ref b, .int a2, .ref hyw, .ref hyz] : List Value).toArray below meth c H locs (2) (12) QQ (F0 m 158 ls [.int t3, .ref hyz, .ref hyw, .ref h5]) := by
    intro s3 syz syw t3 H locs hP hD hS ls hl hf
    unfold fL_speaks_158 at hf
    obtain ⟨r_1, s3_1, syz_1, syw_1, hc_1, hf⟩ := bn4_ok hf
    refine gc_h (wc := (cf_35yzyw cI h3 h3a0 h5 hyz hyw h4 h2 h1 h0 s3 s5 syz syw)) (wr := ([] : va_W)) (w1 := (cf_35yzyw cI h3 h3a0 h5 hyz hyw h4 h2 h1 h0 s3_1 s5 syz_1 syw_1)) (ws' := (cf_35yzyw cI h3 h3a0 h5 hyz hyw h4 h2 h1 h0 s3_1 s5 syz_1 syw_1)) hP hD hS hA [0, 1, 2, 3, 4] [] [0, 1, 2, 3, 4] rfl rfl (by decide) (by decide) rfl (by decide) (va_runS (As := [.ref h5, .ref hyw, .ref hyz, .int t3]) (rest := []) ⟨hx, hb, hml, hown, hts⟩ (ktL_adds l hst dC dI cI h3 h3a0 h5 hyz hyw h4 h2 h1 h0 _ s3 s5 syz syw t3 r_1 s3_1 syz_1 syw_1 hc_1) (va_cwS 4 hts gL_speaks_L_adds rfl rfl rfl (by decide +kernel) ⟨Nat.le_of_ble_eq_true rfl, Nat.le_of_ble_eq_true rfl⟩) (gl_S XH_ok (hP.sub (ws' := (cf_35yzyw cI h3 h3a0 h5 hyz hyw h4 h2 h1 h0 s3 s5 syz syw)) [0, 1, 2, 3, 4] rfl) (hK.sub (tys' := [(cI, .int)]) [0] rfl) (hD.sub (ws' := (cf_35yzyw cI h3 h3a0 h5 hyz hyw h4 h2 h1 h0 s3 s5 syz syw)) [0, 1, 2, 3, 4] (by decide) rfl) hN (XH_ok.2.2.2 A s s.heap _ hS.1 hS.2.1 hXH) (va_free (wc := (cf_35yzyw cI h3 h3a0 h5 hyz hyw h4 h2 h1 h0 s3 s5 syz syw)) hD hS hA [0, 1, 2, 3, 4] rfl)) rfl rfl hl.1 rfl (lv_room (Nat.le_of_ble_eq_true rfl)) dL_speaks_158 ⟨by show (2) + 1 ≤ 18; omega, by show (12) + 6 ≤ 108; omega⟩) (fun H locs hP hD hS => ?_)
    refine lv_if_eq (tgt := 168) hx hb dL_speaks_161 (by decide) (fun c_2 => ?_) (fun c_2 => ?_)
    · have hf := it_t c_2 hf
      refine W.widen (k := 3) (n := 18) (by omega) (by omega) ?_
      exact J168 s3_1 syz_1 syw_1 _ _ hP hD hS _ (lv_sub hl [] rfl) hf
    · have hf := it_f c_2 hf
      refine W.widen (k := 3) (n := 18) (by omega) (by omega) ?_
      exact J164 s3_1 syz_1 syw_1 _ _ hP hD hS _ (lv_sub hl [] rfl) hf
  have J106 : ∀ (s3 : S3) (syz : Syz) (syw : Syw) (x7 : Int32) (t0 : Int32) (H : Heap) (locs : List Loc), va_P (dC, dI) vwCl (cf_35yzyw cI h3 h3a0 h5 hyz hyw h4 h2 h1 h0 s3 s5 syz syw) H → va_D A (cf_35yzyw cI h3 h3a0 h5 hyz hyw h4 h2 h1 h0 s3 s5 syz syw) → va_S A s.heap H locs → ∀ (ls : Array Slot), lv_has ls 9 [(0, .ref h5), (3, .ref hyw), (4, .ref hyz), (7, .int x7)] → fL_speaks_106 L xs s5 a2 s3 syz syw x7 t0 = some (r, s3f, syzf, sywf) → W p l e rmL_speaks s m ([.ref h5, .ref b, .int a2, .ref hyw, .ref hyz] : List Value).toArray below meth c H locs (2) (12) QQ (F0 m 106 ls [.int t0]) := by
    intro s3 syz syw x7 t0 H locs hP hD hS ls hl hf
    unfold fL_speaks_106 at hf
    refine lv_istore (lv' := [(6, .int t0), (0, .ref h5), (3, .ref hyw), (4, .ref hyz), (7, .int x7)]) hx hb dL_speaks_106 hl (by decide) rfl (fun ls hl => ?_)
    refine lv_iload hx hb dL_speaks_108 (lv_at hl 0 rfl) ?_
    refine lv_if_eq (tgt := 168) hx hb dL_speaks_110 (by decide) (fun c_1 => ?_) (fun c_1 => ?_)
    · have hf := it_t c_1 hf
      refine W.widen (k := 3) (n := 18) (by omega) (by omega) ?_
      exact J168 s3 syz syw _ _ hP hD hS _ (lv_sub hl [] rfl) hf
    · have hf := it_f c_1 hf
      refine lv_iload hx hb dL_speaks_113 (lv_at hl 4 rfl) ?_
      refine lv_bipush (v := 6) hx hb dL_speaks_115 (by decide) ?_
      refine lv_ishr hx hb dL_speaks_117 ?_
      refine lv_iconst (v := 3) hx hb dL_speaks_118 (by decide) ?_
      obtain ⟨r_2, hc_2, hf⟩ := bn1_ok hf
      refine gc_i (wc := ([] : va_W)) (wr := (cf_35yzyw cI h3 h3a0 h5 hyz hyw h4 h2 h1 h0 s3 s5 syz syw)) (w1 := ([] : va_W)) (ws' := (cf_35yzyw cI h3 h3a0 h5 hyz hyw h4 h2 h1 h0 s3 s5 syz syw)) hP hD hS hA [] [0, 1, 2, 3, 4] [0, 1, 2, 3, 4] rfl rfl (by decide) (by decide) rfl (by decide) (va_runS (As := [.int (x7 >>> (6 &&& 31)), .int 3]) (rest := []) ⟨hx, hb, hml, hown, hts⟩ (ktL_some l dC dI _ (x7 >>> (6 &&& 31)) 3 r_2 hc_2) (va_cwS 2 hts gL_speaks_L_some rfl rfl rfl (by decide +kernel) ⟨Nat.le_of_ble_eq_true rfl, Nat.le_of_ble_eq_true rfl⟩) (gc_S (hP.sub (ws' := ([] : va_W)) [] rfl) (hK.sub (tys' := []) [] rfl) (hD.sub (ws' := ([] : va_W)) [] (by decide) rfl) hN) rfl rfl hl.1 rfl (lv_room (Nat.le_of_ble_eq_true rfl)) dL_speaks_119 ⟨by show (2) + 0 ≤ 18; omega, by show (12) + 0 ≤ 108; omega⟩) (fun H locs hP hD hS => ?_)
      refine lv_if_eq (tgt := 164) hx hb dL_speaks_122 (by decide) (fun c_3 => ?_) (fun c_3 => ?_)
      · have hf := it_t c_3 hf
        refine W.widen (k := 3) (n := 18) (by omega) (by omega) ?_
        exact J164 s3 syz syw _ _ hP hD hS _ (lv_sub hl [] rfl) hf
      · have hf := it_f c_3 hf
        refine lv_aload_n hx hb dL_speaks_125 rfl (lv_at hl 1 rfl) ?_
        refine lv_aload_n hx hb dL_speaks_126 rfl (lv_at hl 2 rfl) ?_
        refine lv_aload hx hb dL_speaks_127 (lv_at hl 3 rfl) ?_
        refine lv_iload hx hb dL_speaks_129 (lv_at hl 4 rfl) ?_
        refine lv_bipush (v := 8) hx hb dL_speaks_131 (by decide) ?_
        refine lv_ishr hx hb dL_speaks_133 ?_
        refine lv_iconst (v := 4) hx hb dL_speaks_134 (by decide) ?_
        obtain ⟨r_4, hc_4, hf⟩ := bn1_ok hf
        refine gc_i (wc := ([] : va_W)) (wr := (cf_35yzyw cI h3 h3a0 h5 hyz hyw h4 h2 h1 h0 s3 s5 syz syw)) (w1 := ([] : va_W)) (ws' := (cf_35yzyw cI h3 h3a0 h5 hyz hyw h4 h2 h1 h0 s3 s5 syz syw)) hP hD hS hA [] [0, 1, 2, 3, 4] [0, 1, 2, 3, 4] rfl rfl (by decide) (by decide) rfl (by decide) (va_runS (As := [.int (x7 >>> (8 &&& 31)), .int 4]) (rest := [.ref hyz, .ref hyw, .ref h5]) ⟨hx, hb, hml, hown, hts⟩ (ktL_some l dC dI _ (x7 >>> (8 &&& 31)) 4 r_4 hc_4) (va_cwS 2 hts gL_speaks_L_some rfl rfl rfl (by decide +kernel) ⟨Nat.le_of_ble_eq_true rfl, Nat.le_of_ble_eq_true rfl⟩) (gc_S (hP.sub (ws' := ([] : va_W)) [] rfl) (hK.sub (tys' := []) [] rfl) (hD.sub (ws' := ([] : va_W)) [] (by decide) rfl) hN) rfl rfl hl.1 rfl (lv_room (Nat.le_of_ble_eq_true rfl)) dL_speaks_135 ⟨by show (2) + 0 ≤ 18; omega, by show (12) + 0 ≤ 108; omega⟩) (fun H locs hP hD hS => ?_)
        refine lv_if_ne (tgt := 146) hx hb dL_speaks_138 (by decide) (fun c_5 => ?_) (fun c_5 => ?_)
        · have hf := it_f c_5 hf
          refine lv_bipush (v := 30) hx hb dL_speaks_146 (by decide) ?_
          refine lv_iload hx hb dL_speaks_148 (lv_at hl 4 rfl) ?_
          refine lv_bipush (v := 8) hx hb dL_speaks_150 (by decide) ?_
          refine lv_ishr hx hb dL_speaks_152 ?_
          refine lv_iconst (v := 2) hx hb dL_speaks_153 (by decide) ?_
          obtain ⟨r_6, hc_6, hf⟩ := bn1_ok hf
          refine gc_i (wc := ([] : va_W)) (wr := (cf_35yzyw cI h3 h3a0 h5 hyz hyw h4 h2 h1 h0 s3 s5 syz syw)) (w1 := ([] : va_W)) (ws' := (cf_35yzyw cI h3 h3a0 h5 hyz hyw h4 h2 h1 h0 s3 s5 syz syw)) hP hD hS hA [] [0, 1, 2, 3, 4] [0, 1, 2, 3, 4] rfl rfl (by decide) (by decide) rfl (by decide) (va_runS (As := [.int (x7 >>> (8 &&& 31)), .int 2]) (rest := [.int 30, .ref hyz, .ref hyw, .ref h5]) ⟨hx, hb, hml, hown, hts⟩ (ktL_some l dC dI _ (x7 >>> (8 &&& 31)) 2 r_6 hc_6) (va_cwS 2 hts gL_speaks_L_some rfl rfl rfl (by decide +kernel) ⟨Nat.le_of_ble_eq_true rfl, Nat.le_of_ble_eq_true rfl⟩) (gc_S (hP.sub (ws' := ([] : va_W)) [] rfl) (hK.sub (tys' := []) [] rfl) (hD.sub (ws' := ([] : va_W)) [] (by decide) rfl) hN) rfl rfl hl.1 rfl (lv_room (Nat.le_of_ble_eq_true rfl)) dL_speaks_154 ⟨by show (2) + 0 ≤ 18; omega, by show (12) + 0 ≤ 108; omega⟩) (fun H locs hP hD hS => ?_)
          refine lv_iadd hx hb dL_speaks_157 ?_
          exact J158 s3 syz syw (30 + r_6) _ _ hP hD hS _ (lv_sub hl [] rfl) hf
        · have hf := it_t c_5 hf
          refine lv_bipush (v := 17) hx hb dL_speaks_141 (by decide) ?_
          refine lv_goto (tgt := 158) hx hb dL_speaks_143 (by decide) ?_
          exact J158 s3 syz syw 17 _ _ hP hD hS _ (lv_sub hl [] rfl) hf
  have J105 : ∀ (s3 : S3) (syz : Syz) (syw : Syw) (x7 : Int32) (H : Heap) (locs : List Loc), va_P (dC, dI) vwCl (cf_35yzyw cI h3 h3a0 h5 hyz hyw h4 h2 h1 h0 s3 s5 syz syw) H → va_D A (cf_35yzyw cI h3 h3a0 h5 hyz hyw h4 h2 h1 h0 s3 s5 syz syw) → va_S A s.heap H locs → ∀ (ls : Array Slot), lv_has ls 9 [(0, .ref h5), (3, .ref hyw), (4, .ref hyz), (7, .int x7)] → fL_speaks_105 L xs s5 a2 s3 syz syw x7 = some (r, s3f, syzf, sywf) → W p l e rmL_speaks s m ([.ref h5, .ref b, .int a2, .ref hyw, .ref hyz] : List Value).toArray below meth c H locs (2) (12) QQ (F0 m 105 ls []) := by
    intro s3 syz syw x7 H locs hP hD hS ls hl hf
    unfold fL_speaks_105 at hf
    refine lv_iconst (v := 0) hx hb dL_speaks_105 (by decide) ?_
    exact J106 s3 syz syw x7 0 _ _ hP hD hS _ (lv_sub hl [0, 1, 2, 3] rfl) hf
  have J101 : ∀ (s3 : S3) (syz : Syz) (syw : Syw) (x7 : Int32) (H : Heap) (locs : List Loc), va_P (dC, dI) vwCl (cf_35yzyw cI h3 h3a0 h5 hyz hyw h4 h2 h1 h0 s3 s5 syz syw) H → va_D A (cf_35yzyw cI h3 h3a0 h5 hyz hyw h4 h2 h1 h0 s3 s5 syz syw) → va_S A s.heap H locs → ∀ (ls : Array Slot), lv_has ls 9 [(0, .ref h5), (3, .ref hyw), (4, .ref hyz), (7, .int x7)] → fL_speaks_101 L xs s5 a2 s3 syz syw x7 = some (r, s3f, syzf, sywf) → W p l e rmL_speaks s m ([.ref h5, .ref b, .int a2, .ref hyw, .ref hyz] : List Value).toArray below meth c H locs (2) (12) QQ (F0 m 101 ls []) := by
    intro s3 syz syw x7 H locs hP hD hS ls hl hf
    unfold fL_speaks_101 at hf
    refine lv_iconst (v := 1) hx hb dL_speaks_101 (by decide) ?_
    refine lv_goto (tgt := 106) hx hb dL_speaks_102 (by decide) ?_
    exact J106 s3 syz syw x7 1 _ _ hP hD hS _ (lv_sub hl [0, 1, 2, 3] rfl) hf
  have J62 : ∀ (s3 : S3) (syz : Syz) (syw : Syw) (x7 : Int32) (t0 : Int32) (H : Heap) (locs : List Loc), va_P (dC, dI) vwCl (cf_35yzyw cI h3 h3a0 h5 hyz hyw h4 h2 h1 h0 s3 s5 syz syw) H → va_D A (cf_35yzyw cI h3 h3a0 h5 hyz hyw h4 h2 h1 h0 s3 s5 syz syw) → va_S A s.heap H locs → ∀ (ls : Array Slot), lv_has ls 9 [(0, .ref h5), (3, .ref hyw), (4, .ref hyz), (7, .int x7)] → fL_speaks_62 L xs s5 a2 s3 syz syw x7 t0 = some (r, s3f, syzf, sywf) → W p l e rmL_speaks s m ([.ref h5, .ref b, .int a2, .ref hyw, .ref hyz] : List Value).toArray below meth c H locs (1) (6) QQ (F0 m 62 ls [.int t0]) := by
    intro s3 syz syw x7 t0 H locs hP hD hS ls hl hf
    unfold fL_speaks_62 at hf
    refine lv_istore (lv' := [(6, .int t0), (0, .ref h5), (3, .ref hyw), (4, .ref hyz), (7, .int x7)]) hx hb dL_speaks_62 hl (by decide) rfl (fun ls hl => ?_)
    refine lv_iload hx hb dL_speaks_64 (lv_at hl 0 rfl) ?_
    refine lv_if_eq (tgt := 105) hx hb dL_speaks_66 (by decide) (fun c_1 => ?_) (fun c_1 => ?_)
    · have hf := it_t c_1 hf
      refine W.widen (k := 2) (n := 12) (by omega) (by omega) ?_
      exact J105 s3 syz syw x7 _ _ hP hD hS _ (lv_sub hl [1, 2, 3, 4] rfl) hf
    · have hf := it_f c_1 hf
      refine lv_iload hx hb dL_speaks_69 (lv_at hl 4 rfl) ?_
      refine lv_iconst (v := 2) hx hb dL_speaks_71 (by decide) ?_
      refine lv_ishr hx hb dL_speaks_72 ?_
      refine lv_iconst (v := 2) hx hb dL_speaks_73 (by decide) ?_
      obtain ⟨r_2, hc_2, hf⟩ := bn1_ok hf
      refine gc_i (wc := ([] : va_W)) (wr := (cf_35yzyw cI h3 h3a0 h5 hyz hyw h4 h2 h1 h0 s3 s5 syz syw)) (w1 := ([] : va_W)) (ws' := (cf_35yzyw cI h3 h3a0 h5 hyz hyw h4 h2 h1 h0 s3 s5 syz syw)) hP hD hS hA [] [0, 1, 2, 3, 4] [0, 1, 2, 3, 4] rfl rfl (by decide) (by decide) rfl (by decide) (va_runS (As := [.int (x7 >>> (2 &&& 31)), .int 2]) (rest := []) ⟨hx, hb, hml, hown, hts⟩ (ktL_some l dC dI _ (x7 >>> (2 &&& 31)) 2 r_2 hc_2) (va_cwS 2 hts gL_speaks_L_some rfl rfl rfl (by decide +kernel) ⟨Nat.le_of_ble_eq_true rfl, Nat.le_of_ble_eq_true rfl⟩) (gc_S (hP.sub (ws' := ([] : va_W)) [] rfl) (hK.sub (tys' := []) [] rfl) (hD.sub (ws' := ([] : va_W)) [] (by decide) rfl) hN) rfl rfl hl.1 rfl (lv_room (Nat.le_of_ble_eq_true rfl)) dL_speaks_74 ⟨by show (1) + 0 ≤ 18; omega, by show (6) + 0 ≤ 108; omega⟩) (fun H locs hP hD hS => ?_)
      refine lv_if_eq (tgt := 101) hx hb dL_speaks_77 (by decide) (fun c_3 => ?_) (fun c_3 => ?_)
      · have hf := it_t c_3 hf
        refine W.widen (k := 2) (n := 12) (by omega) (by omega) ?_
        exact J101 s3 syz syw x7 _ _ hP hD hS _ (lv_sub hl [1, 2, 3, 4] rfl) hf
      · have hf := it_f c_3 hf
        refine lv_aload_n hx hb dL_speaks_80 rfl (lv_at hl 1 rfl) ?_
        refine lv_aload_n hx hb dL_speaks_81 rfl (lv_at hl 2 rfl) ?_
        refine lv_aload hx hb dL_speaks_82 (lv_at hl 3 rfl) ?_
        refine lv_bipush (v := 20) hx hb dL_speaks_84 (by decide) ?_
        refine lv_iload hx hb dL_speaks_86 (lv_at hl 4 rfl) ?_
        refine lv_iconst (v := 4) hx hb dL_speaks_88 (by decide) ?_
        refine lv_ishr hx hb dL_speaks_89 ?_
        refine lv_iconst (v := 3) hx hb dL_speaks_90 (by decide) ?_
        obtain ⟨r_4, hc_4, hf⟩ := bn1_ok hf
        refine gc_i (wc := ([] : va_W)) (wr := (cf_35yzyw cI h3 h3a0 h5 hyz hyw h4 h2 h1 h0 s3 s5 syz syw)) (w1 := ([] : va_W)) (ws' := (cf_35yzyw cI h3 h3a0 h5 hyz hyw h4 h2 h1 h0 s3 s5 syz syw)) hP hD hS hA [] [0, 1, 2, 3, 4] [0, 1, 2, 3, 4] rfl rfl (by decide) (by decide) rfl (by decide) (va_runS (As := [.int (x7 >>> (4 &&& 31)), .int 3]) (rest := [.int 20, .ref hyz, .ref hyw, .ref h5]) ⟨hx, hb, hml, hown, hts⟩ (ktL_some l dC dI _ (x7 >>> (4 &&& 31)) 3 r_4 hc_4) (va_cwS 2 hts gL_speaks_L_some rfl rfl rfl (by decide +kernel) ⟨Nat.le_of_ble_eq_true rfl, Nat.le_of_ble_eq_true rfl⟩) (gc_S (hP.sub (ws' := ([] : va_W)) [] rfl) (hK.sub (tys' := []) [] rfl) (hD.sub (ws' := ([] : va_W)) [] (by decide) rfl) hN) rfl rfl hl.1 rfl (lv_room (Nat.le_of_ble_eq_true rfl)) dL_speaks_91 ⟨by show (1) + 0 ≤ 18; omega, by show (6) + 0 ≤ 108; omega⟩) (fun H locs hP hD hS => ?_)
        refine lv_iadd hx hb dL_speaks_94 ?_
        obtain ⟨r_5, s3_5, syz_5, syw_5, hc_5, hf⟩ := bn4_ok hf
        refine gc_h (wc := (cf_35yzyw cI h3 h3a0 h5 hyz hyw h4 h2 h1 h0 s3 s5 syz syw)) (wr := ([] : va_W)) (w1 := (cf_35yzyw cI h3 h3a0 h5 hyz hyw h4 h2 h1 h0 s3_5 s5 syz_5 syw_5)) (ws' := (cf_35yzyw cI h3 h3a0 h5 hyz hyw h4 h2 h1 h0 s3_5 s5 syz_5 syw_5)) hP hD hS hA [0, 1, 2, 3, 4] [] [0, 1, 2, 3, 4] rfl rfl (by decide) (by decide) rfl (by decide) (va_runS (As := [.ref h5, .ref hyw, .ref hyz, .int (20 + r_4)]) (rest := []) ⟨hx, hb, hml, hown, hts⟩ (ktL_adds l hst dC dI cI h3 h3a0 h5 hyz hyw h4 h2 h1 h0 _ s3 s5 syz syw (20 + r_4) r_5 s3_5 syz_5 syw_5 hc_5) (va_cwS 4 hts gL_speaks_L_adds rfl rfl rfl (by decide +kernel) ⟨Nat.le_of_ble_eq_true rfl, Nat.le_of_ble_eq_true rfl⟩) (gl_S XH_ok (hP.sub (ws' := (cf_35yzyw cI h3 h3a0 h5 hyz hyw h4 h2 h1 h0 s3 s5 syz syw)) [0, 1, 2, 3, 4] rfl) (hK.sub (tys' := [(cI, .int)]) [0] rfl) (hD.sub (ws' := (cf_35yzyw cI h3 h3a0 h5 hyz hyw h4 h2 h1 h0 s3 s5 syz syw)) [0, 1, 2, 3, 4] (by decide) rfl) hN (XH_ok.2.2.2 A s s.heap _ hS.1 hS.2.1 hXH) (va_free (wc := (cf_35yzyw cI h3 h3a0 h5 hyz hyw h4 h2 h1 h0 s3 s5 syz syw)) hD hS hA [0, 1, 2, 3, 4] rfl)) rfl rfl hl.1 rfl (lv_room (Nat.le_of_ble_eq_true rfl)) dL_speaks_95 ⟨by show (1) + 1 ≤ 18; omega, by show (6) + 6 ≤ 108; omega⟩) (fun H locs hP hD hS => ?_)
        refine lv_if_eq (tgt := 105) hx hb dL_speaks_98 (by decide) (fun c_6 => ?_) (fun c_6 => ?_)
        · have hf := it_t c_6 hf
          refine W.widen (k := 2) (n := 12) (by omega) (by omega) ?_
          exact J105 s3_5 syz_5 syw_5 x7 _ _ hP hD hS _ (lv_sub hl [1, 2, 3, 4] rfl) hf
        · have hf := it_f c_6 hf
          refine W.widen (k := 2) (n := 12) (by omega) (by omega) ?_
          exact J101 s3_5 syz_5 syw_5 x7 _ _ hP hD hS _ (lv_sub hl [1, 2, 3, 4] rfl) hf
  have J57 : ∀ (s3 : S3) (syz : Syz) (syw : Syw) (x7 : Int32) (H : Heap) (locs : List Loc), va_P (dC, dI) vwCl (cf_35yzyw cI h3 h3a0 h5 hyz hyw h4 h2 h1 h0 s3 s5 syz syw) H → va_D A (cf_35yzyw cI h3 h3a0 h5 hyz hyw h4 h2 h1 h0 s3 s5 syz syw) → va_S A s.heap H locs → ∀ (ls : Array Slot), lv_has ls 9 [(0, .ref h5), (3, .ref hyw), (4, .ref hyz), (7, .int x7)] → fL_speaks_57 L xs s5 a2 s3 syz syw x7 = some (r, s3f, syzf, sywf) → W p l e rmL_speaks s m ([.ref h5, .ref b, .int a2, .ref hyw, .ref hyz] : List Value).toArray below meth c H locs (1) (6) QQ (F0 m 57 ls []) := by
    intro s3 syz syw x7 H locs hP hD hS ls hl hf
    unfold fL_speaks_57 at hf
    refine lv_iconst (v := 1) hx hb dL_speaks_57 (by decide) ?_
    refine lv_goto (tgt := 62) hx hb dL_speaks_58 (by decide) ?_
    exact J62 s3 syz syw x7 1 _ _ hP hD hS _ (lv_sub hl [0, 1, 2, 3] rfl) hf
  unfold fL_speaks at hf
  refine lv_aload_n hx hb dL_speaks_0 rfl (lv_at hl 1 rfl) ?_
  refine lv_iload_n hx hb dL_speaks_1 rfl (lv_at hl 2 rfl) ?_
  obtain ⟨r_1, hc_1, hf⟩ := bn1_ok hf
  refine gc_i (wc := ([] : va_W)) (wr := (cf_35yzyw cI h3 h3a0 h5 hyz hyw h4 h2 h1 h0 s3 s5 syz syw)) (w1 := ([] : va_W)) (ws' := (cf_35yzyw cI h3 h3a0 h5 hyz hyw h4 h2 h1 h0 s3 s5 syz syw)) hP hD hS hA [] [0, 1, 2, 3, 4] [0, 1, 2, 3, 4] rfl rfl (by decide) (by decide) rfl (by decide) (va_runS (As := [.ref b, .int a2]) (rest := []) ⟨hx, hb, hml, hown, hts⟩ (ktL_cell l dC dI b L xs _ a2 r_1 hc_1) (va_cwS 2 hts gL_speaks_L_cell rfl rfl rfl (by decide +kernel) ⟨Nat.le_of_ble_eq_true rfl, Nat.le_of_ble_eq_true rfl⟩) (gl_S (XS_ok b L xs) (hP.sub (ws' := ([] : va_W)) [] rfl) (hK.sub (tys' := []) [] rfl) (hD.sub (ws' := ([] : va_W)) [] (by decide) rfl) hN ((XS_ok b L xs).2.2.2 A s s.heap _ hS.1 hS.2.1 hXS) (va_free (wc := ([] : va_W)) hD hS hA [] rfl)) rfl rfl hl.1 rfl (lv_room (Nat.le_of_ble_eq_true rfl)) dL_speaks_2 ⟨by show (0) + 0 ≤ 18; omega, by show (0) + 0 ≤ 108; omega⟩) (fun H locs hP hD hS => ?_)
  refine lv_istore (lv' := [(5, .int r_1), (0, .ref h5), (1, .ref b), (2, .int a2), (3, .ref hyw), (4, .ref hyz)]) hx hb dL_speaks_5 hl (by decide) rfl (fun ls hl => ?_)
  refine lv_iconst (v := 1) hx hb dL_speaks_7 (by decide) ?_
  refine lv_istore (lv' := [(6, .int 1), (5, .int r_1), (0, .ref h5), (1, .ref b), (2, .int a2), (3, .ref hyw), (4, .ref hyz)]) hx hb dL_speaks_8 hl (by decide) rfl (fun ls hl => ?_)
  refine lv_aload hx hb dL_speaks_10 (lv_at hl 6 rfl) ?_
  refine lv_bipush (v := 9) hx hb dL_speaks_12 (by decide) ?_
  obtain ⟨hi_2, hf⟩ := ai_ok hf
  refine va_iald (n := 13) (f := syz) hx hb hK hP 3 0 rfl rfl hi_2 dL_speaks_14 ?_
  refine lv_if_le (tgt := 170) hx hb dL_speaks_15 (by decide) (fun c_3 => ?_) (fun c_3 => ?_)
  · have hf := it_t c_3 hf
    exact J170 s3 syz syw r_1 _ _ hP hD hS _ (lv_sub hl [2, 3, 4, 5, 6, 1] rfl) hf
  · have hf := it_f c_3 hf
    refine lv_iload hx hb dL_speaks_18 (lv_at hl 1 rfl) ?_
    refine lv_iconst (v := 4) hx hb dL_speaks_20 (by decide) ?_
    obtain ⟨r_4, hc_4, hf⟩ := bn1_ok hf
    refine gc_i (wc := ([] : va_W)) (wr := (cf_35yzyw cI h3 h3a0 h5 hyz hyw h4 h2 h1 h0 s3 s5 syz syw)) (w1 := ([] : va_W)) (ws' := (cf_35yzyw cI h3 h3a0 h5 hyz hyw h4 h2 h1 h0 s3 s5 syz syw)) hP hD hS hA [] [0, 1, 2, 3, 4] [0, 1, 2, 3, 4] rfl rfl (by decide) (by decide) rfl (by decide) (va_runS (As := [.int r_1, .int 4]) (rest := []) ⟨hx, hb, hml, hown, hts⟩ (ktL_some l dC dI _ r_1 4 r_4 hc_4) (va_cwS 2 hts gL_speaks_L_some rfl rfl rfl (by decide +kernel) ⟨Nat.le_of_ble_eq_true rfl, Nat.le_of_ble_eq_true rfl⟩) (gc_S (hP.sub (ws' := ([] : va_W)) [] rfl) (hK.sub (tys' := []) [] rfl) (hD.sub (ws' := ([] : va_W)) [] (by decide) rfl) hN) rfl rfl hl.1 rfl (lv_room (Nat.le_of_ble_eq_true rfl)) dL_speaks_21 ⟨by show (0) + 0 ≤ 18; omega, by show (0) + 0 ≤ 108; omega⟩) (fun H locs hP hD hS => ?_)
    refine lv_if_le (tgt := 170) hx hb dL_speaks_24 (by decide) (fun c_5 => ?_) (fun c_5 => ?_)
    · have hf := it_t c_5 hf
      exact J170 s3 syz syw r_1 _ _ hP hD hS _ (lv_sub hl [2, 3, 4, 5, 6, 1] rfl) hf
    · have hf := it_f c_5 hf
      refine lv_aload_n hx hb dL_speaks_27 rfl (lv_at hl 3 rfl) ?_
      refine lv_iload_n hx hb dL_speaks_28 rfl (lv_at hl 4 rfl) ?_
      refine lv_iconst (v := 1) hx hb dL_speaks_29 (by decide) ?_
      refine lv_iadd hx hb dL_speaks_30 ?_
      obtain ⟨r_6, hc_6, hf⟩ := bn1_ok hf
      refine gc_i (wc := ([] : va_W)) (wr := (cf_35yzyw cI h3 h3a0 h5 hyz hyw h4 h2 h1 h0 s3 s5 syz syw)) (w1 := ([] : va_W)) (ws' := (cf_35yzyw cI h3 h3a0 h5 hyz hyw h4 h2 h1 h0 s3 s5 syz syw)) hP hD hS hA [] [0, 1, 2, 3, 4] [0, 1, 2, 3, 4] rfl rfl (by decide) (by decide) rfl (by decide) (va_runS (As := [.ref b, .int (a2 + 1)]) (rest := []) ⟨hx, hb, hml, hown, hts⟩ (ktL_cell l dC dI b L xs _ (a2 + 1) r_6 hc_6) (va_cwS 2 hts gL_speaks_L_cell rfl rfl rfl (by decide +kernel) ⟨Nat.le_of_ble_eq_true rfl, Nat.le_of_ble_eq_true rfl⟩) (gl_S (XS_ok b L xs) (hP.sub (ws' := ([] : va_W)) [] rfl) (hK.sub (tys' := []) [] rfl) (hD.sub (ws' := ([] : va_W)) [] (by decide) rfl) hN ((XS_ok b L xs).2.2.2 A s s.heap _ hS.1 hS.2.1 hXS) (va_free (wc := ([] : va_W)) hD hS hA [] rfl)) rfl rfl hl.1 rfl (lv_room (Nat.le_of_ble_eq_true rfl)) dL_speaks_31 ⟨by show (0) + 0 ≤ 18; omega, by show (0) + 0 ≤ 108; omega⟩) (fun H locs hP hD hS => ?_)
      refine lv_istore (lv' := [(7, .int r_6), (6, .int 1), (5, .int r_1), (0, .ref h5), (1, .ref b), (2, .int a2), (3, .ref hyw), (4, .ref hyz)]) hx hb dL_speaks_34 hl (by decide) rfl (fun ls hl => ?_)
      refine lv_iload hx hb dL_speaks_36 (lv_at hl 0 rfl) ?_
      refine lv_iconst (v := 3) hx hb dL_speaks_38 (by decide) ?_
      obtain ⟨r_7, hc_7, hf⟩ := bn1_ok hf
      refine gc_i (wc := ([] : va_W)) (wr := (cf_35yzyw cI h3 h3a0 h5 hyz hyw h4 h2 h1 h0 s3 s5 syz syw)) (w1 := ([] : va_W)) (ws' := (cf_35yzyw cI h3 h3a0 h5 hyz hyw h4 h2 h1 h0 s3 s5 syz syw)) hP hD hS hA [] [0, 1, 2, 3, 4] [0, 1, 2, 3, 4] rfl rfl (by decide) (by decide) rfl (by decide) (va_runS (As := [.int r_6, .int 3]) (rest := []) ⟨hx, hb, hml, hown, hts⟩ (ktL_some l dC dI _ r_6 3 r_7 hc_7) (va_cwS 2 hts gL_speaks_L_some rfl rfl rfl (by decide +kernel) ⟨Nat.le_of_ble_eq_true rfl, Nat.le_of_ble_eq_true rfl⟩) (gc_S (hP.sub (ws' := ([] : va_W)) [] rfl) (hK.sub (tys' := []) [] rfl) (hD.sub (ws' := ([] : va_W)) [] (by decide) rfl) hN) rfl rfl hl.1 rfl (lv_room (Nat.le_of_ble_eq_true rfl)) dL_speaks_39 ⟨by show (0) + 0 ≤ 18; omega, by show (0) + 0 ≤ 108; omega⟩) (fun H locs hP hD hS => ?_)
      refine lv_if_gt (tgt := 57) hx hb dL_speaks_42 (by decide) (fun c_8 => ?_) (fun c_8 => ?_)
      · have hf := it_t c_8 hf
        refine W.widen (k := 1) (n := 6) (by omega) (by omega) ?_
        exact J57 s3 syz syw r_6 _ _ hP hD hS _ (lv_sub hl [3, 6, 7, 0] rfl) hf
      · have hf := it_f c_8 hf
        refine lv_aload_n hx hb dL_speaks_45 rfl (lv_at hl 3 rfl) ?_
        refine lv_aload_n hx hb dL_speaks_46 rfl (lv_at hl 6 rfl) ?_
        refine lv_aload hx hb dL_speaks_47 (lv_at hl 7 rfl) ?_
        refine lv_bipush (v := 10) hx hb dL_speaks_49 (by decide) ?_
        obtain ⟨r_9, s3_9, syz_9, syw_9, hc_9, hf⟩ := bn4_ok hf
        refine gc_h (wc := (cf_35yzyw cI h3 h3a0 h5 hyz hyw h4 h2 h1 h0 s3 s5 syz syw)) (wr := ([] : va_W)) (w1 := (cf_35yzyw cI h3 h3a0 h5 hyz hyw h4 h2 h1 h0 s3_9 s5 syz_9 syw_9)) (ws' := (cf_35yzyw cI h3 h3a0 h5 hyz hyw h4 h2 h1 h0 s3_9 s5 syz_9 syw_9)) hP hD hS hA [0, 1, 2, 3, 4] [] [0, 1, 2, 3, 4] rfl rfl (by decide) (by decide) rfl (by decide) (va_runS (As := [.ref h5, .ref hyw, .ref hyz, .int 10]) (rest := []) ⟨hx, hb, hml, hown, hts⟩ (ktL_adds l hst dC dI cI h3 h3a0 h5 hyz hyw h4 h2 h1 h0 _ s3 s5 syz syw 10 r_9 s3_9 syz_9 syw_9 hc_9) (va_cwS 4 hts gL_speaks_L_adds rfl rfl rfl (by decide +kernel) ⟨Nat.le_of_ble_eq_true rfl, Nat.le_of_ble_eq_true rfl⟩) (gl_S XH_ok (hP.sub (ws' := (cf_35yzyw cI h3 h3a0 h5 hyz hyw h4 h2 h1 h0 s3 s5 syz syw)) [0, 1, 2, 3, 4] rfl) (hK.sub (tys' := [(cI, .int)]) [0] rfl) (hD.sub (ws' := (cf_35yzyw cI h3 h3a0 h5 hyz hyw h4 h2 h1 h0 s3 s5 syz syw)) [0, 1, 2, 3, 4] (by decide) rfl) hN (XH_ok.2.2.2 A s s.heap _ hS.1 hS.2.1 hXH) (va_free (wc := (cf_35yzyw cI h3 h3a0 h5 hyz hyw h4 h2 h1 h0 s3 s5 syz syw)) hD hS hA [0, 1, 2, 3, 4] rfl)) rfl rfl hl.1 rfl (lv_room (Nat.le_of_ble_eq_true rfl)) dL_speaks_51 ⟨by show (0) + 1 ≤ 18; omega, by show (0) + 6 ≤ 108; omega⟩) (fun H locs hP hD hS => ?_)
        refine lv_if_eq (tgt := 61) hx hb dL_speaks_54 (by decide) (fun c_10 => ?_) (fun c_10 => ?_)
        · have hf := it_t c_10 hf
          refine lv_iconst (v := 0) hx hb dL_speaks_61 (by decide) ?_
          refine W.widen (k := 1) (n := 6) (by omega) (by omega) ?_
          exact J62 s3_9 syz_9 syw_9 r_6 0 _ _ hP hD hS _ (lv_sub hl [3, 6, 7, 0] rfl) hf
        · have hf := it_f c_10 hf
          refine W.widen (k := 1) (n := 6) (by omega) (by omega) ?_
          exact J57 s3_9 syz_9 syw_9 r_6 _ _ hP hD hS _ (lv_sub hl [3, 6, 7, 0] rfl) hf
