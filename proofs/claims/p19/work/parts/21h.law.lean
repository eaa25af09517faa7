abbrev rmL_tells : Room := { frames := 8, cells := 128, slots := 768, locals := 125 }
set_option maxHeartbeats 4000000 in
set_option maxRecDepth 100000 in
theorem ktL_tells (l : Launch) (hst : l.stackTraces = false) (dC : Nat → ClassId) (dI : Nat → Nat → Nat) (cI : ClassId) (h1 h2 h2a2 h2a3 h2a4 h2a5 h2a6 h2a7 h4 h4a0 h4a1 h4a2 h5 hyt hyz h3 h0 : Nat) (sz : Nat) (s1 : S1) (s2 : S2) (s4 : S4) (s5 : S5) (syt : Syt) (syz : Syz) (r : Int32) (hf : fL_tells s1 s2 s4 s5 syt syz = some r) : Met l yL_tells wsL_tells rmL_tells (va_Pc [.ref h5, .ref hyt, .ref hyz] (pre_l XH (dC, dI) (cf_1245ytyz cI h1 h2 h2a2 h2a3 h2a4 h2a5 h2a6 h2a7 h4 h4a0 h4a1 h4a2 h5 hyt hyz h3 h0 s1 s2 s4 s5 syt syz) [(cI, .int)] sz)) (va_Qi (fun (r' : Int32) (_ : Unit) => r' = r) (post_w (dC, dI) (cf_1245ytyz cI h1 h2 h2a2 h2a3 h2a4 h2a5 h2a6 h2a7 h4 h4a0 h4a1 h4a2 h5 hyt hyz h3 h0 s1 s2 s4 s5 syt syz) [(cI, .int)] (va_A (cf_1245ytyz cI h1 h2 h2a2 h2a3 h2a4 h2a5 h2a6 h2a7 h4 h4a0 h4a1 h4a2 h5 hyt hyz h3 h0 s1 s2 s4 s5 syt syz) sz)) (va_A (cf_1245ytyz cI h1 h2 h2a2 h2a3 h2a4 h2a5 h2a6 h2a7 h4 h4a0 h4a1 h4a2 h5 hyt hyz h3 h0 s1 s2 s4 s5 syt syz) sz)) 128 768 (va_A (cf_1245ytyz cI h1 h2 h2a2 h2a3 h2a4 h2a5 h2a6 h2a7 h4 h4a0 h4a1 h4a2 h5 hyt hyz h3 h0 s1 s2 s4 s5 syt syz) sz) := by
  refine gml (X := XH) (mc := 128) (ms := 768) (ty := .boolean) (cc := cL_tells) (maxL := 4) (by decide) rfl (Nat.le_of_ble_eq_true rfl) ?_
  intro p e s m below meth c A QQ ls hx hb hml hown hts hK hN hX hA hP hD hS hl hret
  have hXH : XH A s s.heap := hX
  have hown : s.vm.findClass RL = some m.cls := hown
  have hl : lv_has ls 4 [(0, .ref h5), (1, .ref hyt), (2, .ref hyz)] := hl
  have J61 : ∀ (H : Heap) (locs : List Loc), va_P (dC, dI) vwCl (cf_1245ytyz cI h1 h2 h2a2 h2a3 h2a4 h2a5 h2a6 h2a7 h4 h4a0 h4a1 h4a2 h5 hyt hyz h3 h0 s1 s2 s4 s5 syt syz) H → va_D A (cf_1245ytyz cI h1 h2 h2a2 h2a3 h2a4 h2a5 h2a6 h2a7 h4 h4a0 h4a1 h4a2 h5 hyt hyz h3 h0 s1 s2 s4 s5 syt syz) → va_S A s.heap H locs → ∀ (ls : Array Slot), lv_has ls 4 [] → fL_tells_61 s1 s2 s4 s5 syt syz = some r → W p l e rmL_tells s m ([.ref h5, .ref hyt, .ref hyz] : List Value).toArray below meth c H locs (128) (768) QQ (F0 m 61 ls []) := by
    intro H locs hP hD hS ls hl hf
    unfold fL_tells_61 at hf
    refine lv_iconst (v := 0) hx hb dL_tells_61 (by decide) ?_
    have hf : (some 0 : Option (Int32)) = some r := hf
    have he := Option.some.inj hf
    have he0 : 0 = r := he
    exact hret _ _ _ _ _ _ rfl he0 rfl dL_tells_62 hP hD hS
  have J58 : ∀ (n i : Nat) (hi : i + n + 1 = 64) (k2 : Int32 → Option (Int32)) (hk2 : ∀ (x3 : Int32) (H : Heap) (locs : List Loc), va_P (dC, dI) vwCl (cf_1245ytyz cI h1 h2 h2a2 h2a3 h2a4 h2a5 h2a6 h2a7 h4 h4a0 h4a1 h4a2 h5 hyt hyz h3 h0 s1 s2 s4 s5 syt syz) H → va_D A (cf_1245ytyz cI h1 h2 h2a2 h2a3 h2a4 h2a5 h2a6 h2a7 h4 h4a0 h4a1 h4a2 h5 hyt hyz h3 h0 s1 s2 s4 s5 syt syz) → va_S A s.heap H locs → ∀ (ls : Array Slot), lv_has ls 4 [(0, .ref h5), (1, .ref hyt), (2, .ref hyz), (3, .int x3)] → k2 x3 = some r → W p l e rmL_tells s m ([.ref h5, .ref hyt, .ref hyz] : List Value).toArray below meth c H locs (0 + 2 * (i + 1) + 0) (0 + 12 * (i + 1) + 0) QQ (F0 m 2 ls [])) (x3 : Int32) (t0 : Int32) (t1 : Int32) (H : Heap) (locs : List Loc), va_P (dC, dI) vwCl (cf_1245ytyz cI h1 h2 h2a2 h2a3 h2a4 h2a5 h2a6 h2a7 h4 h4a0 h4a1 h4a2 h5 hyt hyz h3 h0 s1 s2 s4 s5 syt syz) H → va_D A (cf_1245ytyz cI h1 h2 h2a2 h2a3 h2a4 h2a5 h2a6 h2a7 h4 h4a0 h4a1 h4a2 h5 hyt hyz h3 h0 s1 s2 s4 s5 syt syz) → va_S A s.heap H locs → ∀ (ls : Array Slot), lv_has ls 4 [(0, .ref h5), (1, .ref hyt), (2, .ref hyz), (3, .int x3)] → fL_tells_58 s1 s2 s4 s5 syt syz k2 x3 t0 t1 = some r → W p l e rmL_tells s m ([.ref h5, .ref hyt, .ref hyz] : List Value).toArray below meth c H locs (0 + 2 * i + 2) (0 + 12 * i + 12) QQ (F0 m 58 ls [.int t1, .int t0]) := by
    intro n i hi k2 hk2 x3 t0 t1 H locs hP hD hS ls hl hf
    unfold fL_tells_58 at hf
    refine lv_icmp_eq (tgt := 63) hx hb dL_tells_58 (by decide) (fun c_1 => ?_) (fun c_1 => ?_)
    · have hf := it_t c_1 hf
      refine lv_iinc (v := (x3 + 1)) (lv' := [(3, .int (x3 + 1)), (0, .ref h5), (1, .ref hyt), (2, .ref hyz)]) hx hb dL_tells_63 hl (k := 3) rfl rfl (by decide) rfl (fun ls hl => ?_)
      refine lv_goto (tgt := 2) hx hb dL_tells_66 (by decide) ?_
      refine W.widen (k := 0 + 2 * (i + 1) + 0) (n := 0 + 12 * (i + 1) + 0) (by omega) (by omega) ?_
      exact hk2 (x3 + 1) _ _ hP hD hS _ (lv_sub hl [1, 2, 3, 0] rfl) hf
    · have hf := it_f c_1 hf
      refine W.widen (k := 128) (n := 768) (by omega) (by omega) ?_
      exact J61 _ _ hP hD hS _ (lv_sub hl [] rfl) hf
  have J32 : ∀ (n i : Nat) (hi : i + n + 1 = 64) (k2 : Int32 → Option (Int32)) (hk2 : ∀ (x3 : Int32) (H : Heap) (locs : List Loc), va_P (dC, dI) vwCl (cf_1245ytyz cI h1 h2 h2a2 h2a3 h2a4 h2a5 h2a6 h2a7 h4 h4a0 h4a1 h4a2 h5 hyt hyz h3 h0 s1 s2 s4 s5 syt syz) H → va_D A (cf_1245ytyz cI h1 h2 h2a2 h2a3 h2a4 h2a5 h2a6 h2a7 h4 h4a0 h4a1 h4a2 h5 hyt hyz h3 h0 s1 s2 s4 s5 syt syz) → va_S A s.heap H locs → ∀ (ls : Array Slot), lv_has ls 4 [(0, .ref h5), (1, .ref hyt), (2, .ref hyz), (3, .int x3)] → k2 x3 = some r → W p l e rmL_tells s m ([.ref h5, .ref hyt, .ref hyz] : List Value).toArray below meth c H locs (0 + 2 * (i + 1) + 0) (0 + 12 * (i + 1) + 0) QQ (F0 m 2 ls [])) (x3 : Int32) (t0 : Int32) (t1 : Int32) (H : Heap) (locs : List Loc), va_P (dC, dI) vwCl (cf_1245ytyz cI h1 h2 h2a2 h2a3 h2a4 h2a5 h2a6 h2a7 h4 h4a0 h4a1 h4a2 h5 hyt hyz h3 h0 s1 s2 s4 s5 syt syz) H → va_D A (cf_1245ytyz cI h1 h2 h2a2 h2a3 h2a4 h2a5 h2a6 h2a7 h4 h4a0 h4a1 h4a2 h5 hyt hyz h3 h0 s1 s2 s4 s5 syt syz) → va_S A s.heap H locs → ∀ (ls : Array Slot), lv_has ls 4 [(0, .ref h5), (1, .ref hyt), (2, .ref hyz), (3, .int x3)] → fL_tells_32 s1 s2 s4 s5 syt syz k2 x3 t0 t1 = some r → W p l e rmL_tells s m ([.ref h5, .ref hyt, .ref hyz] : List Value).toArray below meth c H locs (0 + 2 * i + 1) (0 + 12 * i + 6) QQ (F0 m 32 ls [.int t1, .int t0]) := by
    intro n i hi k2 hk2 x3 t0 t1 H locs hP hD hS ls hl hf
    unfold fL_tells_32 at hf
    refine lv_icmp_ne (tgt := 61) hx hb dL_tells_32 (by decide) (fun c_1 => ?_) (fun c_1 => ?_)
    · have hf := it_f c_1 hf
      refine W.widen (k := 128) (n := 768) (by omega) (by omega) ?_
      exact J61 _ _ hP hD hS _ (lv_sub hl [] rfl) hf
    · have hf := it_t c_1 hf
      refine lv_aload_n hx hb dL_tells_35 rfl (lv_at hl 0 rfl) ?_
      refine lv_iload_n hx hb dL_tells_36 rfl (lv_at hl 3 rfl) ?_
      obtain ⟨r_2, hc_2, hf⟩ := bn1_ok hf
      refine gc_h (wc := (cf_45 cI h4 h4a0 h4a1 h4a2 h5 h3 h2 h1 h0 s4 s5)) (wr := (cf_12ytyz cI h1 h2 h2a2 h2a3 h2a4 h2a5 h2a6 h2a7 hyt hyz s1 s2 syt syz)) (w1 := (cf_45 cI h4 h4a0 h4a1 h4a2 h5 h3 h2 h1 h0 s4 s5)) (ws' := (cf_1245ytyz cI h1 h2 h2a2 h2a3 h2a4 h2a5 h2a6 h2a7 h4 h4a0 h4a1 h4a2 h5 hyt hyz h3 h0 s1 s2 s4 s5 syt syz)) hP hD hS hA [8, 9, 10, 11, 12] [0, 1, 2, 3, 4, 5, 6, 7, 13, 14] [0, 1, 2, 3, 4, 5, 6, 7, 10, 11, 12, 13, 14, 8, 9] rfl rfl (by decide) (by decide) rfl (by decide) (vx_runSW (As := [.ref h5, .int x3]) (rest := []) ⟨hx, hb, hml, hown, hts⟩ (ktL_opened l hst dC dI cI h4 h4a0 h4a1 h4a2 h5 h3 h2 h1 h0 _ s4 s5 x3 r_2 hc_2) (vx_cwSW 2 hts gL_tells_L_opened rfl rfl rfl (by decide +kernel) ⟨Nat.le_of_ble_eq_true rfl, Nat.le_of_ble_eq_true rfl⟩) (gl_S XH_ok (hP.sub (ws' := (cf_45 cI h4 h4a0 h4a1 h4a2 h5 h3 h2 h1 h0 s4 s5)) [8, 9, 10, 11, 12] rfl) (hK.sub (tys' := [(cI, .int)]) [0] rfl) (hD.sub (ws' := (cf_45 cI h4 h4a0 h4a1 h4a2 h5 h3 h2 h1 h0 s4 s5)) [8, 9, 10, 11, 12] (by decide) rfl) hN (XH_ok.2.2.2 A s s.heap _ hS.1 hS.2.1 hXH) (va_free (wc := (cf_45 cI h4 h4a0 h4a1 h4a2 h5 h3 h2 h1 h0 s4 s5)) hD hS hA [8, 9, 10, 11, 12] rfl)) rfl rfl hl.1 rfl (lv_room (Nat.le_of_ble_eq_true rfl)) dL_tells_37 ⟨by show (0 + 2 * i + 1) + 1 ≤ 128; omega, by show (0 + 12 * i + 6) + 6 ≤ 768; omega⟩) (fun H locs hP hD hS => ?_)
      refine lv_iload_n hx hb dL_tells_40 rfl (lv_at hl 3 rfl) ?_
      refine lv_aload_n hx hb dL_tells_41 rfl (lv_at hl 2 rfl) ?_
      refine lv_iconst (v := 0) hx hb dL_tells_42 (by decide) ?_
      obtain ⟨hi_3, hf⟩ := ai_ok hf
      refine va_iald (n := 13) (f := syz) hx hb hK hP 14 0 rfl rfl hi_3 dL_tells_43 ?_
      refine lv_icmp_ge (tgt := 56) hx hb dL_tells_44 (by decide) (fun c_4 => ?_) (fun c_4 => ?_)
      · have hf := it_t c_4 hf
        refine lv_bipush (v := (-101)) hx hb dL_tells_56 (by decide) ?_
        refine W.widen (k := 0 + 2 * i + 2) (n := 0 + 12 * i + 12) (by omega) (by omega) ?_
        exact J58 n i hi k2 hk2 x3 r_2 (-101) _ _ hP hD hS _ (lv_sub hl [0, 1, 2, 3] rfl) hf
      · have hf := it_f c_4 hf
        refine lv_aload_n hx hb dL_tells_47 rfl (lv_at hl 1 rfl) ?_
        refine lv_bipush (v := 18) hx hb dL_tells_48 (by decide) ?_
        refine lv_iload_n hx hb dL_tells_50 rfl (lv_at hl 3 rfl) ?_
        refine lv_iadd hx hb dL_tells_51 ?_
        obtain ⟨hi_5, hf⟩ := ai_ok hf
        refine va_iald (n := 30) (f := syt) hx hb hK hP 13 0 rfl rfl hi_5 dL_tells_52 ?_
        refine lv_goto (tgt := 58) hx hb dL_tells_53 (by decide) ?_
        refine W.widen (k := 0 + 2 * i + 2) (n := 0 + 12 * i + 12) (by omega) (by omega) ?_
        exact J58 n i hi k2 hk2 x3 r_2 (syt (18 + x3).toNatClampNeg) _ _ hP hD hS _ (lv_sub hl [0, 1, 2, 3] rfl) hf
  have J181 : ∀ (t0 : Int32) (H : Heap) (locs : List Loc), va_P (dC, dI) vwCl (cf_1245ytyz cI h1 h2 h2a2 h2a3 h2a4 h2a5 h2a6 h2a7 h4 h4a0 h4a1 h4a2 h5 hyt hyz h3 h0 s1 s2 s4 s5 syt syz) H → va_D A (cf_1245ytyz cI h1 h2 h2a2 h2a3 h2a4 h2a5 h2a6 h2a7 h4 h4a0 h4a1 h4a2 h5 hyt hyz h3 h0 s1 s2 s4 s5 syt syz) → va_S A s.heap H locs → ∀ (ls : Array Slot), lv_has ls 4 [] → fL_tells_181 s1 s2 s4 s5 syt syz t0 = some r → W p l e rmL_tells s m ([.ref h5, .ref hyt, .ref hyz] : List Value).toArray below meth c H locs (128) (768) QQ (F0 m 181 ls [.int t0]) := by
    intro t0 H locs hP hD hS ls hl hf
    unfold fL_tells_181 at hf
    obtain ⟨hz_1, hf⟩ := bo_ok hf
    have hf : (some t0 : Option (Int32)) = some r := hf
    have he := Option.some.inj hf
    have he0 : t0 = r := he
    exact hret _ _ _ _ _ _ hz_1 he0 rfl dL_tells_181 hP hD hS
  have J180 : ∀ (H : Heap) (locs : List Loc), va_P (dC, dI) vwCl (cf_1245ytyz cI h1 h2 h2a2 h2a3 h2a4 h2a5 h2a6 h2a7 h4 h4a0 h4a1 h4a2 h5 hyt hyz h3 h0 s1 s2 s4 s5 syt syz) H → va_D A (cf_1245ytyz cI h1 h2 h2a2 h2a3 h2a4 h2a5 h2a6 h2a7 h4 h4a0 h4a1 h4a2 h5 hyt hyz h3 h0 s1 s2 s4 s5 syt syz) → va_S A s.heap H locs → ∀ (ls : Array Slot), lv_has ls 4 [] → fL_tells_180 s1 s2 s4 s5 syt syz = some r → W p l e rmL_tells s m ([.ref h5, .ref hyt, .ref hyz] : List Value).toArray below meth c H locs (128) (768) QQ (F0 m 180 ls []) := by
    intro H locs hP hD hS ls hl hf
    unfold fL_tells_180 at hf
    refine lv_iconst (v := 0) hx hb dL_tells_180 (by decide) ?_
    exact J181 0 _ _ hP hD hS _ (lv_sub hl [] rfl) hf
  have J2 : ∀ (n i : Nat), i + n = 64 → ∀ (x3 : Int32) (H : Heap) (locs : List Loc), va_P (dC, dI) vwCl (cf_1245ytyz cI h1 h2 h2a2 h2a3 h2a4 h2a5 h2a6 h2a7 h4 h4a0 h4a1 h4a2 h5 hyt hyz h3 h0 s1 s2 s4 s5 syt syz) H → va_D A (cf_1245ytyz cI h1 h2 h2a2 h2a3 h2a4 h2a5 h2a6 h2a7 h4 h4a0 h4a1 h4a2 h5 hyt hyz h3 h0 s1 s2 s4 s5 syt syz) → va_S A s.heap H locs → ∀ (ls : Array Slot), lv_has ls 4 [(0, .ref h5), (1, .ref hyt), (2, .ref hyz), (3, .int x3)] → fL_tells_2 s1 s2 s4 s5 syt syz n x3 = some r → W p l e rmL_tells s m ([.ref h5, .ref hyt, .ref hyz] : List Value).toArray below meth c H locs (0 + 2 * i + 0) (0 + 12 * i + 0) QQ (F0 m 2 ls []) := by
    intro n
    induction n with
    | zero =>
      intro i hi x3 H locs hP hD hS ls hl hf
      cases hf
    | succ n ih =>
      intro i hi x3 H locs hP hD hS ls hl hf
      have hi : i + n + 1 = 64 := by omega
      rw [fL_tells_2] at hf
      refine lv_iload_n hx hb dL_tells_2 rfl (lv_at hl 3 rfl) ?_
      refine lv_aload_n hx hb dL_tells_3 rfl (lv_at hl 2 rfl) ?_
      refine lv_iconst (v := 0) hx hb dL_tells_4 (by decide) ?_
      obtain ⟨hi_1, hf⟩ := ai_ok hf
      refine va_iald (n := 13) (f := syz) hx hb hK hP 14 0 rfl rfl hi_1 dL_tells_5 ?_
      refine lv_icmp_gt (tgt := 69) hx hb dL_tells_6 (by decide) (fun c_2 => ?_) (fun c_2 => ?_)
      · have hf := it_t c_2 hf
        refine lv_aload_n hx hb dL_tells_69 rfl (lv_at hl 0 rfl) ?_
        obtain ⟨r_3, hc_3, hf⟩ := bn1_ok hf
        refine gc_i (wc := (cf_45 cI h4 h4a0 h4a1 h4a2 h5 h3 h2 h1 h0 s4 s5)) (wr := (cf_12ytyz cI h1 h2 h2a2 h2a3 h2a4 h2a5 h2a6 h2a7 hyt hyz s1 s2 syt syz)) (w1 := (cf_45 cI h4 h4a0 h4a1 h4a2 h5 h3 h2 h1 h0 s4 s5)) (ws' := (cf_1245ytyz cI h1 h2 h2a2 h2a3 h2a4 h2a5 h2a6 h2a7 h4 h4a0 h4a1 h4a2 h5 hyt hyz h3 h0 s1 s2 s4 s5 syt syz)) hP hD hS hA [8, 9, 10, 11, 12] [0, 1, 2, 3, 4, 5, 6, 7, 13, 14] [0, 1, 2, 3, 4, 5, 6, 7, 10, 11, 12, 13, 14, 8, 9] rfl rfl (by decide) (by decide) rfl (by decide) (va_runV (As := []) (rest := []) ⟨hx, hb, hml, hown, hts⟩ (ktX5_inReach l dC dI cI h4 h4a0 h4a1 h4a2 h5 h3 h2 h1 h0 _ s4 s5 r_3 hc_3) (cwV 0 hts gL_tells_X5_inReach rfl rfl rfl (by decide +kernel) ⟨Nat.le_of_ble_eq_true rfl, Nat.le_of_ble_eq_true rfl⟩) (gc_V (ci := 5) (q0 := 4) (C := RX5) (T := TX5) (N := 10) (hP.sub (ws' := (cf_45 cI h4 h4a0 h4a1 h4a2 h5 h3 h2 h1 h0 s4 s5)) [8, 9, 10, 11, 12] rfl) (hK.sub (tys' := [(cI, .int)]) [0] rfl) (hD.sub (ws' := (cf_45 cI h4 h4a0 h4a1 h4a2 h5 h3 h2 h1 h0 s4 s5)) [8, 9, 10, 11, 12] (by decide) rfl) hN rfl rfl) rfl rfl hl.1 rfl (lv_room (Nat.le_of_ble_eq_true rfl)) dL_tells_70 ⟨by show (0 + 2 * i + 0) + 0 ≤ 128; omega, by show (0 + 12 * i + 0) + 0 ≤ 768; omega⟩) (fun H locs hP hD hS => ?_)
        refine lv_aload_n hx hb dL_tells_73 rfl (lv_at hl 1 rfl) ?_
        refine lv_aload_n hx hb dL_tells_74 rfl (lv_at hl 2 rfl) ?_
        obtain ⟨r_4, hc_4, hf⟩ := bn1_ok hf
        refine gc_i (wc := (cf_ytyz cI hyt hyz syt syz)) (wr := (cf_1245 cI h1 h2 h2a2 h2a3 h2a4 h2a5 h2a6 h2a7 h4 h4a0 h4a1 h4a2 h5 h3 h0 s1 s2 s4 s5)) (w1 := (cf_ytyz cI hyt hyz syt syz)) (ws' := (cf_1245ytyz cI h1 h2 h2a2 h2a3 h2a4 h2a5 h2a6 h2a7 h4 h4a0 h4a1 h4a2 h5 hyt hyz h3 h0 s1 s2 s4 s5 syt syz)) hP hD hS hA [13, 14] [0, 1, 2, 3, 4, 5, 6, 7, 8, 9, 10, 11, 12] [0, 1, 2, 3, 4, 5, 6, 7, 8, 9, 10, 11, 12, 13, 14] rfl rfl (by decide) (by decide) rfl (by decide) (va_runS (As := [.ref hyt, .ref hyz]) (rest := [.int r_3]) ⟨hx, hb, hml, hown, hts⟩ (ktL_reach l dC dI cI hyt hyz _ syt syz r_4 hc_4) (va_cwS 2 hts gL_tells_L_reach rfl rfl rfl (by decide +kernel) ⟨Nat.le_of_ble_eq_true rfl, Nat.le_of_ble_eq_true rfl⟩) (gc_S (hP.sub (ws' := (cf_ytyz cI hyt hyz syt syz)) [13, 14] rfl) (hK.sub (tys' := [(cI, .int)]) [0] rfl) (hD.sub (ws' := (cf_ytyz cI hyt hyz syt syz)) [13, 14] (by decide) rfl) hN) rfl rfl hl.1 rfl (lv_room (Nat.le_of_ble_eq_true rfl)) dL_tells_75 ⟨by show (0 + 2 * i + 0) + 0 ≤ 128; omega, by show (0 + 12 * i + 0) + 0 ≤ 768; omega⟩) (fun H locs hP hD hS => ?_)
        refine lv_icmp_ne (tgt := 180) hx hb dL_tells_78 (by decide) (fun c_5 => ?_) (fun c_5 => ?_)
        · have hf := it_f c_5 hf
          refine W.widen (k := 128) (n := 768) (by omega) (by omega) ?_
          exact J180 _ _ hP hD hS _ (lv_sub hl [] rfl) hf
        · have hf := it_t c_5 hf
          refine lv_aload_n hx hb dL_tells_81 rfl (lv_at hl 0 rfl) ?_
          obtain ⟨r_6, hc_6, hf⟩ := bn1_ok hf
          refine gc_i (wc := (cf_5 cI h5 h4 h3 h2 h1 h0 s5)) (wr := (cf_124ytyz cI h1 h2 h2a2 h2a3 h2a4 h2a5 h2a6 h2a7 h4 h4a0 h4a1 h4a2 hyt hyz s1 s2 s4 syt syz)) (w1 := (cf_5 cI h5 h4 h3 h2 h1 h0 s5)) (ws' := (cf_1245ytyz cI h1 h2 h2a2 h2a3 h2a4 h2a5 h2a6 h2a7 h4 h4a0 h4a1 h4a2 h5 hyt hyz h3 h0 s1 s2 s4 s5 syt syz)) hP hD hS hA [12] [0, 1, 2, 3, 4, 5, 6, 7, 8, 9, 10, 11, 13, 14] [0, 1, 2, 3, 4, 5, 6, 7, 8, 9, 10, 11, 14, 12, 13] rfl rfl (by decide) (by decide) rfl (by decide) (va_runV (As := []) (rest := []) ⟨hx, hb, hml, hown, hts⟩ (ktX5_outcome l dC dI cI h5 h4 h3 h2 h1 h0 _ s5 r_6 hc_6) (cwV 0 hts gL_tells_X5_outcome rfl rfl rfl (by decide +kernel) ⟨Nat.le_of_ble_eq_true rfl, Nat.le_of_ble_eq_true rfl⟩) (gc_V (ci := 5) (q0 := 0) (C := RX5) (T := TX5) (N := 10) (hP.sub (ws' := (cf_5 cI h5 h4 h3 h2 h1 h0 s5)) [12] rfl) (hK.sub (tys' := [(cI, .int)]) [0] rfl) (hD.sub (ws' := (cf_5 cI h5 h4 h3 h2 h1 h0 s5)) [12] (by decide) rfl) hN rfl rfl) rfl rfl hl.1 rfl (lv_room (Nat.le_of_ble_eq_true rfl)) dL_tells_82 ⟨by show (0 + 2 * i + 0) + 0 ≤ 128; omega, by show (0 + 12 * i + 0) + 0 ≤ 768; omega⟩) (fun H locs hP hD hS => ?_)
          refine lv_aload_n hx hb dL_tells_85 rfl (lv_at hl 2 rfl) ?_
          refine lv_iconst (v := 2) hx hb dL_tells_86 (by decide) ?_
          obtain ⟨hi_7, hf⟩ := ai_ok hf
          refine va_iald (n := 13) (f := syz) hx hb hK hP 14 0 rfl rfl hi_7 dL_tells_87 ?_
          refine lv_icmp_ne (tgt := 180) hx hb dL_tells_88 (by decide) (fun c_8 => ?_) (fun c_8 => ?_)
          · have hf := it_f c_8 hf
            refine W.widen (k := 128) (n := 768) (by omega) (by omega) ?_
            exact J180 _ _ hP hD hS _ (lv_sub hl [] rfl) hf
          · have hf := it_t c_8 hf
            refine lv_aload_n hx hb dL_tells_91 rfl (lv_at hl 0 rfl) ?_
            obtain ⟨r_9, hc_9, hf⟩ := bn1_ok hf
            refine gc_i (wc := (cf_5 cI h5 h4 h3 h2 h1 h0 s5)) (wr := (cf_124ytyz cI h1 h2 h2a2 h2a3 h2a4 h2a5 h2a6 h2a7 h4 h4a0 h4a1 h4a2 hyt hyz s1 s2 s4 syt syz)) (w1 := (cf_5 cI h5 h4 h3 h2 h1 h0 s5)) (ws' := (cf_1245ytyz cI h1 h2 h2a2 h2a3 h2a4 h2a5 h2a6 h2a7 h4 h4a0 h4a1 h4a2 h5 hyt hyz h3 h0 s1 s2 s4 s5 syt syz)) hP hD hS hA [12] [0, 1, 2, 3, 4, 5, 6, 7, 8, 9, 10, 11, 13, 14] [0, 1, 2, 3, 4, 5, 6, 7, 8, 9, 10, 11, 14, 12, 13] rfl rfl (by decide) (by decide) rfl (by decide) (va_runV (As := []) (rest := []) ⟨hx, hb, hml, hown, hts⟩ (ktX5_wrongAt l dC dI cI h5 h4 h3 h2 h1 h0 _ s5 r_9 hc_9) (cwV 0 hts gL_tells_X5_wrongAt rfl rfl rfl (by decide +kernel) ⟨Nat.le_of_ble_eq_true rfl, Nat.le_of_ble_eq_true rfl⟩) (gc_V (ci := 5) (q0 := 0) (C := RX5) (T := TX5) (N := 10) (hP.sub (ws' := (cf_5 cI h5 h4 h3 h2 h1 h0 s5)) [12] rfl) (hK.sub (tys' := [(cI, .int)]) [0] rfl) (hD.sub (ws' := (cf_5 cI h5 h4 h3 h2 h1 h0 s5)) [12] (by decide) rfl) hN rfl rfl) rfl rfl hl.1 rfl (lv_room (Nat.le_of_ble_eq_true rfl)) dL_tells_92 ⟨by show (0 + 2 * i + 0) + 0 ≤ 128; omega, by show (0 + 12 * i + 0) + 0 ≤ 768; omega⟩) (fun H locs hP hD hS => ?_)
            refine lv_aload_n hx hb dL_tells_95 rfl (lv_at hl 2 rfl) ?_
            refine lv_iconst (v := 3) hx hb dL_tells_96 (by decide) ?_
            obtain ⟨hi_10, hf⟩ := ai_ok hf
            refine va_iald (n := 13) (f := syz) hx hb hK hP 14 0 rfl rfl hi_10 dL_tells_97 ?_
            refine lv_icmp_ne (tgt := 180) hx hb dL_tells_98 (by decide) (fun c_11 => ?_) (fun c_11 => ?_)
            · have hf := it_f c_11 hf
              refine W.widen (k := 128) (n := 768) (by omega) (by omega) ?_
              exact J180 _ _ hP hD hS _ (lv_sub hl [] rfl) hf
            · have hf := it_t c_11 hf
              refine lv_aload_n hx hb dL_tells_101 rfl (lv_at hl 0 rfl) ?_
              obtain ⟨r_12, hc_12, hf⟩ := bn1_ok hf
              refine gc_i (wc := (cf_15 cI h1 h5 h4 h3 h2 h0 s1 s5)) (wr := (cf_24ytyz cI h2 h2a2 h2a3 h2a4 h2a5 h2a6 h2a7 h4 h4a0 h4a1 h4a2 hyt hyz s2 s4 syt syz)) (w1 := (cf_15 cI h1 h5 h4 h3 h2 h0 s1 s5)) (ws' := (cf_1245ytyz cI h1 h2 h2a2 h2a3 h2a4 h2a5 h2a6 h2a7 h4 h4a0 h4a1 h4a2 h5 hyt hyz h3 h0 s1 s2 s4 s5 syt syz)) hP hD hS hA [0, 12] [1, 2, 3, 4, 5, 6, 7, 8, 9, 10, 11, 13, 14] [13, 0, 1, 2, 3, 4, 5, 6, 7, 8, 9, 10, 14, 11, 12] rfl rfl (by decide) (by decide) rfl (by decide) (va_runV (As := []) (rest := []) ⟨hx, hb, hml, hown, hts⟩ (ktX5_verb l dC dI cI h1 h5 h4 h3 h2 h0 _ s1 s5 r_12 hc_12) (cwV 0 hts gL_tells_X5_verb rfl rfl rfl (by decide +kernel) ⟨Nat.le_of_ble_eq_true rfl, Nat.le_of_ble_eq_true rfl⟩) (gc_V (ci := 5) (q0 := 1) (C := RX5) (T := TX5) (N := 10) (hP.sub (ws' := (cf_15 cI h1 h5 h4 h3 h2 h0 s1 s5)) [0, 12] rfl) (hK.sub (tys' := [(cI, .int)]) [0] rfl) (hD.sub (ws' := (cf_15 cI h1 h5 h4 h3 h2 h0 s1 s5)) [0, 12] (by decide) rfl) hN rfl rfl) rfl rfl hl.1 rfl (lv_room (Nat.le_of_ble_eq_true rfl)) dL_tells_102 ⟨by show (0 + 2 * i + 0) + 0 ≤ 128; omega, by show (0 + 12 * i + 0) + 0 ≤ 768; omega⟩) (fun H locs hP hD hS => ?_)
              refine lv_aload_n hx hb dL_tells_105 rfl (lv_at hl 2 rfl) ?_
              refine lv_iconst (v := 4) hx hb dL_tells_106 (by decide) ?_
              obtain ⟨hi_13, hf⟩ := ai_ok hf
              refine va_iald (n := 13) (f := syz) hx hb hK hP 14 0 rfl rfl hi_13 dL_tells_107 ?_
              refine lv_icmp_ne (tgt := 180) hx hb dL_tells_108 (by decide) (fun c_14 => ?_) (fun c_14 => ?_)
              · have hf := it_f c_14 hf
                refine W.widen (k := 128) (n := 768) (by omega) (by omega) ?_
                exact J180 _ _ hP hD hS _ (lv_sub hl [] rfl) hf
              · have hf := it_t c_14 hf
                refine lv_aload_n hx hb dL_tells_111 rfl (lv_at hl 0 rfl) ?_
                obtain ⟨r_15, hc_15, hf⟩ := bn1_ok hf
                refine gc_i (wc := (cf_15 cI h1 h5 h4 h3 h2 h0 s1 s5)) (wr := (cf_24ytyz cI h2 h2a2 h2a3 h2a4 h2a5 h2a6 h2a7 h4 h4a0 h4a1 h4a2 hyt hyz s2 s4 syt syz)) (w1 := (cf_15 cI h1 h5 h4 h3 h2 h0 s1 s5)) (ws' := (cf_1245ytyz cI h1 h2 h2a2 h2a3 h2a4 h2a5 h2a6 h2a7 h4 h4a0 h4a1 h4a2 h5 hyt hyz h3 h0 s1 s2 s4 s5 syt syz)) hP hD hS hA [0, 12] [1, 2, 3, 4, 5, 6, 7, 8, 9, 10, 11, 13, 14] [13, 0, 1, 2, 3, 4, 5, 6, 7, 8, 9, 10, 14, 11, 12] rfl rfl (by decide) (by decide) rfl (by decide) (va_runV (As := []) (rest := []) ⟨hx, hb, hml, hown, hts⟩ (ktX5_meant l dC dI cI h1 h5 h4 h3 h2 h0 _ s1 s5 r_15 hc_15) (cwV 0 hts gL_tells_X5_meant rfl rfl rfl (by decide +kernel) ⟨Nat.le_of_ble_eq_true rfl, Nat.le_of_ble_eq_true rfl⟩) (gc_V (ci := 5) (q0 := 1) (C := RX5) (T := TX5) (N := 10) (hP.sub (ws' := (cf_15 cI h1 h5 h4 h3 h2 h0 s1 s5)) [0, 12] rfl) (hK.sub (tys' := [(cI, .int)]) [0] rfl) (hD.sub (ws' := (cf_15 cI h1 h5 h4 h3 h2 h0 s1 s5)) [0, 12] (by decide) rfl) hN rfl rfl) rfl rfl hl.1 rfl (lv_room (Nat.le_of_ble_eq_true rfl)) dL_tells_112 ⟨by show (0 + 2 * i + 0) + 0 ≤ 128; omega, by show (0 + 12 * i + 0) + 0 ≤ 768; omega⟩) (fun H locs hP hD hS => ?_)
                refine lv_aload_n hx hb dL_tells_115 rfl (lv_at hl 2 rfl) ?_
                refine lv_iconst (v := 5) hx hb dL_tells_116 (by decide) ?_
                obtain ⟨hi_16, hf⟩ := ai_ok hf
                refine va_iald (n := 13) (f := syz) hx hb hK hP 14 0 rfl rfl hi_16 dL_tells_117 ?_
                refine lv_icmp_ne (tgt := 180) hx hb dL_tells_118 (by decide) (fun c_17 => ?_) (fun c_17 => ?_)
                · have hf := it_f c_17 hf
                  refine W.widen (k := 128) (n := 768) (by omega) (by omega) ?_
                  exact J180 _ _ hP hD hS _ (lv_sub hl [] rfl) hf
                · have hf := it_t c_17 hf
                  refine lv_aload_n hx hb dL_tells_121 rfl (lv_at hl 0 rfl) ?_
                  obtain ⟨r_18, hc_18, hf⟩ := bn1_ok hf
                  refine gc_i (wc := (cf_15 cI h1 h5 h4 h3 h2 h0 s1 s5)) (wr := (cf_24ytyz cI h2 h2a2 h2a3 h2a4 h2a5 h2a6 h2a7 h4 h4a0 h4a1 h4a2 hyt hyz s2 s4 syt syz)) (w1 := (cf_15 cI h1 h5 h4 h3 h2 h0 s1 s5)) (ws' := (cf_1245ytyz cI h1 h2 h2a2 h2a3 h2a4 h2a5 h2a6 h2a7 h4 h4a0 h4a1 h4a2 h5 hyt hyz h3 h0 s1 s2 s4 s5 syt syz)) hP hD hS hA [0, 12] [1, 2, 3, 4, 5, 6, 7, 8, 9, 10, 11, 13, 14] [13, 0, 1, 2, 3, 4, 5, 6, 7, 8, 9, 10, 14, 11, 12] rfl rfl (by decide) (by decide) rfl (by decide) (va_runV (As := []) (rest := []) ⟨hx, hb, hml, hown, hts⟩ (ktX5_done l dC dI cI h1 h5 h4 h3 h2 h0 _ s1 s5 r_18 hc_18) (cwV 0 hts gL_tells_X5_done rfl rfl rfl (by decide +kernel) ⟨Nat.le_of_ble_eq_true rfl, Nat.le_of_ble_eq_true rfl⟩) (gc_V (ci := 5) (q0 := 1) (C := RX5) (T := TX5) (N := 10) (hP.sub (ws' := (cf_15 cI h1 h5 h4 h3 h2 h0 s1 s5)) [0, 12] rfl) (hK.sub (tys' := [(cI, .int)]) [0] rfl) (hD.sub (ws' := (cf_15 cI h1 h5 h4 h3 h2 h0 s1 s5)) [0, 12] (by decide) rfl) hN rfl rfl) rfl rfl hl.1 rfl (lv_room (Nat.le_of_ble_eq_true rfl)) dL_tells_122 ⟨by show (0 + 2 * i + 0) + 0 ≤ 128; omega, by show (0 + 12 * i + 0) + 0 ≤ 768; omega⟩) (fun H locs hP hD hS => ?_)
                  refine lv_aload_n hx hb dL_tells_125 rfl (lv_at hl 2 rfl) ?_
                  refine lv_bipush (v := 6) hx hb dL_tells_126 (by decide) ?_
                  obtain ⟨hi_19, hf⟩ := ai_ok hf
                  refine va_iald (n := 13) (f := syz) hx hb hK hP 14 0 rfl rfl hi_19 dL_tells_128 ?_
                  refine lv_icmp_ne (tgt := 180) hx hb dL_tells_129 (by decide) (fun c_20 => ?_) (fun c_20 => ?_)
                  · have hf := it_f c_20 hf
                    refine W.widen (k := 128) (n := 768) (by omega) (by omega) ?_
                    exact J180 _ _ hP hD hS _ (lv_sub hl [] rfl) hf
                  · have hf := it_t c_20 hf
                    refine lv_aload_n hx hb dL_tells_132 rfl (lv_at hl 0 rfl) ?_
                    obtain ⟨r_21, hc_21, hf⟩ := bn1_ok hf
                    refine gc_i (wc := (cf_15 cI h1 h5 h4 h3 h2 h0 s1 s5)) (wr := (cf_24ytyz cI h2 h2a2 h2a3 h2a4 h2a5 h2a6 h2a7 h4 h4a0 h4a1 h4a2 hyt hyz s2 s4 syt syz)) (w1 := (cf_15 cI h1 h5 h4 h3 h2 h0 s1 s5)) (ws' := (cf_1245ytyz cI h1 h2 h2a2 h2a3 h2a4 h2a5 h2a6 h2a7 h4 h4a0 h4a1 h4a2 h5 hyt hyz h3 h0 s1 s2 s4 s5 syt syz)) hP hD hS hA [0, 12] [1, 2, 3, 4, 5, 6, 7, 8, 9, 10, 11, 13, 14] [13, 0, 1, 2, 3, 4, 5, 6, 7, 8, 9, 10, 14, 11, 12] rfl rfl (by decide) (by decide) rfl (by decide) (va_runV (As := []) (rest := []) ⟨hx, hb, hml, hown, hts⟩ (ktX5_into l dC dI cI h1 h5 h4 h3 h2 h0 _ s1 s5 r_21 hc_21) (cwV 0 hts gL_tells_X5_into rfl rfl rfl (by decide +kernel) ⟨Nat.le_of_ble_eq_true rfl, Nat.le_of_ble_eq_true rfl⟩) (gc_V (ci := 5) (q0 := 1) (C := RX5) (T := TX5) (N := 10) (hP.sub (ws' := (cf_15 cI h1 h5 h4 h3 h2 h0 s1 s5)) [0, 12] rfl) (hK.sub (tys' := [(cI, .int)]) [0] rfl) (hD.sub (ws' := (cf_15 cI h1 h5 h4 h3 h2 h0 s1 s5)) [0, 12] (by decide) rfl) hN rfl rfl) rfl rfl hl.1 rfl (lv_room (Nat.le_of_ble_eq_true rfl)) dL_tells_133 ⟨by show (0 + 2 * i + 0) + 0 ≤ 128; omega, by show (0 + 12 * i + 0) + 0 ≤ 768; omega⟩) (fun H locs hP hD hS => ?_)
                    refine lv_aload_n hx hb dL_tells_136 rfl (lv_at hl 2 rfl) ?_
                    refine lv_bipush (v := 7) hx hb dL_tells_137 (by decide) ?_
                    obtain ⟨hi_22, hf⟩ := ai_ok hf
                    refine va_iald (n := 13) (f := syz) hx hb hK hP 14 0 rfl rfl hi_22 dL_tells_139 ?_
                    refine lv_icmp_ne (tgt := 180) hx hb dL_tells_140 (by decide) (fun c_23 => ?_) (fun c_23 => ?_)
                    · have hf := it_f c_23 hf
                      refine W.widen (k := 128) (n := 768) (by omega) (by omega) ?_
                      exact J180 _ _ hP hD hS _ (lv_sub hl [] rfl) hf
                    · have hf := it_t c_23 hf
                      refine lv_aload_n hx hb dL_tells_143 rfl (lv_at hl 0 rfl) ?_
                      obtain ⟨r_24, hc_24, hf⟩ := bn1_ok hf
                      refine gc_i (wc := (cf_5 cI h5 h4 h3 h2 h1 h0 s5)) (wr := (cf_124ytyz cI h1 h2 h2a2 h2a3 h2a4 h2a5 h2a6 h2a7 h4 h4a0 h4a1 h4a2 hyt hyz s1 s2 s4 syt syz)) (w1 := (cf_5 cI h5 h4 h3 h2 h1 h0 s5)) (ws' := (cf_1245ytyz cI h1 h2 h2a2 h2a3 h2a4 h2a5 h2a6 h2a7 h4 h4a0 h4a1 h4a2 h5 hyt hyz h3 h0 s1 s2 s4 s5 syt syz)) hP hD hS hA [12] [0, 1, 2, 3, 4, 5, 6, 7, 8, 9, 10, 11, 13, 14] [0, 1, 2, 3, 4, 5, 6, 7, 8, 9, 10, 11, 14, 12, 13] rfl rfl (by decide) (by decide) rfl (by decide) (va_runV (As := []) (rest := []) ⟨hx, hb, hml, hown, hts⟩ (ktX5_asked l dC dI cI h5 h4 h3 h2 h1 h0 _ s5 r_24 hc_24) (cwV 0 hts gL_tells_X5_asked rfl rfl rfl (by decide +kernel) ⟨Nat.le_of_ble_eq_true rfl, Nat.le_of_ble_eq_true rfl⟩) (gc_V (ci := 5) (q0 := 0) (C := RX5) (T := TX5) (N := 10) (hP.sub (ws' := (cf_5 cI h5 h4 h3 h2 h1 h0 s5)) [12] rfl) (hK.sub (tys' := [(cI, .int)]) [0] rfl) (hD.sub (ws' := (cf_5 cI h5 h4 h3 h2 h1 h0 s5)) [12] (by decide) rfl) hN rfl rfl) rfl rfl hl.1 rfl (lv_room (Nat.le_of_ble_eq_true rfl)) dL_tells_144 ⟨by show (0 + 2 * i + 0) + 0 ≤ 128; omega, by show (0 + 12 * i + 0) + 0 ≤ 768; omega⟩) (fun H locs hP hD hS => ?_)
                      refine lv_aload_n hx hb dL_tells_147 rfl (lv_at hl 2 rfl) ?_
                      refine lv_bipush (v := 9) hx hb dL_tells_148 (by decide) ?_
                      obtain ⟨hi_25, hf⟩ := ai_ok hf
                      refine va_iald (n := 13) (f := syz) hx hb hK hP 14 0 rfl rfl hi_25 dL_tells_150 ?_
                      refine lv_icmp_ne (tgt := 180) hx hb dL_tells_151 (by decide) (fun c_26 => ?_) (fun c_26 => ?_)
                      · have hf := it_f c_26 hf
                        refine W.widen (k := 128) (n := 768) (by omega) (by omega) ?_
                        exact J180 _ _ hP hD hS _ (lv_sub hl [] rfl) hf
                      · have hf := it_t c_26 hf
                        refine lv_aload_n hx hb dL_tells_154 rfl (lv_at hl 0 rfl) ?_
                        obtain ⟨r_27, hc_27, hf⟩ := bn1_ok hf
                        refine gc_i (wc := (cf_25 cI h2 h2a2 h2a3 h2a4 h2a5 h2a6 h2a7 h5 h4 h3 h1 h0 s2 s5)) (wr := (cf_14ytyz cI h1 h4 h4a0 h4a1 h4a2 hyt hyz s1 s4 syt syz)) (w1 := (cf_25 cI h2 h2a2 h2a3 h2a4 h2a5 h2a6 h2a7 h5 h4 h3 h1 h0 s2 s5)) (ws' := (cf_1245ytyz cI h1 h2 h2a2 h2a3 h2a4 h2a5 h2a6 h2a7 h4 h4a0 h4a1 h4a2 h5 hyt hyz h3 h0 s1 s2 s4 s5 syt syz)) hP hD hS hA [1, 2, 3, 4, 5, 6, 7, 12] [0, 8, 9, 10, 11, 13, 14] [0, 7, 8, 9, 10, 11, 12, 13, 1, 2, 3, 4, 14, 5, 6] rfl rfl (by decide) (by decide) rfl (by decide) (va_runV (As := []) (rest := []) ⟨hx, hb, hml, hown, hts⟩ (ktX5_askedAt l dC dI cI h2 h2a2 h2a3 h2a4 h2a5 h2a6 h2a7 h5 h4 h3 h1 h0 _ s2 s5 r_27 hc_27) (cwV 0 hts gL_tells_X5_askedAt rfl rfl rfl (by decide +kernel) ⟨Nat.le_of_ble_eq_true rfl, Nat.le_of_ble_eq_true rfl⟩) (gc_V (ci := 5) (q0 := 7) (C := RX5) (T := TX5) (N := 10) (hP.sub (ws' := (cf_25 cI h2 h2a2 h2a3 h2a4 h2a5 h2a6 h2a7 h5 h4 h3 h1 h0 s2 s5)) [1, 2, 3, 4, 5, 6, 7, 12] rfl) (hK.sub (tys' := [(cI, .int)]) [0] rfl) (hD.sub (ws' := (cf_25 cI h2 h2a2 h2a3 h2a4 h2a5 h2a6 h2a7 h5 h4 h3 h1 h0 s2 s5)) [1, 2, 3, 4, 5, 6, 7, 12] (by decide) rfl) hN rfl rfl) rfl rfl hl.1 rfl (lv_room (Nat.le_of_ble_eq_true rfl)) dL_tells_155 ⟨by show (0 + 2 * i + 0) + 0 ≤ 128; omega, by show (0 + 12 * i + 0) + 0 ≤ 768; omega⟩) (fun H locs hP hD hS => ?_)
                        refine lv_aload_n hx hb dL_tells_158 rfl (lv_at hl 2 rfl) ?_
                        refine lv_bipush (v := 10) hx hb dL_tells_159 (by decide) ?_
                        obtain ⟨hi_28, hf⟩ := ai_ok hf
                        refine va_iald (n := 13) (f := syz) hx hb hK hP 14 0 rfl rfl hi_28 dL_tells_161 ?_
                        refine lv_icmp_ne (tgt := 180) hx hb dL_tells_162 (by decide) (fun c_29 => ?_) (fun c_29 => ?_)
                        · have hf := it_f c_29 hf
                          refine W.widen (k := 128) (n := 768) (by omega) (by omega) ?_
                          exact J180 _ _ hP hD hS _ (lv_sub hl [] rfl) hf
                        · have hf := it_t c_29 hf
                          refine lv_aload_n hx hb dL_tells_165 rfl (lv_at hl 0 rfl) ?_
                          obtain ⟨r_30, hc_30, hf⟩ := bn1_ok hf
                          refine gc_i (wc := (cf_5 cI h5 h4 h3 h2 h1 h0 s5)) (wr := (cf_124ytyz cI h1 h2 h2a2 h2a3 h2a4 h2a5 h2a6 h2a7 h4 h4a0 h4a1 h4a2 hyt hyz s1 s2 s4 syt syz)) (w1 := (cf_5 cI h5 h4 h3 h2 h1 h0 s5)) (ws' := (cf_1245ytyz cI h1 h2 h2a2 h2a3 h2a4 h2a5 h2a6 h2a7 h4 h4a0 h4a1 h4a2 h5 hyt hyz h3 h0 s1 s2 s4 s5 syt syz)) hP hD hS hA [12] [0, 1, 2, 3, 4, 5, 6, 7, 8, 9, 10, 11, 13, 14] [0, 1, 2, 3, 4, 5, 6, 7, 8, 9, 10, 11, 14, 12, 13] rfl rfl (by decide) (by decide) rfl (by decide) (va_runV (As := []) (rest := []) ⟨hx, hb, hml, hown, hts⟩ (ktX5_questions l dC dI cI h5 h4 h3 h2 h1 h0 _ s5 r_30 hc_30) (cwV 0 hts gL_tells_X5_questions rfl rfl rfl (by decide +kernel) ⟨Nat.le_of_ble_eq_true rfl, Nat.le_of_ble_eq_true rfl⟩) (gc_V (ci := 5) (q0 := 0) (C := RX5) (T := TX5) (N := 10) (hP.sub (ws' := (cf_5 cI h5 h4 h3 h2 h1 h0 s5)) [12] rfl) (hK.sub (tys' := [(cI, .int)]) [0] rfl) (hD.sub (ws' := (cf_5 cI h5 h4 h3 h2 h1 h0 s5)) [12] (by decide) rfl) hN rfl rfl) rfl rfl hl.1 rfl (lv_room (Nat.le_of_ble_eq_true rfl)) dL_tells_166 ⟨by show (0 + 2 * i + 0) + 0 ≤ 128; omega, by show (0 + 12 * i + 0) + 0 ≤ 768; omega⟩) (fun H locs hP hD hS => ?_)
                          refine lv_aload_n hx hb dL_tells_169 rfl (lv_at hl 2 rfl) ?_
                          refine lv_bipush (v := 11) hx hb dL_tells_170 (by decide) ?_
                          obtain ⟨hi_31, hf⟩ := ai_ok hf
                          refine va_iald (n := 13) (f := syz) hx hb hK hP 14 0 rfl rfl hi_31 dL_tells_172 ?_
                          refine lv_icmp_ne (tgt := 180) hx hb dL_tells_173 (by decide) (fun c_32 => ?_) (fun c_32 => ?_)
                          · have hf := it_f c_32 hf
                            refine W.widen (k := 128) (n := 768) (by omega) (by omega) ?_
                            exact J180 _ _ hP hD hS _ (lv_sub hl [] rfl) hf
                          · have hf := it_t c_32 hf
                            refine lv_iconst (v := 1) hx hb dL_tells_176 (by decide) ?_
                            refine lv_goto (tgt := 181) hx hb dL_tells_177 (by decide) ?_
                            refine W.widen (k := 128) (n := 768) (by omega) (by omega) ?_
                            exact J181 1 _ _ hP hD hS _ (lv_sub hl [] rfl) hf
      · have hf := it_f c_2 hf
        refine lv_aload_n hx hb dL_tells_9 rfl (lv_at hl 0 rfl) ?_
        refine lv_iload_n hx hb dL_tells_10 rfl (lv_at hl 3 rfl) ?_
        obtain ⟨r_33, hc_33, hf⟩ := bn1_ok hf
        refine gc_h (wc := (cf_45 cI h4 h4a0 h4a1 h4a2 h5 h3 h2 h1 h0 s4 s5)) (wr := (cf_12ytyz cI h1 h2 h2a2 h2a3 h2a4 h2a5 h2a6 h2a7 hyt hyz s1 s2 syt syz)) (w1 := (cf_45 cI h4 h4a0 h4a1 h4a2 h5 h3 h2 h1 h0 s4 s5)) (ws' := (cf_1245ytyz cI h1 h2 h2a2 h2a3 h2a4 h2a5 h2a6 h2a7 h4 h4a0 h4a1 h4a2 h5 hyt hyz h3 h0 s1 s2 s4 s5 syt syz)) hP hD hS hA [8, 9, 10, 11, 12] [0, 1, 2, 3, 4, 5, 6, 7, 13, 14] [0, 1, 2, 3, 4, 5, 6, 7, 10, 11, 12, 13, 14, 8, 9] rfl rfl (by decide) (by decide) rfl (by decide) (vx_runSW (As := [.ref h5, .int x3]) (rest := []) ⟨hx, hb, hml, hown, hts⟩ (ktL_placed l hst dC dI cI h4 h4a0 h4a1 h4a2 h5 h3 h2 h1 h0 _ s4 s5 x3 r_33 hc_33) (vx_cwSW 2 hts gL_tells_L_placed rfl rfl rfl (by decide +kernel) ⟨Nat.le_of_ble_eq_true rfl, Nat.le_of_ble_eq_true rfl⟩) (gl_S XH_ok (hP.sub (ws' := (cf_45 cI h4 h4a0 h4a1 h4a2 h5 h3 h2 h1 h0 s4 s5)) [8, 9, 10, 11, 12] rfl) (hK.sub (tys' := [(cI, .int)]) [0] rfl) (hD.sub (ws' := (cf_45 cI h4 h4a0 h4a1 h4a2 h5 h3 h2 h1 h0 s4 s5)) [8, 9, 10, 11, 12] (by decide) rfl) hN (XH_ok.2.2.2 A s s.heap _ hS.1 hS.2.1 hXH) (va_free (wc := (cf_45 cI h4 h4a0 h4a1 h4a2 h5 h3 h2 h1 h0 s4 s5)) hD hS hA [8, 9, 10, 11, 12] rfl)) rfl rfl hl.1 rfl (lv_room (Nat.le_of_ble_eq_true rfl)) dL_tells_11 ⟨by show (0 + 2 * i + 0) + 1 ≤ 128; omega, by show (0 + 12 * i + 0) + 6 ≤ 768; omega⟩) (fun H locs hP hD hS => ?_)
        refine lv_iload_n hx hb dL_tells_14 rfl (lv_at hl 3 rfl) ?_
        refine lv_aload_n hx hb dL_tells_15 rfl (lv_at hl 2 rfl) ?_
        refine lv_iconst (v := 0) hx hb dL_tells_16 (by decide) ?_
        obtain ⟨hi_34, hf⟩ := ai_ok hf
        refine va_iald (n := 13) (f := syz) hx hb hK hP 14 0 rfl rfl hi_34 dL_tells_17 ?_
        refine lv_icmp_ge (tgt := 30) hx hb dL_tells_18 (by decide) (fun c_35 => ?_) (fun c_35 => ?_)
        · have hf := it_t c_35 hf
          refine lv_bipush (v := (-101)) hx hb dL_tells_30 (by decide) ?_
          refine W.widen (k := 0 + 2 * i + 1) (n := 0 + 12 * i + 6) (by omega) (by omega) ?_
          exact J32 n i hi (fun x3 => fL_tells_2 s1 s2 s4 s5 syt syz n x3) (fun x3 H locs hP hD hS ls hl hf => ih (i + 1) (by omega) x3 H locs hP hD hS ls hl hf) x3 r_33 (-101) _ _ hP hD hS _ (lv_sub hl [0, 1, 2, 3] rfl) hf
        · have hf := it_f c_35 hf
          refine lv_aload_n hx hb dL_tells_21 rfl (lv_at hl 1 rfl) ?_
          refine lv_bipush (v := 24) hx hb dL_tells_22 (by decide) ?_
          refine lv_iload_n hx hb dL_tells_24 rfl (lv_at hl 3 rfl) ?_
          refine lv_iadd hx hb dL_tells_25 ?_
          obtain ⟨hi_36, hf⟩ := ai_ok hf
          refine va_iald (n := 30) (f := syt) hx hb hK hP 13 0 rfl rfl hi_36 dL_tells_26 ?_
          refine lv_goto (tgt := 32) hx hb dL_tells_27 (by decide) ?_
          refine W.widen (k := 0 + 2 * i + 1) (n := 0 + 12 * i + 6) (by omega) (by omega) ?_
          exact J32 n i hi (fun x3 => fL_tells_2 s1 s2 s4 s5 syt syz n x3) (fun x3 H locs hP hD hS ls hl hf => ih (i + 1) (by omega) x3 H locs hP hD hS ls hl hf) x3 r_33 (syt (24 + x3).toNatClampNeg) _ _ hP hD hS _ (lv_sub hl [0, 1, 2, 3] rfl) hf
  unfold fL_tells at hf
  refine lv_iconst (v := 0) hx hb dL_tells_0 (by decide) ?_
  refine lv_istore_n (lv' := [(3, .int 0), (0, .ref h5), (1, .ref hyt), (2, .ref hyz)]) hx hb dL_tells_1 rfl hl (by decide) rfl (fun ls hl => ?_)
  refine W.widen (k := 0 + 2 * 0 + 0) (n := 0 + 12 * 0 + 0) (by omega) (by omega) ?_
  exact J2 64 0 rfl 0 _ _ hP hD hS _ (lv_sub hl [1, 2, 3, 0] rfl) hf
