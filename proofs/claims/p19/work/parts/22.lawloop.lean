set_option maxHeartbeats 8000000 in
set_option maxRecDepth 100000 in
theorem law_loop {p : Program} {l : Launch} {e : Env} {s : State} {m : MethodId} {below : List Frame} {meth : Method} {c : Code} (hst : l.stackTraces = false) (dC : Nat → ClassId) (dI : Nat → Nat → Nat) (cI : ClassId) (h0 h1 h2 h2a2 h2a3 h2a4 h2a5 h2a6 h2a7 h3 h3a0 h4 h4a0 h4a1 h4a2 h5 hyt hyz hyw hyu hyv : Nat) {b L : Nat} {xs : Nat → Int32} (A : Nat → Prop) (hAe : A = fun q : Nat => s.heap.size ≤ q) (C0 : lw_At p s m meth c b L xs) (hK : va_K (dC, dI) vwCl [(cI, .int)] s) (hN : nw s) (hXH : XH A s s.heap) : ∀ (n i : Nat), i + n = 64 → ∀ (s0 : S0) (s1 : S1) (s2 : S2) (s3 : S3) (s4 : S4) (s5 : S5) (syt : Syt) (syz : Syz) (syw : Syw) (syu : Syu) (syv : Syv) (x7 : Int32) (H : Heap) (locs : List Loc), va_P (dC, dI) vwCl (cf_012345ytyzywyuyv cI h0 h1 h2 h2a2 h2a3 h2a4 h2a5 h2a6 h2a7 h3 h3a0 h4 h4a0 h4a1 h4a2 h5 hyt hyz hyw hyu hyv s0 s1 s2 s3 s4 s5 syt syz syw syu syv) H → va_D A (cf_012345ytyzywyuyv cI h0 h1 h2 h2a2 h2a3 h2a4 h2a5 h2a6 h2a7 h3 h3a0 h4 h4a0 h4a1 h4a2 h5 hyt hyz hyw hyu hyv s0 s1 s2 s3 s4 s5 syt syz syw syu syv) → va_S A s.heap H locs → ∀ (ls : Array Slot), lv_has ls 10 [(0, .ref b), (1, .ref h5), (2, .ref hyt), (3, .ref hyz), (4, .ref hyw), (5, .ref hyu), (6, .ref hyv), (7, .int x7)] → fL_law_66 L xs n s0 s1 s2 s3 s4 s5 syt syz syw syu syv x7 = some 1 → W p l e room_1 s m #[Value.ref b] below meth c H locs (21 + 151 * i + 0) (362 + 960 * i + 0) (lw_Z below #[Value.ref b] s) (F0 m 66 ls []) := by
  obtain ⟨hx, hb, hr, hml, hown, hts, hX, hbl, hlocks, hgv⟩ := C0
  have hts : ∀ w ∈ wsL_law, w.before #[Value.ref b] s = true := fun w h => hts w (wsL_law_in w h)
  have hown : s.vm.findClass RL = some m.cls := hown
  have hA : ∀ q : Nat, s.heap.size ≤ q → A q := fun q h => by rw [hAe]; exact h
  have hbA : ¬ A b := by rw [hAe]; exact Nat.not_le.mpr hbl
  have hXS : XS b L xs A s s.heap := ⟨hX, hbl, hbA⟩
  have J304 : ∀ (s0 : S0) (s1 : S1) (s2 : S2) (s3 : S3) (s4 : S4) (s5 : S5) (syt : Syt) (syz : Syz) (syw : Syw) (syu : Syu) (syv : Syv) (H : Heap) (locs : List Loc), va_P (dC, dI) vwCl (cf_012345ytyzywyuyv cI h0 h1 h2 h2a2 h2a3 h2a4 h2a5 h2a6 h2a7 h3 h3a0 h4 h4a0 h4a1 h4a2 h5 hyt hyz hyw hyu hyv s0 s1 s2 s3 s4 s5 syt syz syw syu syv) H → va_D A (cf_012345ytyzywyuyv cI h0 h1 h2 h2a2 h2a3 h2a4 h2a5 h2a6 h2a7 h3 h3a0 h4 h4a0 h4a1 h4a2 h5 hyt hyz hyw hyu hyv s0 s1 s2 s3 s4 s5 syt syz syw syu syv) → va_S A s.heap H locs → ∀ (ls : Array Slot), lv_has ls 10 [] → fL_law_304 L xs s0 s1 s2 s3 s4 s5 syt syz syw syu syv = some 1 → W p l e room_1 s m #[Value.ref b] below meth c H locs (9685) (61802) (lw_Z below #[Value.ref b] s) (F0 m 304 ls []) := by
    intro s0 s1 s2 s3 s4 s5 syt syz syw syu syv H locs hP hD hS ls hl hf
    unfold fL_law_304 at hf
    refine lv_iconst (v := 0) hx hb dL_law_304 (by decide) ?_
    have hf : (some 0 : Option Int32) = some 1 := hf
    exact absurd (Option.some.inj hf) (by decide)
  have J274 : ∀ (n i : Nat) (hi : i + n + 1 = 64) (k66 : S0 → S1 → S2 → S3 → S4 → S5 → Syt → Syz → Syw → Syu → Syv → Int32 → Option Int32) (hk66 : ∀ (s0 : S0) (s1 : S1) (s2 : S2) (s3 : S3) (s4 : S4) (s5 : S5) (syt : Syt) (syz : Syz) (syw : Syw) (syu : Syu) (syv : Syv) (x7 : Int32) (H : Heap) (locs : List Loc), va_P (dC, dI) vwCl (cf_012345ytyzywyuyv cI h0 h1 h2 h2a2 h2a3 h2a4 h2a5 h2a6 h2a7 h3 h3a0 h4 h4a0 h4a1 h4a2 h5 hyt hyz hyw hyu hyv s0 s1 s2 s3 s4 s5 syt syz syw syu syv) H → va_D A (cf_012345ytyzywyuyv cI h0 h1 h2 h2a2 h2a3 h2a4 h2a5 h2a6 h2a7 h3 h3a0 h4 h4a0 h4a1 h4a2 h5 hyt hyz hyw hyu hyv s0 s1 s2 s3 s4 s5 syt syz syw syu syv) → va_S A s.heap H locs → ∀ (ls : Array Slot), lv_has ls 10 [(0, .ref b), (1, .ref h5), (2, .ref hyt), (3, .ref hyz), (4, .ref hyw), (5, .ref hyu), (6, .ref hyv), (7, .int x7)] → k66 s0 s1 s2 s3 s4 s5 syt syz syw syu syv x7 = some 1 → W p l e room_1 s m #[Value.ref b] below meth c H locs (21 + 151 * (i + 1) + 0) (362 + 960 * (i + 1) + 0) (lw_Z below #[Value.ref b] s) (F0 m 66 ls [])) (s0 : S0) (s1 : S1) (s2 : S2) (s3 : S3) (s4 : S4) (s5 : S5) (syt : Syt) (syz : Syz) (syw : Syw) (syu : Syu) (syv : Syv) (x7 : Int32) (t1 : Int32) (t2 : Int32) (t3 : Int32) (H : Heap) (locs : List Loc), va_P (dC, dI) vwCl (cf_012345ytyzywyuyv cI h0 h1 h2 h2a2 h2a3 h2a4 h2a5 h2a6 h2a7 h3 h3a0 h4 h4a0 h4a1 h4a2 h5 hyt hyz hyw hyu hyv s0 s1 s2 s3 s4 s5 syt syz syw syu syv) H → va_D A (cf_012345ytyzywyuyv cI h0 h1 h2 h2a2 h2a3 h2a4 h2a5 h2a6 h2a7 h3 h3a0 h4 h4a0 h4a1 h4a2 h5 hyt hyz hyw hyu hyv s0 s1 s2 s3 s4 s5 syt syz syw syu syv) → va_S A s.heap H locs → ∀ (ls : Array Slot), lv_has ls 10 [(0, .ref b), (1, .ref h5), (2, .ref hyt), (3, .ref hyz), (4, .ref hyw), (5, .ref hyu), (6, .ref hyv), (7, .int x7)] → fL_law_274 L xs k66 s0 s1 s2 s3 s4 s5 syt syz syw syu syv x7 t1 t2 t3 = some 1 → W p l e room_1 s m #[Value.ref b] below meth c H locs (21 + 151 * i + 22) (362 + 960 * i + 186) (lw_Z below #[Value.ref b] s) (F0 m 274 ls [.int t3, .int t2, .int t1, .ref hyz]) := by
    intro n i hi k66 hk66 s0 s1 s2 s3 s4 s5 syt syz syw syu syv x7 t1 t2 t3 H locs hP hD hS ls hl hf
    unfold fL_law_274 at hf
    refine lv_iadd hx hb dL_law_274 ?_
    obtain ⟨hi_1, hf⟩ := ai_ok hf
    refine va_iast (n := 13) (f := syz) hx hb hK hP hD hS 17 0 rfl rfl hi_1 dL_law_275 (fun H locs hP hD hS => ?_)
    have hP : va_P (dC, dI) vwCl (cf_012345ytyzywyuyv cI h0 h1 h2 h2a2 h2a3 h2a4 h2a5 h2a6 h2a7 h3 h3a0 h4 h4a0 h4a1 h4a2 h5 hyt hyz hyw hyu hyv s0 s1 s2 s3 s4 s5 syt (upd syz t1.toNatClampNeg (t2 + t3)) syw syu syv) H := hP
    have hD : va_D A (cf_012345ytyzywyuyv cI h0 h1 h2 h2a2 h2a3 h2a4 h2a5 h2a6 h2a7 h3 h3a0 h4 h4a0 h4a1 h4a2 h5 hyt hyz hyw hyu hyv s0 s1 s2 s3 s4 s5 syt (upd syz t1.toNatClampNeg (t2 + t3)) syw syu syv) := hD
    refine lv_aload_n hx hb dL_law_276 rfl (lv_at hl 1 rfl) ?_
    obtain ⟨r_2, s0_2, s1_2, s2_2, s3_2, s4_2, s5_2, hc_2, hf⟩ := bn7_ok hf
    refine gc_i (wc := (cf_012345 cI h0 h1 h2 h2a2 h2a3 h2a4 h2a5 h2a6 h2a7 h3 h3a0 h4 h4a0 h4a1 h4a2 h5 s0 s1 s2 s3 s4 s5)) (wr := (cf_ytyzywyuyv cI hyt hyz hyw hyu hyv syt (upd syz t1.toNatClampNeg (t2 + t3)) syw syu syv)) (w1 := (cf_012345 cI h0 h1 h2 h2a2 h2a3 h2a4 h2a5 h2a6 h2a7 h3 h3a0 h4 h4a0 h4a1 h4a2 h5 s0_2 s1_2 s2_2 s3_2 s4_2 s5_2)) (ws' := (cf_012345ytyzywyuyv cI h0 h1 h2 h2a2 h2a3 h2a4 h2a5 h2a6 h2a7 h3 h3a0 h4 h4a0 h4a1 h4a2 h5 hyt hyz hyw hyu hyv s0_2 s1_2 s2_2 s3_2 s4_2 s5_2 syt (upd syz t1.toNatClampNeg (t2 + t3)) syw syu syv)) hP hD hS hA [0, 1, 2, 3, 4, 5, 6, 7, 8, 9, 10, 11, 12, 13, 14, 15] [16, 17, 18, 19, 20] [5, 6, 7, 8, 9, 10, 11, 12, 13, 14, 15, 16, 17, 18, 19, 20, 0, 1, 2, 3, 4] rfl rfl (by decide) (by decide) rfl (by decide) (va_runV (As := []) (rest := []) ⟨hx, hb, hml, hown, hts⟩ (ktX5_say l dC dI cI h0 h1 h2 h2a2 h2a3 h2a4 h2a5 h2a6 h2a7 h3 h3a0 h4 h4a0 h4a1 h4a2 h5 _ s0 s1 s2 s3 s4 s5 r_2 s0_2 s1_2 s2_2 s3_2 s4_2 s5_2 hc_2) (cwV 0 hts gL_law_X5_say rfl rfl rfl (by decide +kernel) ⟨Nat.le_of_ble_eq_true rfl, Nat.le_of_ble_eq_true rfl⟩) (gc_V (ci := 5) (q0 := 15) (C := RX5) (T := TX5) (N := 10) (hP.sub (ws' := (cf_012345 cI h0 h1 h2 h2a2 h2a3 h2a4 h2a5 h2a6 h2a7 h3 h3a0 h4 h4a0 h4a1 h4a2 h5 s0 s1 s2 s3 s4 s5)) [0, 1, 2, 3, 4, 5, 6, 7, 8, 9, 10, 11, 12, 13, 14, 15] rfl) (hK.sub (tys' := [(cI, .int)]) [0] rfl) (hD.sub (ws' := (cf_012345 cI h0 h1 h2 h2a2 h2a3 h2a4 h2a5 h2a6 h2a7 h3 h3a0 h4 h4a0 h4a1 h4a2 h5 s0 s1 s2 s3 s4 s5)) [0, 1, 2, 3, 4, 5, 6, 7, 8, 9, 10, 11, 12, 13, 14, 15] (by decide) rfl) hN rfl rfl) rfl rfl hl.1 rfl (lv_room (Nat.le_of_ble_eq_true rfl)) dL_law_277 ⟨by show (21 + 151 * i + 22) + 0 ≤ 600130; omega, by show (362 + 960 * i + 186) + 0 ≤ 7301079; omega⟩) (fun H locs hP hD hS => ?_)
    refine lv_aload_n hx hb dL_law_280 rfl (lv_at hl 3 rfl) ?_
    refine lv_iconst (v := 2) hx hb dL_law_281 (by decide) ?_
    obtain ⟨hi_3, hf⟩ := ai_ok hf
    refine va_iald (n := 13) (f := (upd syz t1.toNatClampNeg (t2 + t3))) hx hb hK hP 17 0 rfl rfl hi_3 dL_law_282 ?_
    refine lv_icmp_ne (tgt := 304) hx hb dL_law_283 (by decide) (fun c_4 => ?_) (fun c_4 => ?_)
    · have hf := it_f c_4 hf
      refine W.widen (k := 9685) (n := 61802) (by omega) (by omega) ?_
      exact J304 s0_2 s1_2 s2_2 s3_2 s4_2 s5_2 syt (upd syz t1.toNatClampNeg (t2 + t3)) syw syu syv _ _ hP hD hS _ (lv_sub hl [] rfl) hf
    · have hf := it_t c_4 hf
      refine lv_aload_n hx hb dL_law_286 rfl (lv_at hl 1 rfl) ?_
      refine lv_aload_n hx hb dL_law_287 rfl (lv_at hl 2 rfl) ?_
      refine lv_aload_n hx hb dL_law_288 rfl (lv_at hl 3 rfl) ?_
      obtain ⟨r_5, hc_5, hf⟩ := bn1_ok hf
      refine gc_h (wc := (cf_1245ytyz cI h1 h2 h2a2 h2a3 h2a4 h2a5 h2a6 h2a7 h4 h4a0 h4a1 h4a2 h5 hyt hyz h3 h0 s1_2 s2_2 s4_2 s5_2 syt (upd syz t1.toNatClampNeg (t2 + t3)))) (wr := (cf_03ywyuyv cI h0 h3 h3a0 hyw hyu hyv h4 h2 h1 s0_2 s3_2 syw syu syv)) (w1 := (cf_1245ytyz cI h1 h2 h2a2 h2a3 h2a4 h2a5 h2a6 h2a7 h4 h4a0 h4a1 h4a2 h5 hyt hyz h3 h0 s1_2 s2_2 s4_2 s5_2 syt (upd syz t1.toNatClampNeg (t2 + t3)))) (ws' := (cf_012345ytyzywyuyv cI h0 h1 h2 h2a2 h2a3 h2a4 h2a5 h2a6 h2a7 h3 h3a0 h4 h4a0 h4a1 h4a2 h5 hyt hyz hyw hyu hyv s0_2 s1_2 s2_2 s3_2 s4_2 s5_2 syt (upd syz t1.toNatClampNeg (t2 + t3)) syw syu syv)) hP hD hS hA [1, 2, 3, 4, 5, 6, 7, 8, 11, 12, 13, 14, 15, 16, 17] [0, 9, 10, 18, 19, 20] [0, 6, 7, 8, 9, 10, 11, 12, 13, 1, 2, 14, 15, 16, 17, 18, 19, 20, 3, 4, 5] rfl rfl (by decide) (by decide) rfl (by decide) (va_runS (As := [.ref h5, .ref hyt, .ref hyz]) (rest := []) ⟨hx, hb, hml, hown, hts⟩ (ktL_tells l hst dC dI cI h1 h2 h2a2 h2a3 h2a4 h2a5 h2a6 h2a7 h4 h4a0 h4a1 h4a2 h5 hyt hyz h3 h0 _ s1_2 s2_2 s4_2 s5_2 syt (upd syz t1.toNatClampNeg (t2 + t3)) r_5 hc_5) (va_cwS 3 hts gL_law_L_tells rfl rfl rfl (by decide +kernel) ⟨Nat.le_of_ble_eq_true rfl, Nat.le_of_ble_eq_true rfl⟩) (gl_S XH_ok (hP.sub (ws' := (cf_1245ytyz cI h1 h2 h2a2 h2a3 h2a4 h2a5 h2a6 h2a7 h4 h4a0 h4a1 h4a2 h5 hyt hyz h3 h0 s1_2 s2_2 s4_2 s5_2 syt (upd syz t1.toNatClampNeg (t2 + t3)))) [1, 2, 3, 4, 5, 6, 7, 8, 11, 12, 13, 14, 15, 16, 17] rfl) (hK.sub (tys' := [(cI, .int)]) [0] rfl) (hD.sub (ws' := (cf_1245ytyz cI h1 h2 h2a2 h2a3 h2a4 h2a5 h2a6 h2a7 h4 h4a0 h4a1 h4a2 h5 hyt hyz h3 h0 s1_2 s2_2 s4_2 s5_2 syt (upd syz t1.toNatClampNeg (t2 + t3)))) [1, 2, 3, 4, 5, 6, 7, 8, 11, 12, 13, 14, 15, 16, 17] (by decide) rfl) hN (XH_ok.2.2.2 A s s.heap _ hS.1 hS.2.1 hXH) (va_free (wc := (cf_1245ytyz cI h1 h2 h2a2 h2a3 h2a4 h2a5 h2a6 h2a7 h4 h4a0 h4a1 h4a2 h5 hyt hyz h3 h0 s1_2 s2_2 s4_2 s5_2 syt (upd syz t1.toNatClampNeg (t2 + t3)))) hD hS hA [1, 2, 3, 4, 5, 6, 7, 8, 11, 12, 13, 14, 15, 16, 17] rfl)) rfl rfl hl.1 rfl (lv_room (Nat.le_of_ble_eq_true rfl)) dL_law_289 ⟨by show (21 + 151 * i + 22) + 128 ≤ 600130; omega, by show (362 + 960 * i + 186) + 768 ≤ 7301079; omega⟩) (fun H locs hP hD hS => ?_)
      refine lv_if_eq (tgt := 304) hx hb dL_law_292 (by decide) (fun c_6 => ?_) (fun c_6 => ?_)
      · have hf := it_t c_6 hf
        refine W.widen (k := 9685) (n := 61802) (by omega) (by omega) ?_
        exact J304 s0_2 s1_2 s2_2 s3_2 s4_2 s5_2 syt (upd syz t1.toNatClampNeg (t2 + t3)) syw syu syv _ _ hP hD hS _ (lv_sub hl [] rfl) hf
      · have hf := it_f c_6 hf
        refine lv_aload_n hx hb dL_law_295 rfl (lv_at hl 1 rfl) ?_
        obtain ⟨r_7, s3_7, hc_7, hf⟩ := bn2_ok hf
        refine gc_h (wc := (cf_35 cI h3 h3a0 h5 h4 h2 h1 h0 s3_2 s5_2)) (wr := (cf_0124ytyzywyuyv cI h0 h1 h2 h2a2 h2a3 h2a4 h2a5 h2a6 h2a7 h4 h4a0 h4a1 h4a2 hyt hyz hyw hyu hyv s0_2 s1_2 s2_2 s4_2 syt (upd syz t1.toNatClampNeg (t2 + t3)) syw syu syv)) (w1 := (cf_35 cI h3 h3a0 h5 h4 h2 h1 h0 s3_7 s5_2)) (ws' := (cf_012345ytyzywyuyv cI h0 h1 h2 h2a2 h2a3 h2a4 h2a5 h2a6 h2a7 h3 h3a0 h4 h4a0 h4a1 h4a2 h5 hyt hyz hyw hyu hyv s0_2 s1_2 s2_2 s3_7 s4_2 s5_2 syt (upd syz t1.toNatClampNeg (t2 + t3)) syw syu syv)) hP hD hS hA [9, 10, 15] [0, 1, 2, 3, 4, 5, 6, 7, 8, 11, 12, 13, 14, 16, 17, 18, 19, 20] [0, 1, 2, 3, 4, 5, 6, 7, 8, 18, 19, 9, 10, 11, 12, 20, 13, 14, 15, 16, 17] rfl rfl (by decide) (by decide) rfl (by decide) (vx_runSW (As := [.ref h5]) (rest := []) ⟨hx, hb, hml, hown, hts⟩ (ktL_backed l hst dC dI cI h3 h3a0 h5 h4 h2 h1 h0 _ s3_2 s5_2 r_7 s3_7 hc_7) (vx_cwSW 1 hts gL_law_L_backed rfl rfl rfl (by decide +kernel) ⟨Nat.le_of_ble_eq_true rfl, Nat.le_of_ble_eq_true rfl⟩) (gl_S XH_ok (hP.sub (ws' := (cf_35 cI h3 h3a0 h5 h4 h2 h1 h0 s3_2 s5_2)) [9, 10, 15] rfl) (hK.sub (tys' := [(cI, .int)]) [0] rfl) (hD.sub (ws' := (cf_35 cI h3 h3a0 h5 h4 h2 h1 h0 s3_2 s5_2)) [9, 10, 15] (by decide) rfl) hN (XH_ok.2.2.2 A s s.heap _ hS.1 hS.2.1 hXH) (va_free (wc := (cf_35 cI h3 h3a0 h5 h4 h2 h1 h0 s3_2 s5_2)) hD hS hA [9, 10, 15] rfl)) rfl rfl hl.1 rfl (lv_room (Nat.le_of_ble_eq_true rfl)) dL_law_296 ⟨by show (21 + 151 * i + 22 + 128) + 1 ≤ 600130; omega, by show (362 + 960 * i + 186 + 768) + 6 ≤ 7301079; omega⟩) (fun H locs hP hD hS => ?_)
        refine lv_bipush (v := (-101)) hx hb dL_law_299 (by decide) ?_
        refine lv_icmp_eq (tgt := 306) hx hb dL_law_301 (by decide) (fun c_8 => ?_) (fun c_8 => ?_)
        · have hf := it_t c_8 hf
          refine lv_iinc (v := (x7 + 1)) (lv' := [(7, .int (x7 + 1)), (0, .ref b), (1, .ref h5), (2, .ref hyt), (3, .ref hyz), (4, .ref hyw), (5, .ref hyu), (6, .ref hyv)]) hx hb dL_law_306 hl (k := 7) rfl rfl (by decide) rfl (fun ls hl => ?_)
          refine lv_goto (tgt := 66) hx hb dL_law_309 (by decide) ?_
          refine W.widen (k := 21 + 151 * (i + 1) + 0) (n := 362 + 960 * (i + 1) + 0) (by omega) (by omega) ?_
          exact hk66 s0_2 s1_2 s2_2 s3_7 s4_2 s5_2 syt (upd syz t1.toNatClampNeg (t2 + t3)) syw syu syv (x7 + 1) _ _ hP hD hS _ (lv_sub hl [1, 2, 3, 4, 5, 6, 7, 0] rfl) hf
        · have hf := it_f c_8 hf
          refine W.widen (k := 9685) (n := 61802) (by omega) (by omega) ?_
          exact J304 s0_2 s1_2 s2_2 s3_7 s4_2 s5_2 syt (upd syz t1.toNatClampNeg (t2 + t3)) syw syu syv _ _ hP hD hS _ (lv_sub hl [] rfl) hf
  have J219 : ∀ (n i : Nat) (hi : i + n + 1 = 64) (k66 : S0 → S1 → S2 → S3 → S4 → S5 → Syt → Syz → Syw → Syu → Syv → Int32 → Option Int32) (hk66 : ∀ (s0 : S0) (s1 : S1) (s2 : S2) (s3 : S3) (s4 : S4) (s5 : S5) (syt : Syt) (syz : Syz) (syw : Syw) (syu : Syu) (syv : Syv) (x7 : Int32) (H : Heap) (locs : List Loc), va_P (dC, dI) vwCl (cf_012345ytyzywyuyv cI h0 h1 h2 h2a2 h2a3 h2a4 h2a5 h2a6 h2a7 h3 h3a0 h4 h4a0 h4a1 h4a2 h5 hyt hyz hyw hyu hyv s0 s1 s2 s3 s4 s5 syt syz syw syu syv) H → va_D A (cf_012345ytyzywyuyv cI h0 h1 h2 h2a2 h2a3 h2a4 h2a5 h2a6 h2a7 h3 h3a0 h4 h4a0 h4a1 h4a2 h5 hyt hyz hyw hyu hyv s0 s1 s2 s3 s4 s5 syt syz syw syu syv) → va_S A s.heap H locs → ∀ (ls : Array Slot), lv_has ls 10 [(0, .ref b), (1, .ref h5), (2, .ref hyt), (3, .ref hyz), (4, .ref hyw), (5, .ref hyu), (6, .ref hyv), (7, .int x7)] → k66 s0 s1 s2 s3 s4 s5 syt syz syw syu syv x7 = some 1 → W p l e room_1 s m #[Value.ref b] below meth c H locs (21 + 151 * (i + 1) + 0) (362 + 960 * (i + 1) + 0) (lw_Z below #[Value.ref b] s) (F0 m 66 ls [])) (s0 : S0) (s1 : S1) (s2 : S2) (s3 : S3) (s4 : S4) (s5 : S5) (syt : Syt) (syz : Syz) (syw : Syw) (syu : Syu) (syv : Syv) (x7 : Int32) (H : Heap) (locs : List Loc), va_P (dC, dI) vwCl (cf_012345ytyzywyuyv cI h0 h1 h2 h2a2 h2a3 h2a4 h2a5 h2a6 h2a7 h3 h3a0 h4 h4a0 h4a1 h4a2 h5 hyt hyz hyw hyu hyv s0 s1 s2 s3 s4 s5 syt syz syw syu syv) H → va_D A (cf_012345ytyzywyuyv cI h0 h1 h2 h2a2 h2a3 h2a4 h2a5 h2a6 h2a7 h3 h3a0 h4 h4a0 h4a1 h4a2 h5 hyt hyz hyw hyu hyv s0 s1 s2 s3 s4 s5 syt syz syw syu syv) → va_S A s.heap H locs → ∀ (ls : Array Slot), lv_has ls 10 [(0, .ref b), (1, .ref h5), (2, .ref hyt), (3, .ref hyz), (4, .ref hyw), (5, .ref hyu), (6, .ref hyv), (7, .int x7)] → fL_law_219 L xs k66 s0 s1 s2 s3 s4 s5 syt syz syw syu syv x7 = some 1 → W p l e room_1 s m #[Value.ref b] below meth c H locs (21 + 151 * i + 1) (362 + 960 * i + 6) (lw_Z below #[Value.ref b] s) (F0 m 219 ls []) := by
    intro n i hi k66 hk66 s0 s1 s2 s3 s4 s5 syt syz syw syu syv x7 H locs hP hD hS ls hl hf
    unfold fL_law_219 at hf
    refine lv_aload_n hx hb dL_law_219 rfl (lv_at hl 3 rfl) ?_
    refine lv_iconst (v := 1) hx hb dL_law_220 (by decide) ?_
    refine lv_iconst (v := 0) hx hb dL_law_221 (by decide) ?_
    obtain ⟨hi_1, hf⟩ := ai_ok hf
    refine va_iast (n := 13) (f := syz) hx hb hK hP hD hS 17 0 rfl rfl hi_1 dL_law_222 (fun H locs hP hD hS => ?_)
    have hP : va_P (dC, dI) vwCl (cf_012345ytyzywyuyv cI h0 h1 h2 h2a2 h2a3 h2a4 h2a5 h2a6 h2a7 h3 h3a0 h4 h4a0 h4a1 h4a2 h5 hyt hyz hyw hyu hyv s0 s1 s2 s3 s4 s5 syt (upd syz (1 : Int32).toNatClampNeg 0) syw syu syv) H := hP
    have hD : va_D A (cf_012345ytyzywyuyv cI h0 h1 h2 h2a2 h2a3 h2a4 h2a5 h2a6 h2a7 h3 h3a0 h4 h4a0 h4a1 h4a2 h5 hyt hyz hyw hyu hyv s0 s1 s2 s3 s4 s5 syt (upd syz (1 : Int32).toNatClampNeg 0) syw syu syv) := hD
    refine lv_aload_n hx hb dL_law_223 rfl (lv_at hl 1 rfl) ?_
    refine lv_aload_n hx hb dL_law_224 rfl (lv_at hl 0 rfl) ?_
    refine lv_bipush (v := 6) hx hb dL_law_225 (by decide) ?_
    refine lv_iload hx hb dL_law_227 (lv_at hl 7 rfl) ?_
    refine lv_imul hx hb dL_law_229 ?_
    refine lv_iconst (v := 1) hx hb dL_law_230 (by decide) ?_
    refine lv_iadd hx hb dL_law_231 ?_
    refine lv_aload hx hb dL_law_232 (lv_at hl 4 rfl) ?_
    refine lv_aload_n hx hb dL_law_234 rfl (lv_at hl 3 rfl) ?_
    obtain ⟨r_2, s3_2, syz_2, syw_2, hc_2, hf⟩ := bn4_ok hf
    refine gc_h (wc := (cf_35yzyw cI h3 h3a0 h5 hyz hyw h4 h2 h1 h0 s3 s5 (upd syz (1 : Int32).toNatClampNeg 0) syw)) (wr := (cf_0124ytyuyv cI h0 h1 h2 h2a2 h2a3 h2a4 h2a5 h2a6 h2a7 h4 h4a0 h4a1 h4a2 hyt hyu hyv s0 s1 s2 s4 syt syu syv)) (w1 := (cf_35yzyw cI h3 h3a0 h5 hyz hyw h4 h2 h1 h0 s3_2 s5 syz_2 syw_2)) (ws' := (cf_012345ytyzywyuyv cI h0 h1 h2 h2a2 h2a3 h2a4 h2a5 h2a6 h2a7 h3 h3a0 h4 h4a0 h4a1 h4a2 h5 hyt hyz hyw hyu hyv s0 s1 s2 s3_2 s4 s5 syt syz_2 syw_2 syu syv)) hP hD hS hA [9, 10, 15, 17, 18] [0, 1, 2, 3, 4, 5, 6, 7, 8, 11, 12, 13, 14, 16, 19, 20] [0, 1, 2, 3, 4, 5, 6, 7, 8, 16, 17, 9, 10, 11, 12, 18, 13, 19, 20, 14, 15] rfl rfl (by decide) (by decide) rfl (by decide) (va_runS (As := [.ref h5, .ref b, .int ((6 * x7) + 1), .ref hyw, .ref hyz]) (rest := []) ⟨hx, hb, hml, hown, hts⟩ (ktL_speaks l hst dC dI b L xs cI h3 h3a0 h5 hyz hyw h4 h2 h1 h0 _ s3 s5 (upd syz (1 : Int32).toNatClampNeg 0) syw ((6 * x7) + 1) r_2 s3_2 syz_2 syw_2 hc_2) (va_cwS 5 hts gL_law_L_speaks rfl rfl rfl (by decide +kernel) ⟨Nat.le_of_ble_eq_true rfl, Nat.le_of_ble_eq_true rfl⟩) (gl_S (XHS_ok b L xs) (hP.sub (ws' := (cf_35yzyw cI h3 h3a0 h5 hyz hyw h4 h2 h1 h0 s3 s5 (upd syz (1 : Int32).toNatClampNeg 0) syw)) [9, 10, 15, 17, 18] rfl) (hK.sub (tys' := [(cI, .int)]) [0] rfl) (hD.sub (ws' := (cf_35yzyw cI h3 h3a0 h5 hyz hyw h4 h2 h1 h0 s3 s5 (upd syz (1 : Int32).toNatClampNeg 0) syw)) [9, 10, 15, 17, 18] (by decide) rfl) hN ⟨XH_ok.2.2.2 A s s.heap _ hS.1 hS.2.1 hXH, (XS_ok b L xs).2.2.2 A s s.heap _ hS.1 hS.2.1 hXS⟩ (va_free (wc := (cf_35yzyw cI h3 h3a0 h5 hyz hyw h4 h2 h1 h0 s3 s5 (upd syz (1 : Int32).toNatClampNeg 0) syw)) hD hS hA [9, 10, 15, 17, 18] rfl)) rfl rfl hl.1 rfl (lv_room (Nat.le_of_ble_eq_true rfl)) dL_law_235 ⟨by show (21 + 151 * i + 1) + 18 ≤ 600130; omega, by show (362 + 960 * i + 6) + 108 ≤ 7301079; omega⟩) (fun H locs hP hD hS => ?_)
    refine lv_if_ne (tgt := 243) hx hb dL_law_238 (by decide) (fun c_3 => ?_) (fun c_3 => ?_)
    · have hf := it_f c_3 hf
      refine lv_aload_n hx hb dL_law_243 rfl (lv_at hl 3 rfl) ?_
      refine lv_iconst (v := 2) hx hb dL_law_244 (by decide) ?_
      refine lv_aload_n hx hb dL_law_245 rfl (lv_at hl 2 rfl) ?_
      refine lv_aload_n hx hb dL_law_246 rfl (lv_at hl 3 rfl) ?_
      refine lv_aload hx hb dL_law_247 (lv_at hl 4 rfl) ?_
      refine lv_aload hx hb dL_law_249 (lv_at hl 5 rfl) ?_
      refine lv_aload hx hb dL_law_251 (lv_at hl 6 rfl) ?_
      obtain ⟨r_4, syt_4, syz_4, syu_4, syv_4, hc_4, hf⟩ := bn5_ok hf
      refine gc_h (wc := (cf_ytyzywyuyv cI hyt hyz hyw hyu hyv syt syz_2 syw_2 syu syv)) (wr := (cf_012345 cI h0 h1 h2 h2a2 h2a3 h2a4 h2a5 h2a6 h2a7 h3 h3a0 h4 h4a0 h4a1 h4a2 h5 s0 s1 s2 s3_2 s4 s5)) (w1 := (cf_ytyzywyuyv cI hyt hyz hyw hyu hyv syt_4 syz_4 syw_2 syu_4 syv_4)) (ws' := (cf_012345ytyzywyuyv cI h0 h1 h2 h2a2 h2a3 h2a4 h2a5 h2a6 h2a7 h3 h3a0 h4 h4a0 h4a1 h4a2 h5 hyt hyz hyw hyu hyv s0 s1 s2 s3_2 s4 s5 syt_4 syz_4 syw_2 syu_4 syv_4)) hP hD hS hA [16, 17, 18, 19, 20] [0, 1, 2, 3, 4, 5, 6, 7, 8, 9, 10, 11, 12, 13, 14, 15] [0, 1, 2, 3, 4, 5, 6, 7, 8, 9, 10, 11, 12, 13, 14, 15, 16, 17, 18, 19, 20] rfl rfl (by decide) (by decide) rfl (by decide) (va_runS (As := [.ref hyt, .ref hyz, .ref hyw, .ref hyu, .ref hyv]) (rest := [.int 2, .ref hyz]) ⟨hx, hb, hml, hown, hts⟩ (ktL_said l dC dI cI hyt hyz hyw hyu hyv _ syt syz_2 syw_2 syu syv r_4 syt_4 syz_4 syu_4 syv_4 hc_4) (va_cwS 5 hts gL_law_L_said rfl rfl rfl (by decide +kernel) ⟨Nat.le_of_ble_eq_true rfl, Nat.le_of_ble_eq_true rfl⟩) (gc_S (hP.sub (ws' := (cf_ytyzywyuyv cI hyt hyz hyw hyu hyv syt syz_2 syw_2 syu syv)) [16, 17, 18, 19, 20] rfl) (hK.sub (tys' := [(cI, .int)]) [0] rfl) (hD.sub (ws' := (cf_ytyzywyuyv cI hyt hyz hyw hyu hyv syt syz_2 syw_2 syu syv)) [16, 17, 18, 19, 20] (by decide) rfl) hN) rfl rfl hl.1 rfl (lv_room (Nat.le_of_ble_eq_true rfl)) dL_law_253 ⟨by show (21 + 151 * i + 1 + 18) + 3 ≤ 600130; omega, by show (362 + 960 * i + 6 + 108) + 72 ≤ 7301079; omega⟩) (fun H locs hP hD hS => ?_)
      obtain ⟨hi_5, hf⟩ := ai_ok hf
      refine va_iast (n := 13) (f := syz_4) hx hb hK hP hD hS 17 0 rfl rfl hi_5 dL_law_256 (fun H locs hP hD hS => ?_)
      have hP : va_P (dC, dI) vwCl (cf_012345ytyzywyuyv cI h0 h1 h2 h2a2 h2a3 h2a4 h2a5 h2a6 h2a7 h3 h3a0 h4 h4a0 h4a1 h4a2 h5 hyt hyz hyw hyu hyv s0 s1 s2 s3_2 s4 s5 syt_4 (upd syz_4 (2 : Int32).toNatClampNeg r_4) syw_2 syu_4 syv_4) H := hP
      have hD : va_D A (cf_012345ytyzywyuyv cI h0 h1 h2 h2a2 h2a3 h2a4 h2a5 h2a6 h2a7 h3 h3a0 h4 h4a0 h4a1 h4a2 h5 hyt hyz hyw hyu hyv s0 s1 s2 s3_2 s4 s5 syt_4 (upd syz_4 (2 : Int32).toNatClampNeg r_4) syw_2 syu_4 syv_4) := hD
      refine lv_aload_n hx hb dL_law_257 rfl (lv_at hl 3 rfl) ?_
      refine lv_bipush (v := 11) hx hb dL_law_258 (by decide) ?_
      refine lv_dup2_11 hx hb dL_law_260 rfl rfl ?_
      obtain ⟨hi_6, hf⟩ := ai_ok hf
      refine va_iald (n := 13) (f := (upd syz_4 (2 : Int32).toNatClampNeg r_4)) hx hb hK hP 17 0 rfl rfl hi_6 dL_law_261 ?_
      refine lv_aload_n hx hb dL_law_262 rfl (lv_at hl 3 rfl) ?_
      refine lv_iconst (v := 2) hx hb dL_law_263 (by decide) ?_
      obtain ⟨hi_7, hf⟩ := ai_ok hf
      refine va_iald (n := 13) (f := (upd syz_4 (2 : Int32).toNatClampNeg r_4)) hx hb hK hP 17 0 rfl rfl hi_7 dL_law_264 ?_
      refine lv_iconst (v := 1) hx hb dL_law_265 (by decide) ?_
      refine lv_icmp_ne (tgt := 273) hx hb dL_law_266 (by decide) (fun c_8 => ?_) (fun c_8 => ?_)
      · have hf := it_f c_8 hf
        refine lv_iconst (v := 0) hx hb dL_law_273 (by decide) ?_
        refine W.widen (k := 21 + 151 * i + 22) (n := 362 + 960 * i + 186) (by omega) (by omega) ?_
        exact J274 n i hi k66 hk66 s0 s1 s2 s3_2 s4 s5 syt_4 (upd syz_4 (2 : Int32).toNatClampNeg r_4) syw_2 syu_4 syv_4 x7 11 ((upd syz_4 (2 : Int32).toNatClampNeg r_4) (11 : Int32).toNatClampNeg) 0 _ _ hP hD hS _ (lv_sub hl [0, 1, 2, 3, 4, 5, 6, 7] rfl) hf
      · have hf := it_t c_8 hf
        refine lv_iconst (v := 1) hx hb dL_law_269 (by decide) ?_
        refine lv_goto (tgt := 274) hx hb dL_law_270 (by decide) ?_
        refine W.widen (k := 21 + 151 * i + 22) (n := 362 + 960 * i + 186) (by omega) (by omega) ?_
        exact J274 n i hi k66 hk66 s0 s1 s2 s3_2 s4 s5 syt_4 (upd syz_4 (2 : Int32).toNatClampNeg r_4) syw_2 syu_4 syv_4 x7 11 ((upd syz_4 (2 : Int32).toNatClampNeg r_4) (11 : Int32).toNatClampNeg) 1 _ _ hP hD hS _ (lv_sub hl [0, 1, 2, 3, 4, 5, 6, 7] rfl) hf
    · have hf := it_t c_3 hf
      refine lv_iconst (v := 0) hx hb dL_law_241 (by decide) ?_
      have hf : (some 0 : Option Int32) = some 1 := hf
      exact absurd (Option.some.inj hf) (by decide)
  have J209 : ∀ (n i : Nat) (hi : i + n + 1 = 64) (k66 : S0 → S1 → S2 → S3 → S4 → S5 → Syt → Syz → Syw → Syu → Syv → Int32 → Option Int32) (hk66 : ∀ (s0 : S0) (s1 : S1) (s2 : S2) (s3 : S3) (s4 : S4) (s5 : S5) (syt : Syt) (syz : Syz) (syw : Syw) (syu : Syu) (syv : Syv) (x7 : Int32) (H : Heap) (locs : List Loc), va_P (dC, dI) vwCl (cf_012345ytyzywyuyv cI h0 h1 h2 h2a2 h2a3 h2a4 h2a5 h2a6 h2a7 h3 h3a0 h4 h4a0 h4a1 h4a2 h5 hyt hyz hyw hyu hyv s0 s1 s2 s3 s4 s5 syt syz syw syu syv) H → va_D A (cf_012345ytyzywyuyv cI h0 h1 h2 h2a2 h2a3 h2a4 h2a5 h2a6 h2a7 h3 h3a0 h4 h4a0 h4a1 h4a2 h5 hyt hyz hyw hyu hyv s0 s1 s2 s3 s4 s5 syt syz syw syu syv) → va_S A s.heap H locs → ∀ (ls : Array Slot), lv_has ls 10 [(0, .ref b), (1, .ref h5), (2, .ref hyt), (3, .ref hyz), (4, .ref hyw), (5, .ref hyu), (6, .ref hyv), (7, .int x7)] → k66 s0 s1 s2 s3 s4 s5 syt syz syw syu syv x7 = some 1 → W p l e room_1 s m #[Value.ref b] below meth c H locs (21 + 151 * (i + 1) + 0) (362 + 960 * (i + 1) + 0) (lw_Z below #[Value.ref b] s) (F0 m 66 ls [])) (s0 : S0) (s1 : S1) (s2 : S2) (s3 : S3) (s4 : S4) (s5 : S5) (syt : Syt) (syz : Syz) (syw : Syw) (syu : Syu) (syv : Syv) (x7 : Int32) (x9 : Int32) (t1 : Int32) (t2 : Int32) (t3 : Int32) (H : Heap) (locs : List Loc), va_P (dC, dI) vwCl (cf_012345ytyzywyuyv cI h0 h1 h2 h2a2 h2a3 h2a4 h2a5 h2a6 h2a7 h3 h3a0 h4 h4a0 h4a1 h4a2 h5 hyt hyz hyw hyu hyv s0 s1 s2 s3 s4 s5 syt syz syw syu syv) H → va_D A (cf_012345ytyzywyuyv cI h0 h1 h2 h2a2 h2a3 h2a4 h2a5 h2a6 h2a7 h3 h3a0 h4 h4a0 h4a1 h4a2 h5 hyt hyz hyw hyu hyv s0 s1 s2 s3 s4 s5 syt syz syw syu syv) → va_S A s.heap H locs → ∀ (ls : Array Slot), lv_has ls 10 [(0, .ref b), (1, .ref h5), (2, .ref hyt), (3, .ref hyz), (4, .ref hyw), (5, .ref hyu), (6, .ref hyv), (7, .int x7), (9, .int x9)] → fL_law_209 L xs k66 s0 s1 s2 s3 s4 s5 syt syz syw syu syv x7 x9 t1 t2 t3 = some 1 → W p l e room_1 s m #[Value.ref b] below meth c H locs (21 + 151 * i + 0) (362 + 960 * i + 0) (lw_Z below #[Value.ref b] s) (F0 m 209 ls [.int t3, .int t2, .int t1, .ref h5]) := by
    intro n i hi k66 hk66 s0 s1 s2 s3 s4 s5 syt syz syw syu syv x7 x9 t1 t2 t3 H locs hP hD hS ls hl hf
    unfold fL_law_209 at hf
    obtain ⟨k_1, r_1, s4_1, hc_1, hf⟩ := bn3_ok hf
    obtain ⟨hk_1, hf⟩ := nk_ok hf
    have hFc := va_free (wc := (cf_45 cI h4 h4a0 h4a1 h4a2 h5 h3 h2 h1 h0 s4 s5)) hD hS hA [11, 12, 13, 14, 15] rfl
    refine vx_calli (vx_runV (As := [.int t1, .int t2, .int t3]) (rest := []) ⟨hx, hb, hml, hown, hts⟩ (ktX5_thing l hst dC dI cI h4 h4a0 h4a1 h4a2 h5 h3 h2 h1 h0 _ s4 s5 t1 t2 t3 k_1 r_1 s4_1 hc_1) (cwV 3 hts gL_law_X5_thing rfl rfl rfl (by decide +kernel) ⟨Nat.le_of_ble_eq_true rfl, Nat.le_of_ble_eq_true rfl⟩) (gx_V (ws := (cf_012345ytyzywyuyv cI h0 h1 h2 h2a2 h2a3 h2a4 h2a5 h2a6 h2a7 h3 h3a0 h4 h4a0 h4a1 h4a2 h5 hyt hyz hyw hyu hyv s0 s1 s2 s3 s4 s5 syt syz syw syu syv)) (locs := locs) (H0 := s.heap) (ci := 5) (q0 := 4) (C := RX5) (T := TX5) (N := 10) (hP.sub (ws' := (cf_45 cI h4 h4a0 h4a1 h4a2 h5 h3 h2 h1 h0 s4 s5)) [11, 12, 13, 14, 15] rfl) (hK.sub (tys' := [(cI, .int)]) [0] rfl) (hD.sub (ws' := (cf_45 cI h4 h4a0 h4a1 h4a2 h5 h3 h2 h1 h0 s4 s5)) [11, 12, 13, 14, 15] (by decide) rfl) hN hXH.1 hXH.2.1 (zq.kept hXH.2.2.1 (fun q h1 h2 => hS.2.1 q h1 h2)) (va_free (wc := (cf_45 cI h4 h4a0 h4a1 h4a2 h5 h3 h2 h1 h0 s4 s5)) hD hS hA [11, 12, 13, 14, 15] rfl) rfl rfl) rfl rfl hl.1 rfl (lv_room (Nat.le_of_ble_eq_true rfl)) dL_law_209 ⟨by show (21 + 151 * i + 0) + 1 ≤ 600130; omega, by show (362 + 960 * i + 0) + 6 ≤ 7301079; omega⟩) hS (fun q _ h => hFc q h) hFc (fun q _ h => hFc q h) (fun E ce q9 u t H1 locs1 ht hvm hpx hB hz hk9 hS1 => ?_) (fun r9 u t H locs ht hvm hw hB hz hk9 hS => ?_)
    · intro _ _ _
      obtain ⟨hxe, -⟩ := hB
      rcases hxe with ⟨-, h9⟩ | ⟨-, h9⟩ <;> rw [hk_1] at h9 <;> exact absurd h9 (by decide)
    obtain ⟨-, hw⟩ := hw
    obtain ⟨hP1, -, hD1⟩ := hB
    rw [ht] at hP1
    obtain ⟨hP2, hD2⟩ := va_join (wr := (cf_0123ytyzywyuyv cI h0 h1 h2 h2a2 h2a3 h2a4 h2a5 h2a6 h2a7 h3 h3a0 hyt hyz hyw hyu hyv h4 s0 s1 s2 s3 syt syz syw syu syv)) (w1 := (cf_45 cI h4 h4a0 h4a1 h4a2 h5 h3 h2 h1 h0 s4_1 s5)) hP hD [11, 12, 13, 14, 15] [0, 1, 2, 3, 4, 5, 6, 7, 8, 9, 10, 16, 17, 18, 19, 20] rfl rfl (by decide) (by decide) hk9 hFc hP1 hD1
    have hP : va_P (dC, dI) vwCl (cf_012345ytyzywyuyv cI h0 h1 h2 h2a2 h2a3 h2a4 h2a5 h2a6 h2a7 h3 h3a0 h4 h4a0 h4a1 h4a2 h5 hyt hyz hyw hyu hyv s0 s1 s2 s3 s4_1 s5 syt syz syw syu syv) H := hP2.sub [0, 1, 2, 3, 4, 5, 6, 7, 8, 9, 10, 16, 17, 18, 19, 20, 11, 12, 13, 14, 15] rfl
    have hD : va_D A (cf_012345ytyzywyuyv cI h0 h1 h2 h2a2 h2a3 h2a4 h2a5 h2a6 h2a7 h3 h3a0 h4 h4a0 h4a1 h4a2 h5 hyt hyz hyw hyu hyv s0 s1 s2 s3 s4_1 s5 syt syz syw syu syv) := hD2.sub [0, 1, 2, 3, 4, 5, 6, 7, 8, 9, 10, 16, 17, 18, 19, 20, 11, 12, 13, 14, 15] (by decide) rfl
    rw [hw]
    refine lv_iload hx hb dL_law_212 (lv_at hl 8 rfl) ?_
    refine lv_icmp_eq (tgt := 219) hx hb dL_law_214 (by decide) (fun c_2 => ?_) (fun c_2 => ?_)
    · have hf := it_t c_2 hf
      refine W.widen (k := 21 + 151 * i + 1) (n := 362 + 960 * i + 6) (by omega) (by omega) ?_
      exact J219 n i hi k66 hk66 s0 s1 s2 s3 s4_1 s5 syt syz syw syu syv x7 _ _ hP hD hS _ (lv_sub hl [0, 1, 2, 3, 4, 5, 6, 7] rfl) hf
    · have hf := it_f c_2 hf
      refine lv_iconst (v := 0) hx hb dL_law_217 (by decide) ?_
      have hf : (some 0 : Option Int32) = some 1 := hf
      exact absurd (Option.some.inj hf) (by decide)
  have J164 : ∀ (n i : Nat) (hi : i + n + 1 = 64) (k66 : S0 → S1 → S2 → S3 → S4 → S5 → Syt → Syz → Syw → Syu → Syv → Int32 → Option Int32) (hk66 : ∀ (s0 : S0) (s1 : S1) (s2 : S2) (s3 : S3) (s4 : S4) (s5 : S5) (syt : Syt) (syz : Syz) (syw : Syw) (syu : Syu) (syv : Syv) (x7 : Int32) (H : Heap) (locs : List Loc), va_P (dC, dI) vwCl (cf_012345ytyzywyuyv cI h0 h1 h2 h2a2 h2a3 h2a4 h2a5 h2a6 h2a7 h3 h3a0 h4 h4a0 h4a1 h4a2 h5 hyt hyz hyw hyu hyv s0 s1 s2 s3 s4 s5 syt syz syw syu syv) H → va_D A (cf_012345ytyzywyuyv cI h0 h1 h2 h2a2 h2a3 h2a4 h2a5 h2a6 h2a7 h3 h3a0 h4 h4a0 h4a1 h4a2 h5 hyt hyz hyw hyu hyv s0 s1 s2 s3 s4 s5 syt syz syw syu syv) → va_S A s.heap H locs → ∀ (ls : Array Slot), lv_has ls 10 [(0, .ref b), (1, .ref h5), (2, .ref hyt), (3, .ref hyz), (4, .ref hyw), (5, .ref hyu), (6, .ref hyv), (7, .int x7)] → k66 s0 s1 s2 s3 s4 s5 syt syz syw syu syv x7 = some 1 → W p l e room_1 s m #[Value.ref b] below meth c H locs (21 + 151 * (i + 1) + 0) (362 + 960 * (i + 1) + 0) (lw_Z below #[Value.ref b] s) (F0 m 66 ls [])) (s0 : S0) (s1 : S1) (s2 : S2) (s3 : S3) (s4 : S4) (s5 : S5) (syt : Syt) (syz : Syz) (syw : Syw) (syu : Syu) (syv : Syv) (x7 : Int32) (x9 : Int32) (t1 : Int32) (t2 : Int32) (H : Heap) (locs : List Loc), va_P (dC, dI) vwCl (cf_012345ytyzywyuyv cI h0 h1 h2 h2a2 h2a3 h2a4 h2a5 h2a6 h2a7 h3 h3a0 h4 h4a0 h4a1 h4a2 h5 hyt hyz hyw hyu hyv s0 s1 s2 s3 s4 s5 syt syz syw syu syv) H → va_D A (cf_012345ytyzywyuyv cI h0 h1 h2 h2a2 h2a3 h2a4 h2a5 h2a6 h2a7 h3 h3a0 h4 h4a0 h4a1 h4a2 h5 hyt hyz hyw hyu hyv s0 s1 s2 s3 s4 s5 syt syz syw syu syv) → va_S A s.heap H locs → ∀ (ls : Array Slot), lv_has ls 10 [(0, .ref b), (1, .ref h5), (2, .ref hyt), (3, .ref hyz), (4, .ref hyw), (5, .ref hyu), (6, .ref hyv), (7, .int x7), (9, .int x9)] → fL_law_164 L xs k66 s0 s1 s2 s3 s4 s5 syt syz syw syu syv x7 x9 t1 t2 = some 1 → W p l e room_1 s m #[Value.ref b] below meth c H locs (21 + 151 * i + 0) (362 + 960 * i + 0) (lw_Z below #[Value.ref b] s) (F0 m 164 ls [.int t2, .int t1, .ref hyt]) := by
    intro n i hi k66 hk66 s0 s1 s2 s3 s4 s5 syt syz syw syu syv x7 x9 t1 t2 H locs hP hD hS ls hl hf
    unfold fL_law_164 at hf
    obtain ⟨hi_1, hf⟩ := ai_ok hf
    refine va_iast (n := 30) (f := syt) hx hb hK hP hD hS 16 0 rfl rfl hi_1 dL_law_164 (fun H locs hP hD hS => ?_)
    have hP : va_P (dC, dI) vwCl (cf_012345ytyzywyuyv cI h0 h1 h2 h2a2 h2a3 h2a4 h2a5 h2a6 h2a7 h3 h3a0 h4 h4a0 h4a1 h4a2 h5 hyt hyz hyw hyu hyv s0 s1 s2 s3 s4 s5 (upd syt t1.toNatClampNeg t2) syz syw syu syv) H := hP
    have hD : va_D A (cf_012345ytyzywyuyv cI h0 h1 h2 h2a2 h2a3 h2a4 h2a5 h2a6 h2a7 h3 h3a0 h4 h4a0 h4a1 h4a2 h5 hyt hyz hyw hyu hyv s0 s1 s2 s3 s4 s5 (upd syt t1.toNatClampNeg t2) syz syw syu syv) := hD
    refine lv_aload_n hx hb dL_law_165 rfl (lv_at hl 2 rfl) ?_
    refine lv_bipush (v := 24) hx hb dL_law_166 (by decide) ?_
    refine lv_iload hx hb dL_law_168 (lv_at hl 8 rfl) ?_
    refine lv_iadd hx hb dL_law_170 ?_
    refine lv_bipush (v := (-2)) hx hb dL_law_171 (by decide) ?_
    obtain ⟨hi_2, hf⟩ := ai_ok hf
    refine va_iast (n := 30) (f := (upd syt t1.toNatClampNeg t2)) hx hb hK hP hD hS 16 0 rfl rfl hi_2 dL_law_173 (fun H locs hP hD hS => ?_)
    have hP : va_P (dC, dI) vwCl (cf_012345ytyzywyuyv cI h0 h1 h2 h2a2 h2a3 h2a4 h2a5 h2a6 h2a7 h3 h3a0 h4 h4a0 h4a1 h4a2 h5 hyt hyz hyw hyu hyv s0 s1 s2 s3 s4 s5 (upd (upd syt t1.toNatClampNeg t2) (24 + x9).toNatClampNeg (-2)) syz syw syu syv) H := hP
    have hD : va_D A (cf_012345ytyzywyuyv cI h0 h1 h2 h2a2 h2a3 h2a4 h2a5 h2a6 h2a7 h3 h3a0 h4 h4a0 h4a1 h4a2 h5 hyt hyz hyw hyu hyv s0 s1 s2 s3 s4 s5 (upd (upd syt t1.toNatClampNeg t2) (24 + x9).toNatClampNeg (-2)) syz syw syu syv) := hD
    refine lv_aload_n hx hb dL_law_174 rfl (lv_at hl 3 rfl) ?_
    refine lv_iconst (v := 0) hx hb dL_law_175 (by decide) ?_
    refine lv_dup2_11 hx hb dL_law_176 rfl rfl ?_
    obtain ⟨hi_3, hf⟩ := ai_ok hf
    refine va_iald (n := 13) (f := syz) hx hb hK hP 17 0 rfl rfl hi_3 dL_law_177 ?_
    refine lv_iconst (v := 1) hx hb dL_law_178 (by decide) ?_
    refine lv_iadd hx hb dL_law_179 ?_
    obtain ⟨hi_4, hf⟩ := ai_ok hf
    refine va_iast (n := 13) (f := syz) hx hb hK hP hD hS 17 0 rfl rfl hi_4 dL_law_180 (fun H locs hP hD hS => ?_)
    have hP : va_P (dC, dI) vwCl (cf_012345ytyzywyuyv cI h0 h1 h2 h2a2 h2a3 h2a4 h2a5 h2a6 h2a7 h3 h3a0 h4 h4a0 h4a1 h4a2 h5 hyt hyz hyw hyu hyv s0 s1 s2 s3 s4 s5 (upd (upd syt t1.toNatClampNeg t2) (24 + x9).toNatClampNeg (-2)) (upd syz (0 : Int32).toNatClampNeg ((syz (0 : Int32).toNatClampNeg) + 1)) syw syu syv) H := hP
    have hD : va_D A (cf_012345ytyzywyuyv cI h0 h1 h2 h2a2 h2a3 h2a4 h2a5 h2a6 h2a7 h3 h3a0 h4 h4a0 h4a1 h4a2 h5 hyt hyz hyw hyu hyv s0 s1 s2 s3 s4 s5 (upd (upd syt t1.toNatClampNeg t2) (24 + x9).toNatClampNeg (-2)) (upd syz (0 : Int32).toNatClampNeg ((syz (0 : Int32).toNatClampNeg) + 1)) syw syu syv) := hD
    refine lv_aload_n hx hb dL_law_181 rfl (lv_at hl 1 rfl) ?_
    refine lv_aload_n hx hb dL_law_182 rfl (lv_at hl 2 rfl) ?_
    refine lv_iload hx hb dL_law_183 (lv_at hl 8 rfl) ?_
    obtain ⟨hi_5, hf⟩ := ai_ok hf
    refine va_iald (n := 30) (f := (upd (upd syt t1.toNatClampNeg t2) (24 + x9).toNatClampNeg (-2))) hx hb hK hP 16 0 rfl rfl hi_5 dL_law_185 ?_
    refine lv_aload_n hx hb dL_law_186 rfl (lv_at hl 2 rfl) ?_
    refine lv_bipush (v := 6) hx hb dL_law_187 (by decide) ?_
    refine lv_iload hx hb dL_law_189 (lv_at hl 8 rfl) ?_
    refine lv_iadd hx hb dL_law_191 ?_
    obtain ⟨hi_6, hf⟩ := ai_ok hf
    refine va_iald (n := 30) (f := (upd (upd syt t1.toNatClampNeg t2) (24 + x9).toNatClampNeg (-2))) hx hb hK hP 16 0 rfl rfl hi_6 dL_law_192 ?_
    refine lv_aload_n hx hb dL_law_193 rfl (lv_at hl 2 rfl) ?_
    refine lv_bipush (v := 12) hx hb dL_law_194 (by decide) ?_
    refine lv_iload hx hb dL_law_196 (lv_at hl 8 rfl) ?_
    refine lv_iadd hx hb dL_law_198 ?_
    obtain ⟨hi_7, hf⟩ := ai_ok hf
    refine va_iald (n := 30) (f := (upd (upd syt t1.toNatClampNeg t2) (24 + x9).toNatClampNeg (-2))) hx hb hK hP 16 0 rfl rfl hi_7 dL_law_199 ?_
    refine lv_iconst (v := 1) hx hb dL_law_200 (by decide) ?_
    refine lv_icmp_ne (tgt := 208) hx hb dL_law_201 (by decide) (fun c_8 => ?_) (fun c_8 => ?_)
    · have hf := it_f c_8 hf
      refine lv_iconst (v := 0) hx hb dL_law_208 (by decide) ?_
      exact J209 n i hi k66 hk66 s0 s1 s2 s3 s4 s5 (upd (upd syt t1.toNatClampNeg t2) (24 + x9).toNatClampNeg (-2)) (upd syz (0 : Int32).toNatClampNeg ((syz (0 : Int32).toNatClampNeg) + 1)) syw syu syv x7 x9 ((upd (upd syt t1.toNatClampNeg t2) (24 + x9).toNatClampNeg (-2)) x9.toNatClampNeg) ((upd (upd syt t1.toNatClampNeg t2) (24 + x9).toNatClampNeg (-2)) (6 + x9).toNatClampNeg) 0 _ _ hP hD hS _ (lv_sub hl [0, 1, 2, 3, 4, 5, 6, 7, 8] rfl) hf
    · have hf := it_t c_8 hf
      refine lv_iconst (v := 1) hx hb dL_law_204 (by decide) ?_
      refine lv_goto (tgt := 209) hx hb dL_law_205 (by decide) ?_
      exact J209 n i hi k66 hk66 s0 s1 s2 s3 s4 s5 (upd (upd syt t1.toNatClampNeg t2) (24 + x9).toNatClampNeg (-2)) (upd syz (0 : Int32).toNatClampNeg ((syz (0 : Int32).toNatClampNeg) + 1)) syw syu syv x7 x9 ((upd (upd syt t1.toNatClampNeg t2) (24 + x9).toNatClampNeg (-2)) x9.toNatClampNeg) ((upd (upd syt t1.toNatClampNeg t2) (24 + x9).toNatClampNeg (-2)) (6 + x9).toNatClampNeg) 1 _ _ hP hD hS _ (lv_sub hl [0, 1, 2, 3, 4, 5, 6, 7, 8] rfl) hf
  have J108 : ∀ (n i : Nat) (hi : i + n + 1 = 64) (k66 : S0 → S1 → S2 → S3 → S4 → S5 → Syt → Syz → Syw → Syu → Syv → Int32 → Option Int32) (hk66 : ∀ (s0 : S0) (s1 : S1) (s2 : S2) (s3 : S3) (s4 : S4) (s5 : S5) (syt : Syt) (syz : Syz) (syw : Syw) (syu : Syu) (syv : Syv) (x7 : Int32) (H : Heap) (locs : List Loc), va_P (dC, dI) vwCl (cf_012345ytyzywyuyv cI h0 h1 h2 h2a2 h2a3 h2a4 h2a5 h2a6 h2a7 h3 h3a0 h4 h4a0 h4a1 h4a2 h5 hyt hyz hyw hyu hyv s0 s1 s2 s3 s4 s5 syt syz syw syu syv) H → va_D A (cf_012345ytyzywyuyv cI h0 h1 h2 h2a2 h2a3 h2a4 h2a5 h2a6 h2a7 h3 h3a0 h4 h4a0 h4a1 h4a2 h5 hyt hyz hyw hyu hyv s0 s1 s2 s3 s4 s5 syt syz syw syu syv) → va_S A s.heap H locs → ∀ (ls : Array Slot), lv_has ls 10 [(0, .ref b), (1, .ref h5), (2, .ref hyt), (3, .ref hyz), (4, .ref hyw), (5, .ref hyu), (6, .ref hyv), (7, .int x7)] → k66 s0 s1 s2 s3 s4 s5 syt syz syw syu syv x7 = some 1 → W p l e room_1 s m #[Value.ref b] below meth c H locs (21 + 151 * (i + 1) + 0) (362 + 960 * (i + 1) + 0) (lw_Z below #[Value.ref b] s) (F0 m 66 ls [])) (s0 : S0) (s1 : S1) (s2 : S2) (s3 : S3) (s4 : S4) (s5 : S5) (syt : Syt) (syz : Syz) (syw : Syw) (syu : Syu) (syv : Syv) (x7 : Int32) (x8 : Int32) (H : Heap) (locs : List Loc), va_P (dC, dI) vwCl (cf_012345ytyzywyuyv cI h0 h1 h2 h2a2 h2a3 h2a4 h2a5 h2a6 h2a7 h3 h3a0 h4 h4a0 h4a1 h4a2 h5 hyt hyz hyw hyu hyv s0 s1 s2 s3 s4 s5 syt syz syw syu syv) H → va_D A (cf_012345ytyzywyuyv cI h0 h1 h2 h2a2 h2a3 h2a4 h2a5 h2a6 h2a7 h3 h3a0 h4 h4a0 h4a1 h4a2 h5 hyt hyz hyw hyu hyv s0 s1 s2 s3 s4 s5 syt syz syw syu syv) → va_S A s.heap H locs → ∀ (ls : Array Slot), lv_has ls 10 [(0, .ref b), (1, .ref h5), (2, .ref hyt), (3, .ref hyz), (4, .ref hyw), (5, .ref hyu), (6, .ref hyv), (7, .int x7), (8, .int x8)] → fL_law_108 L xs k66 s0 s1 s2 s3 s4 s5 syt syz syw syu syv x7 x8 = some 1 → W p l e room_1 s m #[Value.ref b] below meth c H locs (21 + 151 * i + 0) (362 + 960 * i + 0) (lw_Z below #[Value.ref b] s) (F0 m 108 ls []) := by
    intro n i hi k66 hk66 s0 s1 s2 s3 s4 s5 syt syz syw syu syv x7 x8 H locs hP hD hS ls hl hf
    unfold fL_law_108 at hf
    refine lv_aload_n hx hb dL_law_108 rfl (lv_at hl 3 rfl) ?_
    refine lv_iconst (v := 0) hx hb dL_law_109 (by decide) ?_
    obtain ⟨hi_1, hf⟩ := ai_ok hf
    refine va_iald (n := 13) (f := syz) hx hb hK hP 17 0 rfl rfl hi_1 dL_law_110 ?_
    refine lv_istore (lv' := [(9, .int (syz (0 : Int32).toNatClampNeg)), (0, .ref b), (1, .ref h5), (2, .ref hyt), (3, .ref hyz), (4, .ref hyw), (5, .ref hyu), (6, .ref hyv), (7, .int x7), (8, .int x8)]) hx hb dL_law_111 hl (by decide) rfl (fun ls hl => ?_)
    refine lv_aload_n hx hb dL_law_113 rfl (lv_at hl 3 rfl) ?_
    refine lv_iload hx hb dL_law_114 (lv_at hl 0 rfl) ?_
    refine lv_iload hx hb dL_law_116 (lv_at hl 9 rfl) ?_
    refine lv_iconst (v := 4) hx hb dL_law_118 (by decide) ?_
    refine lv_ishr hx hb dL_law_119 ?_
    refine lv_iconst (v := 2) hx hb dL_law_120 (by decide) ?_
    obtain ⟨r_2, hc_2, hf⟩ := bn1_ok hf
    refine gc_i (wc := ([] : va_W)) (wr := (cf_012345ytyzywyuyv cI h0 h1 h2 h2a2 h2a3 h2a4 h2a5 h2a6 h2a7 h3 h3a0 h4 h4a0 h4a1 h4a2 h5 hyt hyz hyw hyu hyv s0 s1 s2 s3 s4 s5 syt syz syw syu syv)) (w1 := ([] : va_W)) (ws' := (cf_012345ytyzywyuyv cI h0 h1 h2 h2a2 h2a3 h2a4 h2a5 h2a6 h2a7 h3 h3a0 h4 h4a0 h4a1 h4a2 h5 hyt hyz hyw hyu hyv s0 s1 s2 s3 s4 s5 syt syz syw syu syv)) hP hD hS hA [] [0, 1, 2, 3, 4, 5, 6, 7, 8, 9, 10, 11, 12, 13, 14, 15, 16, 17, 18, 19, 20] [0, 1, 2, 3, 4, 5, 6, 7, 8, 9, 10, 11, 12, 13, 14, 15, 16, 17, 18, 19, 20] rfl rfl (by decide) (by decide) rfl (by decide) (va_runS (As := [.int (x8 >>> (4 &&& 31)), .int 2]) (rest := [.int (syz (0 : Int32).toNatClampNeg), .ref hyt]) ⟨hx, hb, hml, hown, hts⟩ (ktL_some l dC dI _ (x8 >>> (4 &&& 31)) 2 r_2 hc_2) (va_cwS 2 hts gL_law_L_some rfl rfl rfl (by decide +kernel) ⟨Nat.le_of_ble_eq_true rfl, Nat.le_of_ble_eq_true rfl⟩) (gc_S (hP.sub (ws' := ([] : va_W)) [] rfl) (hK.sub (tys' := []) [] rfl) (hD.sub (ws' := ([] : va_W)) [] (by decide) rfl) hN) rfl rfl hl.1 rfl (lv_room (Nat.le_of_ble_eq_true rfl)) dL_law_121 ⟨by show (21 + 151 * i + 0) + 0 ≤ 600130; omega, by show (362 + 960 * i + 0) + 0 ≤ 7301079; omega⟩) (fun H locs hP hD hS => ?_)
    obtain ⟨hi_3, hf⟩ := ai_ok hf
    refine va_iast (n := 30) (f := syt) hx hb hK hP hD hS 16 0 rfl rfl hi_3 dL_law_124 (fun H locs hP hD hS => ?_)
    have hP : va_P (dC, dI) vwCl (cf_012345ytyzywyuyv cI h0 h1 h2 h2a2 h2a3 h2a4 h2a5 h2a6 h2a7 h3 h3a0 h4 h4a0 h4a1 h4a2 h5 hyt hyz hyw hyu hyv s0 s1 s2 s3 s4 s5 (upd syt (syz (0 : Int32).toNatClampNeg).toNatClampNeg r_2) syz syw syu syv) H := hP
    have hD : va_D A (cf_012345ytyzywyuyv cI h0 h1 h2 h2a2 h2a3 h2a4 h2a5 h2a6 h2a7 h3 h3a0 h4 h4a0 h4a1 h4a2 h5 hyt hyz hyw hyu hyv s0 s1 s2 s3 s4 s5 (upd syt (syz (0 : Int32).toNatClampNeg).toNatClampNeg r_2) syz syw syu syv) := hD
    refine lv_aload_n hx hb dL_law_125 rfl (lv_at hl 3 rfl) ?_
    refine lv_bipush (v := 6) hx hb dL_law_126 (by decide) ?_
    refine lv_iload hx hb dL_law_128 (lv_at hl 0 rfl) ?_
    refine lv_iadd hx hb dL_law_130 ?_
    refine lv_iload hx hb dL_law_131 (lv_at hl 9 rfl) ?_
    refine lv_bipush (v := 6) hx hb dL_law_133 (by decide) ?_
    refine lv_ishr hx hb dL_law_135 ?_
    refine lv_iconst (v := 4) hx hb dL_law_136 (by decide) ?_
    obtain ⟨r_4, hc_4, hf⟩ := bn1_ok hf
    refine gc_i (wc := ([] : va_W)) (wr := (cf_012345ytyzywyuyv cI h0 h1 h2 h2a2 h2a3 h2a4 h2a5 h2a6 h2a7 h3 h3a0 h4 h4a0 h4a1 h4a2 h5 hyt hyz hyw hyu hyv s0 s1 s2 s3 s4 s5 (upd syt (syz (0 : Int32).toNatClampNeg).toNatClampNeg r_2) syz syw syu syv)) (w1 := ([] : va_W)) (ws' := (cf_012345ytyzywyuyv cI h0 h1 h2 h2a2 h2a3 h2a4 h2a5 h2a6 h2a7 h3 h3a0 h4 h4a0 h4a1 h4a2 h5 hyt hyz hyw hyu hyv s0 s1 s2 s3 s4 s5 (upd syt (syz (0 : Int32).toNatClampNeg).toNatClampNeg r_2) syz syw syu syv)) hP hD hS hA [] [0, 1, 2, 3, 4, 5, 6, 7, 8, 9, 10, 11, 12, 13, 14, 15, 16, 17, 18, 19, 20] [0, 1, 2, 3, 4, 5, 6, 7, 8, 9, 10, 11, 12, 13, 14, 15, 16, 17, 18, 19, 20] rfl rfl (by decide) (by decide) rfl (by decide) (va_runS (As := [.int (x8 >>> (6 &&& 31)), .int 4]) (rest := [.int (6 + (syz (0 : Int32).toNatClampNeg)), .ref hyt]) ⟨hx, hb, hml, hown, hts⟩ (ktL_some l dC dI _ (x8 >>> (6 &&& 31)) 4 r_4 hc_4) (va_cwS 2 hts gL_law_L_some rfl rfl rfl (by decide +kernel) ⟨Nat.le_of_ble_eq_true rfl, Nat.le_of_ble_eq_true rfl⟩) (gc_S (hP.sub (ws' := ([] : va_W)) [] rfl) (hK.sub (tys' := []) [] rfl) (hD.sub (ws' := ([] : va_W)) [] (by decide) rfl) hN) rfl rfl hl.1 rfl (lv_room (Nat.le_of_ble_eq_true rfl)) dL_law_137 ⟨by show (21 + 151 * i + 0) + 0 ≤ 600130; omega, by show (362 + 960 * i + 0) + 0 ≤ 7301079; omega⟩) (fun H locs hP hD hS => ?_)
    obtain ⟨hi_5, hf⟩ := ai_ok hf
    refine va_iast (n := 30) (f := (upd syt (syz (0 : Int32).toNatClampNeg).toNatClampNeg r_2)) hx hb hK hP hD hS 16 0 rfl rfl hi_5 dL_law_140 (fun H locs hP hD hS => ?_)
    obtain ⟨y_6, ey_6⟩ : ∃ y, y = (upd (upd syt (syz (0 : Int32).toNatClampNeg).toNatClampNeg r_2) (6 + (syz (0 : Int32).toNatClampNeg)).toNatClampNeg r_4) := ⟨_, rfl⟩
    have hf := bl_ok ey_6 hf
    have hP : va_P (dC, dI) vwCl (cf_012345ytyzywyuyv cI h0 h1 h2 h2a2 h2a3 h2a4 h2a5 h2a6 h2a7 h3 h3a0 h4 h4a0 h4a1 h4a2 h5 hyt hyz hyw hyu hyv s0 s1 s2 s3 s4 s5 (upd (upd syt (syz (0 : Int32).toNatClampNeg).toNatClampNeg r_2) (6 + (syz (0 : Int32).toNatClampNeg)).toNatClampNeg r_4) syz syw syu syv) H := hP
    have hD : va_D A (cf_012345ytyzywyuyv cI h0 h1 h2 h2a2 h2a3 h2a4 h2a5 h2a6 h2a7 h3 h3a0 h4 h4a0 h4a1 h4a2 h5 hyt hyz hyw hyu hyv s0 s1 s2 s3 s4 s5 (upd (upd syt (syz (0 : Int32).toNatClampNeg).toNatClampNeg r_2) (6 + (syz (0 : Int32).toNatClampNeg)).toNatClampNeg r_4) syz syw syu syv) := hD
    rw [← ey_6] at hP hD
    clear ey_6
    refine lv_aload_n hx hb dL_law_141 rfl (lv_at hl 3 rfl) ?_
    refine lv_bipush (v := 12) hx hb dL_law_142 (by decide) ?_
    refine lv_iload hx hb dL_law_144 (lv_at hl 0 rfl) ?_
    refine lv_iadd hx hb dL_law_146 ?_
    refine lv_iload hx hb dL_law_147 (lv_at hl 9 rfl) ?_
    refine lv_bipush (v := 9) hx hb dL_law_149 (by decide) ?_
    refine lv_ishr hx hb dL_law_151 ?_
    refine lv_iconst (v := 3) hx hb dL_law_152 (by decide) ?_
    obtain ⟨r_7, hc_7, hf⟩ := bn1_ok hf
    refine gc_i (wc := ([] : va_W)) (wr := (cf_012345ytyzywyuyv cI h0 h1 h2 h2a2 h2a3 h2a4 h2a5 h2a6 h2a7 h3 h3a0 h4 h4a0 h4a1 h4a2 h5 hyt hyz hyw hyu hyv s0 s1 s2 s3 s4 s5 y_6 syz syw syu syv)) (w1 := ([] : va_W)) (ws' := (cf_012345ytyzywyuyv cI h0 h1 h2 h2a2 h2a3 h2a4 h2a5 h2a6 h2a7 h3 h3a0 h4 h4a0 h4a1 h4a2 h5 hyt hyz hyw hyu hyv s0 s1 s2 s3 s4 s5 y_6 syz syw syu syv)) hP hD hS hA [] [0, 1, 2, 3, 4, 5, 6, 7, 8, 9, 10, 11, 12, 13, 14, 15, 16, 17, 18, 19, 20] [0, 1, 2, 3, 4, 5, 6, 7, 8, 9, 10, 11, 12, 13, 14, 15, 16, 17, 18, 19, 20] rfl rfl (by decide) (by decide) rfl (by decide) (va_runS (As := [.int (x8 >>> (9 &&& 31)), .int 3]) (rest := [.int (12 + (syz (0 : Int32).toNatClampNeg)), .ref hyt]) ⟨hx, hb, hml, hown, hts⟩ (ktL_some l dC dI _ (x8 >>> (9 &&& 31)) 3 r_7 hc_7) (va_cwS 2 hts gL_law_L_some rfl rfl rfl (by decide +kernel) ⟨Nat.le_of_ble_eq_true rfl, Nat.le_of_ble_eq_true rfl⟩) (gc_S (hP.sub (ws' := ([] : va_W)) [] rfl) (hK.sub (tys' := []) [] rfl) (hD.sub (ws' := ([] : va_W)) [] (by decide) rfl) hN) rfl rfl hl.1 rfl (lv_room (Nat.le_of_ble_eq_true rfl)) dL_law_153 ⟨by show (21 + 151 * i + 0) + 0 ≤ 600130; omega, by show (362 + 960 * i + 0) + 0 ≤ 7301079; omega⟩) (fun H locs hP hD hS => ?_)
    refine lv_if_le (tgt := 163) hx hb dL_law_156 (by decide) (fun c_8 => ?_) (fun c_8 => ?_)
    · have hf := it_t c_8 hf
      refine lv_iconst (v := 0) hx hb dL_law_163 (by decide) ?_
      exact J164 n i hi k66 hk66 s0 s1 s2 s3 s4 s5 y_6 syz syw syu syv x7 (syz (0 : Int32).toNatClampNeg) (12 + (syz (0 : Int32).toNatClampNeg)) 0 _ _ hP hD hS _ (lv_sub hl [1, 2, 3, 4, 5, 6, 7, 8, 0] rfl) hf
    · have hf := it_f c_8 hf
      refine lv_iconst (v := 1) hx hb dL_law_159 (by decide) ?_
      refine lv_goto (tgt := 164) hx hb dL_law_160 (by decide) ?_
      exact J164 n i hi k66 hk66 s0 s1 s2 s3 s4 s5 y_6 syz syw syu syv x7 (syz (0 : Int32).toNatClampNeg) (12 + (syz (0 : Int32).toNatClampNeg)) 1 _ _ hP hD hS _ (lv_sub hl [1, 2, 3, 4, 5, 6, 7, 8, 0] rfl) hf
  have J66 : ∀ (n i : Nat), i + n = 64 → ∀ (s0 : S0) (s1 : S1) (s2 : S2) (s3 : S3) (s4 : S4) (s5 : S5) (syt : Syt) (syz : Syz) (syw : Syw) (syu : Syu) (syv : Syv) (x7 : Int32) (H : Heap) (locs : List Loc), va_P (dC, dI) vwCl (cf_012345ytyzywyuyv cI h0 h1 h2 h2a2 h2a3 h2a4 h2a5 h2a6 h2a7 h3 h3a0 h4 h4a0 h4a1 h4a2 h5 hyt hyz hyw hyu hyv s0 s1 s2 s3 s4 s5 syt syz syw syu syv) H → va_D A (cf_012345ytyzywyuyv cI h0 h1 h2 h2a2 h2a3 h2a4 h2a5 h2a6 h2a7 h3 h3a0 h4 h4a0 h4a1 h4a2 h5 hyt hyz hyw hyu hyv s0 s1 s2 s3 s4 s5 syt syz syw syu syv) → va_S A s.heap H locs → ∀ (ls : Array Slot), lv_has ls 10 [(0, .ref b), (1, .ref h5), (2, .ref hyt), (3, .ref hyz), (4, .ref hyw), (5, .ref hyu), (6, .ref hyv), (7, .int x7)] → fL_law_66 L xs n s0 s1 s2 s3 s4 s5 syt syz syw syu syv x7 = some 1 → W p l e room_1 s m #[Value.ref b] below meth c H locs (21 + 151 * i + 0) (362 + 960 * i + 0) (lw_Z below #[Value.ref b] s) (F0 m 66 ls []) := by
    intro n
    induction n with
    | zero =>
      intro i hi s0 s1 s2 s3 s4 s5 syt syz syw syu syv x7 H locs hP hD hS ls hl hf
      cases hf
    | succ n ih =>
      intro i hi s0 s1 s2 s3 s4 s5 syt syz syw syu syv x7 H locs hP hD hS ls hl hf
      have hi : i + n + 1 = 64 := by omega
      rw [fL_law_66] at hf
      refine lv_iload hx hb dL_law_66 (lv_at hl 7 rfl) ?_
      refine lv_bipush (v := 40) hx hb dL_law_68 (by decide) ?_
      refine lv_icmp_ge (tgt := 312) hx hb dL_law_70 (by decide) (fun c_1 => ?_) (fun c_1 => ?_)
      · have hf := it_t c_1 hf
        refine lv_iconst (v := 1) hx hb dL_law_312 (by decide) ?_
        have hf : (some 1 : Option Int32) = some 1 := hf
        refine va_forget (fun q hq => by have h9 := hS.2.2 q hq; rw [hAe] at h9; exact h9) ?_
        refine W.widen (k := 600130) (n := 7301079) (by omega) (by omega) ?_
        exact lw_ret hx hb hr hlocks dL_law_313
      · have hf := it_f c_1 hf
        refine lv_aload_n hx hb dL_law_73 rfl (lv_at hl 0 rfl) ?_
        refine lv_bipush (v := 6) hx hb dL_law_74 (by decide) ?_
        refine lv_iload hx hb dL_law_76 (lv_at hl 7 rfl) ?_
        refine lv_imul hx hb dL_law_78 ?_
        obtain ⟨r_2, hc_2, hf⟩ := bn1_ok hf
        refine gc_i (wc := ([] : va_W)) (wr := (cf_012345ytyzywyuyv cI h0 h1 h2 h2a2 h2a3 h2a4 h2a5 h2a6 h2a7 h3 h3a0 h4 h4a0 h4a1 h4a2 h5 hyt hyz hyw hyu hyv s0 s1 s2 s3 s4 s5 syt syz syw syu syv)) (w1 := ([] : va_W)) (ws' := (cf_012345ytyzywyuyv cI h0 h1 h2 h2a2 h2a3 h2a4 h2a5 h2a6 h2a7 h3 h3a0 h4 h4a0 h4a1 h4a2 h5 hyt hyz hyw hyu hyv s0 s1 s2 s3 s4 s5 syt syz syw syu syv)) hP hD hS hA [] [0, 1, 2, 3, 4, 5, 6, 7, 8, 9, 10, 11, 12, 13, 14, 15, 16, 17, 18, 19, 20] [0, 1, 2, 3, 4, 5, 6, 7, 8, 9, 10, 11, 12, 13, 14, 15, 16, 17, 18, 19, 20] rfl rfl (by decide) (by decide) rfl (by decide) (va_runS (As := [.ref b, .int (6 * x7)]) (rest := []) ⟨hx, hb, hml, hown, hts⟩ (ktL_cell l dC dI b L xs _ (6 * x7) r_2 hc_2) (va_cwS 2 hts gL_law_L_cell rfl rfl rfl (by decide +kernel) ⟨Nat.le_of_ble_eq_true rfl, Nat.le_of_ble_eq_true rfl⟩) (gl_S (XS_ok b L xs) (hP.sub (ws' := ([] : va_W)) [] rfl) (hK.sub (tys' := []) [] rfl) (hD.sub (ws' := ([] : va_W)) [] (by decide) rfl) hN ((XS_ok b L xs).2.2.2 A s s.heap _ hS.1 hS.2.1 hXS) (va_free (wc := ([] : va_W)) hD hS hA [] rfl)) rfl rfl hl.1 rfl (lv_room (Nat.le_of_ble_eq_true rfl)) dL_law_79 ⟨by show (21 + 151 * i + 0) + 0 ≤ 600130; omega, by show (362 + 960 * i + 0) + 0 ≤ 7301079; omega⟩) (fun H locs hP hD hS => ?_)
        refine lv_istore (lv' := [(8, .int r_2), (0, .ref b), (1, .ref h5), (2, .ref hyt), (3, .ref hyz), (4, .ref hyw), (5, .ref hyu), (6, .ref hyv), (7, .int x7)]) hx hb dL_law_82 hl (by decide) rfl (fun ls hl => ?_)
        refine lv_aload_n hx hb dL_law_84 rfl (lv_at hl 4 rfl) ?_
        refine lv_iconst (v := 0) hx hb dL_law_85 (by decide) ?_
        obtain ⟨hi_3, hf⟩ := ai_ok hf
        refine va_iald (n := 13) (f := syz) hx hb hK hP 17 0 rfl rfl hi_3 dL_law_86 ?_
        refine lv_bipush (v := 6) hx hb dL_law_87 (by decide) ?_
        refine lv_icmp_ge (tgt := 219) hx hb dL_law_89 (by decide) (fun c_4 => ?_) (fun c_4 => ?_)
        · have hf := it_t c_4 hf
          refine W.widen (k := 21 + 151 * i + 1) (n := 362 + 960 * i + 6) (by omega) (by omega) ?_
          exact J219 n i hi (fun s0 s1 s2 s3 s4 s5 syt syz syw syu syv x7 => fL_law_66 L xs n s0 s1 s2 s3 s4 s5 syt syz syw syu syv x7) (fun s0 s1 s2 s3 s4 s5 syt syz syw syu syv x7 H locs hP hD hS ls hl hf => ih (i + 1) (by omega) s0 s1 s2 s3 s4 s5 syt syz syw syu syv x7 H locs hP hD hS ls hl hf) s0 s1 s2 s3 s4 s5 syt syz syw syu syv x7 _ _ hP hD hS _ (lv_sub hl [1, 2, 3, 4, 5, 6, 7, 8] rfl) hf
        · have hf := it_f c_4 hf
          refine lv_iload hx hb dL_law_92 (lv_at hl 8 rfl) ?_
          refine lv_iconst (v := 3) hx hb dL_law_94 (by decide) ?_
          refine lv_icmp_lt (tgt := 108) hx hb dL_law_95 (by decide) (fun c_5 => ?_) (fun c_5 => ?_)
          · have hf := it_t c_5 hf
            exact J108 n i hi (fun s0 s1 s2 s3 s4 s5 syt syz syw syu syv x7 => fL_law_66 L xs n s0 s1 s2 s3 s4 s5 syt syz syw syu syv x7) (fun s0 s1 s2 s3 s4 s5 syt syz syw syu syv x7 H locs hP hD hS ls hl hf => ih (i + 1) (by omega) s0 s1 s2 s3 s4 s5 syt syz syw syu syv x7 H locs hP hD hS ls hl hf) s0 s1 s2 s3 s4 s5 syt syz syw syu syv x7 r_2 _ _ hP hD hS _ (lv_sub hl [1, 2, 3, 4, 5, 6, 7, 8, 0] rfl) hf
          · have hf := it_f c_5 hf
            refine lv_iload hx hb dL_law_98 (lv_at hl 0 rfl) ?_
            refine lv_bipush (v := 11) hx hb dL_law_100 (by decide) ?_
            obtain ⟨r_6, hc_6, hf⟩ := bn1_ok hf
            refine gc_i (wc := ([] : va_W)) (wr := (cf_012345ytyzywyuyv cI h0 h1 h2 h2a2 h2a3 h2a4 h2a5 h2a6 h2a7 h3 h3a0 h4 h4a0 h4a1 h4a2 h5 hyt hyz hyw hyu hyv s0 s1 s2 s3 s4 s5 syt syz syw syu syv)) (w1 := ([] : va_W)) (ws' := (cf_012345ytyzywyuyv cI h0 h1 h2 h2a2 h2a3 h2a4 h2a5 h2a6 h2a7 h3 h3a0 h4 h4a0 h4a1 h4a2 h5 hyt hyz hyw hyu hyv s0 s1 s2 s3 s4 s5 syt syz syw syu syv)) hP hD hS hA [] [0, 1, 2, 3, 4, 5, 6, 7, 8, 9, 10, 11, 12, 13, 14, 15, 16, 17, 18, 19, 20] [0, 1, 2, 3, 4, 5, 6, 7, 8, 9, 10, 11, 12, 13, 14, 15, 16, 17, 18, 19, 20] rfl rfl (by decide) (by decide) rfl (by decide) (va_runS (As := [.int r_2, .int 11]) (rest := []) ⟨hx, hb, hml, hown, hts⟩ (ktL_some l dC dI _ r_2 11 r_6 hc_6) (va_cwS 2 hts gL_law_L_some rfl rfl rfl (by decide +kernel) ⟨Nat.le_of_ble_eq_true rfl, Nat.le_of_ble_eq_true rfl⟩) (gc_S (hP.sub (ws' := ([] : va_W)) [] rfl) (hK.sub (tys' := []) [] rfl) (hD.sub (ws' := ([] : va_W)) [] (by decide) rfl) hN) rfl rfl hl.1 rfl (lv_room (Nat.le_of_ble_eq_true rfl)) dL_law_102 ⟨by show (21 + 151 * i + 0) + 0 ≤ 600130; omega, by show (362 + 960 * i + 0) + 0 ≤ 7301079; omega⟩) (fun H locs hP hD hS => ?_)
            refine lv_if_ne (tgt := 219) hx hb dL_law_105 (by decide) (fun c_7 => ?_) (fun c_7 => ?_)
            · have hf := it_f c_7 hf
              refine W.widen (k := 21 + 151 * i + 1) (n := 362 + 960 * i + 6) (by omega) (by omega) ?_
              exact J219 n i hi (fun s0 s1 s2 s3 s4 s5 syt syz syw syu syv x7 => fL_law_66 L xs n s0 s1 s2 s3 s4 s5 syt syz syw syu syv x7) (fun s0 s1 s2 s3 s4 s5 syt syz syw syu syv x7 H locs hP hD hS ls hl hf => ih (i + 1) (by omega) s0 s1 s2 s3 s4 s5 syt syz syw syu syv x7 H locs hP hD hS ls hl hf) s0 s1 s2 s3 s4 s5 syt syz syw syu syv x7 _ _ hP hD hS _ (lv_sub hl [1, 2, 3, 4, 5, 6, 7, 8] rfl) hf
            · have hf := it_t c_7 hf
              exact J108 n i hi (fun s0 s1 s2 s3 s4 s5 syt syz syw syu syv x7 => fL_law_66 L xs n s0 s1 s2 s3 s4 s5 syt syz syw syu syv x7) (fun s0 s1 s2 s3 s4 s5 syt syz syw syu syv x7 H locs hP hD hS ls hl hf => ih (i + 1) (by omega) s0 s1 s2 s3 s4 s5 syt syz syw syu syv x7 H locs hP hD hS ls hl hf) s0 s1 s2 s3 s4 s5 syt syz syw syu syv x7 r_2 _ _ hP hD hS _ (lv_sub hl [1, 2, 3, 4, 5, 6, 7, 8, 0] rfl) hf
  exact J66
