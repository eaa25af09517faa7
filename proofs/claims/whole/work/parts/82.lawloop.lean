set_option maxHeartbeats 8000000 in
set_option maxRecDepth 100000 in
theorem law_loop {p : Program} {l : Launch} {e : Env} {s : State} {m : MethodId} {below : List Frame} {meth : Method} {c : Code} (hst : l.stackTraces = false) (dC : Nat → ClassId) (dI : Nat → Nat → Nat) (cI cZ cJ : ClassId) (h0 h1 h2 h2a2 h2a3 h2a4 h2a5 h2a6 h2a7 h3 h3a0 h4 h4a0 h4a1 h4a2 h5 h6 h6a1 h6a2 h6a3 h6a4 h6a5 h6a7 h6a17 h6a18 hO : Nat) {b L : Nat} {xs : Nat → Int32} (A : Nat → Prop) (hAe : A = fun q : Nat => s.heap.size ≤ q) (C0 : lw_At p s m meth c b L xs) (hK : va_K (dC, dI) vwCl [(cI, .int), (cZ, .boolean), (cJ, .long)] s) (hN : nw s) (hSW : sw s) (hXW : xw s) (hZ : zq A s s.heap) (hNc : va_Nc xISE xIAE s) : ∀ (n i : Nat), i + n = 513 → ∀ (s0 : S0) (s1 : S1) (s2 : S2) (s3 : S3) (s4 : S4) (s5 : S5) (s6 : S6) (sO : SO) (x4 : Int32) (H : Heap) (locs : List Loc), va_P (dC, dI) vwCl (cf_0123456O cI cZ cJ h0 h1 h2 h2a2 h2a3 h2a4 h2a5 h2a6 h2a7 h3 h3a0 h4 h4a0 h4a1 h4a2 h5 h6 h6a1 h6a2 h6a3 h6a4 h6a5 h6a7 h6a17 h6a18 hO s0 s1 s2 s3 s4 s5 s6 sO) H → va_D A (cf_0123456O cI cZ cJ h0 h1 h2 h2a2 h2a3 h2a4 h2a5 h2a6 h2a7 h3 h3a0 h4 h4a0 h4a1 h4a2 h5 h6 h6a1 h6a2 h6a3 h6a4 h6a5 h6a7 h6a17 h6a18 hO s0 s1 s2 s3 s4 s5 s6 sO) → va_S A s.heap H locs → ∀ (ls : Array Slot), lv_has ls 7 [(0, .ref b), (1, .ref h5), (2, .ref h6), (3, .ref hO), (4, .int x4)] → fL_law_23 L xs n s0 s1 s2 s3 s4 s5 s6 sO x4 = some 1 → W p l e room_1 s m #[Value.ref b] below meth c H locs (26 + i) (405 + 6 * i) (lw_Z below #[Value.ref b] s) (F0 m 23 ls []) := by
  obtain ⟨hx, hb, hr, hml, hown, hts, hX, hbl, hlocks, hgv⟩ := C0
  have hts : ∀ w ∈ wsL_law, w.before #[Value.ref b] s = true := fun w h => hts w (wsL_law_in w h)
  have hown : s.vm.findClass RL = some m.cls := hown
  have hA : ∀ q : Nat, s.heap.size ≤ q → A q := fun q h => by rw [hAe]; exact h
  have hbA : ¬ A b := by rw [hAe]; exact Nat.not_le.mpr hbl
  have J574 : ∀ (n i : Nat) (hi : i + n + 1 = 513) (k23 : S0 → S1 → S2 → S3 → S4 → S5 → S6 → SO → Int32 → Option Int32) (hk23 : ∀ (s0 : S0) (s1 : S1) (s2 : S2) (s3 : S3) (s4 : S4) (s5 : S5) (s6 : S6) (sO : SO) (x4 : Int32) (H : Heap) (locs : List Loc), va_P (dC, dI) vwCl (cf_0123456O cI cZ cJ h0 h1 h2 h2a2 h2a3 h2a4 h2a5 h2a6 h2a7 h3 h3a0 h4 h4a0 h4a1 h4a2 h5 h6 h6a1 h6a2 h6a3 h6a4 h6a5 h6a7 h6a17 h6a18 hO s0 s1 s2 s3 s4 s5 s6 sO) H → va_D A (cf_0123456O cI cZ cJ h0 h1 h2 h2a2 h2a3 h2a4 h2a5 h2a6 h2a7 h3 h3a0 h4 h4a0 h4a1 h4a2 h5 h6 h6a1 h6a2 h6a3 h6a4 h6a5 h6a7 h6a17 h6a18 hO s0 s1 s2 s3 s4 s5 s6 sO) → va_S A s.heap H locs → ∀ (ls : Array Slot), lv_has ls 7 [(0, .ref b), (1, .ref h5), (2, .ref h6), (3, .ref hO), (4, .int x4)] → k23 s0 s1 s2 s3 s4 s5 s6 sO x4 = some 1 → W p l e room_1 s m #[Value.ref b] below meth c H locs (26 + (i + 1)) (405 + 6 * (i + 1)) (lw_Z below #[Value.ref b] s) (F0 m 23 ls [])) (s0 : S0) (s1 : S1) (s2 : S2) (s3 : S3) (s4 : S4) (s5 : S5) (s6 : S6) (sO : SO) (x4 : Int32) (H : Heap) (locs : List Loc), va_P (dC, dI) vwCl (cf_0123456O cI cZ cJ h0 h1 h2 h2a2 h2a3 h2a4 h2a5 h2a6 h2a7 h3 h3a0 h4 h4a0 h4a1 h4a2 h5 h6 h6a1 h6a2 h6a3 h6a4 h6a5 h6a7 h6a17 h6a18 hO s0 s1 s2 s3 s4 s5 s6 sO) H → va_D A (cf_0123456O cI cZ cJ h0 h1 h2 h2a2 h2a3 h2a4 h2a5 h2a6 h2a7 h3 h3a0 h4 h4a0 h4a1 h4a2 h5 h6 h6a1 h6a2 h6a3 h6a4 h6a5 h6a7 h6a17 h6a18 hO s0 s1 s2 s3 s4 s5 s6 sO) → va_S A s.heap H locs → ∀ (ls : Array Slot), lv_has ls 7 [(0, .ref b), (1, .ref h5), (2, .ref h6), (3, .ref hO), (4, .int x4)] → fL_law_574 L xs k23 s0 s1 s2 s3 s4 s5 s6 sO x4 = some 1 → W p l e room_1 s m #[Value.ref b] below meth c H locs (26 + i + 1) (405 + 6 * i + 6) (lw_Z below #[Value.ref b] s) (F0 m 574 ls []) := by
    intro n i hi k23 hk23 s0 s1 s2 s3 s4 s5 s6 sO x4 H locs hP hD hS ls hl hf
    unfold fL_law_574 at hf
    refine lv_iinc (v := (x4 + 4)) (lv' := [(4, .int (x4 + 4)), (0, .ref b), (1, .ref h5), (2, .ref h6), (3, .ref hO)]) hx hb dL_law_574 hl (k := 4) rfl rfl (by decide) rfl (fun ls hl => ?_)
    refine lv_goto (tgt := 23) hx hb dL_law_577 (by decide) ?_
    refine W.widen (k := 26 + (i + 1)) (n := 405 + 6 * (i + 1)) (by omega) (by omega) ?_
    exact hk23 s0 s1 s2 s3 s4 s5 s6 sO (x4 + 4) _ _ hP hD hS _ (lv_sub hl [1, 2, 3, 4, 0] rfl) hf
  have J441 : ∀ (n i : Nat) (hi : i + n + 1 = 513) (k23 : S0 → S1 → S2 → S3 → S4 → S5 → S6 → SO → Int32 → Option Int32) (hk23 : ∀ (s0 : S0) (s1 : S1) (s2 : S2) (s3 : S3) (s4 : S4) (s5 : S5) (s6 : S6) (sO : SO) (x4 : Int32) (H : Heap) (locs : List Loc), va_P (dC, dI) vwCl (cf_0123456O cI cZ cJ h0 h1 h2 h2a2 h2a3 h2a4 h2a5 h2a6 h2a7 h3 h3a0 h4 h4a0 h4a1 h4a2 h5 h6 h6a1 h6a2 h6a3 h6a4 h6a5 h6a7 h6a17 h6a18 hO s0 s1 s2 s3 s4 s5 s6 sO) H → va_D A (cf_0123456O cI cZ cJ h0 h1 h2 h2a2 h2a3 h2a4 h2a5 h2a6 h2a7 h3 h3a0 h4 h4a0 h4a1 h4a2 h5 h6 h6a1 h6a2 h6a3 h6a4 h6a5 h6a7 h6a17 h6a18 hO s0 s1 s2 s3 s4 s5 s6 sO) → va_S A s.heap H locs → ∀ (ls : Array Slot), lv_has ls 7 [(0, .ref b), (1, .ref h5), (2, .ref h6), (3, .ref hO), (4, .int x4)] → k23 s0 s1 s2 s3 s4 s5 s6 sO x4 = some 1 → W p l e room_1 s m #[Value.ref b] below meth c H locs (26 + (i + 1)) (405 + 6 * (i + 1)) (lw_Z below #[Value.ref b] s) (F0 m 23 ls [])) (s0 : S0) (s1 : S1) (s2 : S2) (s3 : S3) (s4 : S4) (s5 : S5) (s6 : S6) (sO : SO) (x4 : Int32) (H : Heap) (locs : List Loc), va_P (dC, dI) vwCl (cf_0123456O cI cZ cJ h0 h1 h2 h2a2 h2a3 h2a4 h2a5 h2a6 h2a7 h3 h3a0 h4 h4a0 h4a1 h4a2 h5 h6 h6a1 h6a2 h6a3 h6a4 h6a5 h6a7 h6a17 h6a18 hO s0 s1 s2 s3 s4 s5 s6 sO) H → va_D A (cf_0123456O cI cZ cJ h0 h1 h2 h2a2 h2a3 h2a4 h2a5 h2a6 h2a7 h3 h3a0 h4 h4a0 h4a1 h4a2 h5 h6 h6a1 h6a2 h6a3 h6a4 h6a5 h6a7 h6a17 h6a18 hO s0 s1 s2 s3 s4 s5 s6 sO) → va_S A s.heap H locs → ∀ (ls : Array Slot), lv_has ls 7 [(0, .ref b), (1, .ref h5), (2, .ref h6), (3, .ref hO), (4, .int x4)] → fL_law_441 L xs k23 s0 s1 s2 s3 s4 s5 s6 sO x4 = some 1 → W p l e room_1 s m #[Value.ref b] below meth c H locs (26 + i + 1) (405 + 6 * i + 6) (lw_Z below #[Value.ref b] s) (F0 m 441 ls []) := by
    intro n i hi k23 hk23 s0 s1 s2 s3 s4 s5 s6 sO x4 H locs hP hD hS ls hl hf
    unfold fL_law_441 at hf
    refine lv_goto (tgt := 574) hx hb dL_law_441 (by decide) ?_
    exact J574 n i hi k23 hk23 s0 s1 s2 s3 s4 s5 s6 sO x4 _ _ hP hD hS _ (lv_sub hl [0, 1, 2, 3, 4] rfl) hf
  have J397 : ∀ (n i : Nat) (hi : i + n + 1 = 513) (k23 : S0 → S1 → S2 → S3 → S4 → S5 → S6 → SO → Int32 → Option Int32) (hk23 : ∀ (s0 : S0) (s1 : S1) (s2 : S2) (s3 : S3) (s4 : S4) (s5 : S5) (s6 : S6) (sO : SO) (x4 : Int32) (H : Heap) (locs : List Loc), va_P (dC, dI) vwCl (cf_0123456O cI cZ cJ h0 h1 h2 h2a2 h2a3 h2a4 h2a5 h2a6 h2a7 h3 h3a0 h4 h4a0 h4a1 h4a2 h5 h6 h6a1 h6a2 h6a3 h6a4 h6a5 h6a7 h6a17 h6a18 hO s0 s1 s2 s3 s4 s5 s6 sO) H → va_D A (cf_0123456O cI cZ cJ h0 h1 h2 h2a2 h2a3 h2a4 h2a5 h2a6 h2a7 h3 h3a0 h4 h4a0 h4a1 h4a2 h5 h6 h6a1 h6a2 h6a3 h6a4 h6a5 h6a7 h6a17 h6a18 hO s0 s1 s2 s3 s4 s5 s6 sO) → va_S A s.heap H locs → ∀ (ls : Array Slot), lv_has ls 7 [(0, .ref b), (1, .ref h5), (2, .ref h6), (3, .ref hO), (4, .int x4)] → k23 s0 s1 s2 s3 s4 s5 s6 sO x4 = some 1 → W p l e room_1 s m #[Value.ref b] below meth c H locs (26 + (i + 1)) (405 + 6 * (i + 1)) (lw_Z below #[Value.ref b] s) (F0 m 23 ls [])) (s0 : S0) (s1 : S1) (s2 : S2) (s3 : S3) (s4 : S4) (s5 : S5) (s6 : S6) (sO : SO) (x4 : Int32) (H : Heap) (locs : List Loc), va_P (dC, dI) vwCl (cf_0123456O cI cZ cJ h0 h1 h2 h2a2 h2a3 h2a4 h2a5 h2a6 h2a7 h3 h3a0 h4 h4a0 h4a1 h4a2 h5 h6 h6a1 h6a2 h6a3 h6a4 h6a5 h6a7 h6a17 h6a18 hO s0 s1 s2 s3 s4 s5 s6 sO) H → va_D A (cf_0123456O cI cZ cJ h0 h1 h2 h2a2 h2a3 h2a4 h2a5 h2a6 h2a7 h3 h3a0 h4 h4a0 h4a1 h4a2 h5 h6 h6a1 h6a2 h6a3 h6a4 h6a5 h6a7 h6a17 h6a18 hO s0 s1 s2 s3 s4 s5 s6 sO) → va_S A s.heap H locs → ∀ (ls : Array Slot), lv_has ls 7 [(0, .ref b), (1, .ref h5), (2, .ref h6), (3, .ref hO), (4, .int x4)] → fL_law_397 L xs k23 s0 s1 s2 s3 s4 s5 s6 sO x4 = some 1 → W p l e room_1 s m #[Value.ref b] below meth c H locs (26 + i + 1) (405 + 6 * i + 6) (lw_Z below #[Value.ref b] s) (F0 m 397 ls []) := by
    intro n i hi k23 hk23 s0 s1 s2 s3 s4 s5 s6 sO x4 H locs hP hD hS ls hl hf
    unfold fL_law_397 at hf
    refine lv_goto (tgt := 574) hx hb dL_law_397 (by decide) ?_
    exact J574 n i hi k23 hk23 s0 s1 s2 s3 s4 s5 s6 sO x4 _ _ hP hD hS _ (lv_sub hl [0, 1, 2, 3, 4] rfl) hf
  have J328 : ∀ (n i : Nat) (hi : i + n + 1 = 513) (k23 : S0 → S1 → S2 → S3 → S4 → S5 → S6 → SO → Int32 → Option Int32) (hk23 : ∀ (s0 : S0) (s1 : S1) (s2 : S2) (s3 : S3) (s4 : S4) (s5 : S5) (s6 : S6) (sO : SO) (x4 : Int32) (H : Heap) (locs : List Loc), va_P (dC, dI) vwCl (cf_0123456O cI cZ cJ h0 h1 h2 h2a2 h2a3 h2a4 h2a5 h2a6 h2a7 h3 h3a0 h4 h4a0 h4a1 h4a2 h5 h6 h6a1 h6a2 h6a3 h6a4 h6a5 h6a7 h6a17 h6a18 hO s0 s1 s2 s3 s4 s5 s6 sO) H → va_D A (cf_0123456O cI cZ cJ h0 h1 h2 h2a2 h2a3 h2a4 h2a5 h2a6 h2a7 h3 h3a0 h4 h4a0 h4a1 h4a2 h5 h6 h6a1 h6a2 h6a3 h6a4 h6a5 h6a7 h6a17 h6a18 hO s0 s1 s2 s3 s4 s5 s6 sO) → va_S A s.heap H locs → ∀ (ls : Array Slot), lv_has ls 7 [(0, .ref b), (1, .ref h5), (2, .ref h6), (3, .ref hO), (4, .int x4)] → k23 s0 s1 s2 s3 s4 s5 s6 sO x4 = some 1 → W p l e room_1 s m #[Value.ref b] below meth c H locs (26 + (i + 1)) (405 + 6 * (i + 1)) (lw_Z below #[Value.ref b] s) (F0 m 23 ls [])) (s0 : S0) (s1 : S1) (s2 : S2) (s3 : S3) (s4 : S4) (s5 : S5) (s6 : S6) (sO : SO) (x4 : Int32) (H : Heap) (locs : List Loc), va_P (dC, dI) vwCl (cf_0123456O cI cZ cJ h0 h1 h2 h2a2 h2a3 h2a4 h2a5 h2a6 h2a7 h3 h3a0 h4 h4a0 h4a1 h4a2 h5 h6 h6a1 h6a2 h6a3 h6a4 h6a5 h6a7 h6a17 h6a18 hO s0 s1 s2 s3 s4 s5 s6 sO) H → va_D A (cf_0123456O cI cZ cJ h0 h1 h2 h2a2 h2a3 h2a4 h2a5 h2a6 h2a7 h3 h3a0 h4 h4a0 h4a1 h4a2 h5 h6 h6a1 h6a2 h6a3 h6a4 h6a5 h6a7 h6a17 h6a18 hO s0 s1 s2 s3 s4 s5 s6 sO) → va_S A s.heap H locs → ∀ (ls : Array Slot), lv_has ls 7 [(0, .ref b), (1, .ref h5), (2, .ref h6), (3, .ref hO), (4, .int x4)] → fL_law_328 L xs k23 s0 s1 s2 s3 s4 s5 s6 sO x4 = some 1 → W p l e room_1 s m #[Value.ref b] below meth c H locs (26 + i + 1) (405 + 6 * i + 6) (lw_Z below #[Value.ref b] s) (F0 m 328 ls []) := by
    intro n i hi k23 hk23 s0 s1 s2 s3 s4 s5 s6 sO x4 H locs hP hD hS ls hl hf
    unfold fL_law_328 at hf
    refine lv_goto (tgt := 574) hx hb dL_law_328 (by decide) ?_
    exact J574 n i hi k23 hk23 s0 s1 s2 s3 s4 s5 s6 sO x4 _ _ hP hD hS _ (lv_sub hl [0, 1, 2, 3, 4] rfl) hf
  have J265 : ∀ (n i : Nat) (hi : i + n + 1 = 513) (k23 : S0 → S1 → S2 → S3 → S4 → S5 → S6 → SO → Int32 → Option Int32) (hk23 : ∀ (s0 : S0) (s1 : S1) (s2 : S2) (s3 : S3) (s4 : S4) (s5 : S5) (s6 : S6) (sO : SO) (x4 : Int32) (H : Heap) (locs : List Loc), va_P (dC, dI) vwCl (cf_0123456O cI cZ cJ h0 h1 h2 h2a2 h2a3 h2a4 h2a5 h2a6 h2a7 h3 h3a0 h4 h4a0 h4a1 h4a2 h5 h6 h6a1 h6a2 h6a3 h6a4 h6a5 h6a7 h6a17 h6a18 hO s0 s1 s2 s3 s4 s5 s6 sO) H → va_D A (cf_0123456O cI cZ cJ h0 h1 h2 h2a2 h2a3 h2a4 h2a5 h2a6 h2a7 h3 h3a0 h4 h4a0 h4a1 h4a2 h5 h6 h6a1 h6a2 h6a3 h6a4 h6a5 h6a7 h6a17 h6a18 hO s0 s1 s2 s3 s4 s5 s6 sO) → va_S A s.heap H locs → ∀ (ls : Array Slot), lv_has ls 7 [(0, .ref b), (1, .ref h5), (2, .ref h6), (3, .ref hO), (4, .int x4)] → k23 s0 s1 s2 s3 s4 s5 s6 sO x4 = some 1 → W p l e room_1 s m #[Value.ref b] below meth c H locs (26 + (i + 1)) (405 + 6 * (i + 1)) (lw_Z below #[Value.ref b] s) (F0 m 23 ls [])) (s0 : S0) (s1 : S1) (s2 : S2) (s3 : S3) (s4 : S4) (s5 : S5) (s6 : S6) (sO : SO) (x4 : Int32) (H : Heap) (locs : List Loc), va_P (dC, dI) vwCl (cf_0123456O cI cZ cJ h0 h1 h2 h2a2 h2a3 h2a4 h2a5 h2a6 h2a7 h3 h3a0 h4 h4a0 h4a1 h4a2 h5 h6 h6a1 h6a2 h6a3 h6a4 h6a5 h6a7 h6a17 h6a18 hO s0 s1 s2 s3 s4 s5 s6 sO) H → va_D A (cf_0123456O cI cZ cJ h0 h1 h2 h2a2 h2a3 h2a4 h2a5 h2a6 h2a7 h3 h3a0 h4 h4a0 h4a1 h4a2 h5 h6 h6a1 h6a2 h6a3 h6a4 h6a5 h6a7 h6a17 h6a18 hO s0 s1 s2 s3 s4 s5 s6 sO) → va_S A s.heap H locs → ∀ (ls : Array Slot), lv_has ls 7 [(0, .ref b), (1, .ref h5), (2, .ref h6), (3, .ref hO), (4, .int x4)] → fL_law_265 L xs k23 s0 s1 s2 s3 s4 s5 s6 sO x4 = some 1 → W p l e room_1 s m #[Value.ref b] below meth c H locs (26 + i + 1) (405 + 6 * i + 6) (lw_Z below #[Value.ref b] s) (F0 m 265 ls []) := by
    intro n i hi k23 hk23 s0 s1 s2 s3 s4 s5 s6 sO x4 H locs hP hD hS ls hl hf
    unfold fL_law_265 at hf
    refine lv_goto (tgt := 574) hx hb dL_law_265 (by decide) ?_
    exact J574 n i hi k23 hk23 s0 s1 s2 s3 s4 s5 s6 sO x4 _ _ hP hD hS _ (lv_sub hl [0, 1, 2, 3, 4] rfl) hf
  have J209 : ∀ (n i : Nat) (hi : i + n + 1 = 513) (k23 : S0 → S1 → S2 → S3 → S4 → S5 → S6 → SO → Int32 → Option Int32) (hk23 : ∀ (s0 : S0) (s1 : S1) (s2 : S2) (s3 : S3) (s4 : S4) (s5 : S5) (s6 : S6) (sO : SO) (x4 : Int32) (H : Heap) (locs : List Loc), va_P (dC, dI) vwCl (cf_0123456O cI cZ cJ h0 h1 h2 h2a2 h2a3 h2a4 h2a5 h2a6 h2a7 h3 h3a0 h4 h4a0 h4a1 h4a2 h5 h6 h6a1 h6a2 h6a3 h6a4 h6a5 h6a7 h6a17 h6a18 hO s0 s1 s2 s3 s4 s5 s6 sO) H → va_D A (cf_0123456O cI cZ cJ h0 h1 h2 h2a2 h2a3 h2a4 h2a5 h2a6 h2a7 h3 h3a0 h4 h4a0 h4a1 h4a2 h5 h6 h6a1 h6a2 h6a3 h6a4 h6a5 h6a7 h6a17 h6a18 hO s0 s1 s2 s3 s4 s5 s6 sO) → va_S A s.heap H locs → ∀ (ls : Array Slot), lv_has ls 7 [(0, .ref b), (1, .ref h5), (2, .ref h6), (3, .ref hO), (4, .int x4)] → k23 s0 s1 s2 s3 s4 s5 s6 sO x4 = some 1 → W p l e room_1 s m #[Value.ref b] below meth c H locs (26 + (i + 1)) (405 + 6 * (i + 1)) (lw_Z below #[Value.ref b] s) (F0 m 23 ls [])) (s0 : S0) (s1 : S1) (s2 : S2) (s3 : S3) (s4 : S4) (s5 : S5) (s6 : S6) (sO : SO) (x4 : Int32) (H : Heap) (locs : List Loc), va_P (dC, dI) vwCl (cf_0123456O cI cZ cJ h0 h1 h2 h2a2 h2a3 h2a4 h2a5 h2a6 h2a7 h3 h3a0 h4 h4a0 h4a1 h4a2 h5 h6 h6a1 h6a2 h6a3 h6a4 h6a5 h6a7 h6a17 h6a18 hO s0 s1 s2 s3 s4 s5 s6 sO) H → va_D A (cf_0123456O cI cZ cJ h0 h1 h2 h2a2 h2a3 h2a4 h2a5 h2a6 h2a7 h3 h3a0 h4 h4a0 h4a1 h4a2 h5 h6 h6a1 h6a2 h6a3 h6a4 h6a5 h6a7 h6a17 h6a18 hO s0 s1 s2 s3 s4 s5 s6 sO) → va_S A s.heap H locs → ∀ (ls : Array Slot), lv_has ls 7 [(0, .ref b), (1, .ref h5), (2, .ref h6), (3, .ref hO), (4, .int x4)] → fL_law_209 L xs k23 s0 s1 s2 s3 s4 s5 s6 sO x4 = some 1 → W p l e room_1 s m #[Value.ref b] below meth c H locs (26 + i + 1) (405 + 6 * i + 6) (lw_Z below #[Value.ref b] s) (F0 m 209 ls []) := by
    intro n i hi k23 hk23 s0 s1 s2 s3 s4 s5 s6 sO x4 H locs hP hD hS ls hl hf
    unfold fL_law_209 at hf
    refine lv_goto (tgt := 574) hx hb dL_law_209 (by decide) ?_
    exact J574 n i hi k23 hk23 s0 s1 s2 s3 s4 s5 s6 sO x4 _ _ hP hD hS _ (lv_sub hl [0, 1, 2, 3, 4] rfl) hf
  have J176 : ∀ (n i : Nat) (hi : i + n + 1 = 513) (k23 : S0 → S1 → S2 → S3 → S4 → S5 → S6 → SO → Int32 → Option Int32) (hk23 : ∀ (s0 : S0) (s1 : S1) (s2 : S2) (s3 : S3) (s4 : S4) (s5 : S5) (s6 : S6) (sO : SO) (x4 : Int32) (H : Heap) (locs : List Loc), va_P (dC, dI) vwCl (cf_0123456O cI cZ cJ h0 h1 h2 h2a2 h2a3 h2a4 h2a5 h2a6 h2a7 h3 h3a0 h4 h4a0 h4a1 h4a2 h5 h6 h6a1 h6a2 h6a3 h6a4 h6a5 h6a7 h6a17 h6a18 hO s0 s1 s2 s3 s4 s5 s6 sO) H → va_D A (cf_0123456O cI cZ cJ h0 h1 h2 h2a2 h2a3 h2a4 h2a5 h2a6 h2a7 h3 h3a0 h4 h4a0 h4a1 h4a2 h5 h6 h6a1 h6a2 h6a3 h6a4 h6a5 h6a7 h6a17 h6a18 hO s0 s1 s2 s3 s4 s5 s6 sO) → va_S A s.heap H locs → ∀ (ls : Array Slot), lv_has ls 7 [(0, .ref b), (1, .ref h5), (2, .ref h6), (3, .ref hO), (4, .int x4)] → k23 s0 s1 s2 s3 s4 s5 s6 sO x4 = some 1 → W p l e room_1 s m #[Value.ref b] below meth c H locs (26 + (i + 1)) (405 + 6 * (i + 1)) (lw_Z below #[Value.ref b] s) (F0 m 23 ls [])) (s0 : S0) (s1 : S1) (s2 : S2) (s3 : S3) (s4 : S4) (s5 : S5) (s6 : S6) (sO : SO) (x4 : Int32) (x5 : Int32) (t1 : Int32) (t2 : Int32) (t3 : Int32) (H : Heap) (locs : List Loc), va_P (dC, dI) vwCl (cf_0123456O cI cZ cJ h0 h1 h2 h2a2 h2a3 h2a4 h2a5 h2a6 h2a7 h3 h3a0 h4 h4a0 h4a1 h4a2 h5 h6 h6a1 h6a2 h6a3 h6a4 h6a5 h6a7 h6a17 h6a18 hO s0 s1 s2 s3 s4 s5 s6 sO) H → va_D A (cf_0123456O cI cZ cJ h0 h1 h2 h2a2 h2a3 h2a4 h2a5 h2a6 h2a7 h3 h3a0 h4 h4a0 h4a1 h4a2 h5 h6 h6a1 h6a2 h6a3 h6a4 h6a5 h6a7 h6a17 h6a18 hO s0 s1 s2 s3 s4 s5 s6 sO) → va_S A s.heap H locs → ∀ (ls : Array Slot), lv_has ls 7 [(0, .ref b), (1, .ref h5), (2, .ref h6), (3, .ref hO), (4, .int x4), (5, .int x5)] → fL_law_176 L xs k23 s0 s1 s2 s3 s4 s5 s6 sO x4 x5 t1 t2 t3 = some 1 → W p l e room_1 s m #[Value.ref b] below meth c H locs (26 + i + 1) (405 + 6 * i + 6) (lw_Z below #[Value.ref b] s) (F0 m 176 ls [.int t3, .int t2, .int t1, .ref h6]) := by
    intro n i hi k23 hk23 s0 s1 s2 s3 s4 s5 s6 sO x4 x5 t1 t2 t3 H locs hP hD hS ls hl hf
    unfold fL_law_176 at hf
    obtain ⟨r_1, s6_1, hc_1, hf⟩ := bn2_ok hf
    refine gc_i (wc := (cf_6 cI cZ h6 h6a1 h6a2 h6a3 h6a4 h6a5 h6a7 h6a17 h6a18 s6)) (wr := (cf_012345O cI cJ h0 h1 h2 h2a2 h2a3 h2a4 h2a5 h2a6 h2a7 h3 h3a0 h4 h4a0 h4a1 h4a2 h5 hO s0 s1 s2 s3 s4 s5 sO)) (w1 := (cf_6 cI cZ h6 h6a1 h6a2 h6a3 h6a4 h6a5 h6a7 h6a17 h6a18 s6_1)) (ws' := (cf_0123456O cI cZ cJ h0 h1 h2 h2a2 h2a3 h2a4 h2a5 h2a6 h2a7 h3 h3a0 h4 h4a0 h4a1 h4a2 h5 h6 h6a1 h6a2 h6a3 h6a4 h6a5 h6a7 h6a17 h6a18 hO s0 s1 s2 s3 s4 s5 s6_1 sO)) hP hD hS hA [16, 17, 18, 19, 20, 21, 22, 23, 24] [0, 1, 2, 3, 4, 5, 6, 7, 8, 9, 10, 11, 12, 13, 14, 15, 25] [0, 1, 2, 3, 4, 5, 6, 7, 8, 9, 10, 11, 12, 13, 14, 15, 17, 18, 19, 20, 21, 22, 23, 24, 25, 16] rfl rfl (by decide) (by decide) rfl (by decide) (va_runV (As := [.int t1, .int t2, .int t3]) (rest := []) ⟨hx, hb, hml, hown, hts⟩ (ktX6_thing l dC dI cI cZ h6 h6a1 h6a2 h6a3 h6a4 h6a5 h6a7 h6a17 h6a18 _ s6 t1 t2 t3 r_1 s6_1 hc_1) (cwV 3 hts gL_law_X6_thing rfl rfl rfl (by decide +kernel) ⟨Nat.le_of_ble_eq_true rfl, Nat.le_of_ble_eq_true rfl⟩) (gc_V (ci := 6) (q0 := 0) (C := RX6) (T := TX6) (N := 25) (hP.sub (ws' := (cf_6 cI cZ h6 h6a1 h6a2 h6a3 h6a4 h6a5 h6a7 h6a17 h6a18 s6)) [16, 17, 18, 19, 20, 21, 22, 23, 24] rfl) (hK.sub (tys' := [(cI, .int), (cZ, .boolean)]) [0, 1] rfl) (hD.sub (ws' := (cf_6 cI cZ h6 h6a1 h6a2 h6a3 h6a4 h6a5 h6a7 h6a17 h6a18 s6)) [16, 17, 18, 19, 20, 21, 22, 23, 24] (by decide) rfl) hN rfl rfl) rfl rfl hl.1 rfl (lv_room (Nat.le_of_ble_eq_true rfl)) dL_law_176 ⟨by show 26 + i + 1 + 0 ≤ 1058; omega, by show 405 + 6 * i + 6 + 0 ≤ 8645; omega⟩) (fun H locs hP hD hS => ?_)
    refine lv_istore (lv' := [(6, .int r_1), (0, .ref b), (1, .ref h5), (2, .ref h6), (3, .ref hO), (4, .int x4), (5, .int x5)]) hx hb dL_law_179 hl (by decide) rfl (fun ls hl => ?_)
    refine lv_aload_n hx hb dL_law_181 rfl (lv_at hl 3 rfl) ?_
    obtain ⟨r_2, hc_2, hf⟩ := bn1_ok hf
    refine gc_i (wc := (cf_6 cI cZ h6 h6a1 h6a2 h6a3 h6a4 h6a5 h6a7 h6a17 h6a18 s6_1)) (wr := (cf_012345O cI cJ h0 h1 h2 h2a2 h2a3 h2a4 h2a5 h2a6 h2a7 h3 h3a0 h4 h4a0 h4a1 h4a2 h5 hO s0 s1 s2 s3 s4 s5 sO)) (w1 := (cf_6 cI cZ h6 h6a1 h6a2 h6a3 h6a4 h6a5 h6a7 h6a17 h6a18 s6_1)) (ws' := (cf_0123456O cI cZ cJ h0 h1 h2 h2a2 h2a3 h2a4 h2a5 h2a6 h2a7 h3 h3a0 h4 h4a0 h4a1 h4a2 h5 h6 h6a1 h6a2 h6a3 h6a4 h6a5 h6a7 h6a17 h6a18 hO s0 s1 s2 s3 s4 s5 s6_1 sO)) hP hD hS hA [16, 17, 18, 19, 20, 21, 22, 23, 24] [0, 1, 2, 3, 4, 5, 6, 7, 8, 9, 10, 11, 12, 13, 14, 15, 25] [0, 1, 2, 3, 4, 5, 6, 7, 8, 9, 10, 11, 12, 13, 14, 15, 17, 18, 19, 20, 21, 22, 23, 24, 25, 16] rfl rfl (by decide) (by decide) rfl (by decide) (va_runV (As := []) (rest := []) ⟨hx, hb, hml, hown, hts⟩ (ktX6_thrown l dC dI cI cZ h6 h6a1 h6a2 h6a3 h6a4 h6a5 h6a7 h6a17 h6a18 _ s6_1 r_2 hc_2) (cwV 0 hts gL_law_X6_thrown rfl rfl rfl (by decide +kernel) ⟨Nat.le_of_ble_eq_true rfl, Nat.le_of_ble_eq_true rfl⟩) (gc_V (ci := 6) (q0 := 0) (C := RX6) (T := TX6) (N := 25) (hP.sub (ws' := (cf_6 cI cZ h6 h6a1 h6a2 h6a3 h6a4 h6a5 h6a7 h6a17 h6a18 s6_1)) [16, 17, 18, 19, 20, 21, 22, 23, 24] rfl) (hK.sub (tys' := [(cI, .int), (cZ, .boolean)]) [0, 1] rfl) (hD.sub (ws' := (cf_6 cI cZ h6 h6a1 h6a2 h6a3 h6a4 h6a5 h6a7 h6a17 h6a18 s6_1)) [16, 17, 18, 19, 20, 21, 22, 23, 24] (by decide) rfl) hN rfl rfl) rfl rfl hl.1 rfl (lv_room (Nat.le_of_ble_eq_true rfl)) dL_law_182 ⟨by show 26 + i + 1 + 0 ≤ 1058; omega, by show 405 + 6 * i + 6 + 0 ≤ 8645; omega⟩) (fun H locs hP hD hS => ?_)
    refine lv_iload hx hb dL_law_185 (lv_at hl 6 rfl) ?_
    refine lv_icmp_eq (tgt := 192) hx hb dL_law_187 (by decide) (fun c_3 => ?_) (fun c_3 => ?_)
    · have hf := it_t c_3 hf
      refine lv_iload hx hb dL_law_192 (lv_at hl 6 rfl) ?_
      refine lv_if_ne (tgt := 209) hx hb dL_law_194 (by decide) (fun c_4 => ?_) (fun c_4 => ?_)
      · have hf := it_f c_4 hf
        exact J209 n i hi k23 hk23 s0 s1 s2 s3 s4 s5 s6_1 sO x4 _ _ hP hD hS _ (lv_sub hl [1, 2, 3, 4, 5] rfl) hf
      · have hf := it_t c_4 hf
        refine lv_aload_n hx hb dL_law_197 rfl (lv_at hl 4 rfl) ?_
        refine lv_iconst (v := 0) hx hb dL_law_198 (by decide) ?_
        refine va_lald hx hb hK hP 25 2 rfl rfl (show vp_in 0 1 by unfold vp_in; decide) dL_law_199 ?_
        refine lv_iload hx hb dL_law_200 (lv_at hl 0 rfl) ?_
        refine lv_i2l (v := r_1.toInt64) hx hb dL_law_202 rfl ?_
        refine W.lcmp hx hb dL_law_203 ?_
        refine lv_if_eq (tgt := 209) hx hb dL_law_204 (by decide) (fun c_5 => ?_) (fun c_5 => ?_)
        · have hf := it_t c_5 hf
          exact J209 n i hi k23 hk23 s0 s1 s2 s3 s4 s5 s6_1 sO x4 _ _ hP hD hS _ (lv_sub hl [1, 2, 3, 4, 5] rfl) hf
        · have hf := it_f c_5 hf
          refine lv_iconst (v := 0) hx hb dL_law_207 (by decide) ?_
          have hf : (some 0 : Option Int32) = some 1 := hf
          exact absurd (Option.some.inj hf) (by decide)
    · have hf := it_f c_3 hf
      refine lv_iconst (v := 0) hx hb dL_law_190 (by decide) ?_
      have hf : (some 0 : Option Int32) = some 1 := hf
      exact absurd (Option.some.inj hf) (by decide)
  have J143 : ∀ (n i : Nat) (hi : i + n + 1 = 513) (k23 : S0 → S1 → S2 → S3 → S4 → S5 → S6 → SO → Int32 → Option Int32) (hk23 : ∀ (s0 : S0) (s1 : S1) (s2 : S2) (s3 : S3) (s4 : S4) (s5 : S5) (s6 : S6) (sO : SO) (x4 : Int32) (H : Heap) (locs : List Loc), va_P (dC, dI) vwCl (cf_0123456O cI cZ cJ h0 h1 h2 h2a2 h2a3 h2a4 h2a5 h2a6 h2a7 h3 h3a0 h4 h4a0 h4a1 h4a2 h5 h6 h6a1 h6a2 h6a3 h6a4 h6a5 h6a7 h6a17 h6a18 hO s0 s1 s2 s3 s4 s5 s6 sO) H → va_D A (cf_0123456O cI cZ cJ h0 h1 h2 h2a2 h2a3 h2a4 h2a5 h2a6 h2a7 h3 h3a0 h4 h4a0 h4a1 h4a2 h5 h6 h6a1 h6a2 h6a3 h6a4 h6a5 h6a7 h6a17 h6a18 hO s0 s1 s2 s3 s4 s5 s6 sO) → va_S A s.heap H locs → ∀ (ls : Array Slot), lv_has ls 7 [(0, .ref b), (1, .ref h5), (2, .ref h6), (3, .ref hO), (4, .int x4)] → k23 s0 s1 s2 s3 s4 s5 s6 sO x4 = some 1 → W p l e room_1 s m #[Value.ref b] below meth c H locs (26 + (i + 1)) (405 + 6 * (i + 1)) (lw_Z below #[Value.ref b] s) (F0 m 23 ls [])) (s0 : S0) (s1 : S1) (s2 : S2) (s3 : S3) (s4 : S4) (s5 : S5) (s6 : S6) (sO : SO) (x4 : Int32) (t1 : Int32) (t2 : Int32) (t3 : Int32) (H : Heap) (locs : List Loc), va_P (dC, dI) vwCl (cf_0123456O cI cZ cJ h0 h1 h2 h2a2 h2a3 h2a4 h2a5 h2a6 h2a7 h3 h3a0 h4 h4a0 h4a1 h4a2 h5 h6 h6a1 h6a2 h6a3 h6a4 h6a5 h6a7 h6a17 h6a18 hO s0 s1 s2 s3 s4 s5 s6 sO) H → va_D A (cf_0123456O cI cZ cJ h0 h1 h2 h2a2 h2a3 h2a4 h2a5 h2a6 h2a7 h3 h3a0 h4 h4a0 h4a1 h4a2 h5 h6 h6a1 h6a2 h6a3 h6a4 h6a5 h6a7 h6a17 h6a18 hO s0 s1 s2 s3 s4 s5 s6 sO) → va_S A s.heap H locs → ∀ (ls : Array Slot), lv_has ls 7 [(0, .ref b), (1, .ref h5), (2, .ref h6), (3, .ref hO), (4, .int x4)] → fL_law_143 L xs k23 s0 s1 s2 s3 s4 s5 s6 sO x4 t1 t2 t3 = some 1 → W p l e room_1 s m #[Value.ref b] below meth c H locs (26 + i) (405 + 6 * i) (lw_Z below #[Value.ref b] s) (F0 m 143 ls [.int t3, .int t2, .int t1, .ref h5]) := by
    intro n i hi k23 hk23 s0 s1 s2 s3 s4 s5 s6 sO x4 t1 t2 t3 H locs hP hD hS ls hl hf
    unfold fL_law_143 at hf
    refine lv_aload_n hx hb dL_law_143 rfl (lv_at hl 3 rfl) ?_
    obtain ⟨k_1, r_1, s4_1, hc_1, hf⟩ := bn3_ok hf
    refine gc_h (wc := ((cf_45 cI h4 h4a0 h4a1 h4a2 h5 h3 h2 h1 h0 s4 s5) ++ [(hO, .inl (cJ, 1, .inr (.inl sO)))])) (wr := (cf_01236 cI cZ h0 h1 h2 h2a2 h2a3 h2a4 h2a5 h2a6 h2a7 h3 h3a0 h6 h6a1 h6a2 h6a3 h6a4 h6a5 h6a7 h6a17 h6a18 h4 s0 s1 s2 s3 s6)) (w1 := ((cf_45 cI h4 h4a0 h4a1 h4a2 h5 h3 h2 h1 h0 (if k_1 = 0 then s4_1 else s4) s5) ++ [(hO, .inl (cJ, 1, .inr (.inl (if k_1 = 0 then vp_updL sO 0 r_1.toInt64 else sO))))])) (ws' := (cf_0123456O cI cZ cJ h0 h1 h2 h2a2 h2a3 h2a4 h2a5 h2a6 h2a7 h3 h3a0 h4 h4a0 h4a1 h4a2 h5 h6 h6a1 h6a2 h6a3 h6a4 h6a5 h6a7 h6a17 h6a18 hO s0 s1 s2 s3 (if k_1 = 0 then s4_1 else s4) s5 s6 (if k_1 = 0 then vp_updL sO 0 r_1.toInt64 else sO))) hP hD hS hA [11, 12, 13, 14, 15, 25] [0, 1, 2, 3, 4, 5, 6, 7, 8, 9, 10, 16, 17, 18, 19, 20, 21, 22, 23, 24] [0, 1, 2, 3, 4, 5, 6, 7, 8, 9, 10, 20, 21, 22, 23, 24, 11, 12, 13, 14, 15, 16, 17, 18, 19, 25] rfl rfl (by decide) (by decide) rfl (by decide) (vx_runSW (As := [.ref h5, .int t1, .int t2, .int t3, .ref hO]) (rest := []) ⟨hx, hb, hml, hown, hts⟩ (ktL_thing l hst dC dI cI cJ h4 h4a0 h4a1 h4a2 h5 h3 h2 h1 h0 hO _ s4 s5 sO t1 t2 t3 k_1 r_1 s4_1 (if k_1 = 0 then s4_1 else s4) (if k_1 = 0 then vp_updL sO 0 r_1.toInt64 else sO) hc_1 (fun q => ⟨if_pos q, if_pos q⟩) (fun q => ⟨if_neg q, if_neg q⟩)) (vx_cwSW 5 hts gL_law_L_thing rfl rfl rfl (by decide +kernel) ⟨Nat.le_of_ble_eq_true rfl, Nat.le_of_ble_eq_true rfl⟩) (gx_S (hP.sub (ws' := ((cf_45 cI h4 h4a0 h4a1 h4a2 h5 h3 h2 h1 h0 s4 s5) ++ [(hO, .inl (cJ, 1, .inr (.inl sO)))])) [11, 12, 13, 14, 15, 25] rfl) (hK.sub (tys' := [(cI, .int), (cJ, .long)]) [0, 2] rfl) (hD.sub (ws' := ((cf_45 cI h4 h4a0 h4a1 h4a2 h5 h3 h2 h1 h0 s4 s5) ++ [(hO, .inl (cJ, 1, .inr (.inl sO)))])) [11, 12, 13, 14, 15, 25] (by decide) rfl) hN hSW hXW (zq.kept hZ (fun q h1 h2 => hS.2.1 q h1 h2)) (va_free (wc := ((cf_45 cI h4 h4a0 h4a1 h4a2 h5 h3 h2 h1 h0 s4 s5) ++ [(hO, .inl (cJ, 1, .inr (.inl sO)))])) hD hS hA [11, 12, 13, 14, 15, 25] rfl) hNc) rfl rfl hl.1 rfl (lv_room (Nat.le_of_ble_eq_true rfl)) dL_law_144 ⟨by show 26 + i + 1 ≤ 1058; omega, by show 405 + 6 * i + 6 ≤ 8645; omega⟩) (fun H locs hP hD hS => ?_)
    refine lv_istore (lv' := [(5, .int k_1), (0, .ref b), (1, .ref h5), (2, .ref h6), (3, .ref hO), (4, .int x4)]) hx hb dL_law_147 hl (by decide) rfl (fun ls hl => ?_)
    refine lv_aload_n hx hb dL_law_149 rfl (lv_at hl 3 rfl) ?_
    refine lv_aload_n hx hb dL_law_150 rfl (lv_at hl 1 rfl) ?_
    refine lv_iload hx hb dL_law_151 (lv_at hl 5 rfl) ?_
    refine lv_iconst (v := 1) hx hb dL_law_153 (by decide) ?_
    refine lv_iadd hx hb dL_law_154 ?_
    obtain ⟨hi_2, hf⟩ := ai_ok hf
    refine va_sld hx hb hX hbl hbA hS hi_2 dL_law_155 ?_
    refine lv_aload_n hx hb dL_law_156 rfl (lv_at hl 1 rfl) ?_
    refine lv_iload hx hb dL_law_157 (lv_at hl 5 rfl) ?_
    refine lv_iconst (v := 2) hx hb dL_law_159 (by decide) ?_
    refine lv_iadd hx hb dL_law_160 ?_
    obtain ⟨hi_3, hf⟩ := ai_ok hf
    refine va_sld hx hb hX hbl hbA hS hi_3 dL_law_161 ?_
    refine lv_aload_n hx hb dL_law_162 rfl (lv_at hl 1 rfl) ?_
    refine lv_iload hx hb dL_law_163 (lv_at hl 5 rfl) ?_
    refine lv_iconst (v := 3) hx hb dL_law_165 (by decide) ?_
    refine lv_iadd hx hb dL_law_166 ?_
    obtain ⟨hi_4, hf⟩ := ai_ok hf
    refine va_sld hx hb hX hbl hbA hS hi_4 dL_law_167 ?_
    refine lv_if_eq (tgt := 175) hx hb dL_law_168 (by decide) (fun c_5 => ?_) (fun c_5 => ?_)
    · have hf := it_t c_5 hf
      refine lv_iconst (v := 0) hx hb dL_law_175 (by decide) ?_
      exact J176 n i hi k23 hk23 s0 s1 s2 s3 (if k_1 = 0 then s4_1 else s4) s5 s6 (if k_1 = 0 then vp_updL sO 0 r_1.toInt64 else sO) x4 k_1 (xs (x4 + 1).toNatClampNeg) (xs (x4 + 2).toNatClampNeg) 0 _ _ hP hD hS _ (lv_sub hl [1, 2, 3, 4, 5, 0] rfl) hf
    · have hf := it_f c_5 hf
      refine lv_iconst (v := 1) hx hb dL_law_171 (by decide) ?_
      refine lv_goto (tgt := 176) hx hb dL_law_172 (by decide) ?_
      exact J176 n i hi k23 hk23 s0 s1 s2 s3 (if k_1 = 0 then s4_1 else s4) s5 s6 (if k_1 = 0 then vp_updL sO 0 r_1.toInt64 else sO) x4 k_1 (xs (x4 + 1).toNatClampNeg) (xs (x4 + 2).toNatClampNeg) 1 _ _ hP hD hS _ (lv_sub hl [1, 2, 3, 4, 5, 0] rfl) hf
  have J23 : ∀ (n i : Nat), i + n = 513 → ∀ (s0 : S0) (s1 : S1) (s2 : S2) (s3 : S3) (s4 : S4) (s5 : S5) (s6 : S6) (sO : SO) (x4 : Int32) (H : Heap) (locs : List Loc), va_P (dC, dI) vwCl (cf_0123456O cI cZ cJ h0 h1 h2 h2a2 h2a3 h2a4 h2a5 h2a6 h2a7 h3 h3a0 h4 h4a0 h4a1 h4a2 h5 h6 h6a1 h6a2 h6a3 h6a4 h6a5 h6a7 h6a17 h6a18 hO s0 s1 s2 s3 s4 s5 s6 sO) H → va_D A (cf_0123456O cI cZ cJ h0 h1 h2 h2a2 h2a3 h2a4 h2a5 h2a6 h2a7 h3 h3a0 h4 h4a0 h4a1 h4a2 h5 h6 h6a1 h6a2 h6a3 h6a4 h6a5 h6a7 h6a17 h6a18 hO s0 s1 s2 s3 s4 s5 s6 sO) → va_S A s.heap H locs → ∀ (ls : Array Slot), lv_has ls 7 [(0, .ref b), (1, .ref h5), (2, .ref h6), (3, .ref hO), (4, .int x4)] → fL_law_23 L xs n s0 s1 s2 s3 s4 s5 s6 sO x4 = some 1 → W p l e room_1 s m #[Value.ref b] below meth c H locs (26 + i) (405 + 6 * i) (lw_Z below #[Value.ref b] s) (F0 m 23 ls []) := by
    intro n
    induction n with
    | zero =>
      intro i hi s0 s1 s2 s3 s4 s5 s6 sO x4 H locs hP hD hS ls hl hf
      cases hf
    | succ n ih =>
      intro i hi s0 s1 s2 s3 s4 s5 s6 sO x4 H locs hP hD hS ls hl hf
      have hi : i + n + 1 = 513 := by omega
      rw [fL_law_23] at hf
      refine lv_iload hx hb dL_law_23 (lv_at hl 4 rfl) ?_
      refine lv_aload_n hx hb dL_law_25 rfl (lv_at hl 0 rfl) ?_
      refine va_slen hx hb hX hbl hbA hS dL_law_26 ?_
      refine lv_iconst (v := 4) hx hb dL_law_27 (by decide) ?_
      refine lv_isub hx hb dL_law_28 ?_
      refine lv_icmp_gt (tgt := 580) hx hb dL_law_29 (by decide) (fun c_1 => ?_) (fun c_1 => ?_)
      · have hf := it_t c_1 hf
        refine lv_iconst (v := 1) hx hb dL_law_580 (by decide) ?_
        have hf : (some 1 : Option Int32) = some 1 := hf
        refine va_forget (fun q hq => by have h9 := hS.2.2 q hq; rw [hAe] at h9; exact h9) ?_
        refine W.widen (k := 1058) (n := 8645) (by omega) (by omega) ?_
        exact lw_ret hx hb hr hlocks dL_law_581
      · have hf := it_f c_1 hf
        refine lv_aload_n hx hb dL_law_32 rfl (lv_at hl 0 rfl) ?_
        refine lv_iload hx hb dL_law_33 (lv_at hl 4 rfl) ?_
        obtain ⟨hi_2, hf⟩ := ai_ok hf
        refine va_sld hx hb hX hbl hbA hS hi_2 dL_law_35 ?_
        refine lv_bipush (v := 15) hx hb dL_law_36 (by decide) ?_
        refine lv_iand hx hb dL_law_38 ?_
        by_cases c_3 : ((xs x4.toNatClampNeg) &&& 15) = 0
        · have hf := it_t c_3 hf
          refine lv_tableIn (off := 77) (tgt := 116) hx hb dL_law_39 (by rw [c_3]; decide) (by rw [c_3]; decide) (by rw [c_3]; rfl) (by decide) ?_
          refine lv_aload_n hx hb dL_law_116 rfl (lv_at hl 1 rfl) ?_
          refine lv_aload_n hx hb dL_law_117 rfl (lv_at hl 0 rfl) ?_
          refine lv_iload hx hb dL_law_118 (lv_at hl 4 rfl) ?_
          refine lv_iconst (v := 1) hx hb dL_law_120 (by decide) ?_
          refine lv_iadd hx hb dL_law_121 ?_
          obtain ⟨hi_4, hf⟩ := ai_ok hf
          refine va_sld hx hb hX hbl hbA hS hi_4 dL_law_122 ?_
          refine lv_aload_n hx hb dL_law_123 rfl (lv_at hl 0 rfl) ?_
          refine lv_iload hx hb dL_law_124 (lv_at hl 4 rfl) ?_
          refine lv_iconst (v := 2) hx hb dL_law_126 (by decide) ?_
          refine lv_iadd hx hb dL_law_127 ?_
          obtain ⟨hi_5, hf⟩ := ai_ok hf
          refine va_sld hx hb hX hbl hbA hS hi_5 dL_law_128 ?_
          refine lv_aload_n hx hb dL_law_129 rfl (lv_at hl 0 rfl) ?_
          refine lv_iload hx hb dL_law_130 (lv_at hl 4 rfl) ?_
          refine lv_iconst (v := 3) hx hb dL_law_132 (by decide) ?_
          refine lv_iadd hx hb dL_law_133 ?_
          obtain ⟨hi_6, hf⟩ := ai_ok hf
          refine va_sld hx hb hX hbl hbA hS hi_6 dL_law_134 ?_
          refine lv_if_eq (tgt := 142) hx hb dL_law_135 (by decide) (fun c_7 => ?_) (fun c_7 => ?_)
          · have hf := it_t c_7 hf
            refine lv_iconst (v := 0) hx hb dL_law_142 (by decide) ?_
            exact J143 n i hi (fun s0 s1 s2 s3 s4 s5 s6 sO x4 => fL_law_23 L xs n s0 s1 s2 s3 s4 s5 s6 sO x4) (fun s0 s1 s2 s3 s4 s5 s6 sO x4 H locs hP hD hS ls hl hf => ih (i + 1) (by omega) s0 s1 s2 s3 s4 s5 s6 sO x4 H locs hP hD hS ls hl hf) s0 s1 s2 s3 s4 s5 s6 sO x4 (xs (x4 + 1).toNatClampNeg) (xs (x4 + 2).toNatClampNeg) 0 _ _ hP hD hS _ (lv_sub hl [0, 1, 2, 3, 4] rfl) hf
          · have hf := it_f c_7 hf
            refine lv_iconst (v := 1) hx hb dL_law_138 (by decide) ?_
            refine lv_goto (tgt := 143) hx hb dL_law_139 (by decide) ?_
            exact J143 n i hi (fun s0 s1 s2 s3 s4 s5 s6 sO x4 => fL_law_23 L xs n s0 s1 s2 s3 s4 s5 s6 sO x4) (fun s0 s1 s2 s3 s4 s5 s6 sO x4 H locs hP hD hS ls hl hf => ih (i + 1) (by omega) s0 s1 s2 s3 s4 s5 s6 sO x4 H locs hP hD hS ls hl hf) s0 s1 s2 s3 s4 s5 s6 sO x4 (xs (x4 + 1).toNatClampNeg) (xs (x4 + 2).toNatClampNeg) 1 _ _ hP hD hS _ (lv_sub hl [0, 1, 2, 3, 4] rfl) hf
        have hf := it_f c_3 hf
        by_cases c_8 : ((xs x4.toNatClampNeg) &&& 15) = 1
        · have hf := it_t c_8 hf
          refine lv_tableIn (off := 173) (tgt := 212) hx hb dL_law_39 (by rw [c_8]; decide) (by rw [c_8]; decide) (by rw [c_8]; rfl) (by decide) ?_
          refine lv_aload_n hx hb dL_law_212 rfl (lv_at hl 1 rfl) ?_
          refine lv_aload_n hx hb dL_law_213 rfl (lv_at hl 0 rfl) ?_
          refine lv_iload hx hb dL_law_214 (lv_at hl 4 rfl) ?_
          refine lv_iconst (v := 1) hx hb dL_law_216 (by decide) ?_
          refine lv_iadd hx hb dL_law_217 ?_
          obtain ⟨hi_9, hf⟩ := ai_ok hf
          refine va_sld hx hb hX hbl hbA hS hi_9 dL_law_218 ?_
          refine lv_aload_n hx hb dL_law_219 rfl (lv_at hl 3 rfl) ?_
          obtain ⟨k_10, r_10, hc_10, hf⟩ := bn2_ok hf
          refine gc_h (wc := ((cf_45 cI h4 h4a0 h4a1 h4a2 h5 h3 h2 h1 h0 s4 s5) ++ [(hO, .inl (cJ, 1, .inr (.inl sO)))])) (wr := (cf_01236 cI cZ h0 h1 h2 h2a2 h2a3 h2a4 h2a5 h2a6 h2a7 h3 h3a0 h6 h6a1 h6a2 h6a3 h6a4 h6a5 h6a7 h6a17 h6a18 h4 s0 s1 s2 s3 s6)) (w1 := ((cf_45 cI h4 h4a0 h4a1 h4a2 h5 h3 h2 h1 h0 s4 s5) ++ [(hO, .inl (cJ, 1, .inr (.inl (if k_10 = 0 then vp_updL sO 0 r_10.toInt64 else sO))))])) (ws' := (cf_0123456O cI cZ cJ h0 h1 h2 h2a2 h2a3 h2a4 h2a5 h2a6 h2a7 h3 h3a0 h4 h4a0 h4a1 h4a2 h5 h6 h6a1 h6a2 h6a3 h6a4 h6a5 h6a7 h6a17 h6a18 hO s0 s1 s2 s3 s4 s5 s6 (if k_10 = 0 then vp_updL sO 0 r_10.toInt64 else sO))) hP hD hS hA [11, 12, 13, 14, 15, 25] [0, 1, 2, 3, 4, 5, 6, 7, 8, 9, 10, 16, 17, 18, 19, 20, 21, 22, 23, 24] [0, 1, 2, 3, 4, 5, 6, 7, 8, 9, 10, 20, 21, 22, 23, 24, 11, 12, 13, 14, 15, 16, 17, 18, 19, 25] rfl rfl (by decide) (by decide) rfl (by decide) (vx_runSW (As := [.ref h5, .int (xs (x4 + 1).toNatClampNeg), .ref hO]) (rest := []) ⟨hx, hb, hml, hown, hts⟩ (ktL_placeOf l hst dC dI cI cJ h4 h4a0 h4a1 h4a2 h5 h3 h2 h1 h0 hO _ s4 s5 sO (xs (x4 + 1).toNatClampNeg) k_10 r_10 (if k_10 = 0 then vp_updL sO 0 r_10.toInt64 else sO) hc_10 (fun q => if_pos q) (fun q => if_neg q)) (vx_cwSW 3 hts gL_law_L_placeOf rfl rfl rfl (by decide +kernel) ⟨Nat.le_of_ble_eq_true rfl, Nat.le_of_ble_eq_true rfl⟩) (gx_S (hP.sub (ws' := ((cf_45 cI h4 h4a0 h4a1 h4a2 h5 h3 h2 h1 h0 s4 s5) ++ [(hO, .inl (cJ, 1, .inr (.inl sO)))])) [11, 12, 13, 14, 15, 25] rfl) (hK.sub (tys' := [(cI, .int), (cJ, .long)]) [0, 2] rfl) (hD.sub (ws' := ((cf_45 cI h4 h4a0 h4a1 h4a2 h5 h3 h2 h1 h0 s4 s5) ++ [(hO, .inl (cJ, 1, .inr (.inl sO)))])) [11, 12, 13, 14, 15, 25] (by decide) rfl) hN hSW hXW (zq.kept hZ (fun q h1 h2 => hS.2.1 q h1 h2)) (va_free (wc := ((cf_45 cI h4 h4a0 h4a1 h4a2 h5 h3 h2 h1 h0 s4 s5) ++ [(hO, .inl (cJ, 1, .inr (.inl sO)))])) hD hS hA [11, 12, 13, 14, 15, 25] rfl) hNc) rfl rfl hl.1 rfl (lv_room (Nat.le_of_ble_eq_true rfl)) dL_law_220 ⟨by show 26 + i + 1 ≤ 1058; omega, by show 405 + 6 * i + 6 ≤ 8645; omega⟩) (fun H locs hP hD hS => ?_)
          refine lv_istore (lv' := [(5, .int k_10), (0, .ref b), (1, .ref h5), (2, .ref h6), (3, .ref hO), (4, .int x4)]) hx hb dL_law_223 hl (by decide) rfl (fun ls hl => ?_)
          refine lv_aload_n hx hb dL_law_225 rfl (lv_at hl 3 rfl) ?_
          refine lv_aload_n hx hb dL_law_226 rfl (lv_at hl 1 rfl) ?_
          refine lv_iload hx hb dL_law_227 (lv_at hl 5 rfl) ?_
          refine lv_iconst (v := 1) hx hb dL_law_229 (by decide) ?_
          refine lv_iadd hx hb dL_law_230 ?_
          obtain ⟨hi_11, hf⟩ := ai_ok hf
          refine va_sld hx hb hX hbl hbA hS hi_11 dL_law_231 ?_
          obtain ⟨r_12, s6_12, hc_12, hf⟩ := bn2_ok hf
          refine gc_i (wc := (cf_6 cI cZ h6 h6a1 h6a2 h6a3 h6a4 h6a5 h6a7 h6a17 h6a18 s6)) (wr := (cf_012345O cI cJ h0 h1 h2 h2a2 h2a3 h2a4 h2a5 h2a6 h2a7 h3 h3a0 h4 h4a0 h4a1 h4a2 h5 hO s0 s1 s2 s3 s4 s5 (if k_10 = 0 then vp_updL sO 0 r_10.toInt64 else sO))) (w1 := (cf_6 cI cZ h6 h6a1 h6a2 h6a3 h6a4 h6a5 h6a7 h6a17 h6a18 s6_12)) (ws' := (cf_0123456O cI cZ cJ h0 h1 h2 h2a2 h2a3 h2a4 h2a5 h2a6 h2a7 h3 h3a0 h4 h4a0 h4a1 h4a2 h5 h6 h6a1 h6a2 h6a3 h6a4 h6a5 h6a7 h6a17 h6a18 hO s0 s1 s2 s3 s4 s5 s6_12 (if k_10 = 0 then vp_updL sO 0 r_10.toInt64 else sO))) hP hD hS hA [16, 17, 18, 19, 20, 21, 22, 23, 24] [0, 1, 2, 3, 4, 5, 6, 7, 8, 9, 10, 11, 12, 13, 14, 15, 25] [0, 1, 2, 3, 4, 5, 6, 7, 8, 9, 10, 11, 12, 13, 14, 15, 17, 18, 19, 20, 21, 22, 23, 24, 25, 16] rfl rfl (by decide) (by decide) rfl (by decide) (va_runV (As := [.int (xs (x4 + 1).toNatClampNeg)]) (rest := []) ⟨hx, hb, hml, hown, hts⟩ (ktX6_placeOf l dC dI cI cZ h6 h6a1 h6a2 h6a3 h6a4 h6a5 h6a7 h6a17 h6a18 _ s6 (xs (x4 + 1).toNatClampNeg) r_12 s6_12 hc_12) (cwV 1 hts gL_law_X6_placeOf rfl rfl rfl (by decide +kernel) ⟨Nat.le_of_ble_eq_true rfl, Nat.le_of_ble_eq_true rfl⟩) (gc_V (ci := 6) (q0 := 0) (C := RX6) (T := TX6) (N := 25) (hP.sub (ws' := (cf_6 cI cZ h6 h6a1 h6a2 h6a3 h6a4 h6a5 h6a7 h6a17 h6a18 s6)) [16, 17, 18, 19, 20, 21, 22, 23, 24] rfl) (hK.sub (tys' := [(cI, .int), (cZ, .boolean)]) [0, 1] rfl) (hD.sub (ws' := (cf_6 cI cZ h6 h6a1 h6a2 h6a3 h6a4 h6a5 h6a7 h6a17 h6a18 s6)) [16, 17, 18, 19, 20, 21, 22, 23, 24] (by decide) rfl) hN rfl rfl) rfl rfl hl.1 rfl (lv_room (Nat.le_of_ble_eq_true rfl)) dL_law_232 ⟨by show 26 + i + 1 + 0 ≤ 1058; omega, by show 405 + 6 * i + 6 + 0 ≤ 8645; omega⟩) (fun H locs hP hD hS => ?_)
          refine lv_istore (lv' := [(6, .int r_12), (5, .int k_10), (0, .ref b), (1, .ref h5), (2, .ref h6), (3, .ref hO), (4, .int x4)]) hx hb dL_law_235 hl (by decide) rfl (fun ls hl => ?_)
          refine lv_aload_n hx hb dL_law_237 rfl (lv_at hl 4 rfl) ?_
          obtain ⟨r_13, hc_13, hf⟩ := bn1_ok hf
          refine gc_i (wc := (cf_6 cI cZ h6 h6a1 h6a2 h6a3 h6a4 h6a5 h6a7 h6a17 h6a18 s6_12)) (wr := (cf_012345O cI cJ h0 h1 h2 h2a2 h2a3 h2a4 h2a5 h2a6 h2a7 h3 h3a0 h4 h4a0 h4a1 h4a2 h5 hO s0 s1 s2 s3 s4 s5 (if k_10 = 0 then vp_updL sO 0 r_10.toInt64 else sO))) (w1 := (cf_6 cI cZ h6 h6a1 h6a2 h6a3 h6a4 h6a5 h6a7 h6a17 h6a18 s6_12)) (ws' := (cf_0123456O cI cZ cJ h0 h1 h2 h2a2 h2a3 h2a4 h2a5 h2a6 h2a7 h3 h3a0 h4 h4a0 h4a1 h4a2 h5 h6 h6a1 h6a2 h6a3 h6a4 h6a5 h6a7 h6a17 h6a18 hO s0 s1 s2 s3 s4 s5 s6_12 (if k_10 = 0 then vp_updL sO 0 r_10.toInt64 else sO))) hP hD hS hA [16, 17, 18, 19, 20, 21, 22, 23, 24] [0, 1, 2, 3, 4, 5, 6, 7, 8, 9, 10, 11, 12, 13, 14, 15, 25] [0, 1, 2, 3, 4, 5, 6, 7, 8, 9, 10, 11, 12, 13, 14, 15, 17, 18, 19, 20, 21, 22, 23, 24, 25, 16] rfl rfl (by decide) (by decide) rfl (by decide) (va_runV (As := []) (rest := []) ⟨hx, hb, hml, hown, hts⟩ (ktX6_thrown l dC dI cI cZ h6 h6a1 h6a2 h6a3 h6a4 h6a5 h6a7 h6a17 h6a18 _ s6_12 r_13 hc_13) (cwV 0 hts gL_law_X6_thrown rfl rfl rfl (by decide +kernel) ⟨Nat.le_of_ble_eq_true rfl, Nat.le_of_ble_eq_true rfl⟩) (gc_V (ci := 6) (q0 := 0) (C := RX6) (T := TX6) (N := 25) (hP.sub (ws' := (cf_6 cI cZ h6 h6a1 h6a2 h6a3 h6a4 h6a5 h6a7 h6a17 h6a18 s6_12)) [16, 17, 18, 19, 20, 21, 22, 23, 24] rfl) (hK.sub (tys' := [(cI, .int), (cZ, .boolean)]) [0, 1] rfl) (hD.sub (ws' := (cf_6 cI cZ h6 h6a1 h6a2 h6a3 h6a4 h6a5 h6a7 h6a17 h6a18 s6_12)) [16, 17, 18, 19, 20, 21, 22, 23, 24] (by decide) rfl) hN rfl rfl) rfl rfl hl.1 rfl (lv_room (Nat.le_of_ble_eq_true rfl)) dL_law_238 ⟨by show 26 + i + 1 + 0 ≤ 1058; omega, by show 405 + 6 * i + 6 + 0 ≤ 8645; omega⟩) (fun H locs hP hD hS => ?_)
          refine lv_iload hx hb dL_law_241 (lv_at hl 1 rfl) ?_
          refine lv_icmp_eq (tgt := 248) hx hb dL_law_243 (by decide) (fun c_14 => ?_) (fun c_14 => ?_)
          · have hf := it_t c_14 hf
            refine lv_iload hx hb dL_law_248 (lv_at hl 1 rfl) ?_
            refine lv_if_ne (tgt := 265) hx hb dL_law_250 (by decide) (fun c_15 => ?_) (fun c_15 => ?_)
            · have hf := it_f c_15 hf
              exact J265 n i hi (fun s0 s1 s2 s3 s4 s5 s6 sO x4 => fL_law_23 L xs n s0 s1 s2 s3 s4 s5 s6 sO x4) (fun s0 s1 s2 s3 s4 s5 s6 sO x4 H locs hP hD hS ls hl hf => ih (i + 1) (by omega) s0 s1 s2 s3 s4 s5 s6 sO x4 H locs hP hD hS ls hl hf) s0 s1 s2 s3 s4 s5 s6_12 (if k_10 = 0 then vp_updL sO 0 r_10.toInt64 else sO) x4 _ _ hP hD hS _ (lv_sub hl [2, 3, 4, 5, 6] rfl) hf
            · have hf := it_t c_15 hf
              refine lv_aload_n hx hb dL_law_253 rfl (lv_at hl 5 rfl) ?_
              refine lv_iconst (v := 0) hx hb dL_law_254 (by decide) ?_
              refine va_lald hx hb hK hP 25 2 rfl rfl (show vp_in 0 1 by unfold vp_in; decide) dL_law_255 ?_
              refine lv_iload hx hb dL_law_256 (lv_at hl 0 rfl) ?_
              refine lv_i2l (v := r_12.toInt64) hx hb dL_law_258 rfl ?_
              refine W.lcmp hx hb dL_law_259 ?_
              refine lv_if_eq (tgt := 265) hx hb dL_law_260 (by decide) (fun c_16 => ?_) (fun c_16 => ?_)
              · have hf := it_t c_16 hf
                exact J265 n i hi (fun s0 s1 s2 s3 s4 s5 s6 sO x4 => fL_law_23 L xs n s0 s1 s2 s3 s4 s5 s6 sO x4) (fun s0 s1 s2 s3 s4 s5 s6 sO x4 H locs hP hD hS ls hl hf => ih (i + 1) (by omega) s0 s1 s2 s3 s4 s5 s6 sO x4 H locs hP hD hS ls hl hf) s0 s1 s2 s3 s4 s5 s6_12 (if k_10 = 0 then vp_updL sO 0 r_10.toInt64 else sO) x4 _ _ hP hD hS _ (lv_sub hl [2, 3, 4, 5, 6] rfl) hf
              · have hf := it_f c_16 hf
                refine lv_iconst (v := 0) hx hb dL_law_263 (by decide) ?_
                have hf : (some 0 : Option Int32) = some 1 := hf
                exact absurd (Option.some.inj hf) (by decide)
          · have hf := it_f c_14 hf
            refine lv_iconst (v := 0) hx hb dL_law_246 (by decide) ?_
            have hf : (some 0 : Option Int32) = some 1 := hf
            exact absurd (Option.some.inj hf) (by decide)
        have hf := it_f c_8 hf
        by_cases c_17 : ((xs x4.toNatClampNeg) &&& 15) = 2
        · have hf := it_t c_17 hf
          refine lv_tableIn (off := 229) (tgt := 268) hx hb dL_law_39 (by rw [c_17]; decide) (by rw [c_17]; decide) (by rw [c_17]; rfl) (by decide) ?_
          refine lv_aload_n hx hb dL_law_268 rfl (lv_at hl 1 rfl) ?_
          refine lv_aload_n hx hb dL_law_269 rfl (lv_at hl 0 rfl) ?_
          refine lv_iload hx hb dL_law_270 (lv_at hl 4 rfl) ?_
          refine lv_iconst (v := 1) hx hb dL_law_272 (by decide) ?_
          refine lv_iadd hx hb dL_law_273 ?_
          obtain ⟨hi_18, hf⟩ := ai_ok hf
          refine va_sld hx hb hX hbl hbA hS hi_18 dL_law_274 ?_
          refine lv_aload_n hx hb dL_law_275 rfl (lv_at hl 3 rfl) ?_
          obtain ⟨k_19, r_19, hc_19, hf⟩ := bn2_ok hf
          refine gc_h (wc := ((cf_45 cI h4 h4a0 h4a1 h4a2 h5 h3 h2 h1 h0 s4 s5) ++ [(hO, .inl (cJ, 1, .inr (.inl sO)))])) (wr := (cf_01236 cI cZ h0 h1 h2 h2a2 h2a3 h2a4 h2a5 h2a6 h2a7 h3 h3a0 h6 h6a1 h6a2 h6a3 h6a4 h6a5 h6a7 h6a17 h6a18 h4 s0 s1 s2 s3 s6)) (w1 := ((cf_45 cI h4 h4a0 h4a1 h4a2 h5 h3 h2 h1 h0 s4 s5) ++ [(hO, .inl (cJ, 1, .inr (.inl (if k_19 = 0 then vp_updL sO 0 (if r_19 = 0 then 0 else 1) else sO))))])) (ws' := (cf_0123456O cI cZ cJ h0 h1 h2 h2a2 h2a3 h2a4 h2a5 h2a6 h2a7 h3 h3a0 h4 h4a0 h4a1 h4a2 h5 h6 h6a1 h6a2 h6a3 h6a4 h6a5 h6a7 h6a17 h6a18 hO s0 s1 s2 s3 s4 s5 s6 (if k_19 = 0 then vp_updL sO 0 (if r_19 = 0 then 0 else 1) else sO))) hP hD hS hA [11, 12, 13, 14, 15, 25] [0, 1, 2, 3, 4, 5, 6, 7, 8, 9, 10, 16, 17, 18, 19, 20, 21, 22, 23, 24] [0, 1, 2, 3, 4, 5, 6, 7, 8, 9, 10, 20, 21, 22, 23, 24, 11, 12, 13, 14, 15, 16, 17, 18, 19, 25] rfl rfl (by decide) (by decide) rfl (by decide) (vx_runSW (As := [.ref h5, .int (xs (x4 + 1).toNatClampNeg), .ref hO]) (rest := []) ⟨hx, hb, hml, hown, hts⟩ (ktL_isOpen l hst dC dI cI cJ h4 h4a0 h4a1 h4a2 h5 h3 h2 h1 h0 hO _ s4 s5 sO (xs (x4 + 1).toNatClampNeg) k_19 r_19 (if k_19 = 0 then vp_updL sO 0 (if r_19 = 0 then 0 else 1) else sO) hc_19 (fun q => if_pos q) (fun q => if_neg q)) (vx_cwSW 3 hts gL_law_L_isOpen rfl rfl rfl (by decide +kernel) ⟨Nat.le_of_ble_eq_true rfl, Nat.le_of_ble_eq_true rfl⟩) (gx_S (hP.sub (ws' := ((cf_45 cI h4 h4a0 h4a1 h4a2 h5 h3 h2 h1 h0 s4 s5) ++ [(hO, .inl (cJ, 1, .inr (.inl sO)))])) [11, 12, 13, 14, 15, 25] rfl) (hK.sub (tys' := [(cI, .int), (cJ, .long)]) [0, 2] rfl) (hD.sub (ws' := ((cf_45 cI h4 h4a0 h4a1 h4a2 h5 h3 h2 h1 h0 s4 s5) ++ [(hO, .inl (cJ, 1, .inr (.inl sO)))])) [11, 12, 13, 14, 15, 25] (by decide) rfl) hN hSW hXW (zq.kept hZ (fun q h1 h2 => hS.2.1 q h1 h2)) (va_free (wc := ((cf_45 cI h4 h4a0 h4a1 h4a2 h5 h3 h2 h1 h0 s4 s5) ++ [(hO, .inl (cJ, 1, .inr (.inl sO)))])) hD hS hA [11, 12, 13, 14, 15, 25] rfl) hNc) rfl rfl hl.1 rfl (lv_room (Nat.le_of_ble_eq_true rfl)) dL_law_276 ⟨by show 26 + i + 1 ≤ 1058; omega, by show 405 + 6 * i + 6 ≤ 8645; omega⟩) (fun H locs hP hD hS => ?_)
          refine lv_istore (lv' := [(5, .int k_19), (0, .ref b), (1, .ref h5), (2, .ref h6), (3, .ref hO), (4, .int x4)]) hx hb dL_law_279 hl (by decide) rfl (fun ls hl => ?_)
          refine lv_aload_n hx hb dL_law_281 rfl (lv_at hl 3 rfl) ?_
          refine lv_aload_n hx hb dL_law_282 rfl (lv_at hl 1 rfl) ?_
          refine lv_iload hx hb dL_law_283 (lv_at hl 5 rfl) ?_
          refine lv_iconst (v := 1) hx hb dL_law_285 (by decide) ?_
          refine lv_iadd hx hb dL_law_286 ?_
          obtain ⟨hi_20, hf⟩ := ai_ok hf
          refine va_sld hx hb hX hbl hbA hS hi_20 dL_law_287 ?_
          obtain ⟨r_21, s6_21, hc_21, hf⟩ := bn2_ok hf
          refine gc_i (wc := (cf_6 cI cZ h6 h6a1 h6a2 h6a3 h6a4 h6a5 h6a7 h6a17 h6a18 s6)) (wr := (cf_012345O cI cJ h0 h1 h2 h2a2 h2a3 h2a4 h2a5 h2a6 h2a7 h3 h3a0 h4 h4a0 h4a1 h4a2 h5 hO s0 s1 s2 s3 s4 s5 (if k_19 = 0 then vp_updL sO 0 (if r_19 = 0 then 0 else 1) else sO))) (w1 := (cf_6 cI cZ h6 h6a1 h6a2 h6a3 h6a4 h6a5 h6a7 h6a17 h6a18 s6_21)) (ws' := (cf_0123456O cI cZ cJ h0 h1 h2 h2a2 h2a3 h2a4 h2a5 h2a6 h2a7 h3 h3a0 h4 h4a0 h4a1 h4a2 h5 h6 h6a1 h6a2 h6a3 h6a4 h6a5 h6a7 h6a17 h6a18 hO s0 s1 s2 s3 s4 s5 s6_21 (if k_19 = 0 then vp_updL sO 0 (if r_19 = 0 then 0 else 1) else sO))) hP hD hS hA [16, 17, 18, 19, 20, 21, 22, 23, 24] [0, 1, 2, 3, 4, 5, 6, 7, 8, 9, 10, 11, 12, 13, 14, 15, 25] [0, 1, 2, 3, 4, 5, 6, 7, 8, 9, 10, 11, 12, 13, 14, 15, 17, 18, 19, 20, 21, 22, 23, 24, 25, 16] rfl rfl (by decide) (by decide) rfl (by decide) (va_runV (As := [.int (xs (x4 + 1).toNatClampNeg)]) (rest := []) ⟨hx, hb, hml, hown, hts⟩ (ktX6_isOpen l dC dI cI cZ h6 h6a1 h6a2 h6a3 h6a4 h6a5 h6a7 h6a17 h6a18 _ s6 (xs (x4 + 1).toNatClampNeg) r_21 s6_21 hc_21) (cwV 1 hts gL_law_X6_isOpen rfl rfl rfl (by decide +kernel) ⟨Nat.le_of_ble_eq_true rfl, Nat.le_of_ble_eq_true rfl⟩) (gc_V (ci := 6) (q0 := 0) (C := RX6) (T := TX6) (N := 25) (hP.sub (ws' := (cf_6 cI cZ h6 h6a1 h6a2 h6a3 h6a4 h6a5 h6a7 h6a17 h6a18 s6)) [16, 17, 18, 19, 20, 21, 22, 23, 24] rfl) (hK.sub (tys' := [(cI, .int), (cZ, .boolean)]) [0, 1] rfl) (hD.sub (ws' := (cf_6 cI cZ h6 h6a1 h6a2 h6a3 h6a4 h6a5 h6a7 h6a17 h6a18 s6)) [16, 17, 18, 19, 20, 21, 22, 23, 24] (by decide) rfl) hN rfl rfl) rfl rfl hl.1 rfl (lv_room (Nat.le_of_ble_eq_true rfl)) dL_law_288 ⟨by show 26 + i + 1 + 0 ≤ 1058; omega, by show 405 + 6 * i + 6 + 0 ≤ 8645; omega⟩) (fun H locs hP hD hS => ?_)
          refine lv_istore (lv' := [(6, .int r_21), (5, .int k_19), (0, .ref b), (1, .ref h5), (2, .ref h6), (3, .ref hO), (4, .int x4)]) hx hb dL_law_291 hl (by decide) rfl (fun ls hl => ?_)
          refine lv_aload_n hx hb dL_law_293 rfl (lv_at hl 4 rfl) ?_
          obtain ⟨r_22, hc_22, hf⟩ := bn1_ok hf
          refine gc_i (wc := (cf_6 cI cZ h6 h6a1 h6a2 h6a3 h6a4 h6a5 h6a7 h6a17 h6a18 s6_21)) (wr := (cf_012345O cI cJ h0 h1 h2 h2a2 h2a3 h2a4 h2a5 h2a6 h2a7 h3 h3a0 h4 h4a0 h4a1 h4a2 h5 hO s0 s1 s2 s3 s4 s5 (if k_19 = 0 then vp_updL sO 0 (if r_19 = 0 then 0 else 1) else sO))) (w1 := (cf_6 cI cZ h6 h6a1 h6a2 h6a3 h6a4 h6a5 h6a7 h6a17 h6a18 s6_21)) (ws' := (cf_0123456O cI cZ cJ h0 h1 h2 h2a2 h2a3 h2a4 h2a5 h2a6 h2a7 h3 h3a0 h4 h4a0 h4a1 h4a2 h5 h6 h6a1 h6a2 h6a3 h6a4 h6a5 h6a7 h6a17 h6a18 hO s0 s1 s2 s3 s4 s5 s6_21 (if k_19 = 0 then vp_updL sO 0 (if r_19 = 0 then 0 else 1) else sO))) hP hD hS hA [16, 17, 18, 19, 20, 21, 22, 23, 24] [0, 1, 2, 3, 4, 5, 6, 7, 8, 9, 10, 11, 12, 13, 14, 15, 25] [0, 1, 2, 3, 4, 5, 6, 7, 8, 9, 10, 11, 12, 13, 14, 15, 17, 18, 19, 20, 21, 22, 23, 24, 25, 16] rfl rfl (by decide) (by decide) rfl (by decide) (va_runV (As := []) (rest := []) ⟨hx, hb, hml, hown, hts⟩ (ktX6_thrown l dC dI cI cZ h6 h6a1 h6a2 h6a3 h6a4 h6a5 h6a7 h6a17 h6a18 _ s6_21 r_22 hc_22) (cwV 0 hts gL_law_X6_thrown rfl rfl rfl (by decide +kernel) ⟨Nat.le_of_ble_eq_true rfl, Nat.le_of_ble_eq_true rfl⟩) (gc_V (ci := 6) (q0 := 0) (C := RX6) (T := TX6) (N := 25) (hP.sub (ws' := (cf_6 cI cZ h6 h6a1 h6a2 h6a3 h6a4 h6a5 h6a7 h6a17 h6a18 s6_21)) [16, 17, 18, 19, 20, 21, 22, 23, 24] rfl) (hK.sub (tys' := [(cI, .int), (cZ, .boolean)]) [0, 1] rfl) (hD.sub (ws' := (cf_6 cI cZ h6 h6a1 h6a2 h6a3 h6a4 h6a5 h6a7 h6a17 h6a18 s6_21)) [16, 17, 18, 19, 20, 21, 22, 23, 24] (by decide) rfl) hN rfl rfl) rfl rfl hl.1 rfl (lv_room (Nat.le_of_ble_eq_true rfl)) dL_law_294 ⟨by show 26 + i + 1 + 0 ≤ 1058; omega, by show 405 + 6 * i + 6 + 0 ≤ 8645; omega⟩) (fun H locs hP hD hS => ?_)
          refine lv_iload hx hb dL_law_297 (lv_at hl 1 rfl) ?_
          refine lv_icmp_eq (tgt := 304) hx hb dL_law_299 (by decide) (fun c_23 => ?_) (fun c_23 => ?_)
          · have hf := it_t c_23 hf
            refine lv_iload hx hb dL_law_304 (lv_at hl 1 rfl) ?_
            refine lv_if_ne (tgt := 328) hx hb dL_law_306 (by decide) (fun c_24 => ?_) (fun c_24 => ?_)
            · have hf := it_f c_24 hf
              exact J328 n i hi (fun s0 s1 s2 s3 s4 s5 s6 sO x4 => fL_law_23 L xs n s0 s1 s2 s3 s4 s5 s6 sO x4) (fun s0 s1 s2 s3 s4 s5 s6 sO x4 H locs hP hD hS ls hl hf => ih (i + 1) (by omega) s0 s1 s2 s3 s4 s5 s6 sO x4 H locs hP hD hS ls hl hf) s0 s1 s2 s3 s4 s5 s6_21 (if k_19 = 0 then vp_updL sO 0 (if r_19 = 0 then 0 else 1) else sO) x4 _ _ hP hD hS _ (lv_sub hl [2, 3, 4, 5, 6] rfl) hf
            · have hf := it_t c_24 hf
              refine lv_aload_n hx hb dL_law_309 rfl (lv_at hl 5 rfl) ?_
              refine lv_iconst (v := 0) hx hb dL_law_310 (by decide) ?_
              refine va_lald hx hb hK hP 25 2 rfl rfl (show vp_in 0 1 by unfold vp_in; decide) dL_law_311 ?_
              refine lv_iload hx hb dL_law_312 (lv_at hl 0 rfl) ?_
              refine lv_if_eq (tgt := 321) hx hb dL_law_314 (by decide) (fun c_25 => ?_) (fun c_25 => ?_)
              · have hf := it_t c_25 hf
                refine lv_lconst (v := 0) hx hb dL_law_321 (by decide) ?_
                refine W.lcmp hx hb dL_law_322 ?_
                refine lv_if_eq (tgt := 328) hx hb dL_law_323 (by decide) (fun c_26 => ?_) (fun c_26 => ?_)
                · have hf := it_t c_26 hf
                  exact J328 n i hi (fun s0 s1 s2 s3 s4 s5 s6 sO x4 => fL_law_23 L xs n s0 s1 s2 s3 s4 s5 s6 sO x4) (fun s0 s1 s2 s3 s4 s5 s6 sO x4 H locs hP hD hS ls hl hf => ih (i + 1) (by omega) s0 s1 s2 s3 s4 s5 s6 sO x4 H locs hP hD hS ls hl hf) s0 s1 s2 s3 s4 s5 s6_21 (if k_19 = 0 then vp_updL sO 0 (if r_19 = 0 then 0 else 1) else sO) x4 _ _ hP hD hS _ (lv_sub hl [2, 3, 4, 5, 6] rfl) hf
                · have hf := it_f c_26 hf
                  refine lv_iconst (v := 0) hx hb dL_law_326 (by decide) ?_
                  have hf : (some 0 : Option Int32) = some 1 := hf
                  exact absurd (Option.some.inj hf) (by decide)
              · have hf := it_f c_25 hf
                refine lv_lconst (v := 1) hx hb dL_law_317 (by decide) ?_
                refine lv_goto (tgt := 322) hx hb dL_law_318 (by decide) ?_
                refine W.lcmp hx hb dL_law_322 ?_
                refine lv_if_eq (tgt := 328) hx hb dL_law_323 (by decide) (fun c_27 => ?_) (fun c_27 => ?_)
                · have hf := it_t c_27 hf
                  exact J328 n i hi (fun s0 s1 s2 s3 s4 s5 s6 sO x4 => fL_law_23 L xs n s0 s1 s2 s3 s4 s5 s6 sO x4) (fun s0 s1 s2 s3 s4 s5 s6 sO x4 H locs hP hD hS ls hl hf => ih (i + 1) (by omega) s0 s1 s2 s3 s4 s5 s6 sO x4 H locs hP hD hS ls hl hf) s0 s1 s2 s3 s4 s5 s6_21 (if k_19 = 0 then vp_updL sO 0 (if r_19 = 0 then 0 else 1) else sO) x4 _ _ hP hD hS _ (lv_sub hl [2, 3, 4, 5, 6] rfl) hf
                · have hf := it_f c_27 hf
                  refine lv_iconst (v := 0) hx hb dL_law_326 (by decide) ?_
                  have hf : (some 0 : Option Int32) = some 1 := hf
                  exact absurd (Option.some.inj hf) (by decide)
          · have hf := it_f c_23 hf
            refine lv_iconst (v := 0) hx hb dL_law_302 (by decide) ?_
            have hf : (some 0 : Option Int32) = some 1 := hf
            exact absurd (Option.some.inj hf) (by decide)
        have hf := it_f c_17 hf
        by_cases c_28 : ((xs x4.toNatClampNeg) &&& 15) = 3
        · have hf := it_t c_28 hf
          refine lv_tableIn (off := 292) (tgt := 331) hx hb dL_law_39 (by rw [c_28]; decide) (by rw [c_28]; decide) (by rw [c_28]; rfl) (by decide) ?_
          refine lv_aload_n hx hb dL_law_331 rfl (lv_at hl 1 rfl) ?_
          obtain ⟨r_29, hc_29, hf⟩ := bn1_ok hf
          refine gc_i (wc := (cf_45 cI h4 h4a0 h4a1 h4a2 h5 h3 h2 h1 h0 s4 s5)) (wr := (cf_01236O cI cZ cJ h0 h1 h2 h2a2 h2a3 h2a4 h2a5 h2a6 h2a7 h3 h3a0 h6 h6a1 h6a2 h6a3 h6a4 h6a5 h6a7 h6a17 h6a18 hO h4 s0 s1 s2 s3 s6 sO)) (w1 := (cf_45 cI h4 h4a0 h4a1 h4a2 h5 h3 h2 h1 h0 s4 s5)) (ws' := (cf_0123456O cI cZ cJ h0 h1 h2 h2a2 h2a3 h2a4 h2a5 h2a6 h2a7 h3 h3a0 h4 h4a0 h4a1 h4a2 h5 h6 h6a1 h6a2 h6a3 h6a4 h6a5 h6a7 h6a17 h6a18 hO s0 s1 s2 s3 s4 s5 s6 sO)) hP hD hS hA [11, 12, 13, 14, 15] [0, 1, 2, 3, 4, 5, 6, 7, 8, 9, 10, 16, 17, 18, 19, 20, 21, 22, 23, 24, 25] [0, 1, 2, 3, 4, 5, 6, 7, 8, 9, 10, 21, 22, 23, 24, 25, 11, 12, 13, 14, 15, 16, 17, 18, 19, 20] rfl rfl (by decide) (by decide) rfl (by decide) (va_runV (As := []) (rest := []) ⟨hx, hb, hml, hown, hts⟩ (ktX5_inReach l dC dI cI h4 h4a0 h4a1 h4a2 h5 h3 h2 h1 h0 _ s4 s5 r_29 hc_29) (cwV 0 hts gL_law_X5_inReach rfl rfl rfl (by decide +kernel) ⟨Nat.le_of_ble_eq_true rfl, Nat.le_of_ble_eq_true rfl⟩) (gc_V (ci := 5) (q0 := 4) (C := RX5) (T := TX5) (N := 10) (hP.sub (ws' := (cf_45 cI h4 h4a0 h4a1 h4a2 h5 h3 h2 h1 h0 s4 s5)) [11, 12, 13, 14, 15] rfl) (hK.sub (tys' := [(cI, .int)]) [0] rfl) (hD.sub (ws' := (cf_45 cI h4 h4a0 h4a1 h4a2 h5 h3 h2 h1 h0 s4 s5)) [11, 12, 13, 14, 15] (by decide) rfl) hN rfl rfl) rfl rfl hl.1 rfl (lv_room (Nat.le_of_ble_eq_true rfl)) dL_law_332 ⟨by show 26 + i + 0 ≤ 1058; omega, by show 405 + 6 * i + 0 ≤ 8645; omega⟩) (fun H locs hP hD hS => ?_)
          refine lv_aload_n hx hb dL_law_335 rfl (lv_at hl 2 rfl) ?_
          obtain ⟨r_30, s6_30, hc_30, hf⟩ := bn2_ok hf
          refine gc_i (wc := (cf_6 cI cZ h6 h6a1 h6a2 h6a3 h6a4 h6a5 h6a7 h6a17 h6a18 s6)) (wr := (cf_012345O cI cJ h0 h1 h2 h2a2 h2a3 h2a4 h2a5 h2a6 h2a7 h3 h3a0 h4 h4a0 h4a1 h4a2 h5 hO s0 s1 s2 s3 s4 s5 sO)) (w1 := (cf_6 cI cZ h6 h6a1 h6a2 h6a3 h6a4 h6a5 h6a7 h6a17 h6a18 s6_30)) (ws' := (cf_0123456O cI cZ cJ h0 h1 h2 h2a2 h2a3 h2a4 h2a5 h2a6 h2a7 h3 h3a0 h4 h4a0 h4a1 h4a2 h5 h6 h6a1 h6a2 h6a3 h6a4 h6a5 h6a7 h6a17 h6a18 hO s0 s1 s2 s3 s4 s5 s6_30 sO)) hP hD hS hA [16, 17, 18, 19, 20, 21, 22, 23, 24] [0, 1, 2, 3, 4, 5, 6, 7, 8, 9, 10, 11, 12, 13, 14, 15, 25] [0, 1, 2, 3, 4, 5, 6, 7, 8, 9, 10, 11, 12, 13, 14, 15, 17, 18, 19, 20, 21, 22, 23, 24, 25, 16] rfl rfl (by decide) (by decide) rfl (by decide) (va_runV (As := []) (rest := [.int r_29]) ⟨hx, hb, hml, hown, hts⟩ (ktX6_inReach l dC dI cI cZ h6 h6a1 h6a2 h6a3 h6a4 h6a5 h6a7 h6a17 h6a18 _ s6 r_30 s6_30 hc_30) (cwV 0 hts gL_law_X6_inReach rfl rfl rfl (by decide +kernel) ⟨Nat.le_of_ble_eq_true rfl, Nat.le_of_ble_eq_true rfl⟩) (gc_V (ci := 6) (q0 := 0) (C := RX6) (T := TX6) (N := 25) (hP.sub (ws' := (cf_6 cI cZ h6 h6a1 h6a2 h6a3 h6a4 h6a5 h6a7 h6a17 h6a18 s6)) [16, 17, 18, 19, 20, 21, 22, 23, 24] rfl) (hK.sub (tys' := [(cI, .int), (cZ, .boolean)]) [0, 1] rfl) (hD.sub (ws' := (cf_6 cI cZ h6 h6a1 h6a2 h6a3 h6a4 h6a5 h6a7 h6a17 h6a18 s6)) [16, 17, 18, 19, 20, 21, 22, 23, 24] (by decide) rfl) hN rfl rfl) rfl rfl hl.1 rfl (lv_room (Nat.le_of_ble_eq_true rfl)) dL_law_336 ⟨by show 26 + i + 0 ≤ 1058; omega, by show 405 + 6 * i + 0 ≤ 8645; omega⟩) (fun H locs hP hD hS => ?_)
          refine lv_icmp_eq (tgt := 574) hx hb dL_law_339 (by decide) (fun c_31 => ?_) (fun c_31 => ?_)
          · have hf := it_t c_31 hf
            refine W.widen (k := 26 + i + 1) (n := 405 + 6 * i + 6) (by omega) (by omega) ?_
            exact J574 n i hi (fun s0 s1 s2 s3 s4 s5 s6 sO x4 => fL_law_23 L xs n s0 s1 s2 s3 s4 s5 s6 sO x4) (fun s0 s1 s2 s3 s4 s5 s6 sO x4 H locs hP hD hS ls hl hf => ih (i + 1) (by omega) s0 s1 s2 s3 s4 s5 s6 sO x4 H locs hP hD hS ls hl hf) s0 s1 s2 s3 s4 s5 s6_30 sO x4 _ _ hP hD hS _ (lv_sub hl [0, 1, 2, 3, 4] rfl) hf
          · have hf := it_f c_31 hf
            refine lv_iconst (v := 0) hx hb dL_law_342 (by decide) ?_
            have hf : (some 0 : Option Int32) = some 1 := hf
            exact absurd (Option.some.inj hf) (by decide)
        have hf := it_f c_28 hf
        by_cases c_32 : ((xs x4.toNatClampNeg) &&& 15) = 4
        · have hf := it_t c_32 hf
          refine lv_tableIn (off := 305) (tgt := 344) hx hb dL_law_39 (by rw [c_32]; decide) (by rw [c_32]; decide) (by rw [c_32]; rfl) (by decide) ?_
          refine lv_aload_n hx hb dL_law_344 rfl (lv_at hl 1 rfl) ?_
          refine lv_aload_n hx hb dL_law_345 rfl (lv_at hl 0 rfl) ?_
          refine lv_iload hx hb dL_law_346 (lv_at hl 4 rfl) ?_
          refine lv_iconst (v := 1) hx hb dL_law_348 (by decide) ?_
          refine lv_iadd hx hb dL_law_349 ?_
          obtain ⟨hi_33, hf⟩ := ai_ok hf
          refine va_sld hx hb hX hbl hbA hS hi_33 dL_law_350 ?_
          refine lv_aload_n hx hb dL_law_351 rfl (lv_at hl 3 rfl) ?_
          obtain ⟨k_34, r_34, s3_34, hc_34, hf⟩ := bn3_ok hf
          refine gc_h (wc := ((cf_35 cI h3 h3a0 h5 h4 h2 h1 h0 s3 s5) ++ [(hO, .inl (cJ, 1, .inr (.inl sO)))])) (wr := (cf_01246 cI cZ h0 h1 h2 h2a2 h2a3 h2a4 h2a5 h2a6 h2a7 h4 h4a0 h4a1 h4a2 h6 h6a1 h6a2 h6a3 h6a4 h6a5 h6a7 h6a17 h6a18 s0 s1 s2 s4 s6)) (w1 := ((cf_35 cI h3 h3a0 h5 h4 h2 h1 h0 (if k_34 = 0 then s3_34 else s3) s5) ++ [(hO, .inl (cJ, 1, .inr (.inl (if k_34 = 0 then vp_updL sO 0 r_34.toInt64 else sO))))])) (ws' := (cf_0123456O cI cZ cJ h0 h1 h2 h2a2 h2a3 h2a4 h2a5 h2a6 h2a7 h3 h3a0 h4 h4a0 h4a1 h4a2 h5 h6 h6a1 h6a2 h6a3 h6a4 h6a5 h6a7 h6a17 h6a18 hO s0 s1 s2 (if k_34 = 0 then s3_34 else s3) s4 s5 s6 (if k_34 = 0 then vp_updL sO 0 r_34.toInt64 else sO))) hP hD hS hA [9, 10, 15, 25] [0, 1, 2, 3, 4, 5, 6, 7, 8, 11, 12, 13, 14, 16, 17, 18, 19, 20, 21, 22, 23, 24] [0, 1, 2, 3, 4, 5, 6, 7, 8, 22, 23, 9, 10, 11, 12, 24, 13, 14, 15, 16, 17, 18, 19, 20, 21, 25] rfl rfl (by decide) (by decide) rfl (by decide) (vx_runSW (As := [.ref h5, .int (xs (x4 + 1).toNatClampNeg), .ref hO]) (rest := []) ⟨hx, hb, hml, hown, hts⟩ (ktL_word l hst dC dI cI cJ h3 h3a0 h5 h4 h2 h1 h0 hO _ s3 s5 sO (xs (x4 + 1).toNatClampNeg) k_34 r_34 s3_34 (if k_34 = 0 then s3_34 else s3) (if k_34 = 0 then vp_updL sO 0 r_34.toInt64 else sO) hc_34 (fun q => ⟨if_pos q, if_pos q⟩) (fun q => ⟨if_neg q, if_neg q⟩)) (vx_cwSW 3 hts gL_law_L_word rfl rfl rfl (by decide +kernel) ⟨Nat.le_of_ble_eq_true rfl, Nat.le_of_ble_eq_true rfl⟩) (gx_S (hP.sub (ws' := ((cf_35 cI h3 h3a0 h5 h4 h2 h1 h0 s3 s5) ++ [(hO, .inl (cJ, 1, .inr (.inl sO)))])) [9, 10, 15, 25] rfl) (hK.sub (tys' := [(cI, .int), (cJ, .long)]) [0, 2] rfl) (hD.sub (ws' := ((cf_35 cI h3 h3a0 h5 h4 h2 h1 h0 s3 s5) ++ [(hO, .inl (cJ, 1, .inr (.inl sO)))])) [9, 10, 15, 25] (by decide) rfl) hN hSW hXW (zq.kept hZ (fun q h1 h2 => hS.2.1 q h1 h2)) (va_free (wc := ((cf_35 cI h3 h3a0 h5 h4 h2 h1 h0 s3 s5) ++ [(hO, .inl (cJ, 1, .inr (.inl sO)))])) hD hS hA [9, 10, 15, 25] rfl) hNc) rfl rfl hl.1 rfl (lv_room (Nat.le_of_ble_eq_true rfl)) dL_law_352 ⟨by show 26 + i + 1 ≤ 1058; omega, by show 405 + 6 * i + 6 ≤ 8645; omega⟩) (fun H locs hP hD hS => ?_)
          refine lv_istore (lv' := [(5, .int k_34), (0, .ref b), (1, .ref h5), (2, .ref h6), (3, .ref hO), (4, .int x4)]) hx hb dL_law_355 hl (by decide) rfl (fun ls hl => ?_)
          refine lv_aload_n hx hb dL_law_357 rfl (lv_at hl 3 rfl) ?_
          refine lv_aload_n hx hb dL_law_358 rfl (lv_at hl 1 rfl) ?_
          refine lv_iload hx hb dL_law_359 (lv_at hl 5 rfl) ?_
          refine lv_iconst (v := 1) hx hb dL_law_361 (by decide) ?_
          refine lv_iadd hx hb dL_law_362 ?_
          obtain ⟨hi_35, hf⟩ := ai_ok hf
          refine va_sld hx hb hX hbl hbA hS hi_35 dL_law_363 ?_
          obtain ⟨r_36, s6_36, hc_36, hf⟩ := bn2_ok hf
          refine gc_i (wc := (cf_6 cI cZ h6 h6a1 h6a2 h6a3 h6a4 h6a5 h6a7 h6a17 h6a18 s6)) (wr := (cf_012345O cI cJ h0 h1 h2 h2a2 h2a3 h2a4 h2a5 h2a6 h2a7 h3 h3a0 h4 h4a0 h4a1 h4a2 h5 hO s0 s1 s2 (if k_34 = 0 then s3_34 else s3) s4 s5 (if k_34 = 0 then vp_updL sO 0 r_34.toInt64 else sO))) (w1 := (cf_6 cI cZ h6 h6a1 h6a2 h6a3 h6a4 h6a5 h6a7 h6a17 h6a18 s6_36)) (ws' := (cf_0123456O cI cZ cJ h0 h1 h2 h2a2 h2a3 h2a4 h2a5 h2a6 h2a7 h3 h3a0 h4 h4a0 h4a1 h4a2 h5 h6 h6a1 h6a2 h6a3 h6a4 h6a5 h6a7 h6a17 h6a18 hO s0 s1 s2 (if k_34 = 0 then s3_34 else s3) s4 s5 s6_36 (if k_34 = 0 then vp_updL sO 0 r_34.toInt64 else sO))) hP hD hS hA [16, 17, 18, 19, 20, 21, 22, 23, 24] [0, 1, 2, 3, 4, 5, 6, 7, 8, 9, 10, 11, 12, 13, 14, 15, 25] [0, 1, 2, 3, 4, 5, 6, 7, 8, 9, 10, 11, 12, 13, 14, 15, 17, 18, 19, 20, 21, 22, 23, 24, 25, 16] rfl rfl (by decide) (by decide) rfl (by decide) (va_runV (As := [.int (xs (x4 + 1).toNatClampNeg)]) (rest := []) ⟨hx, hb, hml, hown, hts⟩ (ktX6_word l dC dI cI cZ h6 h6a1 h6a2 h6a3 h6a4 h6a5 h6a7 h6a17 h6a18 _ s6 (xs (x4 + 1).toNatClampNeg) r_36 s6_36 hc_36) (cwV 1 hts gL_law_X6_word rfl rfl rfl (by decide +kernel) ⟨Nat.le_of_ble_eq_true rfl, Nat.le_of_ble_eq_true rfl⟩) (gc_V (ci := 6) (q0 := 0) (C := RX6) (T := TX6) (N := 25) (hP.sub (ws' := (cf_6 cI cZ h6 h6a1 h6a2 h6a3 h6a4 h6a5 h6a7 h6a17 h6a18 s6)) [16, 17, 18, 19, 20, 21, 22, 23, 24] rfl) (hK.sub (tys' := [(cI, .int), (cZ, .boolean)]) [0, 1] rfl) (hD.sub (ws' := (cf_6 cI cZ h6 h6a1 h6a2 h6a3 h6a4 h6a5 h6a7 h6a17 h6a18 s6)) [16, 17, 18, 19, 20, 21, 22, 23, 24] (by decide) rfl) hN rfl rfl) rfl rfl hl.1 rfl (lv_room (Nat.le_of_ble_eq_true rfl)) dL_law_364 ⟨by show 26 + i + 1 + 0 ≤ 1058; omega, by show 405 + 6 * i + 6 + 0 ≤ 8645; omega⟩) (fun H locs hP hD hS => ?_)
          refine lv_istore (lv' := [(6, .int r_36), (5, .int k_34), (0, .ref b), (1, .ref h5), (2, .ref h6), (3, .ref hO), (4, .int x4)]) hx hb dL_law_367 hl (by decide) rfl (fun ls hl => ?_)
          refine lv_aload_n hx hb dL_law_369 rfl (lv_at hl 4 rfl) ?_
          obtain ⟨r_37, hc_37, hf⟩ := bn1_ok hf
          refine gc_i (wc := (cf_6 cI cZ h6 h6a1 h6a2 h6a3 h6a4 h6a5 h6a7 h6a17 h6a18 s6_36)) (wr := (cf_012345O cI cJ h0 h1 h2 h2a2 h2a3 h2a4 h2a5 h2a6 h2a7 h3 h3a0 h4 h4a0 h4a1 h4a2 h5 hO s0 s1 s2 (if k_34 = 0 then s3_34 else s3) s4 s5 (if k_34 = 0 then vp_updL sO 0 r_34.toInt64 else sO))) (w1 := (cf_6 cI cZ h6 h6a1 h6a2 h6a3 h6a4 h6a5 h6a7 h6a17 h6a18 s6_36)) (ws' := (cf_0123456O cI cZ cJ h0 h1 h2 h2a2 h2a3 h2a4 h2a5 h2a6 h2a7 h3 h3a0 h4 h4a0 h4a1 h4a2 h5 h6 h6a1 h6a2 h6a3 h6a4 h6a5 h6a7 h6a17 h6a18 hO s0 s1 s2 (if k_34 = 0 then s3_34 else s3) s4 s5 s6_36 (if k_34 = 0 then vp_updL sO 0 r_34.toInt64 else sO))) hP hD hS hA [16, 17, 18, 19, 20, 21, 22, 23, 24] [0, 1, 2, 3, 4, 5, 6, 7, 8, 9, 10, 11, 12, 13, 14, 15, 25] [0, 1, 2, 3, 4, 5, 6, 7, 8, 9, 10, 11, 12, 13, 14, 15, 17, 18, 19, 20, 21, 22, 23, 24, 25, 16] rfl rfl (by decide) (by decide) rfl (by decide) (va_runV (As := []) (rest := []) ⟨hx, hb, hml, hown, hts⟩ (ktX6_thrown l dC dI cI cZ h6 h6a1 h6a2 h6a3 h6a4 h6a5 h6a7 h6a17 h6a18 _ s6_36 r_37 hc_37) (cwV 0 hts gL_law_X6_thrown rfl rfl rfl (by decide +kernel) ⟨Nat.le_of_ble_eq_true rfl, Nat.le_of_ble_eq_true rfl⟩) (gc_V (ci := 6) (q0 := 0) (C := RX6) (T := TX6) (N := 25) (hP.sub (ws' := (cf_6 cI cZ h6 h6a1 h6a2 h6a3 h6a4 h6a5 h6a7 h6a17 h6a18 s6_36)) [16, 17, 18, 19, 20, 21, 22, 23, 24] rfl) (hK.sub (tys' := [(cI, .int), (cZ, .boolean)]) [0, 1] rfl) (hD.sub (ws' := (cf_6 cI cZ h6 h6a1 h6a2 h6a3 h6a4 h6a5 h6a7 h6a17 h6a18 s6_36)) [16, 17, 18, 19, 20, 21, 22, 23, 24] (by decide) rfl) hN rfl rfl) rfl rfl hl.1 rfl (lv_room (Nat.le_of_ble_eq_true rfl)) dL_law_370 ⟨by show 26 + i + 1 + 0 ≤ 1058; omega, by show 405 + 6 * i + 6 + 0 ≤ 8645; omega⟩) (fun H locs hP hD hS => ?_)
          refine lv_iload hx hb dL_law_373 (lv_at hl 1 rfl) ?_
          refine lv_icmp_eq (tgt := 380) hx hb dL_law_375 (by decide) (fun c_38 => ?_) (fun c_38 => ?_)
          · have hf := it_t c_38 hf
            refine lv_iload hx hb dL_law_380 (lv_at hl 1 rfl) ?_
            refine lv_if_ne (tgt := 397) hx hb dL_law_382 (by decide) (fun c_39 => ?_) (fun c_39 => ?_)
            · have hf := it_f c_39 hf
              exact J397 n i hi (fun s0 s1 s2 s3 s4 s5 s6 sO x4 => fL_law_23 L xs n s0 s1 s2 s3 s4 s5 s6 sO x4) (fun s0 s1 s2 s3 s4 s5 s6 sO x4 H locs hP hD hS ls hl hf => ih (i + 1) (by omega) s0 s1 s2 s3 s4 s5 s6 sO x4 H locs hP hD hS ls hl hf) s0 s1 s2 (if k_34 = 0 then s3_34 else s3) s4 s5 s6_36 (if k_34 = 0 then vp_updL sO 0 r_34.toInt64 else sO) x4 _ _ hP hD hS _ (lv_sub hl [2, 3, 4, 5, 6] rfl) hf
            · have hf := it_t c_39 hf
              refine lv_aload_n hx hb dL_law_385 rfl (lv_at hl 5 rfl) ?_
              refine lv_iconst (v := 0) hx hb dL_law_386 (by decide) ?_
              refine va_lald hx hb hK hP 25 2 rfl rfl (show vp_in 0 1 by unfold vp_in; decide) dL_law_387 ?_
              refine lv_iload hx hb dL_law_388 (lv_at hl 0 rfl) ?_
              refine lv_i2l (v := r_36.toInt64) hx hb dL_law_390 rfl ?_
              refine W.lcmp hx hb dL_law_391 ?_
              refine lv_if_eq (tgt := 397) hx hb dL_law_392 (by decide) (fun c_40 => ?_) (fun c_40 => ?_)
              · have hf := it_t c_40 hf
                exact J397 n i hi (fun s0 s1 s2 s3 s4 s5 s6 sO x4 => fL_law_23 L xs n s0 s1 s2 s3 s4 s5 s6 sO x4) (fun s0 s1 s2 s3 s4 s5 s6 sO x4 H locs hP hD hS ls hl hf => ih (i + 1) (by omega) s0 s1 s2 s3 s4 s5 s6 sO x4 H locs hP hD hS ls hl hf) s0 s1 s2 (if k_34 = 0 then s3_34 else s3) s4 s5 s6_36 (if k_34 = 0 then vp_updL sO 0 r_34.toInt64 else sO) x4 _ _ hP hD hS _ (lv_sub hl [2, 3, 4, 5, 6] rfl) hf
              · have hf := it_f c_40 hf
                refine lv_iconst (v := 0) hx hb dL_law_395 (by decide) ?_
                have hf : (some 0 : Option Int32) = some 1 := hf
                exact absurd (Option.some.inj hf) (by decide)
          · have hf := it_f c_38 hf
            refine lv_iconst (v := 0) hx hb dL_law_378 (by decide) ?_
            have hf : (some 0 : Option Int32) = some 1 := hf
            exact absurd (Option.some.inj hf) (by decide)
        have hf := it_f c_32 hf
        by_cases c_41 : ((xs x4.toNatClampNeg) &&& 15) = 5
        · have hf := it_t c_41 hf
          refine lv_tableIn (off := 361) (tgt := 400) hx hb dL_law_39 (by rw [c_41]; decide) (by rw [c_41]; decide) (by rw [c_41]; rfl) (by decide) ?_
          refine lv_aload_n hx hb dL_law_400 rfl (lv_at hl 1 rfl) ?_
          refine lv_aload_n hx hb dL_law_401 rfl (lv_at hl 3 rfl) ?_
          obtain ⟨k_42, r_42, s3_42, hc_42, hf⟩ := bn3_ok hf
          refine gc_h (wc := ((cf_35 cI h3 h3a0 h5 h4 h2 h1 h0 s3 s5) ++ [(hO, .inl (cJ, 1, .inr (.inl sO)))])) (wr := (cf_01246 cI cZ h0 h1 h2 h2a2 h2a3 h2a4 h2a5 h2a6 h2a7 h4 h4a0 h4a1 h4a2 h6 h6a1 h6a2 h6a3 h6a4 h6a5 h6a7 h6a17 h6a18 s0 s1 s2 s4 s6)) (w1 := ((cf_35 cI h3 h3a0 h5 h4 h2 h1 h0 (if k_42 = 0 then s3_42 else s3) s5) ++ [(hO, .inl (cJ, 1, .inr (.inl (if k_42 = 0 then vp_updL sO 0 r_42.toInt64 else sO))))])) (ws' := (cf_0123456O cI cZ cJ h0 h1 h2 h2a2 h2a3 h2a4 h2a5 h2a6 h2a7 h3 h3a0 h4 h4a0 h4a1 h4a2 h5 h6 h6a1 h6a2 h6a3 h6a4 h6a5 h6a7 h6a17 h6a18 hO s0 s1 s2 (if k_42 = 0 then s3_42 else s3) s4 s5 s6 (if k_42 = 0 then vp_updL sO 0 r_42.toInt64 else sO))) hP hD hS hA [9, 10, 15, 25] [0, 1, 2, 3, 4, 5, 6, 7, 8, 11, 12, 13, 14, 16, 17, 18, 19, 20, 21, 22, 23, 24] [0, 1, 2, 3, 4, 5, 6, 7, 8, 22, 23, 9, 10, 11, 12, 24, 13, 14, 15, 16, 17, 18, 19, 20, 21, 25] rfl rfl (by decide) (by decide) rfl (by decide) (vx_runSW (As := [.ref h5, .ref hO]) (rest := []) ⟨hx, hb, hml, hown, hts⟩ (ktL_back l hst dC dI cI cJ h3 h3a0 h5 h4 h2 h1 h0 hO _ s3 s5 sO k_42 r_42 s3_42 (if k_42 = 0 then s3_42 else s3) (if k_42 = 0 then vp_updL sO 0 r_42.toInt64 else sO) hc_42 (fun q => ⟨if_pos q, if_pos q⟩) (fun q => ⟨if_neg q, if_neg q⟩)) (vx_cwSW 2 hts gL_law_L_back rfl rfl rfl (by decide +kernel) ⟨Nat.le_of_ble_eq_true rfl, Nat.le_of_ble_eq_true rfl⟩) (gx_S (hP.sub (ws' := ((cf_35 cI h3 h3a0 h5 h4 h2 h1 h0 s3 s5) ++ [(hO, .inl (cJ, 1, .inr (.inl sO)))])) [9, 10, 15, 25] rfl) (hK.sub (tys' := [(cI, .int), (cJ, .long)]) [0, 2] rfl) (hD.sub (ws' := ((cf_35 cI h3 h3a0 h5 h4 h2 h1 h0 s3 s5) ++ [(hO, .inl (cJ, 1, .inr (.inl sO)))])) [9, 10, 15, 25] (by decide) rfl) hN hSW hXW (zq.kept hZ (fun q h1 h2 => hS.2.1 q h1 h2)) (va_free (wc := ((cf_35 cI h3 h3a0 h5 h4 h2 h1 h0 s3 s5) ++ [(hO, .inl (cJ, 1, .inr (.inl sO)))])) hD hS hA [9, 10, 15, 25] rfl) hNc) rfl rfl hl.1 rfl (lv_room (Nat.le_of_ble_eq_true rfl)) dL_law_402 ⟨by show 26 + i + 1 ≤ 1058; omega, by show 405 + 6 * i + 6 ≤ 8645; omega⟩) (fun H locs hP hD hS => ?_)
          refine lv_istore (lv' := [(5, .int k_42), (0, .ref b), (1, .ref h5), (2, .ref h6), (3, .ref hO), (4, .int x4)]) hx hb dL_law_405 hl (by decide) rfl (fun ls hl => ?_)
          refine lv_aload_n hx hb dL_law_407 rfl (lv_at hl 3 rfl) ?_
          obtain ⟨r_43, s6_43, hc_43, hf⟩ := bn2_ok hf
          refine gc_i (wc := (cf_6 cI cZ h6 h6a1 h6a2 h6a3 h6a4 h6a5 h6a7 h6a17 h6a18 s6)) (wr := (cf_012345O cI cJ h0 h1 h2 h2a2 h2a3 h2a4 h2a5 h2a6 h2a7 h3 h3a0 h4 h4a0 h4a1 h4a2 h5 hO s0 s1 s2 (if k_42 = 0 then s3_42 else s3) s4 s5 (if k_42 = 0 then vp_updL sO 0 r_42.toInt64 else sO))) (w1 := (cf_6 cI cZ h6 h6a1 h6a2 h6a3 h6a4 h6a5 h6a7 h6a17 h6a18 s6_43)) (ws' := (cf_0123456O cI cZ cJ h0 h1 h2 h2a2 h2a3 h2a4 h2a5 h2a6 h2a7 h3 h3a0 h4 h4a0 h4a1 h4a2 h5 h6 h6a1 h6a2 h6a3 h6a4 h6a5 h6a7 h6a17 h6a18 hO s0 s1 s2 (if k_42 = 0 then s3_42 else s3) s4 s5 s6_43 (if k_42 = 0 then vp_updL sO 0 r_42.toInt64 else sO))) hP hD hS hA [16, 17, 18, 19, 20, 21, 22, 23, 24] [0, 1, 2, 3, 4, 5, 6, 7, 8, 9, 10, 11, 12, 13, 14, 15, 25] [0, 1, 2, 3, 4, 5, 6, 7, 8, 9, 10, 11, 12, 13, 14, 15, 17, 18, 19, 20, 21, 22, 23, 24, 25, 16] rfl rfl (by decide) (by decide) rfl (by decide) (va_runV (As := []) (rest := []) ⟨hx, hb, hml, hown, hts⟩ (ktX6_back l dC dI cI cZ h6 h6a1 h6a2 h6a3 h6a4 h6a5 h6a7 h6a17 h6a18 _ s6 r_43 s6_43 hc_43) (cwV 0 hts gL_law_X6_back rfl rfl rfl (by decide +kernel) ⟨Nat.le_of_ble_eq_true rfl, Nat.le_of_ble_eq_true rfl⟩) (gc_V (ci := 6) (q0 := 0) (C := RX6) (T := TX6) (N := 25) (hP.sub (ws' := (cf_6 cI cZ h6 h6a1 h6a2 h6a3 h6a4 h6a5 h6a7 h6a17 h6a18 s6)) [16, 17, 18, 19, 20, 21, 22, 23, 24] rfl) (hK.sub (tys' := [(cI, .int), (cZ, .boolean)]) [0, 1] rfl) (hD.sub (ws' := (cf_6 cI cZ h6 h6a1 h6a2 h6a3 h6a4 h6a5 h6a7 h6a17 h6a18 s6)) [16, 17, 18, 19, 20, 21, 22, 23, 24] (by decide) rfl) hN rfl rfl) rfl rfl hl.1 rfl (lv_room (Nat.le_of_ble_eq_true rfl)) dL_law_408 ⟨by show 26 + i + 1 + 0 ≤ 1058; omega, by show 405 + 6 * i + 6 + 0 ≤ 8645; omega⟩) (fun H locs hP hD hS => ?_)
          refine lv_istore (lv' := [(6, .int r_43), (5, .int k_42), (0, .ref b), (1, .ref h5), (2, .ref h6), (3, .ref hO), (4, .int x4)]) hx hb dL_law_411 hl (by decide) rfl (fun ls hl => ?_)
          refine lv_aload_n hx hb dL_law_413 rfl (lv_at hl 4 rfl) ?_
          obtain ⟨r_44, hc_44, hf⟩ := bn1_ok hf
          refine gc_i (wc := (cf_6 cI cZ h6 h6a1 h6a2 h6a3 h6a4 h6a5 h6a7 h6a17 h6a18 s6_43)) (wr := (cf_012345O cI cJ h0 h1 h2 h2a2 h2a3 h2a4 h2a5 h2a6 h2a7 h3 h3a0 h4 h4a0 h4a1 h4a2 h5 hO s0 s1 s2 (if k_42 = 0 then s3_42 else s3) s4 s5 (if k_42 = 0 then vp_updL sO 0 r_42.toInt64 else sO))) (w1 := (cf_6 cI cZ h6 h6a1 h6a2 h6a3 h6a4 h6a5 h6a7 h6a17 h6a18 s6_43)) (ws' := (cf_0123456O cI cZ cJ h0 h1 h2 h2a2 h2a3 h2a4 h2a5 h2a6 h2a7 h3 h3a0 h4 h4a0 h4a1 h4a2 h5 h6 h6a1 h6a2 h6a3 h6a4 h6a5 h6a7 h6a17 h6a18 hO s0 s1 s2 (if k_42 = 0 then s3_42 else s3) s4 s5 s6_43 (if k_42 = 0 then vp_updL sO 0 r_42.toInt64 else sO))) hP hD hS hA [16, 17, 18, 19, 20, 21, 22, 23, 24] [0, 1, 2, 3, 4, 5, 6, 7, 8, 9, 10, 11, 12, 13, 14, 15, 25] [0, 1, 2, 3, 4, 5, 6, 7, 8, 9, 10, 11, 12, 13, 14, 15, 17, 18, 19, 20, 21, 22, 23, 24, 25, 16] rfl rfl (by decide) (by decide) rfl (by decide) (va_runV (As := []) (rest := []) ⟨hx, hb, hml, hown, hts⟩ (ktX6_thrown l dC dI cI cZ h6 h6a1 h6a2 h6a3 h6a4 h6a5 h6a7 h6a17 h6a18 _ s6_43 r_44 hc_44) (cwV 0 hts gL_law_X6_thrown rfl rfl rfl (by decide +kernel) ⟨Nat.le_of_ble_eq_true rfl, Nat.le_of_ble_eq_true rfl⟩) (gc_V (ci := 6) (q0 := 0) (C := RX6) (T := TX6) (N := 25) (hP.sub (ws' := (cf_6 cI cZ h6 h6a1 h6a2 h6a3 h6a4 h6a5 h6a7 h6a17 h6a18 s6_43)) [16, 17, 18, 19, 20, 21, 22, 23, 24] rfl) (hK.sub (tys' := [(cI, .int), (cZ, .boolean)]) [0, 1] rfl) (hD.sub (ws' := (cf_6 cI cZ h6 h6a1 h6a2 h6a3 h6a4 h6a5 h6a7 h6a17 h6a18 s6_43)) [16, 17, 18, 19, 20, 21, 22, 23, 24] (by decide) rfl) hN rfl rfl) rfl rfl hl.1 rfl (lv_room (Nat.le_of_ble_eq_true rfl)) dL_law_414 ⟨by show 26 + i + 1 + 0 ≤ 1058; omega, by show 405 + 6 * i + 6 + 0 ≤ 8645; omega⟩) (fun H locs hP hD hS => ?_)
          refine lv_iload hx hb dL_law_417 (lv_at hl 1 rfl) ?_
          refine lv_icmp_eq (tgt := 424) hx hb dL_law_419 (by decide) (fun c_45 => ?_) (fun c_45 => ?_)
          · have hf := it_t c_45 hf
            refine lv_iload hx hb dL_law_424 (lv_at hl 1 rfl) ?_
            refine lv_if_ne (tgt := 441) hx hb dL_law_426 (by decide) (fun c_46 => ?_) (fun c_46 => ?_)
            · have hf := it_f c_46 hf
              exact J441 n i hi (fun s0 s1 s2 s3 s4 s5 s6 sO x4 => fL_law_23 L xs n s0 s1 s2 s3 s4 s5 s6 sO x4) (fun s0 s1 s2 s3 s4 s5 s6 sO x4 H locs hP hD hS ls hl hf => ih (i + 1) (by omega) s0 s1 s2 s3 s4 s5 s6 sO x4 H locs hP hD hS ls hl hf) s0 s1 s2 (if k_42 = 0 then s3_42 else s3) s4 s5 s6_43 (if k_42 = 0 then vp_updL sO 0 r_42.toInt64 else sO) x4 _ _ hP hD hS _ (lv_sub hl [2, 3, 4, 5, 6] rfl) hf
            · have hf := it_t c_46 hf
              refine lv_aload_n hx hb dL_law_429 rfl (lv_at hl 5 rfl) ?_
              refine lv_iconst (v := 0) hx hb dL_law_430 (by decide) ?_
              refine va_lald hx hb hK hP 25 2 rfl rfl (show vp_in 0 1 by unfold vp_in; decide) dL_law_431 ?_
              refine lv_iload hx hb dL_law_432 (lv_at hl 0 rfl) ?_
              refine lv_i2l (v := r_43.toInt64) hx hb dL_law_434 rfl ?_
              refine W.lcmp hx hb dL_law_435 ?_
              refine lv_if_eq (tgt := 441) hx hb dL_law_436 (by decide) (fun c_47 => ?_) (fun c_47 => ?_)
              · have hf := it_t c_47 hf
                exact J441 n i hi (fun s0 s1 s2 s3 s4 s5 s6 sO x4 => fL_law_23 L xs n s0 s1 s2 s3 s4 s5 s6 sO x4) (fun s0 s1 s2 s3 s4 s5 s6 sO x4 H locs hP hD hS ls hl hf => ih (i + 1) (by omega) s0 s1 s2 s3 s4 s5 s6 sO x4 H locs hP hD hS ls hl hf) s0 s1 s2 (if k_42 = 0 then s3_42 else s3) s4 s5 s6_43 (if k_42 = 0 then vp_updL sO 0 r_42.toInt64 else sO) x4 _ _ hP hD hS _ (lv_sub hl [2, 3, 4, 5, 6] rfl) hf
              · have hf := it_f c_47 hf
                refine lv_iconst (v := 0) hx hb dL_law_439 (by decide) ?_
                have hf : (some 0 : Option Int32) = some 1 := hf
                exact absurd (Option.some.inj hf) (by decide)
          · have hf := it_f c_45 hf
            refine lv_iconst (v := 0) hx hb dL_law_422 (by decide) ?_
            have hf : (some 0 : Option Int32) = some 1 := hf
            exact absurd (Option.some.inj hf) (by decide)
        have hf := it_f c_41 hf
        by_cases c_48 : ((xs x4.toNatClampNeg) &&& 15) = 6
        · have hf := it_t c_48 hf
          refine lv_tableIn (off := 405) (tgt := 444) hx hb dL_law_39 (by rw [c_48]; decide) (by rw [c_48]; decide) (by rw [c_48]; rfl) (by decide) ?_
          refine lv_aload_n hx hb dL_law_444 rfl (lv_at hl 1 rfl) ?_
          obtain ⟨r_49, s0_49, s1_49, s2_49, s3_49, s4_49, s5_49, hc_49, hf⟩ := bn7_ok hf
          refine gc_i (wc := (cf_012345 cI h0 h1 h2 h2a2 h2a3 h2a4 h2a5 h2a6 h2a7 h3 h3a0 h4 h4a0 h4a1 h4a2 h5 s0 s1 s2 s3 s4 s5)) (wr := (cf_6O cI cZ cJ h6 h6a1 h6a2 h6a3 h6a4 h6a5 h6a7 h6a17 h6a18 hO s6 sO)) (w1 := (cf_012345 cI h0 h1 h2 h2a2 h2a3 h2a4 h2a5 h2a6 h2a7 h3 h3a0 h4 h4a0 h4a1 h4a2 h5 s0_49 s1_49 s2_49 s3_49 s4_49 s5_49)) (ws' := (cf_0123456O cI cZ cJ h0 h1 h2 h2a2 h2a3 h2a4 h2a5 h2a6 h2a7 h3 h3a0 h4 h4a0 h4a1 h4a2 h5 h6 h6a1 h6a2 h6a3 h6a4 h6a5 h6a7 h6a17 h6a18 hO s0_49 s1_49 s2_49 s3_49 s4_49 s5_49 s6 sO)) hP hD hS hA [0, 1, 2, 3, 4, 5, 6, 7, 8, 9, 10, 11, 12, 13, 14, 15] [16, 17, 18, 19, 20, 21, 22, 23, 24, 25] [10, 11, 12, 13, 14, 15, 16, 17, 18, 19, 20, 21, 22, 23, 24, 25, 0, 1, 2, 3, 4, 5, 6, 7, 8, 9] rfl rfl (by decide) (by decide) rfl (by decide) (va_runV (As := []) (rest := []) ⟨hx, hb, hml, hown, hts⟩ (ktX5_say l dC dI cI h0 h1 h2 h2a2 h2a3 h2a4 h2a5 h2a6 h2a7 h3 h3a0 h4 h4a0 h4a1 h4a2 h5 _ s0 s1 s2 s3 s4 s5 r_49 s0_49 s1_49 s2_49 s3_49 s4_49 s5_49 hc_49) (cwV 0 hts gL_law_X5_say rfl rfl rfl (by decide +kernel) ⟨Nat.le_of_ble_eq_true rfl, Nat.le_of_ble_eq_true rfl⟩) (gc_V (ci := 5) (q0 := 15) (C := RX5) (T := TX5) (N := 10) (hP.sub (ws' := (cf_012345 cI h0 h1 h2 h2a2 h2a3 h2a4 h2a5 h2a6 h2a7 h3 h3a0 h4 h4a0 h4a1 h4a2 h5 s0 s1 s2 s3 s4 s5)) [0, 1, 2, 3, 4, 5, 6, 7, 8, 9, 10, 11, 12, 13, 14, 15] rfl) (hK.sub (tys' := [(cI, .int)]) [0] rfl) (hD.sub (ws' := (cf_012345 cI h0 h1 h2 h2a2 h2a3 h2a4 h2a5 h2a6 h2a7 h3 h3a0 h4 h4a0 h4a1 h4a2 h5 s0 s1 s2 s3 s4 s5)) [0, 1, 2, 3, 4, 5, 6, 7, 8, 9, 10, 11, 12, 13, 14, 15] (by decide) rfl) hN rfl rfl) rfl rfl hl.1 rfl (lv_room (Nat.le_of_ble_eq_true rfl)) dL_law_445 ⟨by show 26 + i + 0 ≤ 1058; omega, by show 405 + 6 * i + 0 ≤ 8645; omega⟩) (fun H locs hP hD hS => ?_)
          refine lv_aload_n hx hb dL_law_448 rfl (lv_at hl 2 rfl) ?_
          obtain ⟨r_50, s6_50, hc_50, hf⟩ := bn2_ok hf
          refine gc_i (wc := (cf_6 cI cZ h6 h6a1 h6a2 h6a3 h6a4 h6a5 h6a7 h6a17 h6a18 s6)) (wr := (cf_012345O cI cJ h0 h1 h2 h2a2 h2a3 h2a4 h2a5 h2a6 h2a7 h3 h3a0 h4 h4a0 h4a1 h4a2 h5 hO s0_49 s1_49 s2_49 s3_49 s4_49 s5_49 sO)) (w1 := (cf_6 cI cZ h6 h6a1 h6a2 h6a3 h6a4 h6a5 h6a7 h6a17 h6a18 s6_50)) (ws' := (cf_0123456O cI cZ cJ h0 h1 h2 h2a2 h2a3 h2a4 h2a5 h2a6 h2a7 h3 h3a0 h4 h4a0 h4a1 h4a2 h5 h6 h6a1 h6a2 h6a3 h6a4 h6a5 h6a7 h6a17 h6a18 hO s0_49 s1_49 s2_49 s3_49 s4_49 s5_49 s6_50 sO)) hP hD hS hA [16, 17, 18, 19, 20, 21, 22, 23, 24] [0, 1, 2, 3, 4, 5, 6, 7, 8, 9, 10, 11, 12, 13, 14, 15, 25] [0, 1, 2, 3, 4, 5, 6, 7, 8, 9, 10, 11, 12, 13, 14, 15, 17, 18, 19, 20, 21, 22, 23, 24, 25, 16] rfl rfl (by decide) (by decide) rfl (by decide) (va_runV (As := []) (rest := [.int r_49]) ⟨hx, hb, hml, hown, hts⟩ (ktX6_say l dC dI cI cZ h6 h6a1 h6a2 h6a3 h6a4 h6a5 h6a7 h6a17 h6a18 _ s6 r_50 s6_50 hc_50) (cwV 0 hts gL_law_X6_say rfl rfl rfl (by decide +kernel) ⟨Nat.le_of_ble_eq_true rfl, Nat.le_of_ble_eq_true rfl⟩) (gc_V (ci := 6) (q0 := 0) (C := RX6) (T := TX6) (N := 25) (hP.sub (ws' := (cf_6 cI cZ h6 h6a1 h6a2 h6a3 h6a4 h6a5 h6a7 h6a17 h6a18 s6)) [16, 17, 18, 19, 20, 21, 22, 23, 24] rfl) (hK.sub (tys' := [(cI, .int), (cZ, .boolean)]) [0, 1] rfl) (hD.sub (ws' := (cf_6 cI cZ h6 h6a1 h6a2 h6a3 h6a4 h6a5 h6a7 h6a17 h6a18 s6)) [16, 17, 18, 19, 20, 21, 22, 23, 24] (by decide) rfl) hN rfl rfl) rfl rfl hl.1 rfl (lv_room (Nat.le_of_ble_eq_true rfl)) dL_law_449 ⟨by show 26 + i + 0 ≤ 1058; omega, by show 405 + 6 * i + 0 ≤ 8645; omega⟩) (fun H locs hP hD hS => ?_)
          refine lv_icmp_eq (tgt := 574) hx hb dL_law_452 (by decide) (fun c_51 => ?_) (fun c_51 => ?_)
          · have hf := it_t c_51 hf
            refine W.widen (k := 26 + i + 1) (n := 405 + 6 * i + 6) (by omega) (by omega) ?_
            exact J574 n i hi (fun s0 s1 s2 s3 s4 s5 s6 sO x4 => fL_law_23 L xs n s0 s1 s2 s3 s4 s5 s6 sO x4) (fun s0 s1 s2 s3 s4 s5 s6 sO x4 H locs hP hD hS ls hl hf => ih (i + 1) (by omega) s0 s1 s2 s3 s4 s5 s6 sO x4 H locs hP hD hS ls hl hf) s0_49 s1_49 s2_49 s3_49 s4_49 s5_49 s6_50 sO x4 _ _ hP hD hS _ (lv_sub hl [0, 1, 2, 3, 4] rfl) hf
          · have hf := it_f c_51 hf
            refine lv_iconst (v := 0) hx hb dL_law_455 (by decide) ?_
            have hf : (some 0 : Option Int32) = some 1 := hf
            exact absurd (Option.some.inj hf) (by decide)
        have hf := it_f c_48 hf
        by_cases c_52 : ((xs x4.toNatClampNeg) &&& 15) = 7
        · have hf := it_t c_52 hf
          refine lv_tableIn (off := 418) (tgt := 457) hx hb dL_law_39 (by rw [c_52]; decide) (by rw [c_52]; decide) (by rw [c_52]; rfl) (by decide) ?_
          refine lv_aload_n hx hb dL_law_457 rfl (lv_at hl 1 rfl) ?_
          obtain ⟨r_53, hc_53, hf⟩ := bn1_ok hf
          refine gc_i (wc := (cf_5 cI h5 h4 h3 h2 h1 h0 s5)) (wr := (cf_012346O cI cZ cJ h0 h1 h2 h2a2 h2a3 h2a4 h2a5 h2a6 h2a7 h3 h3a0 h4 h4a0 h4a1 h4a2 h6 h6a1 h6a2 h6a3 h6a4 h6a5 h6a7 h6a17 h6a18 hO s0 s1 s2 s3 s4 s6 sO)) (w1 := (cf_5 cI h5 h4 h3 h2 h1 h0 s5)) (ws' := (cf_0123456O cI cZ cJ h0 h1 h2 h2a2 h2a3 h2a4 h2a5 h2a6 h2a7 h3 h3a0 h4 h4a0 h4a1 h4a2 h5 h6 h6a1 h6a2 h6a3 h6a4 h6a5 h6a7 h6a17 h6a18 hO s0 s1 s2 s3 s4 s5 s6 sO)) hP hD hS hA [15] [0, 1, 2, 3, 4, 5, 6, 7, 8, 9, 10, 11, 12, 13, 14, 16, 17, 18, 19, 20, 21, 22, 23, 24, 25] [0, 1, 2, 3, 4, 5, 6, 7, 8, 9, 10, 11, 12, 13, 14, 25, 15, 16, 17, 18, 19, 20, 21, 22, 23, 24] rfl rfl (by decide) (by decide) rfl (by decide) (va_runV (As := []) (rest := []) ⟨hx, hb, hml, hown, hts⟩ (ktX5_outcome l dC dI cI h5 h4 h3 h2 h1 h0 _ s5 r_53 hc_53) (cwV 0 hts gL_law_X5_outcome rfl rfl rfl (by decide +kernel) ⟨Nat.le_of_ble_eq_true rfl, Nat.le_of_ble_eq_true rfl⟩) (gc_V (ci := 5) (q0 := 0) (C := RX5) (T := TX5) (N := 10) (hP.sub (ws' := (cf_5 cI h5 h4 h3 h2 h1 h0 s5)) [15] rfl) (hK.sub (tys' := [(cI, .int)]) [0] rfl) (hD.sub (ws' := (cf_5 cI h5 h4 h3 h2 h1 h0 s5)) [15] (by decide) rfl) hN rfl rfl) rfl rfl hl.1 rfl (lv_room (Nat.le_of_ble_eq_true rfl)) dL_law_458 ⟨by show 26 + i + 0 ≤ 1058; omega, by show 405 + 6 * i + 0 ≤ 8645; omega⟩) (fun H locs hP hD hS => ?_)
          refine lv_aload_n hx hb dL_law_461 rfl (lv_at hl 2 rfl) ?_
          obtain ⟨r_54, s6_54, hc_54, hf⟩ := bn2_ok hf
          refine gc_i (wc := (cf_6 cI cZ h6 h6a1 h6a2 h6a3 h6a4 h6a5 h6a7 h6a17 h6a18 s6)) (wr := (cf_012345O cI cJ h0 h1 h2 h2a2 h2a3 h2a4 h2a5 h2a6 h2a7 h3 h3a0 h4 h4a0 h4a1 h4a2 h5 hO s0 s1 s2 s3 s4 s5 sO)) (w1 := (cf_6 cI cZ h6 h6a1 h6a2 h6a3 h6a4 h6a5 h6a7 h6a17 h6a18 s6_54)) (ws' := (cf_0123456O cI cZ cJ h0 h1 h2 h2a2 h2a3 h2a4 h2a5 h2a6 h2a7 h3 h3a0 h4 h4a0 h4a1 h4a2 h5 h6 h6a1 h6a2 h6a3 h6a4 h6a5 h6a7 h6a17 h6a18 hO s0 s1 s2 s3 s4 s5 s6_54 sO)) hP hD hS hA [16, 17, 18, 19, 20, 21, 22, 23, 24] [0, 1, 2, 3, 4, 5, 6, 7, 8, 9, 10, 11, 12, 13, 14, 15, 25] [0, 1, 2, 3, 4, 5, 6, 7, 8, 9, 10, 11, 12, 13, 14, 15, 17, 18, 19, 20, 21, 22, 23, 24, 25, 16] rfl rfl (by decide) (by decide) rfl (by decide) (va_runV (As := []) (rest := [.int r_53]) ⟨hx, hb, hml, hown, hts⟩ (ktX6_outcome l dC dI cI cZ h6 h6a1 h6a2 h6a3 h6a4 h6a5 h6a7 h6a17 h6a18 _ s6 r_54 s6_54 hc_54) (cwV 0 hts gL_law_X6_outcome rfl rfl rfl (by decide +kernel) ⟨Nat.le_of_ble_eq_true rfl, Nat.le_of_ble_eq_true rfl⟩) (gc_V (ci := 6) (q0 := 0) (C := RX6) (T := TX6) (N := 25) (hP.sub (ws' := (cf_6 cI cZ h6 h6a1 h6a2 h6a3 h6a4 h6a5 h6a7 h6a17 h6a18 s6)) [16, 17, 18, 19, 20, 21, 22, 23, 24] rfl) (hK.sub (tys' := [(cI, .int), (cZ, .boolean)]) [0, 1] rfl) (hD.sub (ws' := (cf_6 cI cZ h6 h6a1 h6a2 h6a3 h6a4 h6a5 h6a7 h6a17 h6a18 s6)) [16, 17, 18, 19, 20, 21, 22, 23, 24] (by decide) rfl) hN rfl rfl) rfl rfl hl.1 rfl (lv_room (Nat.le_of_ble_eq_true rfl)) dL_law_462 ⟨by show 26 + i + 0 ≤ 1058; omega, by show 405 + 6 * i + 0 ≤ 8645; omega⟩) (fun H locs hP hD hS => ?_)
          refine lv_icmp_eq (tgt := 574) hx hb dL_law_465 (by decide) (fun c_55 => ?_) (fun c_55 => ?_)
          · have hf := it_t c_55 hf
            refine W.widen (k := 26 + i + 1) (n := 405 + 6 * i + 6) (by omega) (by omega) ?_
            exact J574 n i hi (fun s0 s1 s2 s3 s4 s5 s6 sO x4 => fL_law_23 L xs n s0 s1 s2 s3 s4 s5 s6 sO x4) (fun s0 s1 s2 s3 s4 s5 s6 sO x4 H locs hP hD hS ls hl hf => ih (i + 1) (by omega) s0 s1 s2 s3 s4 s5 s6 sO x4 H locs hP hD hS ls hl hf) s0 s1 s2 s3 s4 s5 s6_54 sO x4 _ _ hP hD hS _ (lv_sub hl [0, 1, 2, 3, 4] rfl) hf
          · have hf := it_f c_55 hf
            refine lv_iconst (v := 0) hx hb dL_law_468 (by decide) ?_
            have hf : (some 0 : Option Int32) = some 1 := hf
            exact absurd (Option.some.inj hf) (by decide)
        have hf := it_f c_52 hf
        by_cases c_56 : ((xs x4.toNatClampNeg) &&& 15) = 8
        · have hf := it_t c_56 hf
          refine lv_tableIn (off := 431) (tgt := 470) hx hb dL_law_39 (by rw [c_56]; decide) (by rw [c_56]; decide) (by rw [c_56]; rfl) (by decide) ?_
          refine lv_aload_n hx hb dL_law_470 rfl (lv_at hl 1 rfl) ?_
          obtain ⟨r_57, hc_57, hf⟩ := bn1_ok hf
          refine gc_i (wc := (cf_5 cI h5 h4 h3 h2 h1 h0 s5)) (wr := (cf_012346O cI cZ cJ h0 h1 h2 h2a2 h2a3 h2a4 h2a5 h2a6 h2a7 h3 h3a0 h4 h4a0 h4a1 h4a2 h6 h6a1 h6a2 h6a3 h6a4 h6a5 h6a7 h6a17 h6a18 hO s0 s1 s2 s3 s4 s6 sO)) (w1 := (cf_5 cI h5 h4 h3 h2 h1 h0 s5)) (ws' := (cf_0123456O cI cZ cJ h0 h1 h2 h2a2 h2a3 h2a4 h2a5 h2a6 h2a7 h3 h3a0 h4 h4a0 h4a1 h4a2 h5 h6 h6a1 h6a2 h6a3 h6a4 h6a5 h6a7 h6a17 h6a18 hO s0 s1 s2 s3 s4 s5 s6 sO)) hP hD hS hA [15] [0, 1, 2, 3, 4, 5, 6, 7, 8, 9, 10, 11, 12, 13, 14, 16, 17, 18, 19, 20, 21, 22, 23, 24, 25] [0, 1, 2, 3, 4, 5, 6, 7, 8, 9, 10, 11, 12, 13, 14, 25, 15, 16, 17, 18, 19, 20, 21, 22, 23, 24] rfl rfl (by decide) (by decide) rfl (by decide) (va_runV (As := []) (rest := []) ⟨hx, hb, hml, hown, hts⟩ (ktX5_wrongAt l dC dI cI h5 h4 h3 h2 h1 h0 _ s5 r_57 hc_57) (cwV 0 hts gL_law_X5_wrongAt rfl rfl rfl (by decide +kernel) ⟨Nat.le_of_ble_eq_true rfl, Nat.le_of_ble_eq_true rfl⟩) (gc_V (ci := 5) (q0 := 0) (C := RX5) (T := TX5) (N := 10) (hP.sub (ws' := (cf_5 cI h5 h4 h3 h2 h1 h0 s5)) [15] rfl) (hK.sub (tys' := [(cI, .int)]) [0] rfl) (hD.sub (ws' := (cf_5 cI h5 h4 h3 h2 h1 h0 s5)) [15] (by decide) rfl) hN rfl rfl) rfl rfl hl.1 rfl (lv_room (Nat.le_of_ble_eq_true rfl)) dL_law_471 ⟨by show 26 + i + 0 ≤ 1058; omega, by show 405 + 6 * i + 0 ≤ 8645; omega⟩) (fun H locs hP hD hS => ?_)
          refine lv_aload_n hx hb dL_law_474 rfl (lv_at hl 2 rfl) ?_
          obtain ⟨r_58, s6_58, hc_58, hf⟩ := bn2_ok hf
          refine gc_i (wc := (cf_6 cI cZ h6 h6a1 h6a2 h6a3 h6a4 h6a5 h6a7 h6a17 h6a18 s6)) (wr := (cf_012345O cI cJ h0 h1 h2 h2a2 h2a3 h2a4 h2a5 h2a6 h2a7 h3 h3a0 h4 h4a0 h4a1 h4a2 h5 hO s0 s1 s2 s3 s4 s5 sO)) (w1 := (cf_6 cI cZ h6 h6a1 h6a2 h6a3 h6a4 h6a5 h6a7 h6a17 h6a18 s6_58)) (ws' := (cf_0123456O cI cZ cJ h0 h1 h2 h2a2 h2a3 h2a4 h2a5 h2a6 h2a7 h3 h3a0 h4 h4a0 h4a1 h4a2 h5 h6 h6a1 h6a2 h6a3 h6a4 h6a5 h6a7 h6a17 h6a18 hO s0 s1 s2 s3 s4 s5 s6_58 sO)) hP hD hS hA [16, 17, 18, 19, 20, 21, 22, 23, 24] [0, 1, 2, 3, 4, 5, 6, 7, 8, 9, 10, 11, 12, 13, 14, 15, 25] [0, 1, 2, 3, 4, 5, 6, 7, 8, 9, 10, 11, 12, 13, 14, 15, 17, 18, 19, 20, 21, 22, 23, 24, 25, 16] rfl rfl (by decide) (by decide) rfl (by decide) (va_runV (As := []) (rest := [.int r_57]) ⟨hx, hb, hml, hown, hts⟩ (ktX6_wrongAt l dC dI cI cZ h6 h6a1 h6a2 h6a3 h6a4 h6a5 h6a7 h6a17 h6a18 _ s6 r_58 s6_58 hc_58) (cwV 0 hts gL_law_X6_wrongAt rfl rfl rfl (by decide +kernel) ⟨Nat.le_of_ble_eq_true rfl, Nat.le_of_ble_eq_true rfl⟩) (gc_V (ci := 6) (q0 := 0) (C := RX6) (T := TX6) (N := 25) (hP.sub (ws' := (cf_6 cI cZ h6 h6a1 h6a2 h6a3 h6a4 h6a5 h6a7 h6a17 h6a18 s6)) [16, 17, 18, 19, 20, 21, 22, 23, 24] rfl) (hK.sub (tys' := [(cI, .int), (cZ, .boolean)]) [0, 1] rfl) (hD.sub (ws' := (cf_6 cI cZ h6 h6a1 h6a2 h6a3 h6a4 h6a5 h6a7 h6a17 h6a18 s6)) [16, 17, 18, 19, 20, 21, 22, 23, 24] (by decide) rfl) hN rfl rfl) rfl rfl hl.1 rfl (lv_room (Nat.le_of_ble_eq_true rfl)) dL_law_475 ⟨by show 26 + i + 0 ≤ 1058; omega, by show 405 + 6 * i + 0 ≤ 8645; omega⟩) (fun H locs hP hD hS => ?_)
          refine lv_icmp_eq (tgt := 574) hx hb dL_law_478 (by decide) (fun c_59 => ?_) (fun c_59 => ?_)
          · have hf := it_t c_59 hf
            refine W.widen (k := 26 + i + 1) (n := 405 + 6 * i + 6) (by omega) (by omega) ?_
            exact J574 n i hi (fun s0 s1 s2 s3 s4 s5 s6 sO x4 => fL_law_23 L xs n s0 s1 s2 s3 s4 s5 s6 sO x4) (fun s0 s1 s2 s3 s4 s5 s6 sO x4 H locs hP hD hS ls hl hf => ih (i + 1) (by omega) s0 s1 s2 s3 s4 s5 s6 sO x4 H locs hP hD hS ls hl hf) s0 s1 s2 s3 s4 s5 s6_58 sO x4 _ _ hP hD hS _ (lv_sub hl [0, 1, 2, 3, 4] rfl) hf
          · have hf := it_f c_59 hf
            refine lv_iconst (v := 0) hx hb dL_law_481 (by decide) ?_
            have hf : (some 0 : Option Int32) = some 1 := hf
            exact absurd (Option.some.inj hf) (by decide)
        have hf := it_f c_56 hf
        by_cases c_60 : ((xs x4.toNatClampNeg) &&& 15) = 9
        · have hf := it_t c_60 hf
          refine lv_tableIn (off := 444) (tgt := 483) hx hb dL_law_39 (by rw [c_60]; decide) (by rw [c_60]; decide) (by rw [c_60]; rfl) (by decide) ?_
          refine lv_aload_n hx hb dL_law_483 rfl (lv_at hl 1 rfl) ?_
          obtain ⟨r_61, hc_61, hf⟩ := bn1_ok hf
          refine gc_i (wc := (cf_15 cI h1 h5 h4 h3 h2 h0 s1 s5)) (wr := (cf_02346O cI cZ cJ h0 h2 h2a2 h2a3 h2a4 h2a5 h2a6 h2a7 h3 h3a0 h4 h4a0 h4a1 h4a2 h6 h6a1 h6a2 h6a3 h6a4 h6a5 h6a7 h6a17 h6a18 hO h1 s0 s2 s3 s4 s6 sO)) (w1 := (cf_15 cI h1 h5 h4 h3 h2 h0 s1 s5)) (ws' := (cf_0123456O cI cZ cJ h0 h1 h2 h2a2 h2a3 h2a4 h2a5 h2a6 h2a7 h3 h3a0 h4 h4a0 h4a1 h4a2 h5 h6 h6a1 h6a2 h6a3 h6a4 h6a5 h6a7 h6a17 h6a18 hO s0 s1 s2 s3 s4 s5 s6 sO)) hP hD hS hA [1, 15] [0, 2, 3, 4, 5, 6, 7, 8, 9, 10, 11, 12, 13, 14, 16, 17, 18, 19, 20, 21, 22, 23, 24, 25] [0, 24, 1, 2, 3, 4, 5, 6, 7, 8, 9, 10, 11, 12, 13, 25, 14, 15, 16, 17, 18, 19, 20, 21, 22, 23] rfl rfl (by decide) (by decide) rfl (by decide) (va_runV (As := []) (rest := []) ⟨hx, hb, hml, hown, hts⟩ (ktX5_verb l dC dI cI h1 h5 h4 h3 h2 h0 _ s1 s5 r_61 hc_61) (cwV 0 hts gL_law_X5_verb rfl rfl rfl (by decide +kernel) ⟨Nat.le_of_ble_eq_true rfl, Nat.le_of_ble_eq_true rfl⟩) (gc_V (ci := 5) (q0 := 1) (C := RX5) (T := TX5) (N := 10) (hP.sub (ws' := (cf_15 cI h1 h5 h4 h3 h2 h0 s1 s5)) [1, 15] rfl) (hK.sub (tys' := [(cI, .int)]) [0] rfl) (hD.sub (ws' := (cf_15 cI h1 h5 h4 h3 h2 h0 s1 s5)) [1, 15] (by decide) rfl) hN rfl rfl) rfl rfl hl.1 rfl (lv_room (Nat.le_of_ble_eq_true rfl)) dL_law_484 ⟨by show 26 + i + 0 ≤ 1058; omega, by show 405 + 6 * i + 0 ≤ 8645; omega⟩) (fun H locs hP hD hS => ?_)
          refine lv_aload_n hx hb dL_law_487 rfl (lv_at hl 2 rfl) ?_
          obtain ⟨r_62, s6_62, hc_62, hf⟩ := bn2_ok hf
          refine gc_i (wc := (cf_6 cI cZ h6 h6a1 h6a2 h6a3 h6a4 h6a5 h6a7 h6a17 h6a18 s6)) (wr := (cf_012345O cI cJ h0 h1 h2 h2a2 h2a3 h2a4 h2a5 h2a6 h2a7 h3 h3a0 h4 h4a0 h4a1 h4a2 h5 hO s0 s1 s2 s3 s4 s5 sO)) (w1 := (cf_6 cI cZ h6 h6a1 h6a2 h6a3 h6a4 h6a5 h6a7 h6a17 h6a18 s6_62)) (ws' := (cf_0123456O cI cZ cJ h0 h1 h2 h2a2 h2a3 h2a4 h2a5 h2a6 h2a7 h3 h3a0 h4 h4a0 h4a1 h4a2 h5 h6 h6a1 h6a2 h6a3 h6a4 h6a5 h6a7 h6a17 h6a18 hO s0 s1 s2 s3 s4 s5 s6_62 sO)) hP hD hS hA [16, 17, 18, 19, 20, 21, 22, 23, 24] [0, 1, 2, 3, 4, 5, 6, 7, 8, 9, 10, 11, 12, 13, 14, 15, 25] [0, 1, 2, 3, 4, 5, 6, 7, 8, 9, 10, 11, 12, 13, 14, 15, 17, 18, 19, 20, 21, 22, 23, 24, 25, 16] rfl rfl (by decide) (by decide) rfl (by decide) (va_runV (As := []) (rest := [.int r_61]) ⟨hx, hb, hml, hown, hts⟩ (ktX6_verb l dC dI cI cZ h6 h6a1 h6a2 h6a3 h6a4 h6a5 h6a7 h6a17 h6a18 _ s6 r_62 s6_62 hc_62) (cwV 0 hts gL_law_X6_verb rfl rfl rfl (by decide +kernel) ⟨Nat.le_of_ble_eq_true rfl, Nat.le_of_ble_eq_true rfl⟩) (gc_V (ci := 6) (q0 := 0) (C := RX6) (T := TX6) (N := 25) (hP.sub (ws' := (cf_6 cI cZ h6 h6a1 h6a2 h6a3 h6a4 h6a5 h6a7 h6a17 h6a18 s6)) [16, 17, 18, 19, 20, 21, 22, 23, 24] rfl) (hK.sub (tys' := [(cI, .int), (cZ, .boolean)]) [0, 1] rfl) (hD.sub (ws' := (cf_6 cI cZ h6 h6a1 h6a2 h6a3 h6a4 h6a5 h6a7 h6a17 h6a18 s6)) [16, 17, 18, 19, 20, 21, 22, 23, 24] (by decide) rfl) hN rfl rfl) rfl rfl hl.1 rfl (lv_room (Nat.le_of_ble_eq_true rfl)) dL_law_488 ⟨by show 26 + i + 0 ≤ 1058; omega, by show 405 + 6 * i + 0 ≤ 8645; omega⟩) (fun H locs hP hD hS => ?_)
          refine lv_icmp_eq (tgt := 574) hx hb dL_law_491 (by decide) (fun c_63 => ?_) (fun c_63 => ?_)
          · have hf := it_t c_63 hf
            refine W.widen (k := 26 + i + 1) (n := 405 + 6 * i + 6) (by omega) (by omega) ?_
            exact J574 n i hi (fun s0 s1 s2 s3 s4 s5 s6 sO x4 => fL_law_23 L xs n s0 s1 s2 s3 s4 s5 s6 sO x4) (fun s0 s1 s2 s3 s4 s5 s6 sO x4 H locs hP hD hS ls hl hf => ih (i + 1) (by omega) s0 s1 s2 s3 s4 s5 s6 sO x4 H locs hP hD hS ls hl hf) s0 s1 s2 s3 s4 s5 s6_62 sO x4 _ _ hP hD hS _ (lv_sub hl [0, 1, 2, 3, 4] rfl) hf
          · have hf := it_f c_63 hf
            refine lv_iconst (v := 0) hx hb dL_law_494 (by decide) ?_
            have hf : (some 0 : Option Int32) = some 1 := hf
            exact absurd (Option.some.inj hf) (by decide)
        have hf := it_f c_60 hf
        by_cases c_64 : ((xs x4.toNatClampNeg) &&& 15) = 10
        · have hf := it_t c_64 hf
          refine lv_tableIn (off := 457) (tgt := 496) hx hb dL_law_39 (by rw [c_64]; decide) (by rw [c_64]; decide) (by rw [c_64]; rfl) (by decide) ?_
          refine lv_aload_n hx hb dL_law_496 rfl (lv_at hl 1 rfl) ?_
          obtain ⟨r_65, hc_65, hf⟩ := bn1_ok hf
          refine gc_i (wc := (cf_15 cI h1 h5 h4 h3 h2 h0 s1 s5)) (wr := (cf_02346O cI cZ cJ h0 h2 h2a2 h2a3 h2a4 h2a5 h2a6 h2a7 h3 h3a0 h4 h4a0 h4a1 h4a2 h6 h6a1 h6a2 h6a3 h6a4 h6a5 h6a7 h6a17 h6a18 hO h1 s0 s2 s3 s4 s6 sO)) (w1 := (cf_15 cI h1 h5 h4 h3 h2 h0 s1 s5)) (ws' := (cf_0123456O cI cZ cJ h0 h1 h2 h2a2 h2a3 h2a4 h2a5 h2a6 h2a7 h3 h3a0 h4 h4a0 h4a1 h4a2 h5 h6 h6a1 h6a2 h6a3 h6a4 h6a5 h6a7 h6a17 h6a18 hO s0 s1 s2 s3 s4 s5 s6 sO)) hP hD hS hA [1, 15] [0, 2, 3, 4, 5, 6, 7, 8, 9, 10, 11, 12, 13, 14, 16, 17, 18, 19, 20, 21, 22, 23, 24, 25] [0, 24, 1, 2, 3, 4, 5, 6, 7, 8, 9, 10, 11, 12, 13, 25, 14, 15, 16, 17, 18, 19, 20, 21, 22, 23] rfl rfl (by decide) (by decide) rfl (by decide) (va_runV (As := []) (rest := []) ⟨hx, hb, hml, hown, hts⟩ (ktX5_meant l dC dI cI h1 h5 h4 h3 h2 h0 _ s1 s5 r_65 hc_65) (cwV 0 hts gL_law_X5_meant rfl rfl rfl (by decide +kernel) ⟨Nat.le_of_ble_eq_true rfl, Nat.le_of_ble_eq_true rfl⟩) (gc_V (ci := 5) (q0 := 1) (C := RX5) (T := TX5) (N := 10) (hP.sub (ws' := (cf_15 cI h1 h5 h4 h3 h2 h0 s1 s5)) [1, 15] rfl) (hK.sub (tys' := [(cI, .int)]) [0] rfl) (hD.sub (ws' := (cf_15 cI h1 h5 h4 h3 h2 h0 s1 s5)) [1, 15] (by decide) rfl) hN rfl rfl) rfl rfl hl.1 rfl (lv_room (Nat.le_of_ble_eq_true rfl)) dL_law_497 ⟨by show 26 + i + 0 ≤ 1058; omega, by show 405 + 6 * i + 0 ≤ 8645; omega⟩) (fun H locs hP hD hS => ?_)
          refine lv_aload_n hx hb dL_law_500 rfl (lv_at hl 2 rfl) ?_
          obtain ⟨r_66, s6_66, hc_66, hf⟩ := bn2_ok hf
          refine gc_i (wc := (cf_6 cI cZ h6 h6a1 h6a2 h6a3 h6a4 h6a5 h6a7 h6a17 h6a18 s6)) (wr := (cf_012345O cI cJ h0 h1 h2 h2a2 h2a3 h2a4 h2a5 h2a6 h2a7 h3 h3a0 h4 h4a0 h4a1 h4a2 h5 hO s0 s1 s2 s3 s4 s5 sO)) (w1 := (cf_6 cI cZ h6 h6a1 h6a2 h6a3 h6a4 h6a5 h6a7 h6a17 h6a18 s6_66)) (ws' := (cf_0123456O cI cZ cJ h0 h1 h2 h2a2 h2a3 h2a4 h2a5 h2a6 h2a7 h3 h3a0 h4 h4a0 h4a1 h4a2 h5 h6 h6a1 h6a2 h6a3 h6a4 h6a5 h6a7 h6a17 h6a18 hO s0 s1 s2 s3 s4 s5 s6_66 sO)) hP hD hS hA [16, 17, 18, 19, 20, 21, 22, 23, 24] [0, 1, 2, 3, 4, 5, 6, 7, 8, 9, 10, 11, 12, 13, 14, 15, 25] [0, 1, 2, 3, 4, 5, 6, 7, 8, 9, 10, 11, 12, 13, 14, 15, 17, 18, 19, 20, 21, 22, 23, 24, 25, 16] rfl rfl (by decide) (by decide) rfl (by decide) (va_runV (As := []) (rest := [.int r_65]) ⟨hx, hb, hml, hown, hts⟩ (ktX6_meant l dC dI cI cZ h6 h6a1 h6a2 h6a3 h6a4 h6a5 h6a7 h6a17 h6a18 _ s6 r_66 s6_66 hc_66) (cwV 0 hts gL_law_X6_meant rfl rfl rfl (by decide +kernel) ⟨Nat.le_of_ble_eq_true rfl, Nat.le_of_ble_eq_true rfl⟩) (gc_V (ci := 6) (q0 := 0) (C := RX6) (T := TX6) (N := 25) (hP.sub (ws' := (cf_6 cI cZ h6 h6a1 h6a2 h6a3 h6a4 h6a5 h6a7 h6a17 h6a18 s6)) [16, 17, 18, 19, 20, 21, 22, 23, 24] rfl) (hK.sub (tys' := [(cI, .int), (cZ, .boolean)]) [0, 1] rfl) (hD.sub (ws' := (cf_6 cI cZ h6 h6a1 h6a2 h6a3 h6a4 h6a5 h6a7 h6a17 h6a18 s6)) [16, 17, 18, 19, 20, 21, 22, 23, 24] (by decide) rfl) hN rfl rfl) rfl rfl hl.1 rfl (lv_room (Nat.le_of_ble_eq_true rfl)) dL_law_501 ⟨by show 26 + i + 0 ≤ 1058; omega, by show 405 + 6 * i + 0 ≤ 8645; omega⟩) (fun H locs hP hD hS => ?_)
          refine lv_icmp_eq (tgt := 574) hx hb dL_law_504 (by decide) (fun c_67 => ?_) (fun c_67 => ?_)
          · have hf := it_t c_67 hf
            refine W.widen (k := 26 + i + 1) (n := 405 + 6 * i + 6) (by omega) (by omega) ?_
            exact J574 n i hi (fun s0 s1 s2 s3 s4 s5 s6 sO x4 => fL_law_23 L xs n s0 s1 s2 s3 s4 s5 s6 sO x4) (fun s0 s1 s2 s3 s4 s5 s6 sO x4 H locs hP hD hS ls hl hf => ih (i + 1) (by omega) s0 s1 s2 s3 s4 s5 s6 sO x4 H locs hP hD hS ls hl hf) s0 s1 s2 s3 s4 s5 s6_66 sO x4 _ _ hP hD hS _ (lv_sub hl [0, 1, 2, 3, 4] rfl) hf
          · have hf := it_f c_67 hf
            refine lv_iconst (v := 0) hx hb dL_law_507 (by decide) ?_
            have hf : (some 0 : Option Int32) = some 1 := hf
            exact absurd (Option.some.inj hf) (by decide)
        have hf := it_f c_64 hf
        by_cases c_68 : ((xs x4.toNatClampNeg) &&& 15) = 11
        · have hf := it_t c_68 hf
          refine lv_tableIn (off := 470) (tgt := 509) hx hb dL_law_39 (by rw [c_68]; decide) (by rw [c_68]; decide) (by rw [c_68]; rfl) (by decide) ?_
          refine lv_aload_n hx hb dL_law_509 rfl (lv_at hl 1 rfl) ?_
          obtain ⟨r_69, hc_69, hf⟩ := bn1_ok hf
          refine gc_i (wc := (cf_15 cI h1 h5 h4 h3 h2 h0 s1 s5)) (wr := (cf_02346O cI cZ cJ h0 h2 h2a2 h2a3 h2a4 h2a5 h2a6 h2a7 h3 h3a0 h4 h4a0 h4a1 h4a2 h6 h6a1 h6a2 h6a3 h6a4 h6a5 h6a7 h6a17 h6a18 hO h1 s0 s2 s3 s4 s6 sO)) (w1 := (cf_15 cI h1 h5 h4 h3 h2 h0 s1 s5)) (ws' := (cf_0123456O cI cZ cJ h0 h1 h2 h2a2 h2a3 h2a4 h2a5 h2a6 h2a7 h3 h3a0 h4 h4a0 h4a1 h4a2 h5 h6 h6a1 h6a2 h6a3 h6a4 h6a5 h6a7 h6a17 h6a18 hO s0 s1 s2 s3 s4 s5 s6 sO)) hP hD hS hA [1, 15] [0, 2, 3, 4, 5, 6, 7, 8, 9, 10, 11, 12, 13, 14, 16, 17, 18, 19, 20, 21, 22, 23, 24, 25] [0, 24, 1, 2, 3, 4, 5, 6, 7, 8, 9, 10, 11, 12, 13, 25, 14, 15, 16, 17, 18, 19, 20, 21, 22, 23] rfl rfl (by decide) (by decide) rfl (by decide) (va_runV (As := []) (rest := []) ⟨hx, hb, hml, hown, hts⟩ (ktX5_done l dC dI cI h1 h5 h4 h3 h2 h0 _ s1 s5 r_69 hc_69) (cwV 0 hts gL_law_X5_done rfl rfl rfl (by decide +kernel) ⟨Nat.le_of_ble_eq_true rfl, Nat.le_of_ble_eq_true rfl⟩) (gc_V (ci := 5) (q0 := 1) (C := RX5) (T := TX5) (N := 10) (hP.sub (ws' := (cf_15 cI h1 h5 h4 h3 h2 h0 s1 s5)) [1, 15] rfl) (hK.sub (tys' := [(cI, .int)]) [0] rfl) (hD.sub (ws' := (cf_15 cI h1 h5 h4 h3 h2 h0 s1 s5)) [1, 15] (by decide) rfl) hN rfl rfl) rfl rfl hl.1 rfl (lv_room (Nat.le_of_ble_eq_true rfl)) dL_law_510 ⟨by show 26 + i + 0 ≤ 1058; omega, by show 405 + 6 * i + 0 ≤ 8645; omega⟩) (fun H locs hP hD hS => ?_)
          refine lv_aload_n hx hb dL_law_513 rfl (lv_at hl 2 rfl) ?_
          obtain ⟨r_70, s6_70, hc_70, hf⟩ := bn2_ok hf
          refine gc_i (wc := (cf_6 cI cZ h6 h6a1 h6a2 h6a3 h6a4 h6a5 h6a7 h6a17 h6a18 s6)) (wr := (cf_012345O cI cJ h0 h1 h2 h2a2 h2a3 h2a4 h2a5 h2a6 h2a7 h3 h3a0 h4 h4a0 h4a1 h4a2 h5 hO s0 s1 s2 s3 s4 s5 sO)) (w1 := (cf_6 cI cZ h6 h6a1 h6a2 h6a3 h6a4 h6a5 h6a7 h6a17 h6a18 s6_70)) (ws' := (cf_0123456O cI cZ cJ h0 h1 h2 h2a2 h2a3 h2a4 h2a5 h2a6 h2a7 h3 h3a0 h4 h4a0 h4a1 h4a2 h5 h6 h6a1 h6a2 h6a3 h6a4 h6a5 h6a7 h6a17 h6a18 hO s0 s1 s2 s3 s4 s5 s6_70 sO)) hP hD hS hA [16, 17, 18, 19, 20, 21, 22, 23, 24] [0, 1, 2, 3, 4, 5, 6, 7, 8, 9, 10, 11, 12, 13, 14, 15, 25] [0, 1, 2, 3, 4, 5, 6, 7, 8, 9, 10, 11, 12, 13, 14, 15, 17, 18, 19, 20, 21, 22, 23, 24, 25, 16] rfl rfl (by decide) (by decide) rfl (by decide) (va_runV (As := []) (rest := [.int r_69]) ⟨hx, hb, hml, hown, hts⟩ (ktX6_done l dC dI cI cZ h6 h6a1 h6a2 h6a3 h6a4 h6a5 h6a7 h6a17 h6a18 _ s6 r_70 s6_70 hc_70) (cwV 0 hts gL_law_X6_done rfl rfl rfl (by decide +kernel) ⟨Nat.le_of_ble_eq_true rfl, Nat.le_of_ble_eq_true rfl⟩) (gc_V (ci := 6) (q0 := 0) (C := RX6) (T := TX6) (N := 25) (hP.sub (ws' := (cf_6 cI cZ h6 h6a1 h6a2 h6a3 h6a4 h6a5 h6a7 h6a17 h6a18 s6)) [16, 17, 18, 19, 20, 21, 22, 23, 24] rfl) (hK.sub (tys' := [(cI, .int), (cZ, .boolean)]) [0, 1] rfl) (hD.sub (ws' := (cf_6 cI cZ h6 h6a1 h6a2 h6a3 h6a4 h6a5 h6a7 h6a17 h6a18 s6)) [16, 17, 18, 19, 20, 21, 22, 23, 24] (by decide) rfl) hN rfl rfl) rfl rfl hl.1 rfl (lv_room (Nat.le_of_ble_eq_true rfl)) dL_law_514 ⟨by show 26 + i + 0 ≤ 1058; omega, by show 405 + 6 * i + 0 ≤ 8645; omega⟩) (fun H locs hP hD hS => ?_)
          refine lv_icmp_eq (tgt := 574) hx hb dL_law_517 (by decide) (fun c_71 => ?_) (fun c_71 => ?_)
          · have hf := it_t c_71 hf
            refine W.widen (k := 26 + i + 1) (n := 405 + 6 * i + 6) (by omega) (by omega) ?_
            exact J574 n i hi (fun s0 s1 s2 s3 s4 s5 s6 sO x4 => fL_law_23 L xs n s0 s1 s2 s3 s4 s5 s6 sO x4) (fun s0 s1 s2 s3 s4 s5 s6 sO x4 H locs hP hD hS ls hl hf => ih (i + 1) (by omega) s0 s1 s2 s3 s4 s5 s6 sO x4 H locs hP hD hS ls hl hf) s0 s1 s2 s3 s4 s5 s6_70 sO x4 _ _ hP hD hS _ (lv_sub hl [0, 1, 2, 3, 4] rfl) hf
          · have hf := it_f c_71 hf
            refine lv_iconst (v := 0) hx hb dL_law_520 (by decide) ?_
            have hf : (some 0 : Option Int32) = some 1 := hf
            exact absurd (Option.some.inj hf) (by decide)
        have hf := it_f c_68 hf
        by_cases c_72 : ((xs x4.toNatClampNeg) &&& 15) = 12
        · have hf := it_t c_72 hf
          refine lv_tableIn (off := 483) (tgt := 522) hx hb dL_law_39 (by rw [c_72]; decide) (by rw [c_72]; decide) (by rw [c_72]; rfl) (by decide) ?_
          refine lv_aload_n hx hb dL_law_522 rfl (lv_at hl 1 rfl) ?_
          obtain ⟨r_73, hc_73, hf⟩ := bn1_ok hf
          refine gc_i (wc := (cf_15 cI h1 h5 h4 h3 h2 h0 s1 s5)) (wr := (cf_02346O cI cZ cJ h0 h2 h2a2 h2a3 h2a4 h2a5 h2a6 h2a7 h3 h3a0 h4 h4a0 h4a1 h4a2 h6 h6a1 h6a2 h6a3 h6a4 h6a5 h6a7 h6a17 h6a18 hO h1 s0 s2 s3 s4 s6 sO)) (w1 := (cf_15 cI h1 h5 h4 h3 h2 h0 s1 s5)) (ws' := (cf_0123456O cI cZ cJ h0 h1 h2 h2a2 h2a3 h2a4 h2a5 h2a6 h2a7 h3 h3a0 h4 h4a0 h4a1 h4a2 h5 h6 h6a1 h6a2 h6a3 h6a4 h6a5 h6a7 h6a17 h6a18 hO s0 s1 s2 s3 s4 s5 s6 sO)) hP hD hS hA [1, 15] [0, 2, 3, 4, 5, 6, 7, 8, 9, 10, 11, 12, 13, 14, 16, 17, 18, 19, 20, 21, 22, 23, 24, 25] [0, 24, 1, 2, 3, 4, 5, 6, 7, 8, 9, 10, 11, 12, 13, 25, 14, 15, 16, 17, 18, 19, 20, 21, 22, 23] rfl rfl (by decide) (by decide) rfl (by decide) (va_runV (As := []) (rest := []) ⟨hx, hb, hml, hown, hts⟩ (ktX5_into l dC dI cI h1 h5 h4 h3 h2 h0 _ s1 s5 r_73 hc_73) (cwV 0 hts gL_law_X5_into rfl rfl rfl (by decide +kernel) ⟨Nat.le_of_ble_eq_true rfl, Nat.le_of_ble_eq_true rfl⟩) (gc_V (ci := 5) (q0 := 1) (C := RX5) (T := TX5) (N := 10) (hP.sub (ws' := (cf_15 cI h1 h5 h4 h3 h2 h0 s1 s5)) [1, 15] rfl) (hK.sub (tys' := [(cI, .int)]) [0] rfl) (hD.sub (ws' := (cf_15 cI h1 h5 h4 h3 h2 h0 s1 s5)) [1, 15] (by decide) rfl) hN rfl rfl) rfl rfl hl.1 rfl (lv_room (Nat.le_of_ble_eq_true rfl)) dL_law_523 ⟨by show 26 + i + 0 ≤ 1058; omega, by show 405 + 6 * i + 0 ≤ 8645; omega⟩) (fun H locs hP hD hS => ?_)
          refine lv_aload_n hx hb dL_law_526 rfl (lv_at hl 2 rfl) ?_
          obtain ⟨r_74, s6_74, hc_74, hf⟩ := bn2_ok hf
          refine gc_i (wc := (cf_6 cI cZ h6 h6a1 h6a2 h6a3 h6a4 h6a5 h6a7 h6a17 h6a18 s6)) (wr := (cf_012345O cI cJ h0 h1 h2 h2a2 h2a3 h2a4 h2a5 h2a6 h2a7 h3 h3a0 h4 h4a0 h4a1 h4a2 h5 hO s0 s1 s2 s3 s4 s5 sO)) (w1 := (cf_6 cI cZ h6 h6a1 h6a2 h6a3 h6a4 h6a5 h6a7 h6a17 h6a18 s6_74)) (ws' := (cf_0123456O cI cZ cJ h0 h1 h2 h2a2 h2a3 h2a4 h2a5 h2a6 h2a7 h3 h3a0 h4 h4a0 h4a1 h4a2 h5 h6 h6a1 h6a2 h6a3 h6a4 h6a5 h6a7 h6a17 h6a18 hO s0 s1 s2 s3 s4 s5 s6_74 sO)) hP hD hS hA [16, 17, 18, 19, 20, 21, 22, 23, 24] [0, 1, 2, 3, 4, 5, 6, 7, 8, 9, 10, 11, 12, 13, 14, 15, 25] [0, 1, 2, 3, 4, 5, 6, 7, 8, 9, 10, 11, 12, 13, 14, 15, 17, 18, 19, 20, 21, 22, 23, 24, 25, 16] rfl rfl (by decide) (by decide) rfl (by decide) (va_runV (As := []) (rest := [.int r_73]) ⟨hx, hb, hml, hown, hts⟩ (ktX6_into l dC dI cI cZ h6 h6a1 h6a2 h6a3 h6a4 h6a5 h6a7 h6a17 h6a18 _ s6 r_74 s6_74 hc_74) (cwV 0 hts gL_law_X6_into rfl rfl rfl (by decide +kernel) ⟨Nat.le_of_ble_eq_true rfl, Nat.le_of_ble_eq_true rfl⟩) (gc_V (ci := 6) (q0 := 0) (C := RX6) (T := TX6) (N := 25) (hP.sub (ws' := (cf_6 cI cZ h6 h6a1 h6a2 h6a3 h6a4 h6a5 h6a7 h6a17 h6a18 s6)) [16, 17, 18, 19, 20, 21, 22, 23, 24] rfl) (hK.sub (tys' := [(cI, .int), (cZ, .boolean)]) [0, 1] rfl) (hD.sub (ws' := (cf_6 cI cZ h6 h6a1 h6a2 h6a3 h6a4 h6a5 h6a7 h6a17 h6a18 s6)) [16, 17, 18, 19, 20, 21, 22, 23, 24] (by decide) rfl) hN rfl rfl) rfl rfl hl.1 rfl (lv_room (Nat.le_of_ble_eq_true rfl)) dL_law_527 ⟨by show 26 + i + 0 ≤ 1058; omega, by show 405 + 6 * i + 0 ≤ 8645; omega⟩) (fun H locs hP hD hS => ?_)
          refine lv_icmp_eq (tgt := 574) hx hb dL_law_530 (by decide) (fun c_75 => ?_) (fun c_75 => ?_)
          · have hf := it_t c_75 hf
            refine W.widen (k := 26 + i + 1) (n := 405 + 6 * i + 6) (by omega) (by omega) ?_
            exact J574 n i hi (fun s0 s1 s2 s3 s4 s5 s6 sO x4 => fL_law_23 L xs n s0 s1 s2 s3 s4 s5 s6 sO x4) (fun s0 s1 s2 s3 s4 s5 s6 sO x4 H locs hP hD hS ls hl hf => ih (i + 1) (by omega) s0 s1 s2 s3 s4 s5 s6 sO x4 H locs hP hD hS ls hl hf) s0 s1 s2 s3 s4 s5 s6_74 sO x4 _ _ hP hD hS _ (lv_sub hl [0, 1, 2, 3, 4] rfl) hf
          · have hf := it_f c_75 hf
            refine lv_iconst (v := 0) hx hb dL_law_533 (by decide) ?_
            have hf : (some 0 : Option Int32) = some 1 := hf
            exact absurd (Option.some.inj hf) (by decide)
        have hf := it_f c_72 hf
        by_cases c_76 : ((xs x4.toNatClampNeg) &&& 15) = 13
        · have hf := it_t c_76 hf
          refine lv_tableIn (off := 496) (tgt := 535) hx hb dL_law_39 (by rw [c_76]; decide) (by rw [c_76]; decide) (by rw [c_76]; rfl) (by decide) ?_
          refine lv_aload_n hx hb dL_law_535 rfl (lv_at hl 1 rfl) ?_
          obtain ⟨r_77, hc_77, hf⟩ := bn1_ok hf
          refine gc_i (wc := (cf_5 cI h5 h4 h3 h2 h1 h0 s5)) (wr := (cf_012346O cI cZ cJ h0 h1 h2 h2a2 h2a3 h2a4 h2a5 h2a6 h2a7 h3 h3a0 h4 h4a0 h4a1 h4a2 h6 h6a1 h6a2 h6a3 h6a4 h6a5 h6a7 h6a17 h6a18 hO s0 s1 s2 s3 s4 s6 sO)) (w1 := (cf_5 cI h5 h4 h3 h2 h1 h0 s5)) (ws' := (cf_0123456O cI cZ cJ h0 h1 h2 h2a2 h2a3 h2a4 h2a5 h2a6 h2a7 h3 h3a0 h4 h4a0 h4a1 h4a2 h5 h6 h6a1 h6a2 h6a3 h6a4 h6a5 h6a7 h6a17 h6a18 hO s0 s1 s2 s3 s4 s5 s6 sO)) hP hD hS hA [15] [0, 1, 2, 3, 4, 5, 6, 7, 8, 9, 10, 11, 12, 13, 14, 16, 17, 18, 19, 20, 21, 22, 23, 24, 25] [0, 1, 2, 3, 4, 5, 6, 7, 8, 9, 10, 11, 12, 13, 14, 25, 15, 16, 17, 18, 19, 20, 21, 22, 23, 24] rfl rfl (by decide) (by decide) rfl (by decide) (va_runV (As := []) (rest := []) ⟨hx, hb, hml, hown, hts⟩ (ktX5_asked l dC dI cI h5 h4 h3 h2 h1 h0 _ s5 r_77 hc_77) (cwV 0 hts gL_law_X5_asked rfl rfl rfl (by decide +kernel) ⟨Nat.le_of_ble_eq_true rfl, Nat.le_of_ble_eq_true rfl⟩) (gc_V (ci := 5) (q0 := 0) (C := RX5) (T := TX5) (N := 10) (hP.sub (ws' := (cf_5 cI h5 h4 h3 h2 h1 h0 s5)) [15] rfl) (hK.sub (tys' := [(cI, .int)]) [0] rfl) (hD.sub (ws' := (cf_5 cI h5 h4 h3 h2 h1 h0 s5)) [15] (by decide) rfl) hN rfl rfl) rfl rfl hl.1 rfl (lv_room (Nat.le_of_ble_eq_true rfl)) dL_law_536 ⟨by show 26 + i + 0 ≤ 1058; omega, by show 405 + 6 * i + 0 ≤ 8645; omega⟩) (fun H locs hP hD hS => ?_)
          refine lv_aload_n hx hb dL_law_539 rfl (lv_at hl 2 rfl) ?_
          obtain ⟨r_78, s6_78, hc_78, hf⟩ := bn2_ok hf
          refine gc_i (wc := (cf_6 cI cZ h6 h6a1 h6a2 h6a3 h6a4 h6a5 h6a7 h6a17 h6a18 s6)) (wr := (cf_012345O cI cJ h0 h1 h2 h2a2 h2a3 h2a4 h2a5 h2a6 h2a7 h3 h3a0 h4 h4a0 h4a1 h4a2 h5 hO s0 s1 s2 s3 s4 s5 sO)) (w1 := (cf_6 cI cZ h6 h6a1 h6a2 h6a3 h6a4 h6a5 h6a7 h6a17 h6a18 s6_78)) (ws' := (cf_0123456O cI cZ cJ h0 h1 h2 h2a2 h2a3 h2a4 h2a5 h2a6 h2a7 h3 h3a0 h4 h4a0 h4a1 h4a2 h5 h6 h6a1 h6a2 h6a3 h6a4 h6a5 h6a7 h6a17 h6a18 hO s0 s1 s2 s3 s4 s5 s6_78 sO)) hP hD hS hA [16, 17, 18, 19, 20, 21, 22, 23, 24] [0, 1, 2, 3, 4, 5, 6, 7, 8, 9, 10, 11, 12, 13, 14, 15, 25] [0, 1, 2, 3, 4, 5, 6, 7, 8, 9, 10, 11, 12, 13, 14, 15, 17, 18, 19, 20, 21, 22, 23, 24, 25, 16] rfl rfl (by decide) (by decide) rfl (by decide) (va_runV (As := []) (rest := [.int r_77]) ⟨hx, hb, hml, hown, hts⟩ (ktX6_asked l dC dI cI cZ h6 h6a1 h6a2 h6a3 h6a4 h6a5 h6a7 h6a17 h6a18 _ s6 r_78 s6_78 hc_78) (cwV 0 hts gL_law_X6_asked rfl rfl rfl (by decide +kernel) ⟨Nat.le_of_ble_eq_true rfl, Nat.le_of_ble_eq_true rfl⟩) (gc_V (ci := 6) (q0 := 0) (C := RX6) (T := TX6) (N := 25) (hP.sub (ws' := (cf_6 cI cZ h6 h6a1 h6a2 h6a3 h6a4 h6a5 h6a7 h6a17 h6a18 s6)) [16, 17, 18, 19, 20, 21, 22, 23, 24] rfl) (hK.sub (tys' := [(cI, .int), (cZ, .boolean)]) [0, 1] rfl) (hD.sub (ws' := (cf_6 cI cZ h6 h6a1 h6a2 h6a3 h6a4 h6a5 h6a7 h6a17 h6a18 s6)) [16, 17, 18, 19, 20, 21, 22, 23, 24] (by decide) rfl) hN rfl rfl) rfl rfl hl.1 rfl (lv_room (Nat.le_of_ble_eq_true rfl)) dL_law_540 ⟨by show 26 + i + 0 ≤ 1058; omega, by show 405 + 6 * i + 0 ≤ 8645; omega⟩) (fun H locs hP hD hS => ?_)
          refine lv_icmp_eq (tgt := 574) hx hb dL_law_543 (by decide) (fun c_79 => ?_) (fun c_79 => ?_)
          · have hf := it_t c_79 hf
            refine W.widen (k := 26 + i + 1) (n := 405 + 6 * i + 6) (by omega) (by omega) ?_
            exact J574 n i hi (fun s0 s1 s2 s3 s4 s5 s6 sO x4 => fL_law_23 L xs n s0 s1 s2 s3 s4 s5 s6 sO x4) (fun s0 s1 s2 s3 s4 s5 s6 sO x4 H locs hP hD hS ls hl hf => ih (i + 1) (by omega) s0 s1 s2 s3 s4 s5 s6 sO x4 H locs hP hD hS ls hl hf) s0 s1 s2 s3 s4 s5 s6_78 sO x4 _ _ hP hD hS _ (lv_sub hl [0, 1, 2, 3, 4] rfl) hf
          · have hf := it_f c_79 hf
            refine lv_iconst (v := 0) hx hb dL_law_546 (by decide) ?_
            have hf : (some 0 : Option Int32) = some 1 := hf
            exact absurd (Option.some.inj hf) (by decide)
        have hf := it_f c_76 hf
        by_cases c_80 : ((xs x4.toNatClampNeg) &&& 15) = 14
        · have hf := it_t c_80 hf
          refine lv_tableIn (off := 509) (tgt := 548) hx hb dL_law_39 (by rw [c_80]; decide) (by rw [c_80]; decide) (by rw [c_80]; rfl) (by decide) ?_
          refine lv_aload_n hx hb dL_law_548 rfl (lv_at hl 1 rfl) ?_
          obtain ⟨r_81, hc_81, hf⟩ := bn1_ok hf
          refine gc_i (wc := (cf_25 cI h2 h2a2 h2a3 h2a4 h2a5 h2a6 h2a7 h5 h4 h3 h1 h0 s2 s5)) (wr := (cf_01346O cI cZ cJ h0 h1 h3 h3a0 h4 h4a0 h4a1 h4a2 h6 h6a1 h6a2 h6a3 h6a4 h6a5 h6a7 h6a17 h6a18 hO h2 s0 s1 s3 s4 s6 sO)) (w1 := (cf_25 cI h2 h2a2 h2a3 h2a4 h2a5 h2a6 h2a7 h5 h4 h3 h1 h0 s2 s5)) (ws' := (cf_0123456O cI cZ cJ h0 h1 h2 h2a2 h2a3 h2a4 h2a5 h2a6 h2a7 h3 h3a0 h4 h4a0 h4a1 h4a2 h5 h6 h6a1 h6a2 h6a3 h6a4 h6a5 h6a7 h6a17 h6a18 hO s0 s1 s2 s3 s4 s5 s6 sO)) hP hD hS hA [2, 3, 4, 5, 6, 7, 8, 15] [0, 1, 9, 10, 11, 12, 13, 14, 16, 17, 18, 19, 20, 21, 22, 23, 24, 25] [0, 1, 18, 19, 20, 21, 22, 23, 24, 2, 3, 4, 5, 6, 7, 25, 8, 9, 10, 11, 12, 13, 14, 15, 16, 17] rfl rfl (by decide) (by decide) rfl (by decide) (va_runV (As := []) (rest := []) ⟨hx, hb, hml, hown, hts⟩ (ktX5_askedAt l dC dI cI h2 h2a2 h2a3 h2a4 h2a5 h2a6 h2a7 h5 h4 h3 h1 h0 _ s2 s5 r_81 hc_81) (cwV 0 hts gL_law_X5_askedAt rfl rfl rfl (by decide +kernel) ⟨Nat.le_of_ble_eq_true rfl, Nat.le_of_ble_eq_true rfl⟩) (gc_V (ci := 5) (q0 := 7) (C := RX5) (T := TX5) (N := 10) (hP.sub (ws' := (cf_25 cI h2 h2a2 h2a3 h2a4 h2a5 h2a6 h2a7 h5 h4 h3 h1 h0 s2 s5)) [2, 3, 4, 5, 6, 7, 8, 15] rfl) (hK.sub (tys' := [(cI, .int)]) [0] rfl) (hD.sub (ws' := (cf_25 cI h2 h2a2 h2a3 h2a4 h2a5 h2a6 h2a7 h5 h4 h3 h1 h0 s2 s5)) [2, 3, 4, 5, 6, 7, 8, 15] (by decide) rfl) hN rfl rfl) rfl rfl hl.1 rfl (lv_room (Nat.le_of_ble_eq_true rfl)) dL_law_549 ⟨by show 26 + i + 0 ≤ 1058; omega, by show 405 + 6 * i + 0 ≤ 8645; omega⟩) (fun H locs hP hD hS => ?_)
          refine lv_aload_n hx hb dL_law_552 rfl (lv_at hl 2 rfl) ?_
          obtain ⟨r_82, s6_82, hc_82, hf⟩ := bn2_ok hf
          refine gc_i (wc := (cf_6 cI cZ h6 h6a1 h6a2 h6a3 h6a4 h6a5 h6a7 h6a17 h6a18 s6)) (wr := (cf_012345O cI cJ h0 h1 h2 h2a2 h2a3 h2a4 h2a5 h2a6 h2a7 h3 h3a0 h4 h4a0 h4a1 h4a2 h5 hO s0 s1 s2 s3 s4 s5 sO)) (w1 := (cf_6 cI cZ h6 h6a1 h6a2 h6a3 h6a4 h6a5 h6a7 h6a17 h6a18 s6_82)) (ws' := (cf_0123456O cI cZ cJ h0 h1 h2 h2a2 h2a3 h2a4 h2a5 h2a6 h2a7 h3 h3a0 h4 h4a0 h4a1 h4a2 h5 h6 h6a1 h6a2 h6a3 h6a4 h6a5 h6a7 h6a17 h6a18 hO s0 s1 s2 s3 s4 s5 s6_82 sO)) hP hD hS hA [16, 17, 18, 19, 20, 21, 22, 23, 24] [0, 1, 2, 3, 4, 5, 6, 7, 8, 9, 10, 11, 12, 13, 14, 15, 25] [0, 1, 2, 3, 4, 5, 6, 7, 8, 9, 10, 11, 12, 13, 14, 15, 17, 18, 19, 20, 21, 22, 23, 24, 25, 16] rfl rfl (by decide) (by decide) rfl (by decide) (va_runV (As := []) (rest := [.int r_81]) ⟨hx, hb, hml, hown, hts⟩ (ktX6_askedAt l dC dI cI cZ h6 h6a1 h6a2 h6a3 h6a4 h6a5 h6a7 h6a17 h6a18 _ s6 r_82 s6_82 hc_82) (cwV 0 hts gL_law_X6_askedAt rfl rfl rfl (by decide +kernel) ⟨Nat.le_of_ble_eq_true rfl, Nat.le_of_ble_eq_true rfl⟩) (gc_V (ci := 6) (q0 := 0) (C := RX6) (T := TX6) (N := 25) (hP.sub (ws' := (cf_6 cI cZ h6 h6a1 h6a2 h6a3 h6a4 h6a5 h6a7 h6a17 h6a18 s6)) [16, 17, 18, 19, 20, 21, 22, 23, 24] rfl) (hK.sub (tys' := [(cI, .int), (cZ, .boolean)]) [0, 1] rfl) (hD.sub (ws' := (cf_6 cI cZ h6 h6a1 h6a2 h6a3 h6a4 h6a5 h6a7 h6a17 h6a18 s6)) [16, 17, 18, 19, 20, 21, 22, 23, 24] (by decide) rfl) hN rfl rfl) rfl rfl hl.1 rfl (lv_room (Nat.le_of_ble_eq_true rfl)) dL_law_553 ⟨by show 26 + i + 0 ≤ 1058; omega, by show 405 + 6 * i + 0 ≤ 8645; omega⟩) (fun H locs hP hD hS => ?_)
          refine lv_icmp_eq (tgt := 574) hx hb dL_law_556 (by decide) (fun c_83 => ?_) (fun c_83 => ?_)
          · have hf := it_t c_83 hf
            refine W.widen (k := 26 + i + 1) (n := 405 + 6 * i + 6) (by omega) (by omega) ?_
            exact J574 n i hi (fun s0 s1 s2 s3 s4 s5 s6 sO x4 => fL_law_23 L xs n s0 s1 s2 s3 s4 s5 s6 sO x4) (fun s0 s1 s2 s3 s4 s5 s6 sO x4 H locs hP hD hS ls hl hf => ih (i + 1) (by omega) s0 s1 s2 s3 s4 s5 s6 sO x4 H locs hP hD hS ls hl hf) s0 s1 s2 s3 s4 s5 s6_82 sO x4 _ _ hP hD hS _ (lv_sub hl [0, 1, 2, 3, 4] rfl) hf
          · have hf := it_f c_83 hf
            refine lv_iconst (v := 0) hx hb dL_law_559 (by decide) ?_
            have hf : (some 0 : Option Int32) = some 1 := hf
            exact absurd (Option.some.inj hf) (by decide)
        have hf := it_f c_80 hf
        by_cases c_84 : ((xs x4.toNatClampNeg) &&& 15) = 15
        · have hf := it_t c_84 hf
          refine lv_tableIn (off := 522) (tgt := 561) hx hb dL_law_39 (by rw [c_84]; decide) (by rw [c_84]; decide) (by rw [c_84]; rfl) (by decide) ?_
          refine lv_aload_n hx hb dL_law_561 rfl (lv_at hl 1 rfl) ?_
          obtain ⟨r_85, hc_85, hf⟩ := bn1_ok hf
          refine gc_i (wc := (cf_5 cI h5 h4 h3 h2 h1 h0 s5)) (wr := (cf_012346O cI cZ cJ h0 h1 h2 h2a2 h2a3 h2a4 h2a5 h2a6 h2a7 h3 h3a0 h4 h4a0 h4a1 h4a2 h6 h6a1 h6a2 h6a3 h6a4 h6a5 h6a7 h6a17 h6a18 hO s0 s1 s2 s3 s4 s6 sO)) (w1 := (cf_5 cI h5 h4 h3 h2 h1 h0 s5)) (ws' := (cf_0123456O cI cZ cJ h0 h1 h2 h2a2 h2a3 h2a4 h2a5 h2a6 h2a7 h3 h3a0 h4 h4a0 h4a1 h4a2 h5 h6 h6a1 h6a2 h6a3 h6a4 h6a5 h6a7 h6a17 h6a18 hO s0 s1 s2 s3 s4 s5 s6 sO)) hP hD hS hA [15] [0, 1, 2, 3, 4, 5, 6, 7, 8, 9, 10, 11, 12, 13, 14, 16, 17, 18, 19, 20, 21, 22, 23, 24, 25] [0, 1, 2, 3, 4, 5, 6, 7, 8, 9, 10, 11, 12, 13, 14, 25, 15, 16, 17, 18, 19, 20, 21, 22, 23, 24] rfl rfl (by decide) (by decide) rfl (by decide) (va_runV (As := []) (rest := []) ⟨hx, hb, hml, hown, hts⟩ (ktX5_questions l dC dI cI h5 h4 h3 h2 h1 h0 _ s5 r_85 hc_85) (cwV 0 hts gL_law_X5_questions rfl rfl rfl (by decide +kernel) ⟨Nat.le_of_ble_eq_true rfl, Nat.le_of_ble_eq_true rfl⟩) (gc_V (ci := 5) (q0 := 0) (C := RX5) (T := TX5) (N := 10) (hP.sub (ws' := (cf_5 cI h5 h4 h3 h2 h1 h0 s5)) [15] rfl) (hK.sub (tys' := [(cI, .int)]) [0] rfl) (hD.sub (ws' := (cf_5 cI h5 h4 h3 h2 h1 h0 s5)) [15] (by decide) rfl) hN rfl rfl) rfl rfl hl.1 rfl (lv_room (Nat.le_of_ble_eq_true rfl)) dL_law_562 ⟨by show 26 + i + 0 ≤ 1058; omega, by show 405 + 6 * i + 0 ≤ 8645; omega⟩) (fun H locs hP hD hS => ?_)
          refine lv_aload_n hx hb dL_law_565 rfl (lv_at hl 2 rfl) ?_
          obtain ⟨r_86, s6_86, hc_86, hf⟩ := bn2_ok hf
          refine gc_i (wc := (cf_6 cI cZ h6 h6a1 h6a2 h6a3 h6a4 h6a5 h6a7 h6a17 h6a18 s6)) (wr := (cf_012345O cI cJ h0 h1 h2 h2a2 h2a3 h2a4 h2a5 h2a6 h2a7 h3 h3a0 h4 h4a0 h4a1 h4a2 h5 hO s0 s1 s2 s3 s4 s5 sO)) (w1 := (cf_6 cI cZ h6 h6a1 h6a2 h6a3 h6a4 h6a5 h6a7 h6a17 h6a18 s6_86)) (ws' := (cf_0123456O cI cZ cJ h0 h1 h2 h2a2 h2a3 h2a4 h2a5 h2a6 h2a7 h3 h3a0 h4 h4a0 h4a1 h4a2 h5 h6 h6a1 h6a2 h6a3 h6a4 h6a5 h6a7 h6a17 h6a18 hO s0 s1 s2 s3 s4 s5 s6_86 sO)) hP hD hS hA [16, 17, 18, 19, 20, 21, 22, 23, 24] [0, 1, 2, 3, 4, 5, 6, 7, 8, 9, 10, 11, 12, 13, 14, 15, 25] [0, 1, 2, 3, 4, 5, 6, 7, 8, 9, 10, 11, 12, 13, 14, 15, 17, 18, 19, 20, 21, 22, 23, 24, 25, 16] rfl rfl (by decide) (by decide) rfl (by decide) (va_runV (As := []) (rest := [.int r_85]) ⟨hx, hb, hml, hown, hts⟩ (ktX6_questions l dC dI cI cZ h6 h6a1 h6a2 h6a3 h6a4 h6a5 h6a7 h6a17 h6a18 _ s6 r_86 s6_86 hc_86) (cwV 0 hts gL_law_X6_questions rfl rfl rfl (by decide +kernel) ⟨Nat.le_of_ble_eq_true rfl, Nat.le_of_ble_eq_true rfl⟩) (gc_V (ci := 6) (q0 := 0) (C := RX6) (T := TX6) (N := 25) (hP.sub (ws' := (cf_6 cI cZ h6 h6a1 h6a2 h6a3 h6a4 h6a5 h6a7 h6a17 h6a18 s6)) [16, 17, 18, 19, 20, 21, 22, 23, 24] rfl) (hK.sub (tys' := [(cI, .int), (cZ, .boolean)]) [0, 1] rfl) (hD.sub (ws' := (cf_6 cI cZ h6 h6a1 h6a2 h6a3 h6a4 h6a5 h6a7 h6a17 h6a18 s6)) [16, 17, 18, 19, 20, 21, 22, 23, 24] (by decide) rfl) hN rfl rfl) rfl rfl hl.1 rfl (lv_room (Nat.le_of_ble_eq_true rfl)) dL_law_566 ⟨by show 26 + i + 0 ≤ 1058; omega, by show 405 + 6 * i + 0 ≤ 8645; omega⟩) (fun H locs hP hD hS => ?_)
          refine lv_icmp_eq (tgt := 574) hx hb dL_law_569 (by decide) (fun c_87 => ?_) (fun c_87 => ?_)
          · have hf := it_t c_87 hf
            refine W.widen (k := 26 + i + 1) (n := 405 + 6 * i + 6) (by omega) (by omega) ?_
            exact J574 n i hi (fun s0 s1 s2 s3 s4 s5 s6 sO x4 => fL_law_23 L xs n s0 s1 s2 s3 s4 s5 s6 sO x4) (fun s0 s1 s2 s3 s4 s5 s6 sO x4 H locs hP hD hS ls hl hf => ih (i + 1) (by omega) s0 s1 s2 s3 s4 s5 s6 sO x4 H locs hP hD hS ls hl hf) s0 s1 s2 s3 s4 s5 s6_86 sO x4 _ _ hP hD hS _ (lv_sub hl [0, 1, 2, 3, 4] rfl) hf
          · have hf := it_f c_87 hf
            refine lv_iconst (v := 0) hx hb dL_law_572 (by decide) ?_
            have hf : (some 0 : Option Int32) = some 1 := hf
            exact absurd (Option.some.inj hf) (by decide)
        have hf := it_f c_84 hf
        have KD : W p l e room_1 s m #[Value.ref b] below meth c H locs (26 + i) (405 + 6 * i) (lw_Z below #[Value.ref b] s) (F0 m 574 ls []) := by
          refine W.widen (k := 26 + i + 1) (n := 405 + 6 * i + 6) (by omega) (by omega) ?_
          exact J574 n i hi (fun s0 s1 s2 s3 s4 s5 s6 sO x4 => fL_law_23 L xs n s0 s1 s2 s3 s4 s5 s6 sO x4) (fun s0 s1 s2 s3 s4 s5 s6 sO x4 H locs hP hD hS ls hl hf => ih (i + 1) (by omega) s0 s1 s2 s3 s4 s5 s6 sO x4 H locs hP hD hS ls hl hf) s0 s1 s2 s3 s4 s5 s6 sO x4 _ _ hP hD hS _ (lv_sub hl [0, 1, 2, 3, 4] rfl) hf
        have z_3 := lv_neT c_3 (show (0 : Int32).toInt = 0 from rfl)
        have z_8 := lv_neT c_8 (show (1 : Int32).toInt = 1 from rfl)
        have z_17 := lv_neT c_17 (show (2 : Int32).toInt = 2 from rfl)
        have z_28 := lv_neT c_28 (show (3 : Int32).toInt = 3 from rfl)
        have z_32 := lv_neT c_32 (show (4 : Int32).toInt = 4 from rfl)
        have z_41 := lv_neT c_41 (show (5 : Int32).toInt = 5 from rfl)
        have z_48 := lv_neT c_48 (show (6 : Int32).toInt = 6 from rfl)
        have z_52 := lv_neT c_52 (show (7 : Int32).toInt = 7 from rfl)
        have z_56 := lv_neT c_56 (show (8 : Int32).toInt = 8 from rfl)
        have z_60 := lv_neT c_60 (show (9 : Int32).toInt = 9 from rfl)
        have z_64 := lv_neT c_64 (show (10 : Int32).toInt = 10 from rfl)
        have z_68 := lv_neT c_68 (show (11 : Int32).toInt = 11 from rfl)
        have z_72 := lv_neT c_72 (show (12 : Int32).toInt = 12 from rfl)
        have z_76 := lv_neT c_76 (show (13 : Int32).toInt = 13 from rfl)
        have z_80 := lv_neT c_80 (show (14 : Int32).toInt = 14 from rfl)
        have z_84 := lv_neT c_84 (show (15 : Int32).toInt = 15 from rfl)
        by_cases zo : (((xs x4.toNatClampNeg) &&& 15)).toInt < 0 ∨ 15 < (((xs x4.toNatClampNeg) &&& 15)).toInt
        · exact lv_tableOut (tgt := 574) hx hb dL_law_39 zo (by decide) KD
        · exact absurd zo (by omega)
  exact J23
