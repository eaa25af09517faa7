abbrev rmL_phrases : Room := { frames := 2, cells := 0, slots := 0, locals := 46 }
set_option maxHeartbeats 4000000 in
set_option maxRecDepth 100000 in
theorem ktL_phrases (l : Launch) (dC : Nat → ClassId) (dI : Nat → Nat → Nat) (cI : ClassId) (hyw hyf hyo hyk : Nat) (sz : Nat) (syw : Syw) (syf : Syf) (syo : Syo) (syk : Syk) (a1 : Int32) (r : Int32) (syff : Syf) (syof : Syo) (sykf : Syk) (hf : fL_phrases syw syf syo syk a1 = some (r, syff, syof, sykf)) : Met l yL_phrases wsL_phrases rmL_phrases (va_Pc [.ref hyw, .int a1, .ref hyf, .ref hyo, .ref hyk] (pre_w (dC, dI) (cf_ywyfyoyk cI hyw hyf hyo hyk syw syf syo syk) [(cI, .int)] sz)) (va_Qi (fun (r' : Int32) (_ : Unit) => r' = r) (post_w (dC, dI) (cf_ywyfyoyk cI hyw hyf hyo hyk syw syff syof sykf) [(cI, .int)] (va_A (cf_ywyfyoyk cI hyw hyf hyo hyk syw syf syo syk) sz)) (va_A (cf_ywyfyoyk cI hyw hyf hyo hyk syw syf syo syk) sz)) 0 0 (va_A (cf_ywyfyoyk cI hyw hyf hyo hyk syw syf syo syk) sz) := by
  refine gmw (mc := 0) (ms := 0) (ty := .int) (cc := cL_phrases) (maxL := 11) (by decide) rfl (Nat.le_of_ble_eq_true rfl) ?_
  intro p e s m below meth c A QQ ls hx hb hml hown hts hK hN hA hP hD hS hl hret
  have hown : s.vm.findClass RL = some m.cls := hown
  have hl : lv_has ls 11 [(0, .ref hyw), (1, .int a1), (2, .ref hyf), (3, .ref hyo), (4, .ref hyk)] := hl
  have J322 : ∀ (syf : Syf) (syo : Syo) (syk : Syk) (x5 : Int32) (H : Heap) (locs : List Loc), va_P (dC, dI) vwCl (cf_ywyfyoyk cI hyw hyf hyo hyk syw syf syo syk) H → va_D A (cf_ywyfyoyk cI hyw hyf hyo hyk syw syf syo syk) → va_S A s.heap H locs → ∀ (ls : Array Slot), lv_has ls 11 [(5, .int x5)] → fL_phrases_322 syw a1 syf syo syk x5 = some (r, syff, syof, sykf) → W p l e rmL_phrases s m ([.ref hyw, .int a1, .ref hyf, .ref hyo, .ref hyk] : List Value).toArray below meth c H locs (0) (0) QQ (F0 m 322 ls []) := by
    intro syf syo syk x5 H locs hP hD hS ls hl hf
    unfold fL_phrases_322 at hf
    refine lv_iload hx hb dL_phrases_322 (lv_at hl 0 rfl) ?_
    have hf : (some (x5, syf, syo, syk) : Option (Int32 × Syf × Syo × Syk)) = some (r, syff, syof, sykf) := hf
    have he := Option.some.inj hf
    have he0 : x5 = r := congrArg (fun q => q.1) he
    have he1 : syf = syff := congrArg (fun q => q.2.1) he
    have he2 : syo = syof := congrArg (fun q => q.2.2.1) he
    have he3 : syk = sykf := congrArg (fun q => q.2.2.2) he
    exact hret _ _ _ _ _ _ rfl he0 (by rw [← he1, ← he2, ← he3]) dL_phrases_324 hP hD hS
  have J292 : ∀ (syf : Syf) (syo : Syo) (syk : Syk) (x5 : Int32) (x6 : Int32) (H : Heap) (locs : List Loc), va_P (dC, dI) vwCl (cf_ywyfyoyk cI hyw hyf hyo hyk syw syf syo syk) H → va_D A (cf_ywyfyoyk cI hyw hyf hyo hyk syw syf syo syk) → va_S A s.heap H locs → ∀ (ls : Array Slot), lv_has ls 11 [(1, .int a1), (2, .ref hyf), (3, .ref hyo), (4, .ref hyk), (5, .int x5), (6, .int x6)] → fL_phrases_292 syw a1 syf syo syk x5 x6 = some (r, syff, syof, sykf) → W p l e rmL_phrases s m ([.ref hyw, .int a1, .ref hyf, .ref hyo, .ref hyk] : List Value).toArray below meth c H locs (0) (0) QQ (F0 m 292 ls []) := by
    intro syf syo syk x5 x6 H locs hP hD hS ls hl hf
    unfold fL_phrases_292 at hf
    refine lv_iload hx hb dL_phrases_292 (lv_at hl 5 rfl) ?_
    refine lv_iload_n hx hb dL_phrases_294 rfl (lv_at hl 0 rfl) ?_
    refine lv_icmp_ge (tgt := 322) hx hb dL_phrases_295 (by decide) (fun c_1 => ?_) (fun c_1 => ?_)
    · have hf := it_t c_1 hf
      exact J322 syf syo syk x5 _ _ hP hD hS _ (lv_sub hl [4] rfl) hf
    · have hf := it_f c_1 hf
      refine lv_aload_n hx hb dL_phrases_298 rfl (lv_at hl 1 rfl) ?_
      refine lv_iload hx hb dL_phrases_299 (lv_at hl 4 rfl) ?_
      refine lv_iload hx hb dL_phrases_301 (lv_at hl 5 rfl) ?_
      refine lv_iconst (v := 1) hx hb dL_phrases_303 (by decide) ?_
      refine lv_iadd hx hb dL_phrases_304 ?_
      obtain ⟨hi_2, hf⟩ := ai_ok hf
      refine va_iast (n := 24) (f := syf) hx hb hK hP hD hS 1 0 rfl rfl hi_2 dL_phrases_305 (fun H locs hP hD hS => ?_)
      have hP : va_P (dC, dI) vwCl (cf_ywyfyoyk cI hyw hyf hyo hyk syw (upd syf x5.toNatClampNeg (x6 + 1)) syo syk) H := hP
      have hD : va_D A (cf_ywyfyoyk cI hyw hyf hyo hyk syw (upd syf x5.toNatClampNeg (x6 + 1)) syo syk) := hD
      refine lv_aload_n hx hb dL_phrases_306 rfl (lv_at hl 2 rfl) ?_
      refine lv_iload hx hb dL_phrases_307 (lv_at hl 4 rfl) ?_
      refine lv_iload_n hx hb dL_phrases_309 rfl (lv_at hl 0 rfl) ?_
      refine lv_iconst (v := 1) hx hb dL_phrases_310 (by decide) ?_
      refine lv_isub hx hb dL_phrases_311 ?_
      obtain ⟨hi_3, hf⟩ := ai_ok hf
      refine va_iast (n := 24) (f := syo) hx hb hK hP hD hS 2 0 rfl rfl hi_3 dL_phrases_312 (fun H locs hP hD hS => ?_)
      have hP : va_P (dC, dI) vwCl (cf_ywyfyoyk cI hyw hyf hyo hyk syw (upd syf x5.toNatClampNeg (x6 + 1)) (upd syo x5.toNatClampNeg (a1 - 1)) syk) H := hP
      have hD : va_D A (cf_ywyfyoyk cI hyw hyf hyo hyk syw (upd syf x5.toNatClampNeg (x6 + 1)) (upd syo x5.toNatClampNeg (a1 - 1)) syk) := hD
      refine lv_aload hx hb dL_phrases_313 (lv_at hl 3 rfl) ?_
      refine lv_iload hx hb dL_phrases_315 (lv_at hl 4 rfl) ?_
      refine lv_iconst (v := 4) hx hb dL_phrases_317 (by decide) ?_
      obtain ⟨hi_4, hf⟩ := ai_ok hf
      refine va_iast (n := 24) (f := syk) hx hb hK hP hD hS 3 0 rfl rfl hi_4 dL_phrases_318 (fun H locs hP hD hS => ?_)
      have hP : va_P (dC, dI) vwCl (cf_ywyfyoyk cI hyw hyf hyo hyk syw (upd syf x5.toNatClampNeg (x6 + 1)) (upd syo x5.toNatClampNeg (a1 - 1)) (upd syk x5.toNatClampNeg 4)) H := hP
      have hD : va_D A (cf_ywyfyoyk cI hyw hyf hyo hyk syw (upd syf x5.toNatClampNeg (x6 + 1)) (upd syo x5.toNatClampNeg (a1 - 1)) (upd syk x5.toNatClampNeg 4)) := hD
      refine lv_iinc (v := (x5 + 1)) (lv' := [(5, .int (x5 + 1)), (1, .int a1), (2, .ref hyf), (3, .ref hyo), (4, .ref hyk), (6, .int x6)]) hx hb dL_phrases_319 hl (k := 4) rfl rfl (by decide) rfl (fun ls hl => ?_)
      exact J322 (upd syf x5.toNatClampNeg (x6 + 1)) (upd syo x5.toNatClampNeg (a1 - 1)) (upd syk x5.toNatClampNeg 4) (x5 + 1) _ _ hP hD hS _ (lv_sub hl [0] rfl) hf
  have J273 : ∀ (k6 : Syf → Syo → Syk → Int32 → Int32 → Option (Int32 × Syf × Syo × Syk)) (hk6 : ∀ (syf : Syf) (syo : Syo) (syk : Syk) (x5 : Int32) (x6 : Int32) (H : Heap) (locs : List Loc), va_P (dC, dI) vwCl (cf_ywyfyoyk cI hyw hyf hyo hyk syw syf syo syk) H → va_D A (cf_ywyfyoyk cI hyw hyf hyo hyk syw syf syo syk) → va_S A s.heap H locs → ∀ (ls : Array Slot), lv_has ls 11 [(0, .ref hyw), (1, .int a1), (2, .ref hyf), (3, .ref hyo), (4, .ref hyk), (5, .int x5), (6, .int x6)] → k6 syf syo syk x5 x6 = some (r, syff, syof, sykf) → W p l e rmL_phrases s m ([.ref hyw, .int a1, .ref hyf, .ref hyo, .ref hyk] : List Value).toArray below meth c H locs (0) (0) QQ (F0 m 6 ls [])) (syf : Syf) (syo : Syo) (syk : Syk) (x5 : Int32) (x6 : Int32) (t1 : Int32) (t2 : Int32) (H : Heap) (locs : List Loc), va_P (dC, dI) vwCl (cf_ywyfyoyk cI hyw hyf hyo hyk syw syf syo syk) H → va_D A (cf_ywyfyoyk cI hyw hyf hyo hyk syw syf syo syk) → va_S A s.heap H locs → ∀ (ls : Array Slot), lv_has ls 11 [(0, .ref hyw), (1, .int a1), (2, .ref hyf), (3, .ref hyo), (4, .ref hyk), (5, .int x5), (6, .int x6)] → fL_phrases_273 syw a1 k6 syf syo syk x5 x6 t1 t2 = some (r, syff, syof, sykf) → W p l e rmL_phrases s m ([.ref hyw, .int a1, .ref hyf, .ref hyo, .ref hyk] : List Value).toArray below meth c H locs (0) (0) QQ (F0 m 273 ls [.int t2, .int t1, .ref hyk]) := by
    intro k6 hk6 syf syo syk x5 x6 t1 t2 H locs hP hD hS ls hl hf
    unfold fL_phrases_273 at hf
    obtain ⟨hi_1, hf⟩ := ai_ok hf
    refine va_iast (n := 24) (f := syk) hx hb hK hP hD hS 3 0 rfl rfl hi_1 dL_phrases_273 (fun H locs hP hD hS => ?_)
    have hP : va_P (dC, dI) vwCl (cf_ywyfyoyk cI hyw hyf hyo hyk syw syf syo (upd syk t1.toNatClampNeg t2)) H := hP
    have hD : va_D A (cf_ywyfyoyk cI hyw hyf hyo hyk syw syf syo (upd syk t1.toNatClampNeg t2)) := hD
    refine lv_iinc (v := (x5 + 1)) (lv' := [(5, .int (x5 + 1)), (0, .ref hyw), (1, .int a1), (2, .ref hyf), (3, .ref hyo), (4, .ref hyk), (6, .int x6)]) hx hb dL_phrases_274 hl (k := 5) rfl rfl (by decide) rfl (fun ls hl => ?_)
    refine lv_iload hx hb dL_phrases_277 (lv_at hl 6 rfl) ?_
    refine lv_iload_n hx hb dL_phrases_279 rfl (lv_at hl 2 rfl) ?_
    refine lv_icmp_ge (tgt := 292) hx hb dL_phrases_280 (by decide) (fun c_2 => ?_) (fun c_2 => ?_)
    · have hf := it_t c_2 hf
      exact J292 syf syo (upd syk t1.toNatClampNeg t2) (x5 + 1) x6 _ _ hP hD hS _ (lv_sub hl [2, 3, 4, 5, 0, 6] rfl) hf
    · have hf := it_f c_2 hf
      refine lv_aload_n hx hb dL_phrases_283 rfl (lv_at hl 1 rfl) ?_
      refine lv_iload hx hb dL_phrases_284 (lv_at hl 6 rfl) ?_
      obtain ⟨hi_3, hf⟩ := ai_ok hf
      refine va_iald (n := 24) (f := syw) hx hb hK hP 0 0 rfl rfl hi_3 dL_phrases_286 ?_
      refine lv_bipush (v := 13) hx hb dL_phrases_287 (by decide) ?_
      refine lv_icmp_eq (tgt := 6) hx hb dL_phrases_289 (by decide) (fun c_4 => ?_) (fun c_4 => ?_)
      · have hf := it_t c_4 hf
        exact hk6 syf syo (upd syk t1.toNatClampNeg t2) (x5 + 1) x6 _ _ hP hD hS _ (lv_sub hl [1, 2, 3, 4, 5, 0, 6] rfl) hf
      · have hf := it_f c_4 hf
        exact J292 syf syo (upd syk t1.toNatClampNeg t2) (x5 + 1) x6 _ _ hP hD hS _ (lv_sub hl [2, 3, 4, 5, 0, 6] rfl) hf
  have J268 : ∀ (k6 : Syf → Syo → Syk → Int32 → Int32 → Option (Int32 × Syf × Syo × Syk)) (hk6 : ∀ (syf : Syf) (syo : Syo) (syk : Syk) (x5 : Int32) (x6 : Int32) (H : Heap) (locs : List Loc), va_P (dC, dI) vwCl (cf_ywyfyoyk cI hyw hyf hyo hyk syw syf syo syk) H → va_D A (cf_ywyfyoyk cI hyw hyf hyo hyk syw syf syo syk) → va_S A s.heap H locs → ∀ (ls : Array Slot), lv_has ls 11 [(0, .ref hyw), (1, .int a1), (2, .ref hyf), (3, .ref hyo), (4, .ref hyk), (5, .int x5), (6, .int x6)] → k6 syf syo syk x5 x6 = some (r, syff, syof, sykf) → W p l e rmL_phrases s m ([.ref hyw, .int a1, .ref hyf, .ref hyo, .ref hyk] : List Value).toArray below meth c H locs (0) (0) QQ (F0 m 6 ls [])) (syf : Syf) (syo : Syo) (syk : Syk) (x5 : Int32) (x6 : Int32) (t1 : Int32) (H : Heap) (locs : List Loc), va_P (dC, dI) vwCl (cf_ywyfyoyk cI hyw hyf hyo hyk syw syf syo syk) H → va_D A (cf_ywyfyoyk cI hyw hyf hyo hyk syw syf syo syk) → va_S A s.heap H locs → ∀ (ls : Array Slot), lv_has ls 11 [(0, .ref hyw), (1, .int a1), (2, .ref hyf), (3, .ref hyo), (4, .ref hyk), (5, .int x5), (6, .int x6)] → fL_phrases_268 syw a1 k6 syf syo syk x5 x6 t1 = some (r, syff, syof, sykf) → W p l e rmL_phrases s m ([.ref hyw, .int a1, .ref hyf, .ref hyo, .ref hyk] : List Value).toArray below meth c H locs (0) (0) QQ (F0 m 268 ls [.int t1, .ref hyk]) := by
    intro k6 hk6 syf syo syk x5 x6 t1 H locs hP hD hS ls hl hf
    unfold fL_phrases_268 at hf
    refine lv_iconst (v := 1) hx hb dL_phrases_268 (by decide) ?_
    refine lv_goto (tgt := 273) hx hb dL_phrases_269 (by decide) ?_
    exact J273 k6 hk6 syf syo syk x5 x6 t1 1 _ _ hP hD hS _ (lv_sub hl [0, 1, 2, 3, 4, 5, 6] rfl) hf
  have J220 : ∀ (k6 : Syf → Syo → Syk → Int32 → Int32 → Option (Int32 × Syf × Syo × Syk)) (hk6 : ∀ (syf : Syf) (syo : Syo) (syk : Syk) (x5 : Int32) (x6 : Int32) (H : Heap) (locs : List Loc), va_P (dC, dI) vwCl (cf_ywyfyoyk cI hyw hyf hyo hyk syw syf syo syk) H → va_D A (cf_ywyfyoyk cI hyw hyf hyo hyk syw syf syo syk) → va_S A s.heap H locs → ∀ (ls : Array Slot), lv_has ls 11 [(0, .ref hyw), (1, .int a1), (2, .ref hyf), (3, .ref hyo), (4, .ref hyk), (5, .int x5), (6, .int x6)] → k6 syf syo syk x5 x6 = some (r, syff, syof, sykf) → W p l e rmL_phrases s m ([.ref hyw, .int a1, .ref hyf, .ref hyo, .ref hyk] : List Value).toArray below meth c H locs (0) (0) QQ (F0 m 6 ls [])) (syf : Syf) (syo : Syo) (syk : Syk) (x5 : Int32) (x6 : Int32) (x7 : Int32) (x8 : Int32) (H : Heap) (locs : List Loc), va_P (dC, dI) vwCl (cf_ywyfyoyk cI hyw hyf hyo hyk syw syf syo syk) H → va_D A (cf_ywyfyoyk cI hyw hyf hyo hyk syw syf syo syk) → va_S A s.heap H locs → ∀ (ls : Array Slot), lv_has ls 11 [(0, .ref hyw), (1, .int a1), (2, .ref hyf), (3, .ref hyo), (4, .ref hyk), (5, .int x5), (6, .int x6), (7, .int x7), (8, .int x8)] → fL_phrases_220 syw a1 k6 syf syo syk x5 x6 x7 x8 = some (r, syff, syof, sykf) → W p l e rmL_phrases s m ([.ref hyw, .int a1, .ref hyf, .ref hyo, .ref hyk] : List Value).toArray below meth c H locs (0) (0) QQ (F0 m 220 ls []) := by
    intro k6 hk6 syf syo syk x5 x6 x7 x8 H locs hP hD hS ls hl hf
    unfold fL_phrases_220 at hf
    refine lv_aload_n hx hb dL_phrases_220 rfl (lv_at hl 2 rfl) ?_
    refine lv_iload hx hb dL_phrases_221 (lv_at hl 5 rfl) ?_
    refine lv_iload hx hb dL_phrases_223 (lv_at hl 7 rfl) ?_
    obtain ⟨hi_1, hf⟩ := ai_ok hf
    refine va_iast (n := 24) (f := syf) hx hb hK hP hD hS 1 0 rfl rfl hi_1 dL_phrases_225 (fun H locs hP hD hS => ?_)
    have hP : va_P (dC, dI) vwCl (cf_ywyfyoyk cI hyw hyf hyo hyk syw (upd syf x5.toNatClampNeg x7) syo syk) H := hP
    have hD : va_D A (cf_ywyfyoyk cI hyw hyf hyo hyk syw (upd syf x5.toNatClampNeg x7) syo syk) := hD
    refine lv_aload_n hx hb dL_phrases_226 rfl (lv_at hl 3 rfl) ?_
    refine lv_iload hx hb dL_phrases_227 (lv_at hl 5 rfl) ?_
    refine lv_iload hx hb dL_phrases_229 (lv_at hl 8 rfl) ?_
    obtain ⟨hi_2, hf⟩ := ai_ok hf
    refine va_iast (n := 24) (f := syo) hx hb hK hP hD hS 2 0 rfl rfl hi_2 dL_phrases_231 (fun H locs hP hD hS => ?_)
    have hP : va_P (dC, dI) vwCl (cf_ywyfyoyk cI hyw hyf hyo hyk syw (upd syf x5.toNatClampNeg x7) (upd syo x5.toNatClampNeg x8) syk) H := hP
    have hD : va_D A (cf_ywyfyoyk cI hyw hyf hyo hyk syw (upd syf x5.toNatClampNeg x7) (upd syo x5.toNatClampNeg x8) syk) := hD
    refine lv_aload hx hb dL_phrases_232 (lv_at hl 4 rfl) ?_
    refine lv_iload hx hb dL_phrases_234 (lv_at hl 5 rfl) ?_
    refine lv_aload_n hx hb dL_phrases_236 rfl (lv_at hl 0 rfl) ?_
    refine lv_iload hx hb dL_phrases_237 (lv_at hl 8 rfl) ?_
    obtain ⟨hi_3, hf⟩ := ai_ok hf
    refine va_iald (n := 24) (f := syw) hx hb hK hP 0 0 rfl rfl hi_3 dL_phrases_239 ?_
    refine lv_bipush (v := 15) hx hb dL_phrases_240 (by decide) ?_
    refine lv_icmp_ne (tgt := 249) hx hb dL_phrases_242 (by decide) (fun c_4 => ?_) (fun c_4 => ?_)
    · have hf := it_f c_4 hf
      refine lv_aload_n hx hb dL_phrases_249 rfl (lv_at hl 0 rfl) ?_
      refine lv_iload hx hb dL_phrases_250 (lv_at hl 8 rfl) ?_
      obtain ⟨hi_5, hf⟩ := ai_ok hf
      refine va_iald (n := 24) (f := syw) hx hb hK hP 0 0 rfl rfl hi_5 dL_phrases_252 ?_
      refine lv_bipush (v := 11) hx hb dL_phrases_253 (by decide) ?_
      refine lv_icmp_eq (tgt := 268) hx hb dL_phrases_255 (by decide) (fun c_6 => ?_) (fun c_6 => ?_)
      · have hf := it_t c_6 hf
        exact J268 k6 hk6 (upd syf x5.toNatClampNeg x7) (upd syo x5.toNatClampNeg x8) syk x5 x6 x5 _ _ hP hD hS _ (lv_sub hl [0, 1, 2, 3, 4, 5, 6] rfl) hf
      · have hf := it_f c_6 hf
        refine lv_aload_n hx hb dL_phrases_258 rfl (lv_at hl 0 rfl) ?_
        refine lv_iload hx hb dL_phrases_259 (lv_at hl 8 rfl) ?_
        obtain ⟨hi_7, hf⟩ := ai_ok hf
        refine va_iald (n := 24) (f := syw) hx hb hK hP 0 0 rfl rfl hi_7 dL_phrases_261 ?_
        obtain ⟨r_8, hc_8, hf⟩ := bn1_ok hf
        refine gc_i (wc := ([] : va_W)) (wr := (cf_ywyfyoyk cI hyw hyf hyo hyk syw (upd syf x5.toNatClampNeg x7) (upd syo x5.toNatClampNeg x8) syk)) (w1 := ([] : va_W)) (ws' := (cf_ywyfyoyk cI hyw hyf hyo hyk syw (upd syf x5.toNatClampNeg x7) (upd syo x5.toNatClampNeg x8) syk)) hP hD hS hA [] [0, 1, 2, 3] [0, 1, 2, 3] rfl rfl (by decide) (by decide) rfl (by decide) (va_runS (As := [.int (syw x8.toNatClampNeg)]) (rest := [.int x5, .ref hyk]) ⟨hx, hb, hml, hown, hts⟩ (ktL_isPlural l dC dI _ (syw x8.toNatClampNeg) r_8 hc_8) (va_cwS 1 hts gL_phrases_L_isPlural rfl rfl rfl (by decide +kernel) ⟨Nat.le_of_ble_eq_true rfl, Nat.le_of_ble_eq_true rfl⟩) (gc_S (hP.sub (ws' := ([] : va_W)) [] rfl) (hK.sub (tys' := []) [] rfl) (hD.sub (ws' := ([] : va_W)) [] (by decide) rfl) hN) rfl rfl hl.1 rfl (lv_room (Nat.le_of_ble_eq_true rfl)) dL_phrases_262 ⟨by show (0) + 0 ≤ 0; omega, by show (0) + 0 ≤ 0; omega⟩) (fun H locs hP hD hS => ?_)
        refine lv_if_eq (tgt := 272) hx hb dL_phrases_265 (by decide) (fun c_9 => ?_) (fun c_9 => ?_)
        · have hf := it_t c_9 hf
          refine lv_iconst (v := 0) hx hb dL_phrases_272 (by decide) ?_
          exact J273 k6 hk6 (upd syf x5.toNatClampNeg x7) (upd syo x5.toNatClampNeg x8) syk x5 x6 x5 0 _ _ hP hD hS _ (lv_sub hl [0, 1, 2, 3, 4, 5, 6] rfl) hf
        · have hf := it_f c_9 hf
          exact J268 k6 hk6 (upd syf x5.toNatClampNeg x7) (upd syo x5.toNatClampNeg x8) syk x5 x6 x5 _ _ hP hD hS _ (lv_sub hl [0, 1, 2, 3, 4, 5, 6] rfl) hf
    · have hf := it_t c_4 hf
      refine lv_iconst (v := 2) hx hb dL_phrases_245 (by decide) ?_
      refine lv_goto (tgt := 273) hx hb dL_phrases_246 (by decide) ?_
      exact J273 k6 hk6 (upd syf x5.toNatClampNeg x7) (upd syo x5.toNatClampNeg x8) syk x5 x6 x5 2 _ _ hP hD hS _ (lv_sub hl [0, 1, 2, 3, 4, 5, 6] rfl) hf
  have J215 : ∀ (k6 : Syf → Syo → Syk → Int32 → Int32 → Option (Int32 × Syf × Syo × Syk)) (hk6 : ∀ (syf : Syf) (syo : Syo) (syk : Syk) (x5 : Int32) (x6 : Int32) (H : Heap) (locs : List Loc), va_P (dC, dI) vwCl (cf_ywyfyoyk cI hyw hyf hyo hyk syw syf syo syk) H → va_D A (cf_ywyfyoyk cI hyw hyf hyo hyk syw syf syo syk) → va_S A s.heap H locs → ∀ (ls : Array Slot), lv_has ls 11 [(0, .ref hyw), (1, .int a1), (2, .ref hyf), (3, .ref hyo), (4, .ref hyk), (5, .int x5), (6, .int x6)] → k6 syf syo syk x5 x6 = some (r, syff, syof, sykf) → W p l e rmL_phrases s m ([.ref hyw, .int a1, .ref hyf, .ref hyo, .ref hyk] : List Value).toArray below meth c H locs (0) (0) QQ (F0 m 6 ls [])) (k136 : Syf → Syo → Syk → Int32 → Int32 → Int32 → Int32 → Int32 → Option (Int32 × Syf × Syo × Syk)) (hk136 : ∀ (syf : Syf) (syo : Syo) (syk : Syk) (x5 : Int32) (x6 : Int32) (x7 : Int32) (x8 : Int32) (x9 : Int32) (H : Heap) (locs : List Loc), va_P (dC, dI) vwCl (cf_ywyfyoyk cI hyw hyf hyo hyk syw syf syo syk) H → va_D A (cf_ywyfyoyk cI hyw hyf hyo hyk syw syf syo syk) → va_S A s.heap H locs → ∀ (ls : Array Slot), lv_has ls 11 [(0, .ref hyw), (1, .int a1), (2, .ref hyf), (3, .ref hyo), (4, .ref hyk), (5, .int x5), (6, .int x6), (7, .int x7), (8, .int x8), (9, .int x9)] → k136 syf syo syk x5 x6 x7 x8 x9 = some (r, syff, syof, sykf) → W p l e rmL_phrases s m ([.ref hyw, .int a1, .ref hyf, .ref hyo, .ref hyk] : List Value).toArray below meth c H locs (0) (0) QQ (F0 m 136 ls [])) (syf : Syf) (syo : Syo) (syk : Syk) (x5 : Int32) (x6 : Int32) (x7 : Int32) (x8 : Int32) (t0 : Int32) (H : Heap) (locs : List Loc), va_P (dC, dI) vwCl (cf_ywyfyoyk cI hyw hyf hyo hyk syw syf syo syk) H → va_D A (cf_ywyfyoyk cI hyw hyf hyo hyk syw syf syo syk) → va_S A s.heap H locs → ∀ (ls : Array Slot), lv_has ls 11 [(0, .ref hyw), (1, .int a1), (2, .ref hyf), (3, .ref hyo), (4, .ref hyk), (5, .int x5), (6, .int x6), (7, .int x7), (8, .int x8)] → fL_phrases_215 syw a1 k6 k136 syf syo syk x5 x6 x7 x8 t0 = some (r, syff, syof, sykf) → W p l e rmL_phrases s m ([.ref hyw, .int a1, .ref hyf, .ref hyo, .ref hyk] : List Value).toArray below meth c H locs (0) (0) QQ (F0 m 215 ls [.int t0]) := by
    intro k6 hk6 k136 hk136 syf syo syk x5 x6 x7 x8 t0 H locs hP hD hS ls hl hf
    unfold fL_phrases_215 at hf
    refine lv_istore (lv' := [(9, .int t0), (0, .ref hyw), (1, .int a1), (2, .ref hyf), (3, .ref hyo), (4, .ref hyk), (5, .int x5), (6, .int x6), (7, .int x7), (8, .int x8)]) hx hb dL_phrases_215 hl (by decide) rfl (fun ls hl => ?_)
    refine lv_goto (tgt := 136) hx hb dL_phrases_217 (by decide) ?_
    exact hk136 syf syo syk x5 x6 x7 x8 t0 _ _ hP hD hS _ (lv_sub hl [1, 2, 3, 4, 5, 6, 7, 8, 9, 0] rfl) hf
  have J214 : ∀ (k6 : Syf → Syo → Syk → Int32 → Int32 → Option (Int32 × Syf × Syo × Syk)) (hk6 : ∀ (syf : Syf) (syo : Syo) (syk : Syk) (x5 : Int32) (x6 : Int32) (H : Heap) (locs : List Loc), va_P (dC, dI) vwCl (cf_ywyfyoyk cI hyw hyf hyo hyk syw syf syo syk) H → va_D A (cf_ywyfyoyk cI hyw hyf hyo hyk syw syf syo syk) → va_S A s.heap H locs → ∀ (ls : Array Slot), lv_has ls 11 [(0, .ref hyw), (1, .int a1), (2, .ref hyf), (3, .ref hyo), (4, .ref hyk), (5, .int x5), (6, .int x6)] → k6 syf syo syk x5 x6 = some (r, syff, syof, sykf) → W p l e rmL_phrases s m ([.ref hyw, .int a1, .ref hyf, .ref hyo, .ref hyk] : List Value).toArray below meth c H locs (0) (0) QQ (F0 m 6 ls [])) (k136 : Syf → Syo → Syk → Int32 → Int32 → Int32 → Int32 → Int32 → Option (Int32 × Syf × Syo × Syk)) (hk136 : ∀ (syf : Syf) (syo : Syo) (syk : Syk) (x5 : Int32) (x6 : Int32) (x7 : Int32) (x8 : Int32) (x9 : Int32) (H : Heap) (locs : List Loc), va_P (dC, dI) vwCl (cf_ywyfyoyk cI hyw hyf hyo hyk syw syf syo syk) H → va_D A (cf_ywyfyoyk cI hyw hyf hyo hyk syw syf syo syk) → va_S A s.heap H locs → ∀ (ls : Array Slot), lv_has ls 11 [(0, .ref hyw), (1, .int a1), (2, .ref hyf), (3, .ref hyo), (4, .ref hyk), (5, .int x5), (6, .int x6), (7, .int x7), (8, .int x8), (9, .int x9)] → k136 syf syo syk x5 x6 x7 x8 x9 = some (r, syff, syof, sykf) → W p l e rmL_phrases s m ([.ref hyw, .int a1, .ref hyf, .ref hyo, .ref hyk] : List Value).toArray below meth c H locs (0) (0) QQ (F0 m 136 ls [])) (syf : Syf) (syo : Syo) (syk : Syk) (x5 : Int32) (x6 : Int32) (x7 : Int32) (x8 : Int32) (H : Heap) (locs : List Loc), va_P (dC, dI) vwCl (cf_ywyfyoyk cI hyw hyf hyo hyk syw syf syo syk) H → va_D A (cf_ywyfyoyk cI hyw hyf hyo hyk syw syf syo syk) → va_S A s.heap H locs → ∀ (ls : Array Slot), lv_has ls 11 [(0, .ref hyw), (1, .int a1), (2, .ref hyf), (3, .ref hyo), (4, .ref hyk), (5, .int x5), (6, .int x6), (7, .int x7), (8, .int x8)] → fL_phrases_214 syw a1 k6 k136 syf syo syk x5 x6 x7 x8 = some (r, syff, syof, sykf) → W p l e rmL_phrases s m ([.ref hyw, .int a1, .ref hyf, .ref hyo, .ref hyk] : List Value).toArray below meth c H locs (0) (0) QQ (F0 m 214 ls []) := by
    intro k6 hk6 k136 hk136 syf syo syk x5 x6 x7 x8 H locs hP hD hS ls hl hf
    unfold fL_phrases_214 at hf
    refine lv_iconst (v := 0) hx hb dL_phrases_214 (by decide) ?_
    exact J215 k6 hk6 k136 hk136 syf syo syk x5 x6 x7 x8 0 _ _ hP hD hS _ (lv_sub hl [0, 1, 2, 3, 4, 5, 6, 7, 8] rfl) hf
  have J136 : ∀ (k6 : Syf → Syo → Syk → Int32 → Int32 → Option (Int32 × Syf × Syo × Syk)) (hk6 : ∀ (syf : Syf) (syo : Syo) (syk : Syk) (x5 : Int32) (x6 : Int32) (H : Heap) (locs : List Loc), va_P (dC, dI) vwCl (cf_ywyfyoyk cI hyw hyf hyo hyk syw syf syo syk) H → va_D A (cf_ywyfyoyk cI hyw hyf hyo hyk syw syf syo syk) → va_S A s.heap H locs → ∀ (ls : Array Slot), lv_has ls 11 [(0, .ref hyw), (1, .int a1), (2, .ref hyf), (3, .ref hyo), (4, .ref hyk), (5, .int x5), (6, .int x6)] → k6 syf syo syk x5 x6 = some (r, syff, syof, sykf) → W p l e rmL_phrases s m ([.ref hyw, .int a1, .ref hyf, .ref hyo, .ref hyk] : List Value).toArray below meth c H locs (0) (0) QQ (F0 m 6 ls [])) (n : Nat) (syf : Syf) (syo : Syo) (syk : Syk) (x5 : Int32) (x6 : Int32) (x7 : Int32) (x8 : Int32) (x9 : Int32) (H : Heap) (locs : List Loc), va_P (dC, dI) vwCl (cf_ywyfyoyk cI hyw hyf hyo hyk syw syf syo syk) H → va_D A (cf_ywyfyoyk cI hyw hyf hyo hyk syw syf syo syk) → va_S A s.heap H locs → ∀ (ls : Array Slot), lv_has ls 11 [(0, .ref hyw), (1, .int a1), (2, .ref hyf), (3, .ref hyo), (4, .ref hyk), (5, .int x5), (6, .int x6), (7, .int x7), (8, .int x8), (9, .int x9)] → fL_phrases_136 syw a1 k6 n syf syo syk x5 x6 x7 x8 x9 = some (r, syff, syof, sykf) → W p l e rmL_phrases s m ([.ref hyw, .int a1, .ref hyf, .ref hyo, .ref hyk] : List Value).toArray below meth c H locs (0) (0) QQ (F0 m 136 ls []) := by
    intro k6 hk6
    intro n
    induction n with
    | zero =>
      intro syf syo syk x5 x6 x7 x8 x9 H locs hP hD hS ls hl hf
      cases hf
    | succ n ih =>
      intro syf syo syk x5 x6 x7 x8 x9 H locs hP hD hS ls hl hf
      rw [fL_phrases_136] at hf
      refine lv_iload hx hb dL_phrases_136 (lv_at hl 9 rfl) ?_
      refine lv_if_eq (tgt := 220) hx hb dL_phrases_138 (by decide) (fun c_1 => ?_) (fun c_1 => ?_)
      · have hf := it_t c_1 hf
        exact J220 k6 hk6 syf syo syk x5 x6 x7 x8 _ _ hP hD hS _ (lv_sub hl [0, 1, 2, 3, 4, 5, 6, 7, 8] rfl) hf
      · have hf := it_f c_1 hf
        refine lv_aload_n hx hb dL_phrases_141 rfl (lv_at hl 0 rfl) ?_
        refine lv_iload_n hx hb dL_phrases_142 rfl (lv_at hl 1 rfl) ?_
        refine lv_iload hx hb dL_phrases_143 (lv_at hl 6 rfl) ?_
        refine lv_iconst (v := 1) hx hb dL_phrases_145 (by decide) ?_
        refine lv_iadd hx hb dL_phrases_146 ?_
        refine lv_iconst (v := 0) hx hb dL_phrases_147 (by decide) ?_
        obtain ⟨r_2, hc_2, hf⟩ := bn1_ok hf
        refine gc_i (wc := (cf_yw cI hyw syw)) (wr := (cf_yfyoyk cI hyf hyo hyk syf syo syk)) (w1 := (cf_yw cI hyw syw)) (ws' := (cf_ywyfyoyk cI hyw hyf hyo hyk syw syf syo syk)) hP hD hS hA [0] [1, 2, 3] [3, 0, 1, 2] rfl rfl (by decide) (by decide) rfl (by decide) (va_runS (As := [.ref hyw, .int a1, .int (x6 + 1), .int 0]) (rest := []) ⟨hx, hb, hml, hown, hts⟩ (ktL_described l dC dI cI hyw _ syw a1 (x6 + 1) 0 r_2 hc_2) (va_cwS 4 hts gL_phrases_L_described rfl rfl rfl (by decide +kernel) ⟨Nat.le_of_ble_eq_true rfl, Nat.le_of_ble_eq_true rfl⟩) (gc_S (hP.sub (ws' := (cf_yw cI hyw syw)) [0] rfl) (hK.sub (tys' := [(cI, .int)]) [0] rfl) (hD.sub (ws' := (cf_yw cI hyw syw)) [0] (by decide) rfl) hN) rfl rfl hl.1 rfl (lv_room (Nat.le_of_ble_eq_true rfl)) dL_phrases_148 ⟨by show (0) + 0 ≤ 0; omega, by show (0) + 0 ≤ 0; omega⟩) (fun H locs hP hD hS => ?_)
        refine lv_istore (lv' := [(10, .int r_2), (0, .ref hyw), (1, .int a1), (2, .ref hyf), (3, .ref hyo), (4, .ref hyk), (5, .int x5), (6, .int x6), (7, .int x7), (8, .int x8), (9, .int x9)]) hx hb dL_phrases_151 hl (by decide) rfl (fun ls hl => ?_)
        refine lv_aload_n hx hb dL_phrases_153 rfl (lv_at hl 3 rfl) ?_
        refine lv_iload hx hb dL_phrases_154 (lv_at hl 6 rfl) ?_
        refine lv_iload hx hb dL_phrases_156 (lv_at hl 7 rfl) ?_
        refine lv_iconst (v := 1) hx hb dL_phrases_158 (by decide) ?_
        refine lv_iadd hx hb dL_phrases_159 ?_
        obtain ⟨hi_3, hf⟩ := ai_ok hf
        refine va_iast (n := 24) (f := syf) hx hb hK hP hD hS 1 0 rfl rfl hi_3 dL_phrases_160 (fun H locs hP hD hS => ?_)
        have hP : va_P (dC, dI) vwCl (cf_ywyfyoyk cI hyw hyf hyo hyk syw (upd syf x5.toNatClampNeg (x6 + 1)) syo syk) H := hP
        have hD : va_D A (cf_ywyfyoyk cI hyw hyf hyo hyk syw (upd syf x5.toNatClampNeg (x6 + 1)) syo syk) := hD
        refine lv_aload_n hx hb dL_phrases_161 rfl (lv_at hl 4 rfl) ?_
        refine lv_iload hx hb dL_phrases_162 (lv_at hl 6 rfl) ?_
        refine lv_iload hx hb dL_phrases_164 (lv_at hl 0 rfl) ?_
        refine lv_iconst (v := 1) hx hb dL_phrases_166 (by decide) ?_
        refine lv_isub hx hb dL_phrases_167 ?_
        obtain ⟨hi_4, hf⟩ := ai_ok hf
        refine va_iast (n := 24) (f := syo) hx hb hK hP hD hS 2 0 rfl rfl hi_4 dL_phrases_168 (fun H locs hP hD hS => ?_)
        have hP : va_P (dC, dI) vwCl (cf_ywyfyoyk cI hyw hyf hyo hyk syw (upd syf x5.toNatClampNeg (x6 + 1)) (upd syo x5.toNatClampNeg (r_2 - 1)) syk) H := hP
        have hD : va_D A (cf_ywyfyoyk cI hyw hyf hyo hyk syw (upd syf x5.toNatClampNeg (x6 + 1)) (upd syo x5.toNatClampNeg (r_2 - 1)) syk) := hD
        refine lv_aload hx hb dL_phrases_169 (lv_at hl 5 rfl) ?_
        refine lv_iload hx hb dL_phrases_171 (lv_at hl 6 rfl) ?_
        refine lv_iconst (v := 3) hx hb dL_phrases_173 (by decide) ?_
        obtain ⟨hi_5, hf⟩ := ai_ok hf
        refine va_iast (n := 24) (f := syk) hx hb hK hP hD hS 3 0 rfl rfl hi_5 dL_phrases_174 (fun H locs hP hD hS => ?_)
        have hP : va_P (dC, dI) vwCl (cf_ywyfyoyk cI hyw hyf hyo hyk syw (upd syf x5.toNatClampNeg (x6 + 1)) (upd syo x5.toNatClampNeg (r_2 - 1)) (upd syk x5.toNatClampNeg 3)) H := hP
        have hD : va_D A (cf_ywyfyoyk cI hyw hyf hyo hyk syw (upd syf x5.toNatClampNeg (x6 + 1)) (upd syo x5.toNatClampNeg (r_2 - 1)) (upd syk x5.toNatClampNeg 3)) := hD
        refine lv_iinc (v := (x5 + 1)) (lv' := [(5, .int (x5 + 1)), (10, .int r_2), (0, .ref hyw), (1, .int a1), (2, .ref hyf), (3, .ref hyo), (4, .ref hyk), (6, .int x6), (7, .int x7), (8, .int x8), (9, .int x9)]) hx hb dL_phrases_175 hl (k := 6) rfl rfl (by decide) rfl (fun ls hl => ?_)
        refine lv_iload hx hb dL_phrases_178 (lv_at hl 1 rfl) ?_
        refine lv_istore (lv' := [(6, .int r_2), (5, .int (x5 + 1)), (10, .int r_2), (0, .ref hyw), (1, .int a1), (2, .ref hyf), (3, .ref hyo), (4, .ref hyk), (7, .int x7), (8, .int x8), (9, .int x9)]) hx hb dL_phrases_180 hl (by decide) rfl (fun ls hl => ?_)
        refine lv_iload hx hb dL_phrases_182 (lv_at hl 0 rfl) ?_
        refine lv_iload_n hx hb dL_phrases_184 rfl (lv_at hl 4 rfl) ?_
        refine lv_icmp_ge (tgt := 214) hx hb dL_phrases_185 (by decide) (fun c_6 => ?_) (fun c_6 => ?_)
        · have hf := it_t c_6 hf
          exact J214 k6 hk6 (fun syf syo syk x5 x6 x7 x8 x9 => fL_phrases_136 syw a1 k6 n syf syo syk x5 x6 x7 x8 x9) (fun syf syo syk x5 x6 x7 x8 x9 H locs hP hD hS ls hl hf => ih syf syo syk x5 x6 x7 x8 x9 H locs hP hD hS ls hl hf) (upd syf x5.toNatClampNeg (x6 + 1)) (upd syo x5.toNatClampNeg (r_2 - 1)) (upd syk x5.toNatClampNeg 3) (x5 + 1) r_2 x7 x8 _ _ hP hD hS _ (lv_sub hl [3, 4, 5, 6, 7, 1, 0, 8, 9] rfl) hf
        · have hf := it_f c_6 hf
          refine lv_aload_n hx hb dL_phrases_188 rfl (lv_at hl 3 rfl) ?_
          refine lv_iload hx hb dL_phrases_189 (lv_at hl 0 rfl) ?_
          obtain ⟨hi_7, hf⟩ := ai_ok hf
          refine va_iald (n := 24) (f := syw) hx hb hK hP 0 0 rfl rfl hi_7 dL_phrases_191 ?_
          refine lv_bipush (v := 13) hx hb dL_phrases_192 (by decide) ?_
          refine lv_icmp_ne (tgt := 214) hx hb dL_phrases_194 (by decide) (fun c_8 => ?_) (fun c_8 => ?_)
          · have hf := it_f c_8 hf
            exact J214 k6 hk6 (fun syf syo syk x5 x6 x7 x8 x9 => fL_phrases_136 syw a1 k6 n syf syo syk x5 x6 x7 x8 x9) (fun syf syo syk x5 x6 x7 x8 x9 H locs hP hD hS ls hl hf => ih syf syo syk x5 x6 x7 x8 x9 H locs hP hD hS ls hl hf) (upd syf x5.toNatClampNeg (x6 + 1)) (upd syo x5.toNatClampNeg (r_2 - 1)) (upd syk x5.toNatClampNeg 3) (x5 + 1) r_2 x7 x8 _ _ hP hD hS _ (lv_sub hl [3, 4, 5, 6, 7, 1, 0, 8, 9] rfl) hf
          · have hf := it_t c_8 hf
            refine lv_aload_n hx hb dL_phrases_197 rfl (lv_at hl 3 rfl) ?_
            refine lv_iload_n hx hb dL_phrases_198 rfl (lv_at hl 4 rfl) ?_
            refine lv_iload hx hb dL_phrases_199 (lv_at hl 0 rfl) ?_
            refine lv_iconst (v := 1) hx hb dL_phrases_201 (by decide) ?_
            refine lv_iadd hx hb dL_phrases_202 ?_
            refine lv_iconst (v := 0) hx hb dL_phrases_203 (by decide) ?_
            obtain ⟨r_9, hc_9, hf⟩ := bn1_ok hf
            refine gc_i (wc := (cf_yw cI hyw syw)) (wr := (cf_yfyoyk cI hyf hyo hyk (upd syf x5.toNatClampNeg (x6 + 1)) (upd syo x5.toNatClampNeg (r_2 - 1)) (upd syk x5.toNatClampNeg 3))) (w1 := (cf_yw cI hyw syw)) (ws' := (cf_ywyfyoyk cI hyw hyf hyo hyk syw (upd syf x5.toNatClampNeg (x6 + 1)) (upd syo x5.toNatClampNeg (r_2 - 1)) (upd syk x5.toNatClampNeg 3))) hP hD hS hA [0] [1, 2, 3] [3, 0, 1, 2] rfl rfl (by decide) (by decide) rfl (by decide) (va_runS (As := [.ref hyw, .int a1, .int (r_2 + 1), .int 0]) (rest := []) ⟨hx, hb, hml, hown, hts⟩ (ktL_described l dC dI cI hyw _ syw a1 (r_2 + 1) 0 r_9 hc_9) (va_cwS 4 hts gL_phrases_L_described rfl rfl rfl (by decide +kernel) ⟨Nat.le_of_ble_eq_true rfl, Nat.le_of_ble_eq_true rfl⟩) (gc_S (hP.sub (ws' := (cf_yw cI hyw syw)) [0] rfl) (hK.sub (tys' := [(cI, .int)]) [0] rfl) (hD.sub (ws' := (cf_yw cI hyw syw)) [0] (by decide) rfl) hN) rfl rfl hl.1 rfl (lv_room (Nat.le_of_ble_eq_true rfl)) dL_phrases_204 ⟨by show (0) + 0 ≤ 0; omega, by show (0) + 0 ≤ 0; omega⟩) (fun H locs hP hD hS => ?_)
            refine lv_if_le (tgt := 214) hx hb dL_phrases_207 (by decide) (fun c_10 => ?_) (fun c_10 => ?_)
            · have hf := it_t c_10 hf
              exact J214 k6 hk6 (fun syf syo syk x5 x6 x7 x8 x9 => fL_phrases_136 syw a1 k6 n syf syo syk x5 x6 x7 x8 x9) (fun syf syo syk x5 x6 x7 x8 x9 H locs hP hD hS ls hl hf => ih syf syo syk x5 x6 x7 x8 x9 H locs hP hD hS ls hl hf) (upd syf x5.toNatClampNeg (x6 + 1)) (upd syo x5.toNatClampNeg (r_2 - 1)) (upd syk x5.toNatClampNeg 3) (x5 + 1) r_2 x7 x8 _ _ hP hD hS _ (lv_sub hl [3, 4, 5, 6, 7, 1, 0, 8, 9] rfl) hf
            · have hf := it_f c_10 hf
              refine lv_iconst (v := 1) hx hb dL_phrases_210 (by decide) ?_
              refine lv_goto (tgt := 215) hx hb dL_phrases_211 (by decide) ?_
              exact J215 k6 hk6 (fun syf syo syk x5 x6 x7 x8 x9 => fL_phrases_136 syw a1 k6 n syf syo syk x5 x6 x7 x8 x9) (fun syf syo syk x5 x6 x7 x8 x9 H locs hP hD hS ls hl hf => ih syf syo syk x5 x6 x7 x8 x9 H locs hP hD hS ls hl hf) (upd syf x5.toNatClampNeg (x6 + 1)) (upd syo x5.toNatClampNeg (r_2 - 1)) (upd syk x5.toNatClampNeg 3) (x5 + 1) r_2 x7 x8 1 _ _ hP hD hS _ (lv_sub hl [3, 4, 5, 6, 7, 1, 0, 8, 9] rfl) hf
  have J134 : ∀ (k6 : Syf → Syo → Syk → Int32 → Int32 → Option (Int32 × Syf × Syo × Syk)) (hk6 : ∀ (syf : Syf) (syo : Syo) (syk : Syk) (x5 : Int32) (x6 : Int32) (H : Heap) (locs : List Loc), va_P (dC, dI) vwCl (cf_ywyfyoyk cI hyw hyf hyo hyk syw syf syo syk) H → va_D A (cf_ywyfyoyk cI hyw hyf hyo hyk syw syf syo syk) → va_S A s.heap H locs → ∀ (ls : Array Slot), lv_has ls 11 [(0, .ref hyw), (1, .int a1), (2, .ref hyf), (3, .ref hyo), (4, .ref hyk), (5, .int x5), (6, .int x6)] → k6 syf syo syk x5 x6 = some (r, syff, syof, sykf) → W p l e rmL_phrases s m ([.ref hyw, .int a1, .ref hyf, .ref hyo, .ref hyk] : List Value).toArray below meth c H locs (0) (0) QQ (F0 m 6 ls [])) (syf : Syf) (syo : Syo) (syk : Syk) (x5 : Int32) (x6 : Int32) (x7 : Int32) (x8 : Int32) (t0 : Int32) (H : Heap) (locs : List Loc), va_P (dC, dI) vwCl (cf_ywyfyoyk cI hyw hyf hyo hyk syw syf syo syk) H → va_D A (cf_ywyfyoyk cI hyw hyf hyo hyk syw syf syo syk) → va_S A s.heap H locs → ∀ (ls : Array Slot), lv_has ls 11 [(0, .ref hyw), (1, .int a1), (2, .ref hyf), (3, .ref hyo), (4, .ref hyk), (5, .int x5), (6, .int x6), (7, .int x7), (8, .int x8)] → fL_phrases_134 syw a1 k6 syf syo syk x5 x6 x7 x8 t0 = some (r, syff, syof, sykf) → W p l e rmL_phrases s m ([.ref hyw, .int a1, .ref hyf, .ref hyo, .ref hyk] : List Value).toArray below meth c H locs (0) (0) QQ (F0 m 134 ls [.int t0]) := by
    intro k6 hk6 syf syo syk x5 x6 x7 x8 t0 H locs hP hD hS ls hl hf
    unfold fL_phrases_134 at hf
    refine lv_istore (lv' := [(9, .int t0), (0, .ref hyw), (1, .int a1), (2, .ref hyf), (3, .ref hyo), (4, .ref hyk), (5, .int x5), (6, .int x6), (7, .int x7), (8, .int x8)]) hx hb dL_phrases_134 hl (by decide) rfl (fun ls hl => ?_)
    exact J136 k6 hk6 64 syf syo syk x5 x6 x7 x8 t0 _ _ hP hD hS _ (lv_sub hl [1, 2, 3, 4, 5, 6, 7, 8, 9, 0] rfl) hf
  have J133 : ∀ (k6 : Syf → Syo → Syk → Int32 → Int32 → Option (Int32 × Syf × Syo × Syk)) (hk6 : ∀ (syf : Syf) (syo : Syo) (syk : Syk) (x5 : Int32) (x6 : Int32) (H : Heap) (locs : List Loc), va_P (dC, dI) vwCl (cf_ywyfyoyk cI hyw hyf hyo hyk syw syf syo syk) H → va_D A (cf_ywyfyoyk cI hyw hyf hyo hyk syw syf syo syk) → va_S A s.heap H locs → ∀ (ls : Array Slot), lv_has ls 11 [(0, .ref hyw), (1, .int a1), (2, .ref hyf), (3, .ref hyo), (4, .ref hyk), (5, .int x5), (6, .int x6)] → k6 syf syo syk x5 x6 = some (r, syff, syof, sykf) → W p l e rmL_phrases s m ([.ref hyw, .int a1, .ref hyf, .ref hyo, .ref hyk] : List Value).toArray below meth c H locs (0) (0) QQ (F0 m 6 ls [])) (syf : Syf) (syo : Syo) (syk : Syk) (x5 : Int32) (x6 : Int32) (x7 : Int32) (x8 : Int32) (H : Heap) (locs : List Loc), va_P (dC, dI) vwCl (cf_ywyfyoyk cI hyw hyf hyo hyk syw syf syo syk) H → va_D A (cf_ywyfyoyk cI hyw hyf hyo hyk syw syf syo syk) → va_S A s.heap H locs → ∀ (ls : Array Slot), lv_has ls 11 [(0, .ref hyw), (1, .int a1), (2, .ref hyf), (3, .ref hyo), (4, .ref hyk), (5, .int x5), (6, .int x6), (7, .int x7), (8, .int x8)] → fL_phrases_133 syw a1 k6 syf syo syk x5 x6 x7 x8 = some (r, syff, syof, sykf) → W p l e rmL_phrases s m ([.ref hyw, .int a1, .ref hyf, .ref hyo, .ref hyk] : List Value).toArray below meth c H locs (0) (0) QQ (F0 m 133 ls []) := by
    intro k6 hk6 syf syo syk x5 x6 x7 x8 H locs hP hD hS ls hl hf
    unfold fL_phrases_133 at hf
    refine lv_iconst (v := 0) hx hb dL_phrases_133 (by decide) ?_
    exact J134 k6 hk6 syf syo syk x5 x6 x7 x8 0 _ _ hP hD hS _ (lv_sub hl [0, 1, 2, 3, 4, 5, 6, 7, 8] rfl) hf
  have J114 : ∀ (k6 : Syf → Syo → Syk → Int32 → Int32 → Option (Int32 × Syf × Syo × Syk)) (hk6 : ∀ (syf : Syf) (syo : Syo) (syk : Syk) (x5 : Int32) (x6 : Int32) (H : Heap) (locs : List Loc), va_P (dC, dI) vwCl (cf_ywyfyoyk cI hyw hyf hyo hyk syw syf syo syk) H → va_D A (cf_ywyfyoyk cI hyw hyf hyo hyk syw syf syo syk) → va_S A s.heap H locs → ∀ (ls : Array Slot), lv_has ls 11 [(0, .ref hyw), (1, .int a1), (2, .ref hyf), (3, .ref hyo), (4, .ref hyk), (5, .int x5), (6, .int x6)] → k6 syf syo syk x5 x6 = some (r, syff, syof, sykf) → W p l e rmL_phrases s m ([.ref hyw, .int a1, .ref hyf, .ref hyo, .ref hyk] : List Value).toArray below meth c H locs (0) (0) QQ (F0 m 6 ls [])) (syf : Syf) (syo : Syo) (syk : Syk) (x5 : Int32) (x6 : Int32) (x7 : Int32) (x8 : Int32) (H : Heap) (locs : List Loc), va_P (dC, dI) vwCl (cf_ywyfyoyk cI hyw hyf hyo hyk syw syf syo syk) H → va_D A (cf_ywyfyoyk cI hyw hyf hyo hyk syw syf syo syk) → va_S A s.heap H locs → ∀ (ls : Array Slot), lv_has ls 11 [(0, .ref hyw), (1, .int a1), (2, .ref hyf), (3, .ref hyo), (4, .ref hyk), (5, .int x5), (6, .int x6), (7, .int x7), (8, .int x8)] → fL_phrases_114 syw a1 k6 syf syo syk x5 x6 x7 x8 = some (r, syff, syof, sykf) → W p l e rmL_phrases s m ([.ref hyw, .int a1, .ref hyf, .ref hyo, .ref hyk] : List Value).toArray below meth c H locs (0) (0) QQ (F0 m 114 ls []) := by
    intro k6 hk6 syf syo syk x5 x6 x7 x8 H locs hP hD hS ls hl hf
    unfold fL_phrases_114 at hf
    refine lv_iload hx hb dL_phrases_114 (lv_at hl 6 rfl) ?_
    refine lv_iload_n hx hb dL_phrases_116 rfl (lv_at hl 1 rfl) ?_
    refine lv_icmp_ge (tgt := 133) hx hb dL_phrases_117 (by decide) (fun c_1 => ?_) (fun c_1 => ?_)
    · have hf := it_t c_1 hf
      exact J133 k6 hk6 syf syo syk x5 x6 x7 x8 _ _ hP hD hS _ (lv_sub hl [0, 1, 2, 3, 4, 5, 6, 7, 8] rfl) hf
    · have hf := it_f c_1 hf
      refine lv_aload_n hx hb dL_phrases_120 rfl (lv_at hl 0 rfl) ?_
      refine lv_iload hx hb dL_phrases_121 (lv_at hl 6 rfl) ?_
      obtain ⟨hi_2, hf⟩ := ai_ok hf
      refine va_iald (n := 24) (f := syw) hx hb hK hP 0 0 rfl rfl hi_2 dL_phrases_123 ?_
      refine lv_bipush (v := 12) hx hb dL_phrases_124 (by decide) ?_
      refine lv_icmp_ne (tgt := 133) hx hb dL_phrases_126 (by decide) (fun c_3 => ?_) (fun c_3 => ?_)
      · have hf := it_f c_3 hf
        exact J133 k6 hk6 syf syo syk x5 x6 x7 x8 _ _ hP hD hS _ (lv_sub hl [0, 1, 2, 3, 4, 5, 6, 7, 8] rfl) hf
      · have hf := it_t c_3 hf
        refine lv_iconst (v := 1) hx hb dL_phrases_129 (by decide) ?_
        refine lv_goto (tgt := 134) hx hb dL_phrases_130 (by decide) ?_
        exact J134 k6 hk6 syf syo syk x5 x6 x7 x8 1 _ _ hP hD hS _ (lv_sub hl [0, 1, 2, 3, 4, 5, 6, 7, 8] rfl) hf
  have J88 : ∀ (k6 : Syf → Syo → Syk → Int32 → Int32 → Option (Int32 × Syf × Syo × Syk)) (hk6 : ∀ (syf : Syf) (syo : Syo) (syk : Syk) (x5 : Int32) (x6 : Int32) (H : Heap) (locs : List Loc), va_P (dC, dI) vwCl (cf_ywyfyoyk cI hyw hyf hyo hyk syw syf syo syk) H → va_D A (cf_ywyfyoyk cI hyw hyf hyo hyk syw syf syo syk) → va_S A s.heap H locs → ∀ (ls : Array Slot), lv_has ls 11 [(0, .ref hyw), (1, .int a1), (2, .ref hyf), (3, .ref hyo), (4, .ref hyk), (5, .int x5), (6, .int x6)] → k6 syf syo syk x5 x6 = some (r, syff, syof, sykf) → W p l e rmL_phrases s m ([.ref hyw, .int a1, .ref hyf, .ref hyo, .ref hyk] : List Value).toArray below meth c H locs (0) (0) QQ (F0 m 6 ls [])) (syf : Syf) (syo : Syo) (syk : Syk) (x5 : Int32) (x6 : Int32) (x7 : Int32) (H : Heap) (locs : List Loc), va_P (dC, dI) vwCl (cf_ywyfyoyk cI hyw hyf hyo hyk syw syf syo syk) H → va_D A (cf_ywyfyoyk cI hyw hyf hyo hyk syw syf syo syk) → va_S A s.heap H locs → ∀ (ls : Array Slot), lv_has ls 11 [(0, .ref hyw), (1, .int a1), (2, .ref hyf), (3, .ref hyo), (4, .ref hyk), (5, .int x5), (6, .int x6), (7, .int x7)] → fL_phrases_88 syw a1 k6 syf syo syk x5 x6 x7 = some (r, syff, syof, sykf) → W p l e rmL_phrases s m ([.ref hyw, .int a1, .ref hyf, .ref hyo, .ref hyk] : List Value).toArray below meth c H locs (0) (0) QQ (F0 m 88 ls []) := by
    intro k6 hk6 syf syo syk x5 x6 x7 H locs hP hD hS ls hl hf
    unfold fL_phrases_88 at hf
    refine lv_iload hx hb dL_phrases_88 (lv_at hl 6 rfl) ?_
    refine lv_istore (lv' := [(8, .int x6), (0, .ref hyw), (1, .int a1), (2, .ref hyf), (3, .ref hyo), (4, .ref hyk), (5, .int x5), (6, .int x6), (7, .int x7)]) hx hb dL_phrases_90 hl (by decide) rfl (fun ls hl => ?_)
    refine lv_iinc (v := (x6 + 1)) (lv' := [(6, .int (x6 + 1)), (8, .int x6), (0, .ref hyw), (1, .int a1), (2, .ref hyf), (3, .ref hyo), (4, .ref hyk), (5, .int x5), (7, .int x7)]) hx hb dL_phrases_92 hl (k := 7) rfl rfl (by decide) rfl (fun ls hl => ?_)
    refine lv_aload_n hx hb dL_phrases_95 rfl (lv_at hl 2 rfl) ?_
    refine lv_iload hx hb dL_phrases_96 (lv_at hl 1 rfl) ?_
    obtain ⟨hi_1, hf⟩ := ai_ok hf
    refine va_iald (n := 24) (f := syw) hx hb hK hP 0 0 rfl rfl hi_1 dL_phrases_98 ?_
    refine lv_bipush (v := 11) hx hb dL_phrases_99 (by decide) ?_
    refine lv_icmp_eq (tgt := 114) hx hb dL_phrases_101 (by decide) (fun c_2 => ?_) (fun c_2 => ?_)
    · have hf := it_t c_2 hf
      exact J114 k6 hk6 syf syo syk x5 (x6 + 1) x7 x6 _ _ hP hD hS _ (lv_sub hl [2, 3, 4, 5, 6, 7, 0, 8, 1] rfl) hf
    · have hf := it_f c_2 hf
      refine lv_aload_n hx hb dL_phrases_104 rfl (lv_at hl 2 rfl) ?_
      refine lv_iload hx hb dL_phrases_105 (lv_at hl 1 rfl) ?_
      obtain ⟨hi_3, hf⟩ := ai_ok hf
      refine va_iald (n := 24) (f := syw) hx hb hK hP 0 0 rfl rfl hi_3 dL_phrases_107 ?_
      obtain ⟨r_4, hc_4, hf⟩ := bn1_ok hf
      refine gc_i (wc := ([] : va_W)) (wr := (cf_ywyfyoyk cI hyw hyf hyo hyk syw syf syo syk)) (w1 := ([] : va_W)) (ws' := (cf_ywyfyoyk cI hyw hyf hyo hyk syw syf syo syk)) hP hD hS hA [] [0, 1, 2, 3] [0, 1, 2, 3] rfl rfl (by decide) (by decide) rfl (by decide) (va_runS (As := [.int (syw x6.toNatClampNeg)]) (rest := []) ⟨hx, hb, hml, hown, hts⟩ (ktL_isPlural l dC dI _ (syw x6.toNatClampNeg) r_4 hc_4) (va_cwS 1 hts gL_phrases_L_isPlural rfl rfl rfl (by decide +kernel) ⟨Nat.le_of_ble_eq_true rfl, Nat.le_of_ble_eq_true rfl⟩) (gc_S (hP.sub (ws' := ([] : va_W)) [] rfl) (hK.sub (tys' := []) [] rfl) (hD.sub (ws' := ([] : va_W)) [] (by decide) rfl) hN) rfl rfl hl.1 rfl (lv_room (Nat.le_of_ble_eq_true rfl)) dL_phrases_108 ⟨by show (0) + 0 ≤ 0; omega, by show (0) + 0 ≤ 0; omega⟩) (fun H locs hP hD hS => ?_)
      refine lv_if_eq (tgt := 220) hx hb dL_phrases_111 (by decide) (fun c_5 => ?_) (fun c_5 => ?_)
      · have hf := it_t c_5 hf
        exact J220 k6 hk6 syf syo syk x5 (x6 + 1) x7 x6 _ _ hP hD hS _ (lv_sub hl [2, 3, 4, 5, 6, 7, 0, 8, 1] rfl) hf
      · have hf := it_f c_5 hf
        exact J114 k6 hk6 syf syo syk x5 (x6 + 1) x7 x6 _ _ hP hD hS _ (lv_sub hl [2, 3, 4, 5, 6, 7, 0, 8, 1] rfl) hf
  have J82 : ∀ (k6 : Syf → Syo → Syk → Int32 → Int32 → Option (Int32 × Syf × Syo × Syk)) (hk6 : ∀ (syf : Syf) (syo : Syo) (syk : Syk) (x5 : Int32) (x6 : Int32) (H : Heap) (locs : List Loc), va_P (dC, dI) vwCl (cf_ywyfyoyk cI hyw hyf hyo hyk syw syf syo syk) H → va_D A (cf_ywyfyoyk cI hyw hyf hyo hyk syw syf syo syk) → va_S A s.heap H locs → ∀ (ls : Array Slot), lv_has ls 11 [(0, .ref hyw), (1, .int a1), (2, .ref hyf), (3, .ref hyo), (4, .ref hyk), (5, .int x5), (6, .int x6)] → k6 syf syo syk x5 x6 = some (r, syff, syof, sykf) → W p l e rmL_phrases s m ([.ref hyw, .int a1, .ref hyf, .ref hyo, .ref hyk] : List Value).toArray below meth c H locs (0) (0) QQ (F0 m 6 ls [])) (k13 : Syf → Syo → Syk → Int32 → Int32 → Int32 → Option (Int32 × Syf × Syo × Syk)) (hk13 : ∀ (syf : Syf) (syo : Syo) (syk : Syk) (x5 : Int32) (x6 : Int32) (x7 : Int32) (H : Heap) (locs : List Loc), va_P (dC, dI) vwCl (cf_ywyfyoyk cI hyw hyf hyo hyk syw syf syo syk) H → va_D A (cf_ywyfyoyk cI hyw hyf hyo hyk syw syf syo syk) → va_S A s.heap H locs → ∀ (ls : Array Slot), lv_has ls 11 [(0, .ref hyw), (1, .int a1), (2, .ref hyf), (3, .ref hyo), (4, .ref hyk), (5, .int x5), (6, .int x6), (7, .int x7)] → k13 syf syo syk x5 x6 x7 = some (r, syff, syof, sykf) → W p l e rmL_phrases s m ([.ref hyw, .int a1, .ref hyf, .ref hyo, .ref hyk] : List Value).toArray below meth c H locs (0) (0) QQ (F0 m 13 ls [])) (syf : Syf) (syo : Syo) (syk : Syk) (x5 : Int32) (x6 : Int32) (x7 : Int32) (H : Heap) (locs : List Loc), va_P (dC, dI) vwCl (cf_ywyfyoyk cI hyw hyf hyo hyk syw syf syo syk) H → va_D A (cf_ywyfyoyk cI hyw hyf hyo hyk syw syf syo syk) → va_S A s.heap H locs → ∀ (ls : Array Slot), lv_has ls 11 [(0, .ref hyw), (1, .int a1), (2, .ref hyf), (3, .ref hyo), (4, .ref hyk), (5, .int x5), (6, .int x6), (7, .int x7)] → fL_phrases_82 syw a1 k6 k13 syf syo syk x5 x6 x7 = some (r, syff, syof, sykf) → W p l e rmL_phrases s m ([.ref hyw, .int a1, .ref hyf, .ref hyo, .ref hyk] : List Value).toArray below meth c H locs (0) (0) QQ (F0 m 82 ls []) := by
    intro k6 hk6 k13 hk13 syf syo syk x5 x6 x7 H locs hP hD hS ls hl hf
    unfold fL_phrases_82 at hf
    refine lv_iinc (v := (x6 + 1)) (lv' := [(6, .int (x6 + 1)), (0, .ref hyw), (1, .int a1), (2, .ref hyf), (3, .ref hyo), (4, .ref hyk), (5, .int x5), (7, .int x7)]) hx hb dL_phrases_82 hl (k := 6) rfl rfl (by decide) rfl (fun ls hl => ?_)
    refine lv_goto (tgt := 13) hx hb dL_phrases_85 (by decide) ?_
    exact hk13 syf syo syk x5 (x6 + 1) x7 _ _ hP hD hS _ (lv_sub hl [1, 2, 3, 4, 5, 6, 0, 7] rfl) hf
  have J49 : ∀ (k6 : Syf → Syo → Syk → Int32 → Int32 → Option (Int32 × Syf × Syo × Syk)) (hk6 : ∀ (syf : Syf) (syo : Syo) (syk : Syk) (x5 : Int32) (x6 : Int32) (H : Heap) (locs : List Loc), va_P (dC, dI) vwCl (cf_ywyfyoyk cI hyw hyf hyo hyk syw syf syo syk) H → va_D A (cf_ywyfyoyk cI hyw hyf hyo hyk syw syf syo syk) → va_S A s.heap H locs → ∀ (ls : Array Slot), lv_has ls 11 [(0, .ref hyw), (1, .int a1), (2, .ref hyf), (3, .ref hyo), (4, .ref hyk), (5, .int x5), (6, .int x6)] → k6 syf syo syk x5 x6 = some (r, syff, syof, sykf) → W p l e rmL_phrases s m ([.ref hyw, .int a1, .ref hyf, .ref hyo, .ref hyk] : List Value).toArray below meth c H locs (0) (0) QQ (F0 m 6 ls [])) (k13 : Syf → Syo → Syk → Int32 → Int32 → Int32 → Option (Int32 × Syf × Syo × Syk)) (hk13 : ∀ (syf : Syf) (syo : Syo) (syk : Syk) (x5 : Int32) (x6 : Int32) (x7 : Int32) (H : Heap) (locs : List Loc), va_P (dC, dI) vwCl (cf_ywyfyoyk cI hyw hyf hyo hyk syw syf syo syk) H → va_D A (cf_ywyfyoyk cI hyw hyf hyo hyk syw syf syo syk) → va_S A s.heap H locs → ∀ (ls : Array Slot), lv_has ls 11 [(0, .ref hyw), (1, .int a1), (2, .ref hyf), (3, .ref hyo), (4, .ref hyk), (5, .int x5), (6, .int x6), (7, .int x7)] → k13 syf syo syk x5 x6 x7 = some (r, syff, syof, sykf) → W p l e rmL_phrases s m ([.ref hyw, .int a1, .ref hyf, .ref hyo, .ref hyk] : List Value).toArray below meth c H locs (0) (0) QQ (F0 m 13 ls [])) (syf : Syf) (syo : Syo) (syk : Syk) (x5 : Int32) (x6 : Int32) (x7 : Int32) (H : Heap) (locs : List Loc), va_P (dC, dI) vwCl (cf_ywyfyoyk cI hyw hyf hyo hyk syw syf syo syk) H → va_D A (cf_ywyfyoyk cI hyw hyf hyo hyk syw syf syo syk) → va_S A s.heap H locs → ∀ (ls : Array Slot), lv_has ls 11 [(0, .ref hyw), (1, .int a1), (2, .ref hyf), (3, .ref hyo), (4, .ref hyk), (5, .int x5), (6, .int x6), (7, .int x7)] → fL_phrases_49 syw a1 k6 k13 syf syo syk x5 x6 x7 = some (r, syff, syof, sykf) → W p l e rmL_phrases s m ([.ref hyw, .int a1, .ref hyf, .ref hyo, .ref hyk] : List Value).toArray below meth c H locs (0) (0) QQ (F0 m 49 ls []) := by
    intro k6 hk6 k13 hk13 syf syo syk x5 x6 x7 H locs hP hD hS ls hl hf
    unfold fL_phrases_49 at hf
    refine lv_aload_n hx hb dL_phrases_49 rfl (lv_at hl 0 rfl) ?_
    refine lv_iload hx hb dL_phrases_50 (lv_at hl 6 rfl) ?_
    obtain ⟨hi_1, hf⟩ := ai_ok hf
    refine va_iald (n := 24) (f := syw) hx hb hK hP 0 0 rfl rfl hi_1 dL_phrases_52 ?_
    refine lv_bipush (v := 11) hx hb dL_phrases_53 (by decide) ?_
    refine lv_icmp_ne (tgt := 82) hx hb dL_phrases_55 (by decide) (fun c_2 => ?_) (fun c_2 => ?_)
    · have hf := it_f c_2 hf
      exact J82 k6 hk6 k13 hk13 syf syo syk x5 x6 x7 _ _ hP hD hS _ (lv_sub hl [0, 1, 2, 3, 4, 5, 6, 7] rfl) hf
    · have hf := it_t c_2 hf
      refine lv_aload_n hx hb dL_phrases_58 rfl (lv_at hl 0 rfl) ?_
      refine lv_iload hx hb dL_phrases_59 (lv_at hl 6 rfl) ?_
      refine lv_iconst (v := 1) hx hb dL_phrases_61 (by decide) ?_
      refine lv_iadd hx hb dL_phrases_62 ?_
      obtain ⟨hi_3, hf⟩ := ai_ok hf
      refine va_iald (n := 24) (f := syw) hx hb hK hP 0 0 rfl rfl hi_3 dL_phrases_63 ?_
      obtain ⟨r_4, hc_4, hf⟩ := bn1_ok hf
      refine gc_i (wc := ([] : va_W)) (wr := (cf_ywyfyoyk cI hyw hyf hyo hyk syw syf syo syk)) (w1 := ([] : va_W)) (ws' := (cf_ywyfyoyk cI hyw hyf hyo hyk syw syf syo syk)) hP hD hS hA [] [0, 1, 2, 3] [0, 1, 2, 3] rfl rfl (by decide) (by decide) rfl (by decide) (va_runS (As := [.int (syw (x6 + 1).toNatClampNeg)]) (rest := []) ⟨hx, hb, hml, hown, hts⟩ (ktL_isAdjective l dC dI _ (syw (x6 + 1).toNatClampNeg) r_4 hc_4) (va_cwS 1 hts gL_phrases_L_isAdjective rfl rfl rfl (by decide +kernel) ⟨Nat.le_of_ble_eq_true rfl, Nat.le_of_ble_eq_true rfl⟩) (gc_S (hP.sub (ws' := ([] : va_W)) [] rfl) (hK.sub (tys' := []) [] rfl) (hD.sub (ws' := ([] : va_W)) [] (by decide) rfl) hN) rfl rfl hl.1 rfl (lv_room (Nat.le_of_ble_eq_true rfl)) dL_phrases_64 ⟨by show (0) + 0 ≤ 0; omega, by show (0) + 0 ≤ 0; omega⟩) (fun H locs hP hD hS => ?_)
      refine lv_if_ne (tgt := 82) hx hb dL_phrases_67 (by decide) (fun c_5 => ?_) (fun c_5 => ?_)
      · have hf := it_f c_5 hf
        exact J82 k6 hk6 k13 hk13 syf syo syk x5 x6 x7 _ _ hP hD hS _ (lv_sub hl [0, 1, 2, 3, 4, 5, 6, 7] rfl) hf
      · have hf := it_t c_5 hf
        refine lv_aload_n hx hb dL_phrases_70 rfl (lv_at hl 0 rfl) ?_
        refine lv_iload hx hb dL_phrases_71 (lv_at hl 6 rfl) ?_
        refine lv_iconst (v := 1) hx hb dL_phrases_73 (by decide) ?_
        refine lv_iadd hx hb dL_phrases_74 ?_
        obtain ⟨hi_6, hf⟩ := ai_ok hf
        refine va_iald (n := 24) (f := syw) hx hb hK hP 0 0 rfl rfl hi_6 dL_phrases_75 ?_
        obtain ⟨r_7, hc_7, hf⟩ := bn1_ok hf
        refine gc_i (wc := ([] : va_W)) (wr := (cf_ywyfyoyk cI hyw hyf hyo hyk syw syf syo syk)) (w1 := ([] : va_W)) (ws' := (cf_ywyfyoyk cI hyw hyf hyo hyk syw syf syo syk)) hP hD hS hA [] [0, 1, 2, 3] [0, 1, 2, 3] rfl rfl (by decide) (by decide) rfl (by decide) (va_runS (As := [.int (syw (x6 + 1).toNatClampNeg)]) (rest := []) ⟨hx, hb, hml, hown, hts⟩ (ktL_isPlural l dC dI _ (syw (x6 + 1).toNatClampNeg) r_7 hc_7) (va_cwS 1 hts gL_phrases_L_isPlural rfl rfl rfl (by decide +kernel) ⟨Nat.le_of_ble_eq_true rfl, Nat.le_of_ble_eq_true rfl⟩) (gc_S (hP.sub (ws' := ([] : va_W)) [] rfl) (hK.sub (tys' := []) [] rfl) (hD.sub (ws' := ([] : va_W)) [] (by decide) rfl) hN) rfl rfl hl.1 rfl (lv_room (Nat.le_of_ble_eq_true rfl)) dL_phrases_76 ⟨by show (0) + 0 ≤ 0; omega, by show (0) + 0 ≤ 0; omega⟩) (fun H locs hP hD hS => ?_)
        refine lv_if_eq (tgt := 88) hx hb dL_phrases_79 (by decide) (fun c_8 => ?_) (fun c_8 => ?_)
        · have hf := it_t c_8 hf
          exact J88 k6 hk6 syf syo syk x5 x6 x7 _ _ hP hD hS _ (lv_sub hl [0, 1, 2, 3, 4, 5, 6, 7] rfl) hf
        · have hf := it_f c_8 hf
          exact J82 k6 hk6 k13 hk13 syf syo syk x5 x6 x7 _ _ hP hD hS _ (lv_sub hl [0, 1, 2, 3, 4, 5, 6, 7] rfl) hf
  have J13 : ∀ (k6 : Syf → Syo → Syk → Int32 → Int32 → Option (Int32 × Syf × Syo × Syk)) (hk6 : ∀ (syf : Syf) (syo : Syo) (syk : Syk) (x5 : Int32) (x6 : Int32) (H : Heap) (locs : List Loc), va_P (dC, dI) vwCl (cf_ywyfyoyk cI hyw hyf hyo hyk syw syf syo syk) H → va_D A (cf_ywyfyoyk cI hyw hyf hyo hyk syw syf syo syk) → va_S A s.heap H locs → ∀ (ls : Array Slot), lv_has ls 11 [(0, .ref hyw), (1, .int a1), (2, .ref hyf), (3, .ref hyo), (4, .ref hyk), (5, .int x5), (6, .int x6)] → k6 syf syo syk x5 x6 = some (r, syff, syof, sykf) → W p l e rmL_phrases s m ([.ref hyw, .int a1, .ref hyf, .ref hyo, .ref hyk] : List Value).toArray below meth c H locs (0) (0) QQ (F0 m 6 ls [])) (n : Nat) (syf : Syf) (syo : Syo) (syk : Syk) (x5 : Int32) (x6 : Int32) (x7 : Int32) (H : Heap) (locs : List Loc), va_P (dC, dI) vwCl (cf_ywyfyoyk cI hyw hyf hyo hyk syw syf syo syk) H → va_D A (cf_ywyfyoyk cI hyw hyf hyo hyk syw syf syo syk) → va_S A s.heap H locs → ∀ (ls : Array Slot), lv_has ls 11 [(0, .ref hyw), (1, .int a1), (2, .ref hyf), (3, .ref hyo), (4, .ref hyk), (5, .int x5), (6, .int x6), (7, .int x7)] → fL_phrases_13 syw a1 k6 n syf syo syk x5 x6 x7 = some (r, syff, syof, sykf) → W p l e rmL_phrases s m ([.ref hyw, .int a1, .ref hyf, .ref hyo, .ref hyk] : List Value).toArray below meth c H locs (0) (0) QQ (F0 m 13 ls []) := by
    intro k6 hk6
    intro n
    induction n with
    | zero =>
      intro syf syo syk x5 x6 x7 H locs hP hD hS ls hl hf
      cases hf
    | succ n ih =>
      intro syf syo syk x5 x6 x7 H locs hP hD hS ls hl hf
      rw [fL_phrases_13] at hf
      refine lv_iload hx hb dL_phrases_13 (lv_at hl 6 rfl) ?_
      refine lv_iconst (v := 1) hx hb dL_phrases_15 (by decide) ?_
      refine lv_iadd hx hb dL_phrases_16 ?_
      refine lv_iload_n hx hb dL_phrases_17 rfl (lv_at hl 1 rfl) ?_
      refine lv_icmp_ge (tgt := 88) hx hb dL_phrases_18 (by decide) (fun c_1 => ?_) (fun c_1 => ?_)
      · have hf := it_t c_1 hf
        exact J88 k6 hk6 syf syo syk x5 x6 x7 _ _ hP hD hS _ (lv_sub hl [0, 1, 2, 3, 4, 5, 6, 7] rfl) hf
      · have hf := it_f c_1 hf
        refine lv_aload_n hx hb dL_phrases_21 rfl (lv_at hl 0 rfl) ?_
        refine lv_iload hx hb dL_phrases_22 (lv_at hl 6 rfl) ?_
        obtain ⟨hi_2, hf⟩ := ai_ok hf
        refine va_iald (n := 24) (f := syw) hx hb hK hP 0 0 rfl rfl hi_2 dL_phrases_24 ?_
        refine lv_bipush (v := 10) hx hb dL_phrases_25 (by decide) ?_
        refine lv_icmp_eq (tgt := 49) hx hb dL_phrases_27 (by decide) (fun c_3 => ?_) (fun c_3 => ?_)
        · have hf := it_t c_3 hf
          exact J49 k6 hk6 (fun syf syo syk x5 x6 x7 => fL_phrases_13 syw a1 k6 n syf syo syk x5 x6 x7) (fun syf syo syk x5 x6 x7 H locs hP hD hS ls hl hf => ih syf syo syk x5 x6 x7 H locs hP hD hS ls hl hf) syf syo syk x5 x6 x7 _ _ hP hD hS _ (lv_sub hl [0, 1, 2, 3, 4, 5, 6, 7] rfl) hf
        · have hf := it_f c_3 hf
          refine lv_aload_n hx hb dL_phrases_30 rfl (lv_at hl 0 rfl) ?_
          refine lv_iload hx hb dL_phrases_31 (lv_at hl 6 rfl) ?_
          obtain ⟨hi_4, hf⟩ := ai_ok hf
          refine va_iald (n := 24) (f := syw) hx hb hK hP 0 0 rfl rfl hi_4 dL_phrases_33 ?_
          refine lv_bipush (v := 11) hx hb dL_phrases_34 (by decide) ?_
          refine lv_icmp_eq (tgt := 49) hx hb dL_phrases_36 (by decide) (fun c_5 => ?_) (fun c_5 => ?_)
          · have hf := it_t c_5 hf
            exact J49 k6 hk6 (fun syf syo syk x5 x6 x7 => fL_phrases_13 syw a1 k6 n syf syo syk x5 x6 x7) (fun syf syo syk x5 x6 x7 H locs hP hD hS ls hl hf => ih syf syo syk x5 x6 x7 H locs hP hD hS ls hl hf) syf syo syk x5 x6 x7 _ _ hP hD hS _ (lv_sub hl [0, 1, 2, 3, 4, 5, 6, 7] rfl) hf
          · have hf := it_f c_5 hf
            refine lv_aload_n hx hb dL_phrases_39 rfl (lv_at hl 0 rfl) ?_
            refine lv_iload hx hb dL_phrases_40 (lv_at hl 6 rfl) ?_
            obtain ⟨hi_6, hf⟩ := ai_ok hf
            refine va_iald (n := 24) (f := syw) hx hb hK hP 0 0 rfl rfl hi_6 dL_phrases_42 ?_
            obtain ⟨r_7, hc_7, hf⟩ := bn1_ok hf
            refine gc_i (wc := ([] : va_W)) (wr := (cf_ywyfyoyk cI hyw hyf hyo hyk syw syf syo syk)) (w1 := ([] : va_W)) (ws' := (cf_ywyfyoyk cI hyw hyf hyo hyk syw syf syo syk)) hP hD hS hA [] [0, 1, 2, 3] [0, 1, 2, 3] rfl rfl (by decide) (by decide) rfl (by decide) (va_runS (As := [.int (syw x6.toNatClampNeg)]) (rest := []) ⟨hx, hb, hml, hown, hts⟩ (ktL_isAdjective l dC dI _ (syw x6.toNatClampNeg) r_7 hc_7) (va_cwS 1 hts gL_phrases_L_isAdjective rfl rfl rfl (by decide +kernel) ⟨Nat.le_of_ble_eq_true rfl, Nat.le_of_ble_eq_true rfl⟩) (gc_S (hP.sub (ws' := ([] : va_W)) [] rfl) (hK.sub (tys' := []) [] rfl) (hD.sub (ws' := ([] : va_W)) [] (by decide) rfl) hN) rfl rfl hl.1 rfl (lv_room (Nat.le_of_ble_eq_true rfl)) dL_phrases_43 ⟨by show (0) + 0 ≤ 0; omega, by show (0) + 0 ≤ 0; omega⟩) (fun H locs hP hD hS => ?_)
            refine lv_if_eq (tgt := 88) hx hb dL_phrases_46 (by decide) (fun c_8 => ?_) (fun c_8 => ?_)
            · have hf := it_t c_8 hf
              exact J88 k6 hk6 syf syo syk x5 x6 x7 _ _ hP hD hS _ (lv_sub hl [0, 1, 2, 3, 4, 5, 6, 7] rfl) hf
            · have hf := it_f c_8 hf
              exact J49 k6 hk6 (fun syf syo syk x5 x6 x7 => fL_phrases_13 syw a1 k6 n syf syo syk x5 x6 x7) (fun syf syo syk x5 x6 x7 H locs hP hD hS ls hl hf => ih syf syo syk x5 x6 x7 H locs hP hD hS ls hl hf) syf syo syk x5 x6 x7 _ _ hP hD hS _ (lv_sub hl [0, 1, 2, 3, 4, 5, 6, 7] rfl) hf
  have J6 : ∀ (n : Nat) (syf : Syf) (syo : Syo) (syk : Syk) (x5 : Int32) (x6 : Int32) (H : Heap) (locs : List Loc), va_P (dC, dI) vwCl (cf_ywyfyoyk cI hyw hyf hyo hyk syw syf syo syk) H → va_D A (cf_ywyfyoyk cI hyw hyf hyo hyk syw syf syo syk) → va_S A s.heap H locs → ∀ (ls : Array Slot), lv_has ls 11 [(0, .ref hyw), (1, .int a1), (2, .ref hyf), (3, .ref hyo), (4, .ref hyk), (5, .int x5), (6, .int x6)] → fL_phrases_6 syw a1 n syf syo syk x5 x6 = some (r, syff, syof, sykf) → W p l e rmL_phrases s m ([.ref hyw, .int a1, .ref hyf, .ref hyo, .ref hyk] : List Value).toArray below meth c H locs (0) (0) QQ (F0 m 6 ls []) := by
    intro n
    induction n with
    | zero =>
      intro syf syo syk x5 x6 H locs hP hD hS ls hl hf
      cases hf
    | succ n ih =>
      intro syf syo syk x5 x6 H locs hP hD hS ls hl hf
      rw [fL_phrases_6] at hf
      refine lv_iinc (v := (x6 + 1)) (lv' := [(6, .int (x6 + 1)), (0, .ref hyw), (1, .int a1), (2, .ref hyf), (3, .ref hyo), (4, .ref hyk), (5, .int x5)]) hx hb dL_phrases_6 hl (k := 6) rfl rfl (by decide) rfl (fun ls hl => ?_)
      refine lv_iload hx hb dL_phrases_9 (lv_at hl 0 rfl) ?_
      refine lv_istore (lv' := [(7, .int (x6 + 1)), (6, .int (x6 + 1)), (0, .ref hyw), (1, .int a1), (2, .ref hyf), (3, .ref hyo), (4, .ref hyk), (5, .int x5)]) hx hb dL_phrases_11 hl (by decide) rfl (fun ls hl => ?_)
      exact J13 (fun syf syo syk x5 x6 => fL_phrases_6 syw a1 n syf syo syk x5 x6) (fun syf syo syk x5 x6 H locs hP hD hS ls hl hf => ih syf syo syk x5 x6 H locs hP hD hS ls hl hf) 64 syf syo syk x5 (x6 + 1) (x6 + 1) _ _ hP hD hS _ (lv_sub hl [2, 3, 4, 5, 6, 7, 1, 0] rfl) hf
  unfold fL_phrases at hf
  refine lv_iconst (v := 0) hx hb dL_phrases_0 (by decide) ?_
  refine lv_istore (lv' := [(5, .int 0), (0, .ref hyw), (1, .int a1), (2, .ref hyf), (3, .ref hyo), (4, .ref hyk)]) hx hb dL_phrases_1 hl (by decide) rfl (fun ls hl => ?_)
  refine lv_iconst (v := 0) hx hb dL_phrases_3 (by decide) ?_
  refine lv_istore (lv' := [(6, .int 0), (5, .int 0), (0, .ref hyw), (1, .int a1), (2, .ref hyf), (3, .ref hyo), (4, .ref hyk)]) hx hb dL_phrases_4 hl (by decide) rfl (fun ls hl => ?_)
  exact J6 64 syf syo syk 0 0 _ _ hP hD hS _ (lv_sub hl [2, 3, 4, 5, 6, 1, 0] rfl) hf
