abbrev rmL_does : Room := { frames := 3, cells := 3, slots := 72, locals := 76 }
set_option maxHeartbeats 4000000 in
set_option maxRecDepth 100000 in
theorem ktL_does (l : Launch) (dC : Nat → ClassId) (dI : Nat → Nat → Nat) (cI : ClassId) (hyt hyz hyu hyv : Nat) (sz : Nat) (syt : Syt) (syz : Syz) (syu : Syu) (syv : Syv) (r : Int32) (sytf : Syt) (syzf : Syz) (hf : fL_does syt syz syu syv = some (r, sytf, syzf)) : Met l yL_does wsL_does rmL_does (va_Pc [.ref hyt, .ref hyz, .ref hyu, .ref hyv] (pre_w (dC, dI) (cf_ytyzyuyv cI hyt hyz hyu hyv syt syz syu syv) [(cI, .int)] sz)) (va_Qi (fun (r' : Int32) (_ : Unit) => r' = r) (post_w (dC, dI) (cf_ytyzyuyv cI hyt hyz hyu hyv sytf syzf syu syv) [(cI, .int)] (va_A (cf_ytyzyuyv cI hyt hyz hyu hyv syt syz syu syv) sz)) (va_A (cf_ytyzyuyv cI hyt hyz hyu hyv syt syz syu syv) sz)) 3 72 (va_A (cf_ytyzyuyv cI hyt hyz hyu hyv syt syz syu syv) sz) := by
  refine gmw (mc := 3) (ms := 72) (ty := .int) (cc := cL_does) (maxL := 18) (by decide) rfl (Nat.le_of_ble_eq_true rfl) ?_
  intro p e s m below meth c A QQ ls hx hb hml hown hts hK hN hA hP hD hS hl hret
  have hown : s.vm.findClass RL = some m.cls := hown
  have hl : lv_has ls 18 [(0, .ref hyt), (1, .ref hyz), (2, .ref hyu), (3, .ref hyv)] := hl
  unfold fL_does at hf
  refine lv_bipush (v := 24) hx hb dL_does_0 (by decide) ?_
  refine va_newa (atype := .int) (ty := .int) (N' := 24) (a0 := (24, .inl (fun _ => 0))) hx hb (hts (.arrayClass .int) (by decide +kernel)) rfl hK hP hD hS hA (fun _ => rfl) (by decide) rfl (Nat.le_of_ble_eq_true rfl) (Nat.le_of_ble_eq_true rfl) (Nat.le_of_ble_eq_true rfl) dL_does_2 (fun hyf cA H hK2 hP hD hS => ?_)
  have ecA : cI = cA := rk_same hK2 0 1 rfl rfl (fun C h => by cases h)
  subst ecA
  have hP : va_P (dC, dI) vwCl (cf_ytyzyuyvyf cI hyt hyz hyu hyv hyf syt syz syu syv (fun _ => 0)) H := hP
  have hD : va_D A (cf_ytyzyuyvyf cI hyt hyz hyu hyv hyf syt syz syu syv (fun _ => 0)) := hD
  refine lv_astore (lv' := [(4, .ref hyf), (0, .ref hyt), (1, .ref hyz), (2, .ref hyu), (3, .ref hyv)]) hx hb dL_does_4 hl (by decide) rfl (fun ls hl => ?_)
  refine lv_bipush (v := 24) hx hb dL_does_6 (by decide) ?_
  refine va_newa (atype := .int) (ty := .int) (N' := 24) (a0 := (24, .inl (fun _ => 0))) hx hb (hts (.arrayClass .int) (by decide +kernel)) rfl hK hP hD hS hA (fun _ => rfl) (by decide) rfl (Nat.le_of_ble_eq_true rfl) (Nat.le_of_ble_eq_true rfl) (Nat.le_of_ble_eq_true rfl) dL_does_8 (fun hyo cA H hK2 hP hD hS => ?_)
  have ecA : cI = cA := rk_same hK2 0 1 rfl rfl (fun C h => by cases h)
  subst ecA
  have hP : va_P (dC, dI) vwCl (cf_ytyzyuyvyfyo cI hyt hyz hyu hyv hyf hyo syt syz syu syv (fun _ => 0) (fun _ => 0)) H := hP
  have hD : va_D A (cf_ytyzyuyvyfyo cI hyt hyz hyu hyv hyf hyo syt syz syu syv (fun _ => 0) (fun _ => 0)) := hD
  refine lv_astore (lv' := [(5, .ref hyo), (4, .ref hyf), (0, .ref hyt), (1, .ref hyz), (2, .ref hyu), (3, .ref hyv)]) hx hb dL_does_10 hl (by decide) rfl (fun ls hl => ?_)
  refine lv_bipush (v := 24) hx hb dL_does_12 (by decide) ?_
  refine va_newa (atype := .int) (ty := .int) (N' := 24) (a0 := (24, .inl (fun _ => 0))) hx hb (hts (.arrayClass .int) (by decide +kernel)) rfl hK hP hD hS hA (fun _ => rfl) (by decide) rfl (Nat.le_of_ble_eq_true rfl) (Nat.le_of_ble_eq_true rfl) (Nat.le_of_ble_eq_true rfl) dL_does_14 (fun hyk cA H hK2 hP hD hS => ?_)
  have ecA : cI = cA := rk_same hK2 0 1 rfl rfl (fun C h => by cases h)
  subst ecA
  have hP : va_P (dC, dI) vwCl (cf_ytyzyuyvyfyoyk cI hyt hyz hyu hyv hyf hyo hyk syt syz syu syv (fun _ => 0) (fun _ => 0) (fun _ => 0)) H := hP
  have hD : va_D A (cf_ytyzyuyvyfyoyk cI hyt hyz hyu hyv hyf hyo hyk syt syz syu syv (fun _ => 0) (fun _ => 0) (fun _ => 0)) := hD
  refine lv_astore (lv' := [(6, .ref hyk), (5, .ref hyo), (4, .ref hyf), (0, .ref hyt), (1, .ref hyz), (2, .ref hyu), (3, .ref hyv)]) hx hb dL_does_16 hl (by decide) rfl (fun ls hl => ?_)
  have J384 : ∀ (syt : Syt) (syz : Syz) (syf : Syf) (syo : Syo) (syk : Syk) (t0 : Int32) (H : Heap) (locs : List Loc), va_P (dC, dI) vwCl (cf_ytyzyuyvyfyoyk cI hyt hyz hyu hyv hyf hyo hyk syt syz syu syv syf syo syk) H → va_D A (cf_ytyzyuyvyfyoyk cI hyt hyz hyu hyv hyf hyo hyk syt syz syu syv syf syo syk) → va_S A s.heap H locs → ∀ (ls : Array Slot), lv_has ls 18 [] → fL_does_384 syu syv syt syz syf syo syk t0 = some (r, sytf, syzf) → W p l e rmL_does s m ([.ref hyt, .ref hyz, .ref hyu, .ref hyv] : List Value).toArray below meth c H locs (3) (72) QQ (F0 m 384 ls [.int t0]) := by
    intro syt syz syf syo syk t0 H locs hP hD hS ls hl hf
    unfold fL_does_384 at hf
    have hf : (some (t0, syt, syz) : Option (Int32 × Syt × Syz)) = some (r, sytf, syzf) := hf
    have he := Option.some.inj hf
    have he0 : t0 = r := congrArg (fun q => q.1) he
    have he1 : syt = sytf := congrArg (fun q => q.2.1) he
    have he2 : syz = syzf := congrArg (fun q => q.2.2) he
    exact hret _ _ _ _ _ (cf_ytyzyuyv cI hyt hyz hyu hyv syt syz syu syv) rfl he0 (by rw [← he1, ← he2]) dL_does_384 (hP.sub (ws' := (cf_ytyzyuyv cI hyt hyz hyu hyv syt syz syu syv)) [0, 1, 2, 3] rfl) (hD.sub (ws' := (cf_ytyzyuyv cI hyt hyz hyu hyv syt syz syu syv)) [0, 1, 2, 3] (by decide) rfl) hS
  have J373 : ∀ (syt : Syt) (syz : Syz) (syf : Syf) (syo : Syo) (syk : Syk) (x15 : Int32) (t1 : Int32) (t2 : Int32) (H : Heap) (locs : List Loc), va_P (dC, dI) vwCl (cf_ytyzyuyvyfyoyk cI hyt hyz hyu hyv hyf hyo hyk syt syz syu syv syf syo syk) H → va_D A (cf_ytyzyuyvyfyoyk cI hyt hyz hyu hyv hyf hyo hyk syt syz syu syv syf syo syk) → va_S A s.heap H locs → ∀ (ls : Array Slot), lv_has ls 18 [(15, .int x15)] → fL_does_373 syu syv syt syz syf syo syk x15 t1 t2 = some (r, sytf, syzf) → W p l e rmL_does s m ([.ref hyt, .ref hyz, .ref hyu, .ref hyv] : List Value).toArray below meth c H locs (3) (72) QQ (F0 m 373 ls [.int t2, .int t1, .ref hyz]) := by
    intro syt syz syf syo syk x15 t1 t2 H locs hP hD hS ls hl hf
    unfold fL_does_373 at hf
    obtain ⟨hi_1, hf⟩ := ai_ok hf
    refine va_iast (n := 13) (f := syz) hx hb hK hP hD hS 1 0 rfl rfl hi_1 dL_does_373 (fun H locs hP hD hS => ?_)
    have hP : va_P (dC, dI) vwCl (cf_ytyzyuyvyfyoyk cI hyt hyz hyu hyv hyf hyo hyk syt (upd syz t1.toNatClampNeg t2) syu syv syf syo syk) H := hP
    have hD : va_D A (cf_ytyzyuyvyfyoyk cI hyt hyz hyu hyv hyf hyo hyk syt (upd syz t1.toNatClampNeg t2) syu syv syf syo syk) := hD
    refine lv_iload hx hb dL_does_374 (lv_at hl 0 rfl) ?_
    refine lv_if_ne (tgt := 383) hx hb dL_does_376 (by decide) (fun c_2 => ?_) (fun c_2 => ?_)
    · have hf := it_f c_2 hf
      refine lv_iconst (v := 1) hx hb dL_does_383 (by decide) ?_
      exact J384 syt (upd syz t1.toNatClampNeg t2) syf syo syk 1 _ _ hP hD hS _ (lv_sub hl [] rfl) hf
    · have hf := it_t c_2 hf
      refine lv_iconst (v := 5) hx hb dL_does_379 (by decide) ?_
      refine lv_goto (tgt := 384) hx hb dL_does_380 (by decide) ?_
      exact J384 syt (upd syz t1.toNatClampNeg t2) syf syo syk 5 _ _ hP hD hS _ (lv_sub hl [] rfl) hf
  have J352 : ∀ (syt : Syt) (syz : Syz) (syf : Syf) (syo : Syo) (syk : Syk) (x12 : Int32) (x15 : Int32) (t1 : Int32) (t2 : Int32) (H : Heap) (locs : List Loc), va_P (dC, dI) vwCl (cf_ytyzyuyvyfyoyk cI hyt hyz hyu hyv hyf hyo hyk syt syz syu syv syf syo syk) H → va_D A (cf_ytyzyuyvyfyoyk cI hyt hyz hyu hyv hyf hyo hyk syt syz syu syv syf syo syk) → va_S A s.heap H locs → ∀ (ls : Array Slot), lv_has ls 18 [(1, .ref hyz), (12, .int x12), (15, .int x15)] → fL_does_352 syu syv syt syz syf syo syk x12 x15 t1 t2 = some (r, sytf, syzf) → W p l e rmL_does s m ([.ref hyt, .ref hyz, .ref hyu, .ref hyv] : List Value).toArray below meth c H locs (3) (72) QQ (F0 m 352 ls [.int t2, .int t1, .ref hyz]) := by
    intro syt syz syf syo syk x12 x15 t1 t2 H locs hP hD hS ls hl hf
    unfold fL_does_352 at hf
    obtain ⟨hi_1, hf⟩ := ai_ok hf
    refine va_iast (n := 13) (f := syz) hx hb hK hP hD hS 1 0 rfl rfl hi_1 dL_does_352 (fun H locs hP hD hS => ?_)
    have hP : va_P (dC, dI) vwCl (cf_ytyzyuyvyfyoyk cI hyt hyz hyu hyv hyf hyo hyk syt (upd syz t1.toNatClampNeg t2) syu syv syf syo syk) H := hP
    have hD : va_D A (cf_ytyzyuyvyfyoyk cI hyt hyz hyu hyv hyf hyo hyk syt (upd syz t1.toNatClampNeg t2) syu syv syf syo syk) := hD
    refine lv_aload_n hx hb dL_does_353 rfl (lv_at hl 0 rfl) ?_
    refine lv_bipush (v := 9) hx hb dL_does_354 (by decide) ?_
    refine lv_iload hx hb dL_does_356 (lv_at hl 2 rfl) ?_
    obtain ⟨hi_2, hf⟩ := ai_ok hf
    refine va_iast (n := 13) (f := (upd syz t1.toNatClampNeg t2)) hx hb hK hP hD hS 1 0 rfl rfl hi_2 dL_does_358 (fun H locs hP hD hS => ?_)
    have hP : va_P (dC, dI) vwCl (cf_ytyzyuyvyfyoyk cI hyt hyz hyu hyv hyf hyo hyk syt (upd (upd syz t1.toNatClampNeg t2) (9 : Int32).toNatClampNeg x15) syu syv syf syo syk) H := hP
    have hD : va_D A (cf_ytyzyuyvyfyoyk cI hyt hyz hyu hyv hyf hyo hyk syt (upd (upd syz t1.toNatClampNeg t2) (9 : Int32).toNatClampNeg x15) syu syv syf syo syk) := hD
    refine lv_aload_n hx hb dL_does_359 rfl (lv_at hl 0 rfl) ?_
    refine lv_bipush (v := 10) hx hb dL_does_360 (by decide) ?_
    refine lv_iload hx hb dL_does_362 (lv_at hl 2 rfl) ?_
    refine lv_if_ne (tgt := 371) hx hb dL_does_364 (by decide) (fun c_3 => ?_) (fun c_3 => ?_)
    · have hf := it_f c_3 hf
      refine lv_iload hx hb dL_does_371 (lv_at hl 1 rfl) ?_
      exact J373 syt (upd (upd syz t1.toNatClampNeg t2) (9 : Int32).toNatClampNeg x15) syf syo syk x15 10 x12 _ _ hP hD hS _ (lv_sub hl [2] rfl) hf
    · have hf := it_t c_3 hf
      refine lv_iconst (v := (-1)) hx hb dL_does_367 (by decide) ?_
      refine lv_goto (tgt := 373) hx hb dL_does_368 (by decide) ?_
      exact J373 syt (upd (upd syz t1.toNatClampNeg t2) (9 : Int32).toNatClampNeg x15) syf syo syk x15 10 (-1) _ _ hP hD hS _ (lv_sub hl [2] rfl) hf
  have J444 : ∀ (k56 : Syt → Syz → Syf → Syo → Syk → Int32 → Int32 → Int32 → Int32 → Int32 → Option (Int32 × Syt × Syz)) (hk56 : ∀ (syt : Syt) (syz : Syz) (syf : Syf) (syo : Syo) (syk : Syk) (x7 : Int32) (x8 : Int32) (x9 : Int32) (x10 : Int32) (x11 : Int32) (H : Heap) (locs : List Loc), va_P (dC, dI) vwCl (cf_ytyzyuyvyfyoyk cI hyt hyz hyu hyv hyf hyo hyk syt syz syu syv syf syo syk) H → va_D A (cf_ytyzyuyvyfyoyk cI hyt hyz hyu hyv hyf hyo hyk syt syz syu syv syf syo syk) → va_S A s.heap H locs → ∀ (ls : Array Slot), lv_has ls 18 [(0, .ref hyt), (1, .ref hyz), (2, .ref hyu), (3, .ref hyv), (4, .ref hyf), (5, .ref hyo), (6, .ref hyk), (7, .int x7), (8, .int x8), (9, .int x9), (10, .int x10), (11, .int x11)] → k56 syt syz syf syo syk x7 x8 x9 x10 x11 = some (r, sytf, syzf) → W p l e rmL_does s m ([.ref hyt, .ref hyz, .ref hyu, .ref hyv] : List Value).toArray below meth c H locs (3) (72) QQ (F0 m 56 ls [])) (syt : Syt) (syz : Syz) (syf : Syf) (syo : Syo) (syk : Syk) (x7 : Int32) (x8 : Int32) (x9 : Int32) (x11 : Int32) (t0 : Int32) (H : Heap) (locs : List Loc), va_P (dC, dI) vwCl (cf_ytyzyuyvyfyoyk cI hyt hyz hyu hyv hyf hyo hyk syt syz syu syv syf syo syk) H → va_D A (cf_ytyzyuyvyfyoyk cI hyt hyz hyu hyv hyf hyo hyk syt syz syu syv syf syo syk) → va_S A s.heap H locs → ∀ (ls : Array Slot), lv_has ls 18 [(0, .ref hyt), (1, .ref hyz), (2, .ref hyu), (3, .ref hyv), (4, .ref hyf), (5, .ref hyo), (6, .ref hyk), (7, .int x7), (8, .int x8), (9, .int x9), (11, .int x11)] → fL_does_444 syu syv k56 syt syz syf syo syk x7 x8 x9 x11 t0 = some (r, sytf, syzf) → W p l e rmL_does s m ([.ref hyt, .ref hyz, .ref hyu, .ref hyv] : List Value).toArray below meth c H locs (3) (72) QQ (F0 m 444 ls [.int t0]) := by
    intro k56 hk56 syt syz syf syo syk x7 x8 x9 x11 t0 H locs hP hD hS ls hl hf
    unfold fL_does_444 at hf
    refine lv_istore (lv' := [(10, .int t0), (0, .ref hyt), (1, .ref hyz), (2, .ref hyu), (3, .ref hyv), (4, .ref hyf), (5, .ref hyo), (6, .ref hyk), (7, .int x7), (8, .int x8), (9, .int x9), (11, .int x11)]) hx hb dL_does_444 hl (by decide) rfl (fun ls hl => ?_)
    refine lv_iinc (v := (x11 + 1)) (lv' := [(11, .int (x11 + 1)), (10, .int t0), (0, .ref hyt), (1, .ref hyz), (2, .ref hyu), (3, .ref hyv), (4, .ref hyf), (5, .ref hyo), (6, .ref hyk), (7, .int x7), (8, .int x8), (9, .int x9)]) hx hb dL_does_446 hl (k := 11) rfl rfl (by decide) rfl (fun ls hl => ?_)
    refine lv_goto (tgt := 56) hx hb dL_does_449 (by decide) ?_
    exact hk56 syt syz syf syo syk x7 x8 x9 t0 (x11 + 1) _ _ hP hD hS _ (lv_sub hl [2, 3, 4, 5, 6, 7, 8, 9, 10, 11, 1, 0] rfl) hf
  have J422 : ∀ (k56 : Syt → Syz → Syf → Syo → Syk → Int32 → Int32 → Int32 → Int32 → Int32 → Option (Int32 × Syt × Syz)) (hk56 : ∀ (syt : Syt) (syz : Syz) (syf : Syf) (syo : Syo) (syk : Syk) (x7 : Int32) (x8 : Int32) (x9 : Int32) (x10 : Int32) (x11 : Int32) (H : Heap) (locs : List Loc), va_P (dC, dI) vwCl (cf_ytyzyuyvyfyoyk cI hyt hyz hyu hyv hyf hyo hyk syt syz syu syv syf syo syk) H → va_D A (cf_ytyzyuyvyfyoyk cI hyt hyz hyu hyv hyf hyo hyk syt syz syu syv syf syo syk) → va_S A s.heap H locs → ∀ (ls : Array Slot), lv_has ls 18 [(0, .ref hyt), (1, .ref hyz), (2, .ref hyu), (3, .ref hyv), (4, .ref hyf), (5, .ref hyo), (6, .ref hyk), (7, .int x7), (8, .int x8), (9, .int x9), (10, .int x10), (11, .int x11)] → k56 syt syz syf syo syk x7 x8 x9 x10 x11 = some (r, sytf, syzf) → W p l e rmL_does s m ([.ref hyt, .ref hyz, .ref hyu, .ref hyv] : List Value).toArray below meth c H locs (3) (72) QQ (F0 m 56 ls [])) (syt : Syt) (syz : Syz) (syf : Syf) (syo : Syo) (syk : Syk) (x7 : Int32) (x8 : Int32) (x10 : Int32) (x11 : Int32) (x14 : Int32) (t0 : Int32) (t1 : Int32) (H : Heap) (locs : List Loc), va_P (dC, dI) vwCl (cf_ytyzyuyvyfyoyk cI hyt hyz hyu hyv hyf hyo hyk syt syz syu syv syf syo syk) H → va_D A (cf_ytyzyuyvyfyoyk cI hyt hyz hyu hyv hyf hyo hyk syt syz syu syv syf syo syk) → va_S A s.heap H locs → ∀ (ls : Array Slot), lv_has ls 18 [(0, .ref hyt), (1, .ref hyz), (2, .ref hyu), (3, .ref hyv), (4, .ref hyf), (5, .ref hyo), (6, .ref hyk), (7, .int x7), (8, .int x8), (10, .int x10), (11, .int x11), (14, .int x14)] → fL_does_422 syu syv k56 syt syz syf syo syk x7 x8 x10 x11 x14 t0 t1 = some (r, sytf, syzf) → W p l e rmL_does s m ([.ref hyt, .ref hyz, .ref hyu, .ref hyv] : List Value).toArray below meth c H locs (3) (72) QQ (F0 m 422 ls [.int t1, .int t0]) := by
    intro k56 hk56 syt syz syf syo syk x7 x8 x10 x11 x14 t0 t1 H locs hP hD hS ls hl hf
    unfold fL_does_422 at hf
    refine lv_ior hx hb dL_does_422 ?_
    refine lv_istore (lv' := [(9, .int (t0 ||| t1)), (0, .ref hyt), (1, .ref hyz), (2, .ref hyu), (3, .ref hyv), (4, .ref hyf), (5, .ref hyo), (6, .ref hyk), (7, .int x7), (8, .int x8), (10, .int x10), (11, .int x11), (14, .int x14)]) hx hb dL_does_423 hl (by decide) rfl (fun ls hl => ?_)
    refine lv_aload hx hb dL_does_425 (lv_at hl 7 rfl) ?_
    refine lv_iload hx hb dL_does_427 (lv_at hl 11 rfl) ?_
    obtain ⟨hi_1, hf⟩ := ai_ok hf
    refine va_iald (n := 24) (f := syk) hx hb hK hP 6 0 rfl rfl hi_1 dL_does_429 ?_
    refine lv_iconst (v := 4) hx hb dL_does_430 (by decide) ?_
    refine lv_icmp_ne (tgt := 442) hx hb dL_does_431 (by decide) (fun c_2 => ?_) (fun c_2 => ?_)
    · have hf := it_f c_2 hf
      refine lv_iload hx hb dL_does_442 (lv_at hl 10 rfl) ?_
      exact J444 k56 hk56 syt syz syf syo syk x7 x8 (t0 ||| t1) x11 x10 _ _ hP hD hS _ (lv_sub hl [1, 2, 3, 4, 5, 6, 7, 8, 9, 0, 11] rfl) hf
    · have hf := it_t c_2 hf
      refine lv_iload hx hb dL_does_434 (lv_at hl 12 rfl) ?_
      obtain ⟨r_3, hc_3, hf⟩ := bn1_ok hf
      refine gc_i (wc := ([] : va_W)) (wr := (cf_ytyzyuyvyfyoyk cI hyt hyz hyu hyv hyf hyo hyk syt syz syu syv syf syo syk)) (w1 := ([] : va_W)) (ws' := (cf_ytyzyuyvyfyoyk cI hyt hyz hyu hyv hyf hyo hyk syt syz syu syv syf syo syk)) hP hD hS hA [] [0, 1, 2, 3, 4, 5, 6] [0, 1, 2, 3, 4, 5, 6] rfl rfl (by decide) (by decide) rfl (by decide) (va_runS (As := [.int x14]) (rest := []) ⟨hx, hb, hml, hown, hts⟩ (ktL_only l dC dI _ x14 r_3 hc_3) (va_cwS 1 hts gL_does_L_only rfl rfl rfl (by decide +kernel) ⟨Nat.le_of_ble_eq_true rfl, Nat.le_of_ble_eq_true rfl⟩) (gc_S (hP.sub (ws' := ([] : va_W)) [] rfl) (hK.sub (tys' := []) [] rfl) (hD.sub (ws' := ([] : va_W)) [] (by decide) rfl) hN) rfl rfl hl.1 rfl (lv_room (Nat.le_of_ble_eq_true rfl)) dL_does_436 ⟨by show (3) + 0 ≤ 3; omega, by show (72) + 0 ≤ 72; omega⟩) (fun H locs hP hD hS => ?_)
      refine lv_goto (tgt := 444) hx hb dL_does_439 (by decide) ?_
      exact J444 k56 hk56 syt syz syf syo syk x7 x8 (t0 ||| t1) x11 r_3 _ _ hP hD hS _ (lv_sub hl [1, 2, 3, 4, 5, 6, 7, 8, 9, 0, 11] rfl) hf
  have J402 : ∀ (k56 : Syt → Syz → Syf → Syo → Syk → Int32 → Int32 → Int32 → Int32 → Int32 → Option (Int32 × Syt × Syz)) (hk56 : ∀ (syt : Syt) (syz : Syz) (syf : Syf) (syo : Syo) (syk : Syk) (x7 : Int32) (x8 : Int32) (x9 : Int32) (x10 : Int32) (x11 : Int32) (H : Heap) (locs : List Loc), va_P (dC, dI) vwCl (cf_ytyzyuyvyfyoyk cI hyt hyz hyu hyv hyf hyo hyk syt syz syu syv syf syo syk) H → va_D A (cf_ytyzyuyvyfyoyk cI hyt hyz hyu hyv hyf hyo hyk syt syz syu syv syf syo syk) → va_S A s.heap H locs → ∀ (ls : Array Slot), lv_has ls 18 [(0, .ref hyt), (1, .ref hyz), (2, .ref hyu), (3, .ref hyv), (4, .ref hyf), (5, .ref hyo), (6, .ref hyk), (7, .int x7), (8, .int x8), (9, .int x9), (10, .int x10), (11, .int x11)] → k56 syt syz syf syo syk x7 x8 x9 x10 x11 = some (r, sytf, syzf) → W p l e rmL_does s m ([.ref hyt, .ref hyz, .ref hyu, .ref hyv] : List Value).toArray below meth c H locs (3) (72) QQ (F0 m 56 ls [])) (syt : Syt) (syz : Syz) (syf : Syf) (syo : Syo) (syk : Syk) (x7 : Int32) (x9 : Int32) (x10 : Int32) (x11 : Int32) (x14 : Int32) (t0 : Int32) (t1 : Int32) (H : Heap) (locs : List Loc), va_P (dC, dI) vwCl (cf_ytyzyuyvyfyoyk cI hyt hyz hyu hyv hyf hyo hyk syt syz syu syv syf syo syk) H → va_D A (cf_ytyzyuyvyfyoyk cI hyt hyz hyu hyv hyf hyo hyk syt syz syu syv syf syo syk) → va_S A s.heap H locs → ∀ (ls : Array Slot), lv_has ls 18 [(0, .ref hyt), (1, .ref hyz), (2, .ref hyu), (3, .ref hyv), (4, .ref hyf), (5, .ref hyo), (6, .ref hyk), (7, .int x7), (9, .int x9), (10, .int x10), (11, .int x11), (14, .int x14)] → fL_does_402 syu syv k56 syt syz syf syo syk x7 x9 x10 x11 x14 t0 t1 = some (r, sytf, syzf) → W p l e rmL_does s m ([.ref hyt, .ref hyz, .ref hyu, .ref hyv] : List Value).toArray below meth c H locs (3) (72) QQ (F0 m 402 ls [.int t1, .int t0]) := by
    intro k56 hk56 syt syz syf syo syk x7 x9 x10 x11 x14 t0 t1 H locs hP hD hS ls hl hf
    unfold fL_does_402 at hf
    refine lv_ior hx hb dL_does_402 ?_
    refine lv_istore (lv' := [(8, .int (t0 ||| t1)), (0, .ref hyt), (1, .ref hyz), (2, .ref hyu), (3, .ref hyv), (4, .ref hyf), (5, .ref hyo), (6, .ref hyk), (7, .int x7), (9, .int x9), (10, .int x10), (11, .int x11), (14, .int x14)]) hx hb dL_does_403 hl (by decide) rfl (fun ls hl => ?_)
    refine lv_iload hx hb dL_does_405 (lv_at hl 9 rfl) ?_
    refine lv_aload hx hb dL_does_407 (lv_at hl 7 rfl) ?_
    refine lv_iload hx hb dL_does_409 (lv_at hl 11 rfl) ?_
    obtain ⟨hi_1, hf⟩ := ai_ok hf
    refine va_iald (n := 24) (f := syk) hx hb hK hP 6 0 rfl rfl hi_1 dL_does_411 ?_
    refine lv_iconst (v := 3) hx hb dL_does_412 (by decide) ?_
    refine lv_icmp_ne (tgt := 421) hx hb dL_does_413 (by decide) (fun c_2 => ?_) (fun c_2 => ?_)
    · have hf := it_f c_2 hf
      refine lv_iconst (v := 0) hx hb dL_does_421 (by decide) ?_
      exact J422 k56 hk56 syt syz syf syo syk x7 (t0 ||| t1) x10 x11 x14 x9 0 _ _ hP hD hS _ (lv_sub hl [1, 2, 3, 4, 5, 6, 7, 8, 0, 10, 11, 12] rfl) hf
    · have hf := it_t c_2 hf
      refine lv_iload hx hb dL_does_416 (lv_at hl 12 rfl) ?_
      refine lv_goto (tgt := 422) hx hb dL_does_418 (by decide) ?_
      exact J422 k56 hk56 syt syz syf syo syk x7 (t0 ||| t1) x10 x11 x14 x9 x14 _ _ hP hD hS _ (lv_sub hl [1, 2, 3, 4, 5, 6, 7, 8, 0, 10, 11, 12] rfl) hf
  have J334 : ∀ (k56 : Syt → Syz → Syf → Syo → Syk → Int32 → Int32 → Int32 → Int32 → Int32 → Option (Int32 × Syt × Syz)) (hk56 : ∀ (syt : Syt) (syz : Syz) (syf : Syf) (syo : Syo) (syk : Syk) (x7 : Int32) (x8 : Int32) (x9 : Int32) (x10 : Int32) (x11 : Int32) (H : Heap) (locs : List Loc), va_P (dC, dI) vwCl (cf_ytyzyuyvyfyoyk cI hyt hyz hyu hyv hyf hyo hyk syt syz syu syv syf syo syk) H → va_D A (cf_ytyzyuyvyfyoyk cI hyt hyz hyu hyv hyf hyo hyk syt syz syu syv syf syo syk) → va_S A s.heap H locs → ∀ (ls : Array Slot), lv_has ls 18 [(0, .ref hyt), (1, .ref hyz), (2, .ref hyu), (3, .ref hyv), (4, .ref hyf), (5, .ref hyo), (6, .ref hyk), (7, .int x7), (8, .int x8), (9, .int x9), (10, .int x10), (11, .int x11)] → k56 syt syz syf syo syk x7 x8 x9 x10 x11 = some (r, sytf, syzf) → W p l e rmL_does s m ([.ref hyt, .ref hyz, .ref hyu, .ref hyv] : List Value).toArray below meth c H locs (3) (72) QQ (F0 m 56 ls [])) (syt : Syt) (syz : Syz) (syf : Syf) (syo : Syo) (syk : Syk) (x7 : Int32) (x8 : Int32) (x9 : Int32) (x10 : Int32) (x11 : Int32) (x12 : Int32) (x14 : Int32) (x15 : Int32) (H : Heap) (locs : List Loc), va_P (dC, dI) vwCl (cf_ytyzyuyvyfyoyk cI hyt hyz hyu hyv hyf hyo hyk syt syz syu syv syf syo syk) H → va_D A (cf_ytyzyuyvyfyoyk cI hyt hyz hyu hyv hyf hyo hyk syt syz syu syv syf syo syk) → va_S A s.heap H locs → ∀ (ls : Array Slot), lv_has ls 18 [(0, .ref hyt), (1, .ref hyz), (2, .ref hyu), (3, .ref hyv), (4, .ref hyf), (5, .ref hyo), (6, .ref hyk), (7, .int x7), (8, .int x8), (9, .int x9), (10, .int x10), (11, .int x11), (12, .int x12), (14, .int x14), (15, .int x15)] → fL_does_334 syu syv k56 syt syz syf syo syk x7 x8 x9 x10 x11 x12 x14 x15 = some (r, sytf, syzf) → W p l e rmL_does s m ([.ref hyt, .ref hyz, .ref hyu, .ref hyv] : List Value).toArray below meth c H locs (3) (72) QQ (F0 m 334 ls []) := by
    intro k56 hk56 syt syz syf syo syk x7 x8 x9 x10 x11 x12 x14 x15 H locs hP hD hS ls hl hf
    unfold fL_does_334 at hf
    refine lv_iload hx hb dL_does_334 (lv_at hl 13 rfl) ?_
    refine lv_if_ne (tgt := 385) hx hb dL_does_336 (by decide) (fun c_1 => ?_) (fun c_1 => ?_)
    · have hf := it_f c_1 hf
      refine lv_iload hx hb dL_does_385 (lv_at hl 8 rfl) ?_
      refine lv_aload hx hb dL_does_387 (lv_at hl 6 rfl) ?_
      refine lv_iload hx hb dL_does_389 (lv_at hl 11 rfl) ?_
      obtain ⟨hi_2, hf⟩ := ai_ok hf
      refine va_iald (n := 24) (f := syk) hx hb hK hP 6 0 rfl rfl hi_2 dL_does_391 ?_
      refine lv_iconst (v := 3) hx hb dL_does_392 (by decide) ?_
      refine lv_icmp_ge (tgt := 401) hx hb dL_does_393 (by decide) (fun c_3 => ?_) (fun c_3 => ?_)
      · have hf := it_t c_3 hf
        refine lv_iconst (v := 0) hx hb dL_does_401 (by decide) ?_
        exact J402 k56 hk56 syt syz syf syo syk x7 x9 x10 x11 x14 x8 0 _ _ hP hD hS _ (lv_sub hl [0, 1, 2, 3, 4, 5, 6, 7, 9, 10, 11, 13] rfl) hf
      · have hf := it_f c_3 hf
        refine lv_iload hx hb dL_does_396 (lv_at hl 13 rfl) ?_
        refine lv_goto (tgt := 402) hx hb dL_does_398 (by decide) ?_
        exact J402 k56 hk56 syt syz syf syo syk x7 x9 x10 x11 x14 x8 x14 _ _ hP hD hS _ (lv_sub hl [0, 1, 2, 3, 4, 5, 6, 7, 9, 10, 11, 13] rfl) hf
    · have hf := it_t c_1 hf
      refine lv_aload_n hx hb dL_does_339 rfl (lv_at hl 1 rfl) ?_
      refine lv_iconst (v := 3) hx hb dL_does_340 (by decide) ?_
      refine lv_iload hx hb dL_does_341 (lv_at hl 14 rfl) ?_
      refine lv_if_ne (tgt := 351) hx hb dL_does_343 (by decide) (fun c_4 => ?_) (fun c_4 => ?_)
      · have hf := it_f c_4 hf
        refine lv_iconst (v := (-1)) hx hb dL_does_351 (by decide) ?_
        exact J352 syt syz syf syo syk x12 x15 3 (-1) _ _ hP hD hS _ (lv_sub hl [1, 12, 14] rfl) hf
      · have hf := it_t c_4 hf
        refine lv_iload hx hb dL_does_346 (lv_at hl 12 rfl) ?_
        refine lv_goto (tgt := 352) hx hb dL_does_348 (by decide) ?_
        exact J352 syt syz syf syo syk x12 x15 3 x12 _ _ hP hD hS _ (lv_sub hl [1, 12, 14] rfl) hf
  have J148 : ∀ (k56 : Syt → Syz → Syf → Syo → Syk → Int32 → Int32 → Int32 → Int32 → Int32 → Option (Int32 × Syt × Syz)) (hk56 : ∀ (syt : Syt) (syz : Syz) (syf : Syf) (syo : Syo) (syk : Syk) (x7 : Int32) (x8 : Int32) (x9 : Int32) (x10 : Int32) (x11 : Int32) (H : Heap) (locs : List Loc), va_P (dC, dI) vwCl (cf_ytyzyuyvyfyoyk cI hyt hyz hyu hyv hyf hyo hyk syt syz syu syv syf syo syk) H → va_D A (cf_ytyzyuyvyfyoyk cI hyt hyz hyu hyv hyf hyo hyk syt syz syu syv syf syo syk) → va_S A s.heap H locs → ∀ (ls : Array Slot), lv_has ls 18 [(0, .ref hyt), (1, .ref hyz), (2, .ref hyu), (3, .ref hyv), (4, .ref hyf), (5, .ref hyo), (6, .ref hyk), (7, .int x7), (8, .int x8), (9, .int x9), (10, .int x10), (11, .int x11)] → k56 syt syz syf syo syk x7 x8 x9 x10 x11 = some (r, sytf, syzf) → W p l e rmL_does s m ([.ref hyt, .ref hyz, .ref hyu, .ref hyv] : List Value).toArray below meth c H locs (3) (72) QQ (F0 m 56 ls [])) (syt : Syt) (syz : Syz) (syf : Syf) (syo : Syo) (syk : Syk) (x7 : Int32) (x8 : Int32) (x9 : Int32) (x10 : Int32) (x11 : Int32) (x12 : Int32) (x15 : Int32) (t1 : Int32) (t3 : Int32) (t4 : Int32) (t5 : Int32) (H : Heap) (locs : List Loc), va_P (dC, dI) vwCl (cf_ytyzyuyvyfyoyk cI hyt hyz hyu hyv hyf hyo hyk syt syz syu syv syf syo syk) H → va_D A (cf_ytyzyuyvyfyoyk cI hyt hyz hyu hyv hyf hyo hyk syt syz syu syv syf syo syk) → va_S A s.heap H locs → ∀ (ls : Array Slot), lv_has ls 18 [(0, .ref hyt), (1, .ref hyz), (2, .ref hyu), (3, .ref hyv), (4, .ref hyf), (5, .ref hyo), (6, .ref hyk), (7, .int x7), (8, .int x8), (9, .int x9), (10, .int x10), (11, .int x11), (12, .int x12), (15, .int x15)] → fL_does_148 syu syv k56 syt syz syf syo syk x7 x8 x9 x10 x11 x12 x15 t1 t3 t4 t5 = some (r, sytf, syzf) → W p l e rmL_does s m ([.ref hyt, .ref hyz, .ref hyu, .ref hyv] : List Value).toArray below meth c H locs (3) (72) QQ (F0 m 148 ls [.int t5, .int t4, .int t3, .ref hyu, .int t1, .ref hyt]) := by
    intro k56 hk56 syt syz syf syo syk x7 x8 x9 x10 x11 x12 x15 t1 t3 t4 t5 H locs hP hD hS ls hl hf
    unfold fL_does_148 at hf
    obtain ⟨r_1, hc_1, hf⟩ := bn1_ok hf
    refine gc_i (wc := (cf_ytyw cI hyt hyu syt syu)) (wr := (cf_yzyvyfyoyk cI hyz hyv hyf hyo hyk syz syv syf syo syk)) (w1 := (cf_ytyw cI hyt hyu syt syu)) (ws' := (cf_ytyzyuyvyfyoyk cI hyt hyz hyu hyv hyf hyo hyk syt syz syu syv syf syo syk)) hP hD hS hA [0, 2] [1, 3, 4, 5, 6] [5, 0, 6, 1, 2, 3, 4] rfl rfl (by decide) (by decide) rfl (by decide) (va_runS (As := [.ref hyt, .int t1, .ref hyu, .int t3, .int t4, .int t5]) (rest := []) ⟨hx, hb, hml, hown, hts⟩ (ktL_fitting l dC dI cI hyt hyu _ syt syu t1 t3 t4 t5 r_1 hc_1) (va_cwS 6 hts gL_does_L_fitting rfl rfl rfl (by decide +kernel) ⟨Nat.le_of_ble_eq_true rfl, Nat.le_of_ble_eq_true rfl⟩) (gc_S (hP.sub (ws' := (cf_ytyw cI hyt hyu syt syu)) [0, 2] rfl) (hK.sub (tys' := [(cI, .int)]) [0] rfl) (hD.sub (ws' := (cf_ytyw cI hyt hyu syt syu)) [0, 2] (by decide) rfl) hN) rfl rfl hl.1 rfl (lv_room (Nat.le_of_ble_eq_true rfl)) dL_does_148 ⟨by show (3) + 0 ≤ 3; omega, by show (72) + 0 ≤ 72; omega⟩) (fun H locs hP hD hS => ?_)
    refine lv_iload hx hb dL_does_151 (lv_at hl 9 rfl) ?_
    refine lv_iconst (v := (-1)) hx hb dL_does_153 (by decide) ?_
    refine lv_ixor hx hb dL_does_154 ?_
    refine lv_iand hx hb dL_does_155 ?_
    refine lv_istore (lv' := [(14, .int (r_1 &&& (x9 ^^^ (-1)))), (0, .ref hyt), (1, .ref hyz), (2, .ref hyu), (3, .ref hyv), (4, .ref hyf), (5, .ref hyo), (6, .ref hyk), (7, .int x7), (8, .int x8), (9, .int x9), (10, .int x10), (11, .int x11), (12, .int x12), (15, .int x15)]) hx hb dL_does_156 hl (by decide) rfl (fun ls hl => ?_)
    refine lv_iconst (v := 0) hx hb dL_does_158 (by decide) ?_
    refine lv_istore (lv' := [(9, .int 0), (14, .int (r_1 &&& (x9 ^^^ (-1)))), (0, .ref hyt), (1, .ref hyz), (2, .ref hyu), (3, .ref hyv), (4, .ref hyf), (5, .ref hyo), (6, .ref hyk), (7, .int x7), (8, .int x8), (10, .int x10), (11, .int x11), (12, .int x12), (15, .int x15)]) hx hb dL_does_159 hl (by decide) rfl (fun ls hl => ?_)
    refine lv_goto (tgt := 334) hx hb dL_does_161 (by decide) ?_
    exact J334 k56 hk56 syt syz syf syo syk x7 x8 0 x10 x11 x12 (r_1 &&& (x9 ^^^ (-1))) x15 _ _ hP hD hS _ (lv_sub hl [2, 3, 4, 5, 6, 7, 8, 9, 10, 0, 11, 12, 13, 1, 14] rfl) hf
  have J212 : ∀ (k56 : Syt → Syz → Syf → Syo → Syk → Int32 → Int32 → Int32 → Int32 → Int32 → Option (Int32 × Syt × Syz)) (hk56 : ∀ (syt : Syt) (syz : Syz) (syf : Syf) (syo : Syo) (syk : Syk) (x7 : Int32) (x8 : Int32) (x9 : Int32) (x10 : Int32) (x11 : Int32) (H : Heap) (locs : List Loc), va_P (dC, dI) vwCl (cf_ytyzyuyvyfyoyk cI hyt hyz hyu hyv hyf hyo hyk syt syz syu syv syf syo syk) H → va_D A (cf_ytyzyuyvyfyoyk cI hyt hyz hyu hyv hyf hyo hyk syt syz syu syv syf syo syk) → va_S A s.heap H locs → ∀ (ls : Array Slot), lv_has ls 18 [(0, .ref hyt), (1, .ref hyz), (2, .ref hyu), (3, .ref hyv), (4, .ref hyf), (5, .ref hyo), (6, .ref hyk), (7, .int x7), (8, .int x8), (9, .int x9), (10, .int x10), (11, .int x11)] → k56 syt syz syf syo syk x7 x8 x9 x10 x11 = some (r, sytf, syzf) → W p l e rmL_does s m ([.ref hyt, .ref hyz, .ref hyu, .ref hyv] : List Value).toArray below meth c H locs (3) (72) QQ (F0 m 56 ls [])) (syt : Syt) (syz : Syz) (syf : Syf) (syo : Syo) (syk : Syk) (x7 : Int32) (x8 : Int32) (x9 : Int32) (x10 : Int32) (x11 : Int32) (x12 : Int32) (x15 : Int32) (t0 : Int32) (H : Heap) (locs : List Loc), va_P (dC, dI) vwCl (cf_ytyzyuyvyfyoyk cI hyt hyz hyu hyv hyf hyo hyk syt syz syu syv syf syo syk) H → va_D A (cf_ytyzyuyvyfyoyk cI hyt hyz hyu hyv hyf hyo hyk syt syz syu syv syf syo syk) → va_S A s.heap H locs → ∀ (ls : Array Slot), lv_has ls 18 [(0, .ref hyt), (1, .ref hyz), (2, .ref hyu), (3, .ref hyv), (4, .ref hyf), (5, .ref hyo), (6, .ref hyk), (7, .int x7), (8, .int x8), (9, .int x9), (10, .int x10), (11, .int x11), (12, .int x12), (15, .int x15)] → fL_does_212 syu syv k56 syt syz syf syo syk x7 x8 x9 x10 x11 x12 x15 t0 = some (r, sytf, syzf) → W p l e rmL_does s m ([.ref hyt, .ref hyz, .ref hyu, .ref hyv] : List Value).toArray below meth c H locs (3) (72) QQ (F0 m 212 ls [.int t0]) := by
    intro k56 hk56 syt syz syf syo syk x7 x8 x9 x10 x11 x12 x15 t0 H locs hP hD hS ls hl hf
    unfold fL_does_212 at hf
    refine lv_istore (lv' := [(14, .int t0), (0, .ref hyt), (1, .ref hyz), (2, .ref hyu), (3, .ref hyv), (4, .ref hyf), (5, .ref hyo), (6, .ref hyk), (7, .int x7), (8, .int x8), (9, .int x9), (10, .int x10), (11, .int x11), (12, .int x12), (15, .int x15)]) hx hb dL_does_212 hl (by decide) rfl (fun ls hl => ?_)
    refine lv_goto (tgt := 334) hx hb dL_does_214 (by decide) ?_
    exact J334 k56 hk56 syt syz syf syo syk x7 x8 x9 x10 x11 x12 t0 x15 _ _ hP hD hS _ (lv_sub hl [1, 2, 3, 4, 5, 6, 7, 8, 9, 10, 11, 12, 13, 0, 14] rfl) hf
  have J332 : ∀ (k56 : Syt → Syz → Syf → Syo → Syk → Int32 → Int32 → Int32 → Int32 → Int32 → Option (Int32 × Syt × Syz)) (hk56 : ∀ (syt : Syt) (syz : Syz) (syf : Syf) (syo : Syo) (syk : Syk) (x7 : Int32) (x8 : Int32) (x9 : Int32) (x10 : Int32) (x11 : Int32) (H : Heap) (locs : List Loc), va_P (dC, dI) vwCl (cf_ytyzyuyvyfyoyk cI hyt hyz hyu hyv hyf hyo hyk syt syz syu syv syf syo syk) H → va_D A (cf_ytyzyuyvyfyoyk cI hyt hyz hyu hyv hyf hyo hyk syt syz syu syv syf syo syk) → va_S A s.heap H locs → ∀ (ls : Array Slot), lv_has ls 18 [(0, .ref hyt), (1, .ref hyz), (2, .ref hyu), (3, .ref hyv), (4, .ref hyf), (5, .ref hyo), (6, .ref hyk), (7, .int x7), (8, .int x8), (9, .int x9), (10, .int x10), (11, .int x11)] → k56 syt syz syf syo syk x7 x8 x9 x10 x11 = some (r, sytf, syzf) → W p l e rmL_does s m ([.ref hyt, .ref hyz, .ref hyu, .ref hyv] : List Value).toArray below meth c H locs (3) (72) QQ (F0 m 56 ls [])) (syt : Syt) (syz : Syz) (syf : Syf) (syo : Syo) (syk : Syk) (x7 : Int32) (x8 : Int32) (x9 : Int32) (x10 : Int32) (x11 : Int32) (x12 : Int32) (x14 : Int32) (t0 : Int32) (H : Heap) (locs : List Loc), va_P (dC, dI) vwCl (cf_ytyzyuyvyfyoyk cI hyt hyz hyu hyv hyf hyo hyk syt syz syu syv syf syo syk) H → va_D A (cf_ytyzyuyvyfyoyk cI hyt hyz hyu hyv hyf hyo hyk syt syz syu syv syf syo syk) → va_S A s.heap H locs → ∀ (ls : Array Slot), lv_has ls 18 [(0, .ref hyt), (1, .ref hyz), (2, .ref hyu), (3, .ref hyv), (4, .ref hyf), (5, .ref hyo), (6, .ref hyk), (7, .int x7), (8, .int x8), (9, .int x9), (10, .int x10), (11, .int x11), (12, .int x12), (14, .int x14)] → fL_does_332 syu syv k56 syt syz syf syo syk x7 x8 x9 x10 x11 x12 x14 t0 = some (r, sytf, syzf) → W p l e rmL_does s m ([.ref hyt, .ref hyz, .ref hyu, .ref hyv] : List Value).toArray below meth c H locs (3) (72) QQ (F0 m 332 ls [.int t0]) := by
    intro k56 hk56 syt syz syf syo syk x7 x8 x9 x10 x11 x12 x14 t0 H locs hP hD hS ls hl hf
    unfold fL_does_332 at hf
    refine lv_istore (lv' := [(15, .int t0), (0, .ref hyt), (1, .ref hyz), (2, .ref hyu), (3, .ref hyv), (4, .ref hyf), (5, .ref hyo), (6, .ref hyk), (7, .int x7), (8, .int x8), (9, .int x9), (10, .int x10), (11, .int x11), (12, .int x12), (14, .int x14)]) hx hb dL_does_332 hl (by decide) rfl (fun ls hl => ?_)
    exact J334 k56 hk56 syt syz syf syo syk x7 x8 x9 x10 x11 x12 x14 t0 _ _ hP hD hS _ (lv_sub hl [1, 2, 3, 4, 5, 6, 7, 8, 9, 10, 11, 12, 13, 14, 0] rfl) hf
  have J309 : ∀ (k56 : Syt → Syz → Syf → Syo → Syk → Int32 → Int32 → Int32 → Int32 → Int32 → Option (Int32 × Syt × Syz)) (hk56 : ∀ (syt : Syt) (syz : Syz) (syf : Syf) (syo : Syo) (syk : Syk) (x7 : Int32) (x8 : Int32) (x9 : Int32) (x10 : Int32) (x11 : Int32) (H : Heap) (locs : List Loc), va_P (dC, dI) vwCl (cf_ytyzyuyvyfyoyk cI hyt hyz hyu hyv hyf hyo hyk syt syz syu syv syf syo syk) H → va_D A (cf_ytyzyuyvyfyoyk cI hyt hyz hyu hyv hyf hyo hyk syt syz syu syv syf syo syk) → va_S A s.heap H locs → ∀ (ls : Array Slot), lv_has ls 18 [(0, .ref hyt), (1, .ref hyz), (2, .ref hyu), (3, .ref hyv), (4, .ref hyf), (5, .ref hyo), (6, .ref hyk), (7, .int x7), (8, .int x8), (9, .int x9), (10, .int x10), (11, .int x11)] → k56 syt syz syf syo syk x7 x8 x9 x10 x11 = some (r, sytf, syzf) → W p l e rmL_does s m ([.ref hyt, .ref hyz, .ref hyu, .ref hyv] : List Value).toArray below meth c H locs (3) (72) QQ (F0 m 56 ls [])) (syt : Syt) (syz : Syz) (syf : Syf) (syo : Syo) (syk : Syk) (x7 : Int32) (x8 : Int32) (x9 : Int32) (x10 : Int32) (x11 : Int32) (x12 : Int32) (x16 : Int32) (x17 : Int32) (t0 : Int32) (H : Heap) (locs : List Loc), va_P (dC, dI) vwCl (cf_ytyzyuyvyfyoyk cI hyt hyz hyu hyv hyf hyo hyk syt syz syu syv syf syo syk) H → va_D A (cf_ytyzyuyvyfyoyk cI hyt hyz hyu hyv hyf hyo hyk syt syz syu syv syf syo syk) → va_S A s.heap H locs → ∀ (ls : Array Slot), lv_has ls 18 [(0, .ref hyt), (1, .ref hyz), (2, .ref hyu), (3, .ref hyv), (4, .ref hyf), (5, .ref hyo), (6, .ref hyk), (7, .int x7), (8, .int x8), (9, .int x9), (10, .int x10), (11, .int x11), (12, .int x12), (16, .int x16), (17, .int x17)] → fL_does_309 syu syv k56 syt syz syf syo syk x7 x8 x9 x10 x11 x12 x16 x17 t0 = some (r, sytf, syzf) → W p l e rmL_does s m ([.ref hyt, .ref hyz, .ref hyu, .ref hyv] : List Value).toArray below meth c H locs (3) (72) QQ (F0 m 309 ls [.int t0]) := by
    intro k56 hk56 syt syz syf syo syk x7 x8 x9 x10 x11 x12 x16 x17 t0 H locs hP hD hS ls hl hf
    unfold fL_does_309 at hf
    refine lv_istore (lv' := [(14, .int t0), (0, .ref hyt), (1, .ref hyz), (2, .ref hyu), (3, .ref hyv), (4, .ref hyf), (5, .ref hyo), (6, .ref hyk), (7, .int x7), (8, .int x8), (9, .int x9), (10, .int x10), (11, .int x11), (12, .int x12), (16, .int x16), (17, .int x17)]) hx hb dL_does_309 hl (by decide) rfl (fun ls hl => ?_)
    refine lv_iload hx hb dL_does_311 (lv_at hl 0 rfl) ?_
    refine lv_if_le (tgt := 320) hx hb dL_does_313 (by decide) (fun c_1 => ?_) (fun c_1 => ?_)
    · have hf := it_t c_1 hf
      refine lv_iload hx hb dL_does_320 (lv_at hl 15 rfl) ?_
      refine lv_if_le (tgt := 330) hx hb dL_does_322 (by decide) (fun c_2 => ?_) (fun c_2 => ?_)
      · have hf := it_t c_2 hf
        refine lv_iload hx hb dL_does_330 (lv_at hl 14 rfl) ?_
        exact J332 k56 hk56 syt syz syf syo syk x7 x8 x9 x10 x11 x12 t0 x16 _ _ hP hD hS _ (lv_sub hl [1, 2, 3, 4, 5, 6, 7, 8, 9, 10, 11, 12, 13, 0] rfl) hf
      · have hf := it_f c_2 hf
        refine lv_iload hx hb dL_does_325 (lv_at hl 15 rfl) ?_
        refine lv_goto (tgt := 332) hx hb dL_does_327 (by decide) ?_
        exact J332 k56 hk56 syt syz syf syo syk x7 x8 x9 x10 x11 x12 t0 x17 _ _ hP hD hS _ (lv_sub hl [1, 2, 3, 4, 5, 6, 7, 8, 9, 10, 11, 12, 13, 0] rfl) hf
    · have hf := it_f c_1 hf
      refine lv_iconst (v := 0) hx hb dL_does_316 (by decide) ?_
      refine lv_goto (tgt := 332) hx hb dL_does_317 (by decide) ?_
      exact J332 k56 hk56 syt syz syf syo syk x7 x8 x9 x10 x11 x12 t0 0 _ _ hP hD hS _ (lv_sub hl [1, 2, 3, 4, 5, 6, 7, 8, 9, 10, 11, 12, 13, 0] rfl) hf
  have J274 : ∀ (k56 : Syt → Syz → Syf → Syo → Syk → Int32 → Int32 → Int32 → Int32 → Int32 → Option (Int32 × Syt × Syz)) (hk56 : ∀ (syt : Syt) (syz : Syz) (syf : Syf) (syo : Syo) (syk : Syk) (x7 : Int32) (x8 : Int32) (x9 : Int32) (x10 : Int32) (x11 : Int32) (H : Heap) (locs : List Loc), va_P (dC, dI) vwCl (cf_ytyzyuyvyfyoyk cI hyt hyz hyu hyv hyf hyo hyk syt syz syu syv syf syo syk) H → va_D A (cf_ytyzyuyvyfyoyk cI hyt hyz hyu hyv hyf hyo hyk syt syz syu syv syf syo syk) → va_S A s.heap H locs → ∀ (ls : Array Slot), lv_has ls 18 [(0, .ref hyt), (1, .ref hyz), (2, .ref hyu), (3, .ref hyv), (4, .ref hyf), (5, .ref hyo), (6, .ref hyk), (7, .int x7), (8, .int x8), (9, .int x9), (10, .int x10), (11, .int x11)] → k56 syt syz syf syo syk x7 x8 x9 x10 x11 = some (r, sytf, syzf) → W p l e rmL_does s m ([.ref hyt, .ref hyz, .ref hyu, .ref hyv] : List Value).toArray below meth c H locs (3) (72) QQ (F0 m 56 ls [])) (syt : Syt) (syz : Syz) (syf : Syf) (syo : Syo) (syk : Syk) (x7 : Int32) (x8 : Int32) (x9 : Int32) (x10 : Int32) (x11 : Int32) (x12 : Int32) (x16 : Int32) (t0 : Int32) (t3 : Int32) (H : Heap) (locs : List Loc), va_P (dC, dI) vwCl (cf_ytyzyuyvyfyoyk cI hyt hyz hyu hyv hyf hyo hyk syt syz syu syv syf syo syk) H → va_D A (cf_ytyzyuyvyfyoyk cI hyt hyz hyu hyv hyf hyo hyk syt syz syu syv syf syo syk) → va_S A s.heap H locs → ∀ (ls : Array Slot), lv_has ls 18 [(0, .ref hyt), (1, .ref hyz), (2, .ref hyu), (3, .ref hyv), (4, .ref hyf), (5, .ref hyo), (6, .ref hyk), (7, .int x7), (8, .int x8), (9, .int x9), (10, .int x10), (11, .int x11), (12, .int x12), (16, .int x16)] → fL_does_274 syu syv k56 syt syz syf syo syk x7 x8 x9 x10 x11 x12 x16 t0 t3 = some (r, sytf, syzf) → W p l e rmL_does s m ([.ref hyt, .ref hyz, .ref hyu, .ref hyv] : List Value).toArray below meth c H locs (3) (72) QQ (F0 m 274 ls [.int t3, .ref hyz, .ref hyt, .int t0]) := by
    intro k56 hk56 syt syz syf syo syk x7 x8 x9 x10 x11 x12 x16 t0 t3 H locs hP hD hS ls hl hf
    unfold fL_does_274 at hf
    obtain ⟨r_1, hc_1, hf⟩ := bn1_ok hf
    refine gc_i (wc := (cf_ytyz cI hyt hyz syt syz)) (wr := (cf_yuyvyfyoyk cI hyu hyv hyf hyo hyk syu syv syf syo syk)) (w1 := (cf_ytyz cI hyt hyz syt syz)) (ws' := (cf_ytyzyuyvyfyoyk cI hyt hyz hyu hyv hyf hyo hyk syt syz syu syv syf syo syk)) hP hD hS hA [0, 1] [2, 3, 4, 5, 6] [5, 6, 0, 1, 2, 3, 4] rfl rfl (by decide) (by decide) rfl (by decide) (va_runS (As := [.ref hyt, .ref hyz, .int t3]) (rest := [.int t0]) ⟨hx, hb, hml, hown, hts⟩ (ktL_suited l dC dI cI hyt hyz _ syt syz t3 r_1 hc_1) (va_cwS 3 hts gL_does_L_suited rfl rfl rfl (by decide +kernel) ⟨Nat.le_of_ble_eq_true rfl, Nat.le_of_ble_eq_true rfl⟩) (gc_S (hP.sub (ws' := (cf_ytyz cI hyt hyz syt syz)) [0, 1] rfl) (hK.sub (tys' := [(cI, .int)]) [0] rfl) (hD.sub (ws' := (cf_ytyz cI hyt hyz syt syz)) [0, 1] (by decide) rfl) hN) rfl rfl hl.1 rfl (lv_room (Nat.le_of_ble_eq_true rfl)) dL_does_274 ⟨by show (3) + 0 ≤ 3; omega, by show (72) + 0 ≤ 72; omega⟩) (fun H locs hP hD hS => ?_)
    refine lv_iand hx hb dL_does_277 ?_
    refine lv_istore (lv' := [(17, .int (t0 &&& r_1)), (0, .ref hyt), (1, .ref hyz), (2, .ref hyu), (3, .ref hyv), (4, .ref hyf), (5, .ref hyo), (6, .ref hyk), (7, .int x7), (8, .int x8), (9, .int x9), (10, .int x10), (11, .int x11), (12, .int x12), (16, .int x16)]) hx hb dL_does_278 hl (by decide) rfl (fun ls hl => ?_)
    refine lv_iload hx hb dL_does_280 (lv_at hl 14 rfl) ?_
    obtain ⟨r_2, hc_2, hf⟩ := bn1_ok hf
    refine gc_i (wc := ([] : va_W)) (wr := (cf_ytyzyuyvyfyoyk cI hyt hyz hyu hyv hyf hyo hyk syt syz syu syv syf syo syk)) (w1 := ([] : va_W)) (ws' := (cf_ytyzyuyvyfyoyk cI hyt hyz hyu hyv hyf hyo hyk syt syz syu syv syf syo syk)) hP hD hS hA [] [0, 1, 2, 3, 4, 5, 6] [0, 1, 2, 3, 4, 5, 6] rfl rfl (by decide) (by decide) rfl (by decide) (va_runS (As := [.int x16]) (rest := []) ⟨hx, hb, hml, hown, hts⟩ (ktL_bits l dC dI _ x16 r_2 hc_2) (va_cwS 1 hts gL_does_L_bits rfl rfl rfl (by decide +kernel) ⟨Nat.le_of_ble_eq_true rfl, Nat.le_of_ble_eq_true rfl⟩) (gc_S (hP.sub (ws' := ([] : va_W)) [] rfl) (hK.sub (tys' := []) [] rfl) (hD.sub (ws' := ([] : va_W)) [] (by decide) rfl) hN) rfl rfl hl.1 rfl (lv_room (Nat.le_of_ble_eq_true rfl)) dL_does_282 ⟨by show (3) + 0 ≤ 3; omega, by show (72) + 0 ≤ 72; omega⟩) (fun H locs hP hD hS => ?_)
    refine lv_iconst (v := 1) hx hb dL_does_285 (by decide) ?_
    refine lv_icmp_ne (tgt := 294) hx hb dL_does_286 (by decide) (fun c_3 => ?_) (fun c_3 => ?_)
    · have hf := it_f c_3 hf
      refine lv_iload hx hb dL_does_294 (lv_at hl 0 rfl) ?_
      obtain ⟨r_4, hc_4, hf⟩ := bn1_ok hf
      refine gc_i (wc := ([] : va_W)) (wr := (cf_ytyzyuyvyfyoyk cI hyt hyz hyu hyv hyf hyo hyk syt syz syu syv syf syo syk)) (w1 := ([] : va_W)) (ws' := (cf_ytyzyuyvyfyoyk cI hyt hyz hyu hyv hyf hyo hyk syt syz syu syv syf syo syk)) hP hD hS hA [] [0, 1, 2, 3, 4, 5, 6] [0, 1, 2, 3, 4, 5, 6] rfl rfl (by decide) (by decide) rfl (by decide) (va_runS (As := [.int (t0 &&& r_1)]) (rest := []) ⟨hx, hb, hml, hown, hts⟩ (ktL_bits l dC dI _ (t0 &&& r_1) r_4 hc_4) (va_cwS 1 hts gL_does_L_bits rfl rfl rfl (by decide +kernel) ⟨Nat.le_of_ble_eq_true rfl, Nat.le_of_ble_eq_true rfl⟩) (gc_S (hP.sub (ws' := ([] : va_W)) [] rfl) (hK.sub (tys' := []) [] rfl) (hD.sub (ws' := ([] : va_W)) [] (by decide) rfl) hN) rfl rfl hl.1 rfl (lv_room (Nat.le_of_ble_eq_true rfl)) dL_does_296 ⟨by show (3) + 0 ≤ 3; omega, by show (72) + 0 ≤ 72; omega⟩) (fun H locs hP hD hS => ?_)
      refine lv_iconst (v := 1) hx hb dL_does_299 (by decide) ?_
      refine lv_icmp_ne (tgt := 308) hx hb dL_does_300 (by decide) (fun c_5 => ?_) (fun c_5 => ?_)
      · have hf := it_f c_5 hf
        refine lv_iconst (v := 0) hx hb dL_does_308 (by decide) ?_
        exact J309 k56 hk56 syt syz syf syo syk x7 x8 x9 x10 x11 x12 x16 (t0 &&& r_1) 0 _ _ hP hD hS _ (lv_sub hl [1, 2, 3, 4, 5, 6, 7, 8, 9, 10, 11, 12, 13, 14, 0] rfl) hf
      · have hf := it_t c_5 hf
        refine lv_iload hx hb dL_does_303 (lv_at hl 0 rfl) ?_
        refine lv_goto (tgt := 309) hx hb dL_does_305 (by decide) ?_
        exact J309 k56 hk56 syt syz syf syo syk x7 x8 x9 x10 x11 x12 x16 (t0 &&& r_1) (t0 &&& r_1) _ _ hP hD hS _ (lv_sub hl [1, 2, 3, 4, 5, 6, 7, 8, 9, 10, 11, 12, 13, 14, 0] rfl) hf
    · have hf := it_t c_3 hf
      refine lv_iload hx hb dL_does_289 (lv_at hl 14 rfl) ?_
      refine lv_goto (tgt := 309) hx hb dL_does_291 (by decide) ?_
      exact J309 k56 hk56 syt syz syf syo syk x7 x8 x9 x10 x11 x12 x16 (t0 &&& r_1) x16 _ _ hP hD hS _ (lv_sub hl [1, 2, 3, 4, 5, 6, 7, 8, 9, 10, 11, 12, 13, 14, 0] rfl) hf
  have J248 : ∀ (k56 : Syt → Syz → Syf → Syo → Syk → Int32 → Int32 → Int32 → Int32 → Int32 → Option (Int32 × Syt × Syz)) (hk56 : ∀ (syt : Syt) (syz : Syz) (syf : Syf) (syo : Syo) (syk : Syk) (x7 : Int32) (x8 : Int32) (x9 : Int32) (x10 : Int32) (x11 : Int32) (H : Heap) (locs : List Loc), va_P (dC, dI) vwCl (cf_ytyzyuyvyfyoyk cI hyt hyz hyu hyv hyf hyo hyk syt syz syu syv syf syo syk) H → va_D A (cf_ytyzyuyvyfyoyk cI hyt hyz hyu hyv hyf hyo hyk syt syz syu syv syf syo syk) → va_S A s.heap H locs → ∀ (ls : Array Slot), lv_has ls 18 [(0, .ref hyt), (1, .ref hyz), (2, .ref hyu), (3, .ref hyv), (4, .ref hyf), (5, .ref hyo), (6, .ref hyk), (7, .int x7), (8, .int x8), (9, .int x9), (10, .int x10), (11, .int x11)] → k56 syt syz syf syo syk x7 x8 x9 x10 x11 = some (r, sytf, syzf) → W p l e rmL_does s m ([.ref hyt, .ref hyz, .ref hyu, .ref hyv] : List Value).toArray below meth c H locs (3) (72) QQ (F0 m 56 ls [])) (syt : Syt) (syz : Syz) (syf : Syf) (syo : Syo) (syk : Syk) (x7 : Int32) (x8 : Int32) (x9 : Int32) (x10 : Int32) (x11 : Int32) (x12 : Int32) (t1 : Int32) (t3 : Int32) (t4 : Int32) (t5 : Int32) (H : Heap) (locs : List Loc), va_P (dC, dI) vwCl (cf_ytyzyuyvyfyoyk cI hyt hyz hyu hyv hyf hyo hyk syt syz syu syv syf syo syk) H → va_D A (cf_ytyzyuyvyfyoyk cI hyt hyz hyu hyv hyf hyo hyk syt syz syu syv syf syo syk) → va_S A s.heap H locs → ∀ (ls : Array Slot), lv_has ls 18 [(0, .ref hyt), (1, .ref hyz), (2, .ref hyu), (3, .ref hyv), (4, .ref hyf), (5, .ref hyo), (6, .ref hyk), (7, .int x7), (8, .int x8), (9, .int x9), (10, .int x10), (11, .int x11), (12, .int x12)] → fL_does_248 syu syv k56 syt syz syf syo syk x7 x8 x9 x10 x11 x12 t1 t3 t4 t5 = some (r, sytf, syzf) → W p l e rmL_does s m ([.ref hyt, .ref hyz, .ref hyu, .ref hyv] : List Value).toArray below meth c H locs (3) (72) QQ (F0 m 248 ls [.int t5, .int t4, .int t3, .ref hyu, .int t1, .ref hyt]) := by
    intro k56 hk56 syt syz syf syo syk x7 x8 x9 x10 x11 x12 t1 t3 t4 t5 H locs hP hD hS ls hl hf
    unfold fL_does_248 at hf
    obtain ⟨r_1, hc_1, hf⟩ := bn1_ok hf
    refine gc_i (wc := (cf_ytyw cI hyt hyu syt syu)) (wr := (cf_yzyvyfyoyk cI hyz hyv hyf hyo hyk syz syv syf syo syk)) (w1 := (cf_ytyw cI hyt hyu syt syu)) (ws' := (cf_ytyzyuyvyfyoyk cI hyt hyz hyu hyv hyf hyo hyk syt syz syu syv syf syo syk)) hP hD hS hA [0, 2] [1, 3, 4, 5, 6] [5, 0, 6, 1, 2, 3, 4] rfl rfl (by decide) (by decide) rfl (by decide) (va_runS (As := [.ref hyt, .int t1, .ref hyu, .int t3, .int t4, .int t5]) (rest := []) ⟨hx, hb, hml, hown, hts⟩ (ktL_fitting l dC dI cI hyt hyu _ syt syu t1 t3 t4 t5 r_1 hc_1) (va_cwS 6 hts gL_does_L_fitting rfl rfl rfl (by decide +kernel) ⟨Nat.le_of_ble_eq_true rfl, Nat.le_of_ble_eq_true rfl⟩) (gc_S (hP.sub (ws' := (cf_ytyw cI hyt hyu syt syu)) [0, 2] rfl) (hK.sub (tys' := [(cI, .int)]) [0] rfl) (hD.sub (ws' := (cf_ytyw cI hyt hyu syt syu)) [0, 2] (by decide) rfl) hN) rfl rfl hl.1 rfl (lv_room (Nat.le_of_ble_eq_true rfl)) dL_does_248 ⟨by show (3) + 0 ≤ 3; omega, by show (72) + 0 ≤ 72; omega⟩) (fun H locs hP hD hS => ?_)
    refine lv_istore (lv' := [(16, .int r_1), (0, .ref hyt), (1, .ref hyz), (2, .ref hyu), (3, .ref hyv), (4, .ref hyf), (5, .ref hyo), (6, .ref hyk), (7, .int x7), (8, .int x8), (9, .int x9), (10, .int x10), (11, .int x11), (12, .int x12)]) hx hb dL_does_251 hl (by decide) rfl (fun ls hl => ?_)
    refine lv_iload hx hb dL_does_253 (lv_at hl 0 rfl) ?_
    refine lv_aload_n hx hb dL_does_255 rfl (lv_at hl 1 rfl) ?_
    refine lv_aload_n hx hb dL_does_256 rfl (lv_at hl 2 rfl) ?_
    refine lv_aload hx hb dL_does_257 (lv_at hl 7 rfl) ?_
    refine lv_iload hx hb dL_does_259 (lv_at hl 12 rfl) ?_
    obtain ⟨hi_2, hf⟩ := ai_ok hf
    refine va_iald (n := 24) (f := syk) hx hb hK hP 6 0 rfl rfl hi_2 dL_does_261 ?_
    refine lv_iconst (v := 4) hx hb dL_does_262 (by decide) ?_
    refine lv_icmp_ne (tgt := 271) hx hb dL_does_263 (by decide) (fun c_3 => ?_) (fun c_3 => ?_)
    · have hf := it_f c_3 hf
      refine lv_aload_n hx hb dL_does_271 rfl (lv_at hl 3 rfl) ?_
      refine lv_iconst (v := 0) hx hb dL_does_272 (by decide) ?_
      obtain ⟨hi_4, hf⟩ := ai_ok hf
      refine va_iald (n := 24) (f := syu) hx hb hK hP 2 0 rfl rfl hi_4 dL_does_273 ?_
      exact J274 k56 hk56 syt syz syf syo syk x7 x8 x9 x10 x11 x12 r_1 r_1 (syu (0 : Int32).toNatClampNeg) _ _ hP hD hS _ (lv_sub hl [1, 2, 3, 4, 5, 6, 7, 8, 9, 10, 11, 12, 13, 0] rfl) hf
    · have hf := it_t c_3 hf
      refine lv_bipush (v := 16) hx hb dL_does_266 (by decide) ?_
      refine lv_goto (tgt := 274) hx hb dL_does_268 (by decide) ?_
      exact J274 k56 hk56 syt syz syf syo syk x7 x8 x9 x10 x11 x12 r_1 r_1 16 _ _ hP hD hS _ (lv_sub hl [1, 2, 3, 4, 5, 6, 7, 8, 9, 10, 11, 12, 13, 0] rfl) hf
  have J715 : ∀ (k502 : Syt → Syz → Syf → Syo → Syk → Int32 → Int32 → Int32 → Option (Int32 × Syt × Syz)) (hk502 : ∀ (syt : Syt) (syz : Syz) (syf : Syf) (syo : Syo) (syk : Syk) (x8 : Int32) (x10 : Int32) (x11 : Int32) (H : Heap) (locs : List Loc), va_P (dC, dI) vwCl (cf_ytyzyuyvyfyoyk cI hyt hyz hyu hyv hyf hyo hyk syt syz syu syv syf syo syk) H → va_D A (cf_ytyzyuyvyfyoyk cI hyt hyz hyu hyv hyf hyo hyk syt syz syu syv syf syo syk) → va_S A s.heap H locs → ∀ (ls : Array Slot), lv_has ls 18 [(0, .ref hyt), (1, .ref hyz), (2, .ref hyu), (8, .int x8), (10, .int x10), (11, .int x11)] → k502 syt syz syf syo syk x8 x10 x11 = some (r, sytf, syzf) → W p l e rmL_does s m ([.ref hyt, .ref hyz, .ref hyu, .ref hyv] : List Value).toArray below meth c H locs (3) (72) QQ (F0 m 502 ls [])) (syt : Syt) (syz : Syz) (syf : Syf) (syo : Syo) (syk : Syk) (x8 : Int32) (x10 : Int32) (x11 : Int32) (H : Heap) (locs : List Loc), va_P (dC, dI) vwCl (cf_ytyzyuyvyfyoyk cI hyt hyz hyu hyv hyf hyo hyk syt syz syu syv syf syo syk) H → va_D A (cf_ytyzyuyvyfyoyk cI hyt hyz hyu hyv hyf hyo hyk syt syz syu syv syf syo syk) → va_S A s.heap H locs → ∀ (ls : Array Slot), lv_has ls 18 [(0, .ref hyt), (1, .ref hyz), (2, .ref hyu), (8, .int x8), (10, .int x10), (11, .int x11)] → fL_does_715 syu syv k502 syt syz syf syo syk x8 x10 x11 = some (r, sytf, syzf) → W p l e rmL_does s m ([.ref hyt, .ref hyz, .ref hyu, .ref hyv] : List Value).toArray below meth c H locs (3) (72) QQ (F0 m 715 ls []) := by
    intro k502 hk502 syt syz syf syo syk x8 x10 x11 H locs hP hD hS ls hl hf
    unfold fL_does_715 at hf
    refine lv_iinc (v := (x11 + 1)) (lv' := [(11, .int (x11 + 1)), (0, .ref hyt), (1, .ref hyz), (2, .ref hyu), (8, .int x8), (10, .int x10)]) hx hb dL_does_715 hl (k := 5) rfl rfl (by decide) rfl (fun ls hl => ?_)
    refine lv_goto (tgt := 502) hx hb dL_does_718 (by decide) ?_
    exact hk502 syt syz syf syo syk x8 x10 (x11 + 1) _ _ hP hD hS _ (lv_sub hl [1, 2, 3, 4, 5, 0] rfl) hf
  have J714 : ∀ (k502 : Syt → Syz → Syf → Syo → Syk → Int32 → Int32 → Int32 → Option (Int32 × Syt × Syz)) (hk502 : ∀ (syt : Syt) (syz : Syz) (syf : Syf) (syo : Syo) (syk : Syk) (x8 : Int32) (x10 : Int32) (x11 : Int32) (H : Heap) (locs : List Loc), va_P (dC, dI) vwCl (cf_ytyzyuyvyfyoyk cI hyt hyz hyu hyv hyf hyo hyk syt syz syu syv syf syo syk) H → va_D A (cf_ytyzyuyvyfyoyk cI hyt hyz hyu hyv hyf hyo hyk syt syz syu syv syf syo syk) → va_S A s.heap H locs → ∀ (ls : Array Slot), lv_has ls 18 [(0, .ref hyt), (1, .ref hyz), (2, .ref hyu), (8, .int x8), (10, .int x10), (11, .int x11)] → k502 syt syz syf syo syk x8 x10 x11 = some (r, sytf, syzf) → W p l e rmL_does s m ([.ref hyt, .ref hyz, .ref hyu, .ref hyv] : List Value).toArray below meth c H locs (3) (72) QQ (F0 m 502 ls [])) (syt : Syt) (syz : Syz) (syf : Syf) (syo : Syo) (syk : Syk) (x8 : Int32) (x10 : Int32) (x11 : Int32) (t1 : Int32) (t2 : Int32) (H : Heap) (locs : List Loc), va_P (dC, dI) vwCl (cf_ytyzyuyvyfyoyk cI hyt hyz hyu hyv hyf hyo hyk syt syz syu syv syf syo syk) H → va_D A (cf_ytyzyuyvyfyoyk cI hyt hyz hyu hyv hyf hyo hyk syt syz syu syv syf syo syk) → va_S A s.heap H locs → ∀ (ls : Array Slot), lv_has ls 18 [(0, .ref hyt), (1, .ref hyz), (2, .ref hyu), (8, .int x8), (10, .int x10), (11, .int x11)] → fL_does_714 syu syv k502 syt syz syf syo syk x8 x10 x11 t1 t2 = some (r, sytf, syzf) → W p l e rmL_does s m ([.ref hyt, .ref hyz, .ref hyu, .ref hyv] : List Value).toArray below meth c H locs (3) (72) QQ (F0 m 714 ls [.int t2, .int t1, .ref hyt]) := by
    intro k502 hk502 syt syz syf syo syk x8 x10 x11 t1 t2 H locs hP hD hS ls hl hf
    unfold fL_does_714 at hf
    obtain ⟨hi_1, hf⟩ := ai_ok hf
    refine va_iast (n := 30) (f := syt) hx hb hK hP hD hS 0 0 rfl rfl hi_1 dL_does_714 (fun H locs hP hD hS => ?_)
    have hP : va_P (dC, dI) vwCl (cf_ytyzyuyvyfyoyk cI hyt hyz hyu hyv hyf hyo hyk (upd syt t1.toNatClampNeg t2) syz syu syv syf syo syk) H := hP
    have hD : va_D A (cf_ytyzyuyvyfyoyk cI hyt hyz hyu hyv hyf hyo hyk (upd syt t1.toNatClampNeg t2) syz syu syv syf syo syk) := hD
    exact J715 k502 hk502 (upd syt t1.toNatClampNeg t2) syz syf syo syk x8 x10 x11 _ _ hP hD hS _ (lv_sub hl [0, 1, 2, 3, 4, 5] rfl) hf
  have J678 : ∀ (k502 : Syt → Syz → Syf → Syo → Syk → Int32 → Int32 → Int32 → Option (Int32 × Syt × Syz)) (hk502 : ∀ (syt : Syt) (syz : Syz) (syf : Syf) (syo : Syo) (syk : Syk) (x8 : Int32) (x10 : Int32) (x11 : Int32) (H : Heap) (locs : List Loc), va_P (dC, dI) vwCl (cf_ytyzyuyvyfyoyk cI hyt hyz hyu hyv hyf hyo hyk syt syz syu syv syf syo syk) H → va_D A (cf_ytyzyuyvyfyoyk cI hyt hyz hyu hyv hyf hyo hyk syt syz syu syv syf syo syk) → va_S A s.heap H locs → ∀ (ls : Array Slot), lv_has ls 18 [(0, .ref hyt), (1, .ref hyz), (2, .ref hyu), (8, .int x8), (10, .int x10), (11, .int x11)] → k502 syt syz syf syo syk x8 x10 x11 = some (r, sytf, syzf) → W p l e rmL_does s m ([.ref hyt, .ref hyz, .ref hyu, .ref hyv] : List Value).toArray below meth c H locs (3) (72) QQ (F0 m 502 ls [])) (syt : Syt) (syz : Syz) (syf : Syf) (syo : Syo) (syk : Syk) (x8 : Int32) (x10 : Int32) (x11 : Int32) (t1 : Int32) (t2 : Int32) (H : Heap) (locs : List Loc), va_P (dC, dI) vwCl (cf_ytyzyuyvyfyoyk cI hyt hyz hyu hyv hyf hyo hyk syt syz syu syv syf syo syk) H → va_D A (cf_ytyzyuyvyfyoyk cI hyt hyz hyu hyv hyf hyo hyk syt syz syu syv syf syo syk) → va_S A s.heap H locs → ∀ (ls : Array Slot), lv_has ls 18 [(0, .ref hyt), (1, .ref hyz), (2, .ref hyu), (8, .int x8), (10, .int x10), (11, .int x11)] → fL_does_678 syu syv k502 syt syz syf syo syk x8 x10 x11 t1 t2 = some (r, sytf, syzf) → W p l e rmL_does s m ([.ref hyt, .ref hyz, .ref hyu, .ref hyv] : List Value).toArray below meth c H locs (3) (72) QQ (F0 m 678 ls [.int t2, .int t1, .ref hyt]) := by
    intro k502 hk502 syt syz syf syo syk x8 x10 x11 t1 t2 H locs hP hD hS ls hl hf
    unfold fL_does_678 at hf
    obtain ⟨hi_1, hf⟩ := ai_ok hf
    refine va_iast (n := 30) (f := syt) hx hb hK hP hD hS 0 0 rfl rfl hi_1 dL_does_678 (fun H locs hP hD hS => ?_)
    have hP : va_P (dC, dI) vwCl (cf_ytyzyuyvyfyoyk cI hyt hyz hyu hyv hyf hyo hyk (upd syt t1.toNatClampNeg t2) syz syu syv syf syo syk) H := hP
    have hD : va_D A (cf_ytyzyuyvyfyoyk cI hyt hyz hyu hyv hyf hyo hyk (upd syt t1.toNatClampNeg t2) syz syu syv syf syo syk) := hD
    refine lv_aload_n hx hb dL_does_679 rfl (lv_at hl 0 rfl) ?_
    refine lv_bipush (v := 18) hx hb dL_does_680 (by decide) ?_
    refine lv_iload hx hb dL_does_682 (lv_at hl 5 rfl) ?_
    refine lv_iadd hx hb dL_does_684 ?_
    refine lv_aload_n hx hb dL_does_685 rfl (lv_at hl 2 rfl) ?_
    refine lv_iconst (v := 0) hx hb dL_does_686 (by decide) ?_
    obtain ⟨hi_2, hf⟩ := ai_ok hf
    refine va_iald (n := 24) (f := syu) hx hb hK hP 2 0 rfl rfl hi_2 dL_does_687 ?_
    refine lv_iconst (v := 3) hx hb dL_does_688 (by decide) ?_
    refine lv_icmp_ne (tgt := 696) hx hb dL_does_689 (by decide) (fun c_3 => ?_) (fun c_3 => ?_)
    · have hf := it_f c_3 hf
      refine lv_aload_n hx hb dL_does_696 rfl (lv_at hl 2 rfl) ?_
      refine lv_iconst (v := 0) hx hb dL_does_697 (by decide) ?_
      obtain ⟨hi_4, hf⟩ := ai_ok hf
      refine va_iald (n := 24) (f := syu) hx hb hK hP 2 0 rfl rfl hi_4 dL_does_698 ?_
      refine lv_iconst (v := 4) hx hb dL_does_699 (by decide) ?_
      refine lv_icmp_ne (tgt := 707) hx hb dL_does_700 (by decide) (fun c_5 => ?_) (fun c_5 => ?_)
      · have hf := it_f c_5 hf
        refine lv_aload_n hx hb dL_does_707 rfl (lv_at hl 0 rfl) ?_
        refine lv_bipush (v := 18) hx hb dL_does_708 (by decide) ?_
        refine lv_iload hx hb dL_does_710 (lv_at hl 5 rfl) ?_
        refine lv_iadd hx hb dL_does_712 ?_
        obtain ⟨hi_6, hf⟩ := ai_ok hf
        refine va_iald (n := 30) (f := (upd syt t1.toNatClampNeg t2)) hx hb hK hP 0 0 rfl rfl hi_6 dL_does_713 ?_
        exact J714 k502 hk502 (upd syt t1.toNatClampNeg t2) syz syf syo syk x8 x10 x11 (18 + x11) ((upd syt t1.toNatClampNeg t2) (18 + x11).toNatClampNeg) _ _ hP hD hS _ (lv_sub hl [0, 1, 2, 3, 4, 5] rfl) hf
      · have hf := it_t c_5 hf
        refine lv_iconst (v := 0) hx hb dL_does_703 (by decide) ?_
        refine lv_goto (tgt := 714) hx hb dL_does_704 (by decide) ?_
        exact J714 k502 hk502 (upd syt t1.toNatClampNeg t2) syz syf syo syk x8 x10 x11 (18 + x11) 0 _ _ hP hD hS _ (lv_sub hl [0, 1, 2, 3, 4, 5] rfl) hf
    · have hf := it_t c_3 hf
      refine lv_iconst (v := 1) hx hb dL_does_692 (by decide) ?_
      refine lv_goto (tgt := 714) hx hb dL_does_693 (by decide) ?_
      exact J714 k502 hk502 (upd syt t1.toNatClampNeg t2) syz syf syo syk x8 x10 x11 (18 + x11) 1 _ _ hP hD hS _ (lv_sub hl [0, 1, 2, 3, 4, 5] rfl) hf
  have J614 : ∀ (k502 : Syt → Syz → Syf → Syo → Syk → Int32 → Int32 → Int32 → Option (Int32 × Syt × Syz)) (hk502 : ∀ (syt : Syt) (syz : Syz) (syf : Syf) (syo : Syo) (syk : Syk) (x8 : Int32) (x10 : Int32) (x11 : Int32) (H : Heap) (locs : List Loc), va_P (dC, dI) vwCl (cf_ytyzyuyvyfyoyk cI hyt hyz hyu hyv hyf hyo hyk syt syz syu syv syf syo syk) H → va_D A (cf_ytyzyuyvyfyoyk cI hyt hyz hyu hyv hyf hyo hyk syt syz syu syv syf syo syk) → va_S A s.heap H locs → ∀ (ls : Array Slot), lv_has ls 18 [(0, .ref hyt), (1, .ref hyz), (2, .ref hyu), (8, .int x8), (10, .int x10), (11, .int x11)] → k502 syt syz syf syo syk x8 x10 x11 = some (r, sytf, syzf) → W p l e rmL_does s m ([.ref hyt, .ref hyz, .ref hyu, .ref hyv] : List Value).toArray below meth c H locs (3) (72) QQ (F0 m 502 ls [])) (syt : Syt) (syz : Syz) (syf : Syf) (syo : Syo) (syk : Syk) (x8 : Int32) (x10 : Int32) (x11 : Int32) (x12 : Int32) (H : Heap) (locs : List Loc), va_P (dC, dI) vwCl (cf_ytyzyuyvyfyoyk cI hyt hyz hyu hyv hyf hyo hyk syt syz syu syv syf syo syk) H → va_D A (cf_ytyzyuyvyfyoyk cI hyt hyz hyu hyv hyf hyo hyk syt syz syu syv syf syo syk) → va_S A s.heap H locs → ∀ (ls : Array Slot), lv_has ls 18 [(0, .ref hyt), (1, .ref hyz), (2, .ref hyu), (8, .int x8), (10, .int x10), (11, .int x11), (12, .int x12)] → fL_does_614 syu syv k502 syt syz syf syo syk x8 x10 x11 x12 = some (r, sytf, syzf) → W p l e rmL_does s m ([.ref hyt, .ref hyz, .ref hyu, .ref hyv] : List Value).toArray below meth c H locs (3) (72) QQ (F0 m 614 ls []) := by
    intro k502 hk502 syt syz syf syo syk x8 x10 x11 x12 H locs hP hD hS ls hl hf
    unfold fL_does_614 at hf
    refine lv_iload hx hb dL_does_614 (lv_at hl 6 rfl) ?_
    refine lv_if_eq (tgt := 715) hx hb dL_does_616 (by decide) (fun c_1 => ?_) (fun c_1 => ?_)
    · have hf := it_t c_1 hf
      exact J715 k502 hk502 syt syz syf syo syk x8 x10 x11 _ _ hP hD hS _ (lv_sub hl [0, 1, 2, 3, 4, 5] rfl) hf
    · have hf := it_f c_1 hf
      refine lv_aload_n hx hb dL_does_619 rfl (lv_at hl 1 rfl) ?_
      refine lv_bipush (v := 6) hx hb dL_does_620 (by decide) ?_
      refine lv_dup2_11 hx hb dL_does_622 rfl rfl ?_
      obtain ⟨hi_2, hf⟩ := ai_ok hf
      refine va_iald (n := 13) (f := syz) hx hb hK hP 1 0 rfl rfl hi_2 dL_does_623 ?_
      refine lv_iconst (v := 1) hx hb dL_does_624 (by decide) ?_
      refine lv_iload hx hb dL_does_625 (lv_at hl 5 rfl) ?_
      refine lv_ishl hx hb dL_does_627 ?_
      refine lv_ior hx hb dL_does_628 ?_
      obtain ⟨hi_3, hf⟩ := ai_ok hf
      refine va_iast (n := 13) (f := syz) hx hb hK hP hD hS 1 0 rfl rfl hi_3 dL_does_629 (fun H locs hP hD hS => ?_)
      have hP : va_P (dC, dI) vwCl (cf_ytyzyuyvyfyoyk cI hyt hyz hyu hyv hyf hyo hyk syt (upd syz (6 : Int32).toNatClampNeg ((syz (6 : Int32).toNatClampNeg) ||| ((1 : Int32) <<< (x11 &&& 31)))) syu syv syf syo syk) H := hP
      have hD : va_D A (cf_ytyzyuyvyfyoyk cI hyt hyz hyu hyv hyf hyo hyk syt (upd syz (6 : Int32).toNatClampNeg ((syz (6 : Int32).toNatClampNeg) ||| ((1 : Int32) <<< (x11 &&& 31)))) syu syv syf syo syk) := hD
      refine lv_aload_n hx hb dL_does_630 rfl (lv_at hl 0 rfl) ?_
      refine lv_bipush (v := 24) hx hb dL_does_631 (by decide) ?_
      refine lv_iload hx hb dL_does_633 (lv_at hl 5 rfl) ?_
      refine lv_iadd hx hb dL_does_635 ?_
      refine lv_aload_n hx hb dL_does_636 rfl (lv_at hl 2 rfl) ?_
      refine lv_iconst (v := 0) hx hb dL_does_637 (by decide) ?_
      obtain ⟨hi_4, hf⟩ := ai_ok hf
      refine va_iald (n := 24) (f := syu) hx hb hK hP 2 0 rfl rfl hi_4 dL_does_638 ?_
      refine lv_if_ne (tgt := 647) hx hb dL_does_639 (by decide) (fun c_5 => ?_) (fun c_5 => ?_)
      · have hf := it_f c_5 hf
        refine lv_aload_n hx hb dL_does_647 rfl (lv_at hl 2 rfl) ?_
        refine lv_iconst (v := 0) hx hb dL_does_648 (by decide) ?_
        obtain ⟨hi_6, hf⟩ := ai_ok hf
        refine va_iald (n := 24) (f := syu) hx hb hK hP 2 0 rfl rfl hi_6 dL_does_649 ?_
        refine lv_iconst (v := 1) hx hb dL_does_650 (by decide) ?_
        refine lv_icmp_ne (tgt := 659) hx hb dL_does_651 (by decide) (fun c_7 => ?_) (fun c_7 => ?_)
        · have hf := it_f c_7 hf
          refine lv_aload_n hx hb dL_does_659 rfl (lv_at hl 2 rfl) ?_
          refine lv_iconst (v := 0) hx hb dL_does_660 (by decide) ?_
          obtain ⟨hi_8, hf⟩ := ai_ok hf
          refine va_iald (n := 24) (f := syu) hx hb hK hP 2 0 rfl rfl hi_8 dL_does_661 ?_
          refine lv_iconst (v := 2) hx hb dL_does_662 (by decide) ?_
          refine lv_icmp_ne (tgt := 671) hx hb dL_does_663 (by decide) (fun c_9 => ?_) (fun c_9 => ?_)
          · have hf := it_f c_9 hf
            refine lv_aload_n hx hb dL_does_671 rfl (lv_at hl 0 rfl) ?_
            refine lv_bipush (v := 24) hx hb dL_does_672 (by decide) ?_
            refine lv_iload hx hb dL_does_674 (lv_at hl 5 rfl) ?_
            refine lv_iadd hx hb dL_does_676 ?_
            obtain ⟨hi_10, hf⟩ := ai_ok hf
            refine va_iald (n := 30) (f := syt) hx hb hK hP 0 0 rfl rfl hi_10 dL_does_677 ?_
            exact J678 k502 hk502 syt (upd syz (6 : Int32).toNatClampNeg ((syz (6 : Int32).toNatClampNeg) ||| ((1 : Int32) <<< (x11 &&& 31)))) syf syo syk x8 x10 x11 (24 + x11) (syt (24 + x11).toNatClampNeg) _ _ hP hD hS _ (lv_sub hl [0, 1, 2, 3, 4, 5] rfl) hf
          · have hf := it_t c_9 hf
            refine lv_iload hx hb dL_does_666 (lv_at hl 4 rfl) ?_
            refine lv_goto (tgt := 678) hx hb dL_does_668 (by decide) ?_
            exact J678 k502 hk502 syt (upd syz (6 : Int32).toNatClampNeg ((syz (6 : Int32).toNatClampNeg) ||| ((1 : Int32) <<< (x11 &&& 31)))) syf syo syk x8 x10 x11 (24 + x11) x10 _ _ hP hD hS _ (lv_sub hl [0, 1, 2, 3, 4, 5] rfl) hf
        · have hf := it_t c_7 hf
          refine lv_bipush (v := (-2)) hx hb dL_does_654 (by decide) ?_
          refine lv_goto (tgt := 678) hx hb dL_does_656 (by decide) ?_
          exact J678 k502 hk502 syt (upd syz (6 : Int32).toNatClampNeg ((syz (6 : Int32).toNatClampNeg) ||| ((1 : Int32) <<< (x11 &&& 31)))) syf syo syk x8 x10 x11 (24 + x11) (-2) _ _ hP hD hS _ (lv_sub hl [0, 1, 2, 3, 4, 5] rfl) hf
      · have hf := it_t c_5 hf
        refine lv_bipush (v := (-3)) hx hb dL_does_642 (by decide) ?_
        refine lv_goto (tgt := 678) hx hb dL_does_644 (by decide) ?_
        exact J678 k502 hk502 syt (upd syz (6 : Int32).toNatClampNeg ((syz (6 : Int32).toNatClampNeg) ||| ((1 : Int32) <<< (x11 &&& 31)))) syf syo syk x8 x10 x11 (24 + x11) (-3) _ _ hP hD hS _ (lv_sub hl [0, 1, 2, 3, 4, 5] rfl) hf
  have J612 : ∀ (k502 : Syt → Syz → Syf → Syo → Syk → Int32 → Int32 → Int32 → Option (Int32 × Syt × Syz)) (hk502 : ∀ (syt : Syt) (syz : Syz) (syf : Syf) (syo : Syo) (syk : Syk) (x8 : Int32) (x10 : Int32) (x11 : Int32) (H : Heap) (locs : List Loc), va_P (dC, dI) vwCl (cf_ytyzyuyvyfyoyk cI hyt hyz hyu hyv hyf hyo hyk syt syz syu syv syf syo syk) H → va_D A (cf_ytyzyuyvyfyoyk cI hyt hyz hyu hyv hyf hyo hyk syt syz syu syv syf syo syk) → va_S A s.heap H locs → ∀ (ls : Array Slot), lv_has ls 18 [(0, .ref hyt), (1, .ref hyz), (2, .ref hyu), (8, .int x8), (10, .int x10), (11, .int x11)] → k502 syt syz syf syo syk x8 x10 x11 = some (r, sytf, syzf) → W p l e rmL_does s m ([.ref hyt, .ref hyz, .ref hyu, .ref hyv] : List Value).toArray below meth c H locs (3) (72) QQ (F0 m 502 ls [])) (syt : Syt) (syz : Syz) (syf : Syf) (syo : Syo) (syk : Syk) (x8 : Int32) (x10 : Int32) (x11 : Int32) (t0 : Int32) (H : Heap) (locs : List Loc), va_P (dC, dI) vwCl (cf_ytyzyuyvyfyoyk cI hyt hyz hyu hyv hyf hyo hyk syt syz syu syv syf syo syk) H → va_D A (cf_ytyzyuyvyfyoyk cI hyt hyz hyu hyv hyf hyo hyk syt syz syu syv syf syo syk) → va_S A s.heap H locs → ∀ (ls : Array Slot), lv_has ls 18 [(0, .ref hyt), (1, .ref hyz), (2, .ref hyu), (8, .int x8), (10, .int x10), (11, .int x11)] → fL_does_612 syu syv k502 syt syz syf syo syk x8 x10 x11 t0 = some (r, sytf, syzf) → W p l e rmL_does s m ([.ref hyt, .ref hyz, .ref hyu, .ref hyv] : List Value).toArray below meth c H locs (3) (72) QQ (F0 m 612 ls [.int t0]) := by
    intro k502 hk502 syt syz syf syo syk x8 x10 x11 t0 H locs hP hD hS ls hl hf
    unfold fL_does_612 at hf
    refine lv_istore (lv' := [(12, .int t0), (0, .ref hyt), (1, .ref hyz), (2, .ref hyu), (8, .int x8), (10, .int x10), (11, .int x11)]) hx hb dL_does_612 hl (by decide) rfl (fun ls hl => ?_)
    exact J614 k502 hk502 syt syz syf syo syk x8 x10 x11 t0 _ _ hP hD hS _ (lv_sub hl [1, 2, 3, 4, 5, 6, 0] rfl) hf
  have J611 : ∀ (k502 : Syt → Syz → Syf → Syo → Syk → Int32 → Int32 → Int32 → Option (Int32 × Syt × Syz)) (hk502 : ∀ (syt : Syt) (syz : Syz) (syf : Syf) (syo : Syo) (syk : Syk) (x8 : Int32) (x10 : Int32) (x11 : Int32) (H : Heap) (locs : List Loc), va_P (dC, dI) vwCl (cf_ytyzyuyvyfyoyk cI hyt hyz hyu hyv hyf hyo hyk syt syz syu syv syf syo syk) H → va_D A (cf_ytyzyuyvyfyoyk cI hyt hyz hyu hyv hyf hyo hyk syt syz syu syv syf syo syk) → va_S A s.heap H locs → ∀ (ls : Array Slot), lv_has ls 18 [(0, .ref hyt), (1, .ref hyz), (2, .ref hyu), (8, .int x8), (10, .int x10), (11, .int x11)] → k502 syt syz syf syo syk x8 x10 x11 = some (r, sytf, syzf) → W p l e rmL_does s m ([.ref hyt, .ref hyz, .ref hyu, .ref hyv] : List Value).toArray below meth c H locs (3) (72) QQ (F0 m 502 ls [])) (syt : Syt) (syz : Syz) (syf : Syf) (syo : Syo) (syk : Syk) (x8 : Int32) (x10 : Int32) (x11 : Int32) (H : Heap) (locs : List Loc), va_P (dC, dI) vwCl (cf_ytyzyuyvyfyoyk cI hyt hyz hyu hyv hyf hyo hyk syt syz syu syv syf syo syk) H → va_D A (cf_ytyzyuyvyfyoyk cI hyt hyz hyu hyv hyf hyo hyk syt syz syu syv syf syo syk) → va_S A s.heap H locs → ∀ (ls : Array Slot), lv_has ls 18 [(0, .ref hyt), (1, .ref hyz), (2, .ref hyu), (8, .int x8), (10, .int x10), (11, .int x11)] → fL_does_611 syu syv k502 syt syz syf syo syk x8 x10 x11 = some (r, sytf, syzf) → W p l e rmL_does s m ([.ref hyt, .ref hyz, .ref hyu, .ref hyv] : List Value).toArray below meth c H locs (3) (72) QQ (F0 m 611 ls []) := by
    intro k502 hk502 syt syz syf syo syk x8 x10 x11 H locs hP hD hS ls hl hf
    unfold fL_does_611 at hf
    refine lv_iconst (v := 0) hx hb dL_does_611 (by decide) ?_
    exact J612 k502 hk502 syt syz syf syo syk x8 x10 x11 0 _ _ hP hD hS _ (lv_sub hl [0, 1, 2, 3, 4, 5] rfl) hf
  have J584 : ∀ (k502 : Syt → Syz → Syf → Syo → Syk → Int32 → Int32 → Int32 → Option (Int32 × Syt × Syz)) (hk502 : ∀ (syt : Syt) (syz : Syz) (syf : Syf) (syo : Syo) (syk : Syk) (x8 : Int32) (x10 : Int32) (x11 : Int32) (H : Heap) (locs : List Loc), va_P (dC, dI) vwCl (cf_ytyzyuyvyfyoyk cI hyt hyz hyu hyv hyf hyo hyk syt syz syu syv syf syo syk) H → va_D A (cf_ytyzyuyvyfyoyk cI hyt hyz hyu hyv hyf hyo hyk syt syz syu syv syf syo syk) → va_S A s.heap H locs → ∀ (ls : Array Slot), lv_has ls 18 [(0, .ref hyt), (1, .ref hyz), (2, .ref hyu), (8, .int x8), (10, .int x10), (11, .int x11)] → k502 syt syz syf syo syk x8 x10 x11 = some (r, sytf, syzf) → W p l e rmL_does s m ([.ref hyt, .ref hyz, .ref hyu, .ref hyv] : List Value).toArray below meth c H locs (3) (72) QQ (F0 m 502 ls [])) (syt : Syt) (syz : Syz) (syf : Syf) (syo : Syo) (syk : Syk) (x8 : Int32) (x10 : Int32) (x11 : Int32) (x13 : Int32) (H : Heap) (locs : List Loc), va_P (dC, dI) vwCl (cf_ytyzyuyvyfyoyk cI hyt hyz hyu hyv hyf hyo hyk syt syz syu syv syf syo syk) H → va_D A (cf_ytyzyuyvyfyoyk cI hyt hyz hyu hyv hyf hyo hyk syt syz syu syv syf syo syk) → va_S A s.heap H locs → ∀ (ls : Array Slot), lv_has ls 18 [(0, .ref hyt), (1, .ref hyz), (2, .ref hyu), (8, .int x8), (10, .int x10), (11, .int x11), (13, .int x13)] → fL_does_584 syu syv k502 syt syz syf syo syk x8 x10 x11 x13 = some (r, sytf, syzf) → W p l e rmL_does s m ([.ref hyt, .ref hyz, .ref hyu, .ref hyv] : List Value).toArray below meth c H locs (3) (72) QQ (F0 m 584 ls []) := by
    intro k502 hk502 syt syz syf syo syk x8 x10 x11 x13 H locs hP hD hS ls hl hf
    unfold fL_does_584 at hf
    refine lv_iload hx hb dL_does_584 (lv_at hl 6 rfl) ?_
    refine lv_iload hx hb dL_does_586 (lv_at hl 5 rfl) ?_
    refine lv_icmp_eq (tgt := 611) hx hb dL_does_588 (by decide) (fun c_1 => ?_) (fun c_1 => ?_)
    · have hf := it_t c_1 hf
      exact J611 k502 hk502 syt syz syf syo syk x8 x10 x11 _ _ hP hD hS _ (lv_sub hl [0, 1, 2, 3, 4, 5] rfl) hf
    · have hf := it_f c_1 hf
      refine lv_aload_n hx hb dL_does_591 rfl (lv_at hl 0 rfl) ?_
      refine lv_aload_n hx hb dL_does_592 rfl (lv_at hl 1 rfl) ?_
      refine lv_bipush (v := 16) hx hb dL_does_593 (by decide) ?_
      obtain ⟨r_2, hc_2, hf⟩ := bn1_ok hf
      refine gc_i (wc := (cf_ytyz cI hyt hyz syt syz)) (wr := (cf_yuyvyfyoyk cI hyu hyv hyf hyo hyk syu syv syf syo syk)) (w1 := (cf_ytyz cI hyt hyz syt syz)) (ws' := (cf_ytyzyuyvyfyoyk cI hyt hyz hyu hyv hyf hyo hyk syt syz syu syv syf syo syk)) hP hD hS hA [0, 1] [2, 3, 4, 5, 6] [5, 6, 0, 1, 2, 3, 4] rfl rfl (by decide) (by decide) rfl (by decide) (va_runS (As := [.ref hyt, .ref hyz, .int 16]) (rest := []) ⟨hx, hb, hml, hown, hts⟩ (ktL_suited l dC dI cI hyt hyz _ syt syz 16 r_2 hc_2) (va_cwS 3 hts gL_does_L_suited rfl rfl rfl (by decide +kernel) ⟨Nat.le_of_ble_eq_true rfl, Nat.le_of_ble_eq_true rfl⟩) (gc_S (hP.sub (ws' := (cf_ytyz cI hyt hyz syt syz)) [0, 1] rfl) (hK.sub (tys' := [(cI, .int)]) [0] rfl) (hD.sub (ws' := (cf_ytyz cI hyt hyz syt syz)) [0, 1] (by decide) rfl) hN) rfl rfl hl.1 rfl (lv_room (Nat.le_of_ble_eq_true rfl)) dL_does_595 ⟨by show (3) + 0 ≤ 3; omega, by show (72) + 0 ≤ 72; omega⟩) (fun H locs hP hD hS => ?_)
      refine lv_iload hx hb dL_does_598 (lv_at hl 4 rfl) ?_
      refine lv_ishr hx hb dL_does_600 ?_
      refine lv_iconst (v := 1) hx hb dL_does_601 (by decide) ?_
      refine lv_iand hx hb dL_does_602 ?_
      refine lv_iconst (v := 1) hx hb dL_does_603 (by decide) ?_
      refine lv_icmp_ne (tgt := 611) hx hb dL_does_604 (by decide) (fun c_3 => ?_) (fun c_3 => ?_)
      · have hf := it_f c_3 hf
        exact J611 k502 hk502 syt syz syf syo syk x8 x10 x11 _ _ hP hD hS _ (lv_sub hl [0, 1, 2, 3, 4, 5] rfl) hf
      · have hf := it_t c_3 hf
        refine lv_iconst (v := 1) hx hb dL_does_607 (by decide) ?_
        refine lv_goto (tgt := 612) hx hb dL_does_608 (by decide) ?_
        exact J612 k502 hk502 syt syz syf syo syk x8 x10 x11 1 _ _ hP hD hS _ (lv_sub hl [0, 1, 2, 3, 4, 5] rfl) hf
  have J560 : ∀ (k502 : Syt → Syz → Syf → Syo → Syk → Int32 → Int32 → Int32 → Option (Int32 × Syt × Syz)) (hk502 : ∀ (syt : Syt) (syz : Syz) (syf : Syf) (syo : Syo) (syk : Syk) (x8 : Int32) (x10 : Int32) (x11 : Int32) (H : Heap) (locs : List Loc), va_P (dC, dI) vwCl (cf_ytyzyuyvyfyoyk cI hyt hyz hyu hyv hyf hyo hyk syt syz syu syv syf syo syk) H → va_D A (cf_ytyzyuyvyfyoyk cI hyt hyz hyu hyv hyf hyo hyk syt syz syu syv syf syo syk) → va_S A s.heap H locs → ∀ (ls : Array Slot), lv_has ls 18 [(0, .ref hyt), (1, .ref hyz), (2, .ref hyu), (8, .int x8), (10, .int x10), (11, .int x11)] → k502 syt syz syf syo syk x8 x10 x11 = some (r, sytf, syzf) → W p l e rmL_does s m ([.ref hyt, .ref hyz, .ref hyu, .ref hyv] : List Value).toArray below meth c H locs (3) (72) QQ (F0 m 502 ls [])) (n : Nat) (syt : Syt) (syz : Syz) (syf : Syf) (syo : Syo) (syk : Syk) (x8 : Int32) (x10 : Int32) (x11 : Int32) (x13 : Int32) (H : Heap) (locs : List Loc), va_P (dC, dI) vwCl (cf_ytyzyuyvyfyoyk cI hyt hyz hyu hyv hyf hyo hyk syt syz syu syv syf syo syk) H → va_D A (cf_ytyzyuyvyfyoyk cI hyt hyz hyu hyv hyf hyo hyk syt syz syu syv syf syo syk) → va_S A s.heap H locs → ∀ (ls : Array Slot), lv_has ls 18 [(0, .ref hyt), (1, .ref hyz), (2, .ref hyu), (8, .int x8), (10, .int x10), (11, .int x11), (13, .int x13)] → fL_does_560 syu syv k502 n syt syz syf syo syk x8 x10 x11 x13 = some (r, sytf, syzf) → W p l e rmL_does s m ([.ref hyt, .ref hyz, .ref hyu, .ref hyv] : List Value).toArray below meth c H locs (3) (72) QQ (F0 m 560 ls []) := by
    intro k502 hk502
    intro n
    induction n with
    | zero =>
      intro syt syz syf syo syk x8 x10 x11 x13 H locs hP hD hS ls hl hf
      cases hf
    | succ n ih =>
      intro syt syz syf syo syk x8 x10 x11 x13 H locs hP hD hS ls hl hf
      rw [fL_does_560] at hf
      refine lv_iload hx hb dL_does_560 (lv_at hl 6 rfl) ?_
      refine lv_if_lt (tgt := 584) hx hb dL_does_562 (by decide) (fun c_1 => ?_) (fun c_1 => ?_)
      · have hf := it_t c_1 hf
        exact J584 k502 hk502 syt syz syf syo syk x8 x10 x11 x13 _ _ hP hD hS _ (lv_sub hl [0, 1, 2, 3, 4, 5, 6] rfl) hf
      · have hf := it_f c_1 hf
        refine lv_iload hx hb dL_does_565 (lv_at hl 6 rfl) ?_
        refine lv_iload hx hb dL_does_567 (lv_at hl 5 rfl) ?_
        refine lv_icmp_eq (tgt := 584) hx hb dL_does_569 (by decide) (fun c_2 => ?_) (fun c_2 => ?_)
        · have hf := it_t c_2 hf
          exact J584 k502 hk502 syt syz syf syo syk x8 x10 x11 x13 _ _ hP hD hS _ (lv_sub hl [0, 1, 2, 3, 4, 5, 6] rfl) hf
        · have hf := it_f c_2 hf
          refine lv_aload_n hx hb dL_does_572 rfl (lv_at hl 0 rfl) ?_
          refine lv_bipush (v := 24) hx hb dL_does_573 (by decide) ?_
          refine lv_iload hx hb dL_does_575 (lv_at hl 6 rfl) ?_
          refine lv_iadd hx hb dL_does_577 ?_
          obtain ⟨hi_3, hf⟩ := ai_ok hf
          refine va_iald (n := 30) (f := syt) hx hb hK hP 0 0 rfl rfl hi_3 dL_does_578 ?_
          refine lv_istore (lv' := [(13, .int (syt (24 + x13).toNatClampNeg)), (0, .ref hyt), (1, .ref hyz), (2, .ref hyu), (8, .int x8), (10, .int x10), (11, .int x11)]) hx hb dL_does_579 hl (by decide) rfl (fun ls hl => ?_)
          refine lv_goto (tgt := 560) hx hb dL_does_581 (by decide) ?_
          exact ih syt syz syf syo syk x8 x10 x11 (syt (24 + x13).toNatClampNeg) _ _ hP hD hS _ (lv_sub hl [1, 2, 3, 4, 5, 6, 0] rfl) hf
  have J542 : ∀ (k502 : Syt → Syz → Syf → Syo → Syk → Int32 → Int32 → Int32 → Option (Int32 × Syt × Syz)) (hk502 : ∀ (syt : Syt) (syz : Syz) (syf : Syf) (syo : Syo) (syk : Syk) (x8 : Int32) (x10 : Int32) (x11 : Int32) (H : Heap) (locs : List Loc), va_P (dC, dI) vwCl (cf_ytyzyuyvyfyoyk cI hyt hyz hyu hyv hyf hyo hyk syt syz syu syv syf syo syk) H → va_D A (cf_ytyzyuyvyfyoyk cI hyt hyz hyu hyv hyf hyo hyk syt syz syu syv syf syo syk) → va_S A s.heap H locs → ∀ (ls : Array Slot), lv_has ls 18 [(0, .ref hyt), (1, .ref hyz), (2, .ref hyu), (8, .int x8), (10, .int x10), (11, .int x11)] → k502 syt syz syf syo syk x8 x10 x11 = some (r, sytf, syzf) → W p l e rmL_does s m ([.ref hyt, .ref hyz, .ref hyu, .ref hyv] : List Value).toArray below meth c H locs (3) (72) QQ (F0 m 502 ls [])) (syt : Syt) (syz : Syz) (syf : Syf) (syo : Syo) (syk : Syk) (x8 : Int32) (x10 : Int32) (x11 : Int32) (t0 : Int32) (H : Heap) (locs : List Loc), va_P (dC, dI) vwCl (cf_ytyzyuyvyfyoyk cI hyt hyz hyu hyv hyf hyo hyk syt syz syu syv syf syo syk) H → va_D A (cf_ytyzyuyvyfyoyk cI hyt hyz hyu hyv hyf hyo hyk syt syz syu syv syf syo syk) → va_S A s.heap H locs → ∀ (ls : Array Slot), lv_has ls 18 [(0, .ref hyt), (1, .ref hyz), (2, .ref hyu), (8, .int x8), (10, .int x10), (11, .int x11)] → fL_does_542 syu syv k502 syt syz syf syo syk x8 x10 x11 t0 = some (r, sytf, syzf) → W p l e rmL_does s m ([.ref hyt, .ref hyz, .ref hyu, .ref hyv] : List Value).toArray below meth c H locs (3) (72) QQ (F0 m 542 ls [.int t0]) := by
    intro k502 hk502 syt syz syf syo syk x8 x10 x11 t0 H locs hP hD hS ls hl hf
    unfold fL_does_542 at hf
    refine lv_istore (lv' := [(12, .int t0), (0, .ref hyt), (1, .ref hyz), (2, .ref hyu), (8, .int x8), (10, .int x10), (11, .int x11)]) hx hb dL_does_542 hl (by decide) rfl (fun ls hl => ?_)
    refine lv_iload hx hb dL_does_544 (lv_at hl 0 rfl) ?_
    refine lv_if_eq (tgt := 614) hx hb dL_does_546 (by decide) (fun c_1 => ?_) (fun c_1 => ?_)
    · have hf := it_t c_1 hf
      exact J614 k502 hk502 syt syz syf syo syk x8 x10 x11 t0 _ _ hP hD hS _ (lv_sub hl [1, 2, 3, 4, 5, 6, 0] rfl) hf
    · have hf := it_f c_1 hf
      refine lv_aload_n hx hb dL_does_549 rfl (lv_at hl 3 rfl) ?_
      refine lv_iconst (v := 0) hx hb dL_does_550 (by decide) ?_
      obtain ⟨hi_2, hf⟩ := ai_ok hf
      refine va_iald (n := 24) (f := syu) hx hb hK hP 2 0 rfl rfl hi_2 dL_does_551 ?_
      refine lv_iconst (v := 2) hx hb dL_does_552 (by decide) ?_
      refine lv_icmp_ne (tgt := 614) hx hb dL_does_553 (by decide) (fun c_3 => ?_) (fun c_3 => ?_)
      · have hf := it_f c_3 hf
        exact J614 k502 hk502 syt syz syf syo syk x8 x10 x11 t0 _ _ hP hD hS _ (lv_sub hl [1, 2, 3, 4, 5, 6, 0] rfl) hf
      · have hf := it_t c_3 hf
        refine lv_iload hx hb dL_does_556 (lv_at hl 5 rfl) ?_
        refine lv_istore (lv' := [(13, .int x10), (12, .int t0), (0, .ref hyt), (1, .ref hyz), (2, .ref hyu), (8, .int x8), (10, .int x10), (11, .int x11)]) hx hb dL_does_558 hl (by decide) rfl (fun ls hl => ?_)
        exact J560 k502 hk502 64 syt syz syf syo syk x8 x10 x11 x10 _ _ hP hD hS _ (lv_sub hl [2, 3, 4, 5, 6, 7, 0] rfl) hf
  have J541 : ∀ (k502 : Syt → Syz → Syf → Syo → Syk → Int32 → Int32 → Int32 → Option (Int32 × Syt × Syz)) (hk502 : ∀ (syt : Syt) (syz : Syz) (syf : Syf) (syo : Syo) (syk : Syk) (x8 : Int32) (x10 : Int32) (x11 : Int32) (H : Heap) (locs : List Loc), va_P (dC, dI) vwCl (cf_ytyzyuyvyfyoyk cI hyt hyz hyu hyv hyf hyo hyk syt syz syu syv syf syo syk) H → va_D A (cf_ytyzyuyvyfyoyk cI hyt hyz hyu hyv hyf hyo hyk syt syz syu syv syf syo syk) → va_S A s.heap H locs → ∀ (ls : Array Slot), lv_has ls 18 [(0, .ref hyt), (1, .ref hyz), (2, .ref hyu), (8, .int x8), (10, .int x10), (11, .int x11)] → k502 syt syz syf syo syk x8 x10 x11 = some (r, sytf, syzf) → W p l e rmL_does s m ([.ref hyt, .ref hyz, .ref hyu, .ref hyv] : List Value).toArray below meth c H locs (3) (72) QQ (F0 m 502 ls [])) (syt : Syt) (syz : Syz) (syf : Syf) (syo : Syo) (syk : Syk) (x8 : Int32) (x10 : Int32) (x11 : Int32) (H : Heap) (locs : List Loc), va_P (dC, dI) vwCl (cf_ytyzyuyvyfyoyk cI hyt hyz hyu hyv hyf hyo hyk syt syz syu syv syf syo syk) H → va_D A (cf_ytyzyuyvyfyoyk cI hyt hyz hyu hyv hyf hyo hyk syt syz syu syv syf syo syk) → va_S A s.heap H locs → ∀ (ls : Array Slot), lv_has ls 18 [(0, .ref hyt), (1, .ref hyz), (2, .ref hyu), (8, .int x8), (10, .int x10), (11, .int x11)] → fL_does_541 syu syv k502 syt syz syf syo syk x8 x10 x11 = some (r, sytf, syzf) → W p l e rmL_does s m ([.ref hyt, .ref hyz, .ref hyu, .ref hyv] : List Value).toArray below meth c H locs (3) (72) QQ (F0 m 541 ls []) := by
    intro k502 hk502 syt syz syf syo syk x8 x10 x11 H locs hP hD hS ls hl hf
    unfold fL_does_541 at hf
    refine lv_iconst (v := 0) hx hb dL_does_541 (by decide) ?_
    exact J542 k502 hk502 syt syz syf syo syk x8 x10 x11 0 _ _ hP hD hS _ (lv_sub hl [0, 1, 2, 3, 4, 5] rfl) hf
  have J502 : ∀ (n : Nat) (syt : Syt) (syz : Syz) (syf : Syf) (syo : Syo) (syk : Syk) (x8 : Int32) (x10 : Int32) (x11 : Int32) (H : Heap) (locs : List Loc), va_P (dC, dI) vwCl (cf_ytyzyuyvyfyoyk cI hyt hyz hyu hyv hyf hyo hyk syt syz syu syv syf syo syk) H → va_D A (cf_ytyzyuyvyfyoyk cI hyt hyz hyu hyv hyf hyo hyk syt syz syu syv syf syo syk) → va_S A s.heap H locs → ∀ (ls : Array Slot), lv_has ls 18 [(0, .ref hyt), (1, .ref hyz), (2, .ref hyu), (8, .int x8), (10, .int x10), (11, .int x11)] → fL_does_502 syu syv n syt syz syf syo syk x8 x10 x11 = some (r, sytf, syzf) → W p l e rmL_does s m ([.ref hyt, .ref hyz, .ref hyu, .ref hyv] : List Value).toArray below meth c H locs (3) (72) QQ (F0 m 502 ls []) := by
    intro n
    induction n with
    | zero =>
      intro syt syz syf syo syk x8 x10 x11 H locs hP hD hS ls hl hf
      cases hf
    | succ n ih =>
      intro syt syz syf syo syk x8 x10 x11 H locs hP hD hS ls hl hf
      rw [fL_does_502] at hf
      refine lv_iload hx hb dL_does_502 (lv_at hl 5 rfl) ?_
      refine lv_bipush (v := 6) hx hb dL_does_504 (by decide) ?_
      refine lv_icmp_ge (tgt := 721) hx hb dL_does_506 (by decide) (fun c_1 => ?_) (fun c_1 => ?_)
      · have hf := it_t c_1 hf
        refine lv_iconst (v := 0) hx hb dL_does_721 (by decide) ?_
        have hf : (some (0, syt, syz) : Option (Int32 × Syt × Syz)) = some (r, sytf, syzf) := hf
        have he := Option.some.inj hf
        have he0 : 0 = r := congrArg (fun q => q.1) he
        have he1 : syt = sytf := congrArg (fun q => q.2.1) he
        have he2 : syz = syzf := congrArg (fun q => q.2.2) he
        exact hret _ _ _ _ _ (cf_ytyzyuyv cI hyt hyz hyu hyv syt syz syu syv) rfl he0 (by rw [← he1, ← he2]) dL_does_722 (hP.sub (ws' := (cf_ytyzyuyv cI hyt hyz hyu hyv syt syz syu syv)) [0, 1, 2, 3] rfl) (hD.sub (ws' := (cf_ytyzyuyv cI hyt hyz hyu hyv syt syz syu syv)) [0, 1, 2, 3] (by decide) rfl) hS
      · have hf := it_f c_1 hf
        refine lv_iload hx hb dL_does_509 (lv_at hl 3 rfl) ?_
        refine lv_iload hx hb dL_does_511 (lv_at hl 5 rfl) ?_
        refine lv_ishr hx hb dL_does_513 ?_
        refine lv_iconst (v := 1) hx hb dL_does_514 (by decide) ?_
        refine lv_iand hx hb dL_does_515 ?_
        refine lv_iconst (v := 1) hx hb dL_does_516 (by decide) ?_
        refine lv_icmp_ne (tgt := 541) hx hb dL_does_517 (by decide) (fun c_2 => ?_) (fun c_2 => ?_)
        · have hf := it_f c_2 hf
          exact J541 (fun syt syz syf syo syk x8 x10 x11 => fL_does_502 syu syv n syt syz syf syo syk x8 x10 x11) (fun syt syz syf syo syk x8 x10 x11 H locs hP hD hS ls hl hf => ih syt syz syf syo syk x8 x10 x11 H locs hP hD hS ls hl hf) syt syz syf syo syk x8 x10 x11 _ _ hP hD hS _ (lv_sub hl [0, 1, 2, 3, 4, 5] rfl) hf
        · have hf := it_t c_2 hf
          refine lv_aload_n hx hb dL_does_520 rfl (lv_at hl 0 rfl) ?_
          refine lv_aload_n hx hb dL_does_521 rfl (lv_at hl 1 rfl) ?_
          refine lv_aload_n hx hb dL_does_522 rfl (lv_at hl 2 rfl) ?_
          refine lv_iconst (v := 0) hx hb dL_does_523 (by decide) ?_
          obtain ⟨hi_3, hf⟩ := ai_ok hf
          refine va_iald (n := 24) (f := syu) hx hb hK hP 2 0 rfl rfl hi_3 dL_does_524 ?_
          obtain ⟨r_4, hc_4, hf⟩ := bn1_ok hf
          refine gc_i (wc := (cf_ytyz cI hyt hyz syt syz)) (wr := (cf_yuyvyfyoyk cI hyu hyv hyf hyo hyk syu syv syf syo syk)) (w1 := (cf_ytyz cI hyt hyz syt syz)) (ws' := (cf_ytyzyuyvyfyoyk cI hyt hyz hyu hyv hyf hyo hyk syt syz syu syv syf syo syk)) hP hD hS hA [0, 1] [2, 3, 4, 5, 6] [5, 6, 0, 1, 2, 3, 4] rfl rfl (by decide) (by decide) rfl (by decide) (va_runS (As := [.ref hyt, .ref hyz, .int (syu (0 : Int32).toNatClampNeg)]) (rest := []) ⟨hx, hb, hml, hown, hts⟩ (ktL_suited l dC dI cI hyt hyz _ syt syz (syu (0 : Int32).toNatClampNeg) r_4 hc_4) (va_cwS 3 hts gL_does_L_suited rfl rfl rfl (by decide +kernel) ⟨Nat.le_of_ble_eq_true rfl, Nat.le_of_ble_eq_true rfl⟩) (gc_S (hP.sub (ws' := (cf_ytyz cI hyt hyz syt syz)) [0, 1] rfl) (hK.sub (tys' := [(cI, .int)]) [0] rfl) (hD.sub (ws' := (cf_ytyz cI hyt hyz syt syz)) [0, 1] (by decide) rfl) hN) rfl rfl hl.1 rfl (lv_room (Nat.le_of_ble_eq_true rfl)) dL_does_525 ⟨by show (3) + 0 ≤ 3; omega, by show (72) + 0 ≤ 72; omega⟩) (fun H locs hP hD hS => ?_)
          refine lv_iload hx hb dL_does_528 (lv_at hl 5 rfl) ?_
          refine lv_ishr hx hb dL_does_530 ?_
          refine lv_iconst (v := 1) hx hb dL_does_531 (by decide) ?_
          refine lv_iand hx hb dL_does_532 ?_
          refine lv_iconst (v := 1) hx hb dL_does_533 (by decide) ?_
          refine lv_icmp_ne (tgt := 541) hx hb dL_does_534 (by decide) (fun c_5 => ?_) (fun c_5 => ?_)
          · have hf := it_f c_5 hf
            exact J541 (fun syt syz syf syo syk x8 x10 x11 => fL_does_502 syu syv n syt syz syf syo syk x8 x10 x11) (fun syt syz syf syo syk x8 x10 x11 H locs hP hD hS ls hl hf => ih syt syz syf syo syk x8 x10 x11 H locs hP hD hS ls hl hf) syt syz syf syo syk x8 x10 x11 _ _ hP hD hS _ (lv_sub hl [0, 1, 2, 3, 4, 5] rfl) hf
          · have hf := it_t c_5 hf
            refine lv_iconst (v := 1) hx hb dL_does_537 (by decide) ?_
            refine lv_goto (tgt := 542) hx hb dL_does_538 (by decide) ?_
            exact J542 (fun syt syz syf syo syk x8 x10 x11 => fL_does_502 syu syv n syt syz syf syo syk x8 x10 x11) (fun syt syz syf syo syk x8 x10 x11 H locs hP hD hS ls hl hf => ih syt syz syf syo syk x8 x10 x11 H locs hP hD hS ls hl hf) syt syz syf syo syk x8 x10 x11 1 _ _ hP hD hS _ (lv_sub hl [0, 1, 2, 3, 4, 5] rfl) hf
  have J498 : ∀ (syt : Syt) (syz : Syz) (syf : Syf) (syo : Syo) (syk : Syk) (x8 : Int32) (x10 : Int32) (t1 : Int32) (t2 : Int32) (H : Heap) (locs : List Loc), va_P (dC, dI) vwCl (cf_ytyzyuyvyfyoyk cI hyt hyz hyu hyv hyf hyo hyk syt syz syu syv syf syo syk) H → va_D A (cf_ytyzyuyvyfyoyk cI hyt hyz hyu hyv hyf hyo hyk syt syz syu syv syf syo syk) → va_S A s.heap H locs → ∀ (ls : Array Slot), lv_has ls 18 [(0, .ref hyt), (1, .ref hyz), (2, .ref hyu), (8, .int x8), (10, .int x10)] → fL_does_498 syu syv syt syz syf syo syk x8 x10 t1 t2 = some (r, sytf, syzf) → W p l e rmL_does s m ([.ref hyt, .ref hyz, .ref hyu, .ref hyv] : List Value).toArray below meth c H locs (3) (72) QQ (F0 m 498 ls [.int t2, .int t1, .ref hyz]) := by
    intro syt syz syf syo syk x8 x10 t1 t2 H locs hP hD hS ls hl hf
    unfold fL_does_498 at hf
    obtain ⟨hi_1, hf⟩ := ai_ok hf
    refine va_iast (n := 13) (f := syz) hx hb hK hP hD hS 1 0 rfl rfl hi_1 dL_does_498 (fun H locs hP hD hS => ?_)
    have hP : va_P (dC, dI) vwCl (cf_ytyzyuyvyfyoyk cI hyt hyz hyu hyv hyf hyo hyk syt (upd syz t1.toNatClampNeg t2) syu syv syf syo syk) H := hP
    have hD : va_D A (cf_ytyzyuyvyfyoyk cI hyt hyz hyu hyv hyf hyo hyk syt (upd syz t1.toNatClampNeg t2) syu syv syf syo syk) := hD
    refine lv_iconst (v := 0) hx hb dL_does_499 (by decide) ?_
    refine lv_istore (lv' := [(11, .int 0), (0, .ref hyt), (1, .ref hyz), (2, .ref hyu), (8, .int x8), (10, .int x10)]) hx hb dL_does_500 hl (by decide) rfl (fun ls hl => ?_)
    exact J502 64 syt (upd syz t1.toNatClampNeg t2) syf syo syk x8 x10 0 _ _ hP hD hS _ (lv_sub hl [1, 2, 3, 4, 5, 0] rfl) hf
  have J56 : ∀ (n : Nat) (syt : Syt) (syz : Syz) (syf : Syf) (syo : Syo) (syk : Syk) (x7 : Int32) (x8 : Int32) (x9 : Int32) (x10 : Int32) (x11 : Int32) (H : Heap) (locs : List Loc), va_P (dC, dI) vwCl (cf_ytyzyuyvyfyoyk cI hyt hyz hyu hyv hyf hyo hyk syt syz syu syv syf syo syk) H → va_D A (cf_ytyzyuyvyfyoyk cI hyt hyz hyu hyv hyf hyo hyk syt syz syu syv syf syo syk) → va_S A s.heap H locs → ∀ (ls : Array Slot), lv_has ls 18 [(0, .ref hyt), (1, .ref hyz), (2, .ref hyu), (3, .ref hyv), (4, .ref hyf), (5, .ref hyo), (6, .ref hyk), (7, .int x7), (8, .int x8), (9, .int x9), (10, .int x10), (11, .int x11)] → fL_does_56 syu syv n syt syz syf syo syk x7 x8 x9 x10 x11 = some (r, sytf, syzf) → W p l e rmL_does s m ([.ref hyt, .ref hyz, .ref hyu, .ref hyv] : List Value).toArray below meth c H locs (3) (72) QQ (F0 m 56 ls []) := by
    intro n
    induction n with
    | zero =>
      intro syt syz syf syo syk x7 x8 x9 x10 x11 H locs hP hD hS ls hl hf
      cases hf
    | succ n ih =>
      intro syt syz syf syo syk x7 x8 x9 x10 x11 H locs hP hD hS ls hl hf
      rw [fL_does_56] at hf
      refine lv_iload hx hb dL_does_56 (lv_at hl 11 rfl) ?_
      refine lv_iload hx hb dL_does_58 (lv_at hl 7 rfl) ?_
      refine lv_icmp_ge (tgt := 452) hx hb dL_does_60 (by decide) (fun c_1 => ?_) (fun c_1 => ?_)
      · have hf := it_t c_1 hf
        refine lv_aload_n hx hb dL_does_452 rfl (lv_at hl 1 rfl) ?_
        refine lv_iconst (v := 4) hx hb dL_does_453 (by decide) ?_
        refine lv_aload_n hx hb dL_does_454 rfl (lv_at hl 2 rfl) ?_
        refine lv_iconst (v := 0) hx hb dL_does_455 (by decide) ?_
        obtain ⟨hi_2, hf⟩ := ai_ok hf
        refine va_iald (n := 24) (f := syu) hx hb hK hP 2 0 rfl rfl hi_2 dL_does_456 ?_
        obtain ⟨hi_3, hf⟩ := ai_ok hf
        refine va_iast (n := 13) (f := syz) hx hb hK hP hD hS 1 0 rfl rfl hi_3 dL_does_457 (fun H locs hP hD hS => ?_)
        have hP : va_P (dC, dI) vwCl (cf_ytyzyuyvyfyoyk cI hyt hyz hyu hyv hyf hyo hyk syt (upd syz (4 : Int32).toNatClampNeg (syu (0 : Int32).toNatClampNeg)) syu syv syf syo syk) H := hP
        have hD : va_D A (cf_ytyzyuyvyfyoyk cI hyt hyz hyu hyv hyf hyo hyk syt (upd syz (4 : Int32).toNatClampNeg (syu (0 : Int32).toNatClampNeg)) syu syv syf syo syk) := hD
        refine lv_aload_n hx hb dL_does_458 rfl (lv_at hl 1 rfl) ?_
        refine lv_iconst (v := 5) hx hb dL_does_459 (by decide) ?_
        refine lv_iload hx hb dL_does_460 (lv_at hl 8 rfl) ?_
        obtain ⟨hi_4, hf⟩ := ai_ok hf
        refine va_iast (n := 13) (f := (upd syz (4 : Int32).toNatClampNeg (syu (0 : Int32).toNatClampNeg))) hx hb hK hP hD hS 1 0 rfl rfl hi_4 dL_does_462 (fun H locs hP hD hS => ?_)
        have hP : va_P (dC, dI) vwCl (cf_ytyzyuyvyfyoyk cI hyt hyz hyu hyv hyf hyo hyk syt (upd (upd syz (4 : Int32).toNatClampNeg (syu (0 : Int32).toNatClampNeg)) (5 : Int32).toNatClampNeg x8) syu syv syf syo syk) H := hP
        have hD : va_D A (cf_ytyzyuyvyfyoyk cI hyt hyz hyu hyv hyf hyo hyk syt (upd (upd syz (4 : Int32).toNatClampNeg (syu (0 : Int32).toNatClampNeg)) (5 : Int32).toNatClampNeg x8) syu syv syf syo syk) := hD
        refine lv_aload_n hx hb dL_does_463 rfl (lv_at hl 1 rfl) ?_
        refine lv_bipush (v := 6) hx hb dL_does_464 (by decide) ?_
        refine lv_iconst (v := 0) hx hb dL_does_466 (by decide) ?_
        obtain ⟨hi_5, hf⟩ := ai_ok hf
        refine va_iast (n := 13) (f := (upd (upd syz (4 : Int32).toNatClampNeg (syu (0 : Int32).toNatClampNeg)) (5 : Int32).toNatClampNeg x8)) hx hb hK hP hD hS 1 0 rfl rfl hi_5 dL_does_467 (fun H locs hP hD hS => ?_)
        obtain ⟨y_6, ey_6⟩ : ∃ y, y = (upd (upd (upd syz (4 : Int32).toNatClampNeg (syu (0 : Int32).toNatClampNeg)) (5 : Int32).toNatClampNeg x8) (6 : Int32).toNatClampNeg 0) := ⟨_, rfl⟩
        have hf := bl_ok ey_6 hf
        have hP : va_P (dC, dI) vwCl (cf_ytyzyuyvyfyoyk cI hyt hyz hyu hyv hyf hyo hyk syt (upd (upd (upd syz (4 : Int32).toNatClampNeg (syu (0 : Int32).toNatClampNeg)) (5 : Int32).toNatClampNeg x8) (6 : Int32).toNatClampNeg 0) syu syv syf syo syk) H := hP
        have hD : va_D A (cf_ytyzyuyvyfyoyk cI hyt hyz hyu hyv hyf hyo hyk syt (upd (upd (upd syz (4 : Int32).toNatClampNeg (syu (0 : Int32).toNatClampNeg)) (5 : Int32).toNatClampNeg x8) (6 : Int32).toNatClampNeg 0) syu syv syf syo syk) := hD
        rw [← ey_6] at hP hD
        clear ey_6
        refine lv_aload_n hx hb dL_does_468 rfl (lv_at hl 1 rfl) ?_
        refine lv_bipush (v := 7) hx hb dL_does_469 (by decide) ?_
        refine lv_iload hx hb dL_does_471 (lv_at hl 10 rfl) ?_
        obtain ⟨hi_7, hf⟩ := ai_ok hf
        refine va_iast (n := 13) (f := y_6) hx hb hK hP hD hS 1 0 rfl rfl hi_7 dL_does_473 (fun H locs hP hD hS => ?_)
        have hP : va_P (dC, dI) vwCl (cf_ytyzyuyvyfyoyk cI hyt hyz hyu hyv hyf hyo hyk syt (upd y_6 (7 : Int32).toNatClampNeg x10) syu syv syf syo syk) H := hP
        have hD : va_D A (cf_ytyzyuyvyfyoyk cI hyt hyz hyu hyv hyf hyo hyk syt (upd y_6 (7 : Int32).toNatClampNeg x10) syu syv syf syo syk) := hD
        refine lv_aload_n hx hb dL_does_474 rfl (lv_at hl 1 rfl) ?_
        refine lv_bipush (v := 8) hx hb dL_does_475 (by decide) ?_
        refine lv_iload hx hb dL_does_477 (lv_at hl 8 rfl) ?_
        obtain ⟨r_8, hc_8, hf⟩ := bn1_ok hf
        refine gc_i (wc := ([] : va_W)) (wr := (cf_ytyzyuyvyfyoyk cI hyt hyz hyu hyv hyf hyo hyk syt (upd y_6 (7 : Int32).toNatClampNeg x10) syu syv syf syo syk)) (w1 := ([] : va_W)) (ws' := (cf_ytyzyuyvyfyoyk cI hyt hyz hyu hyv hyf hyo hyk syt (upd y_6 (7 : Int32).toNatClampNeg x10) syu syv syf syo syk)) hP hD hS hA [] [0, 1, 2, 3, 4, 5, 6] [0, 1, 2, 3, 4, 5, 6] rfl rfl (by decide) (by decide) rfl (by decide) (va_runS (As := [.int x8]) (rest := [.int 8, .ref hyz]) ⟨hx, hb, hml, hown, hts⟩ (ktL_bits l dC dI _ x8 r_8 hc_8) (va_cwS 1 hts gL_does_L_bits rfl rfl rfl (by decide +kernel) ⟨Nat.le_of_ble_eq_true rfl, Nat.le_of_ble_eq_true rfl⟩) (gc_S (hP.sub (ws' := ([] : va_W)) [] rfl) (hK.sub (tys' := []) [] rfl) (hD.sub (ws' := ([] : va_W)) [] (by decide) rfl) hN) rfl rfl hl.1 rfl (lv_room (Nat.le_of_ble_eq_true rfl)) dL_does_479 ⟨by show (3) + 0 ≤ 3; omega, by show (72) + 0 ≤ 72; omega⟩) (fun H locs hP hD hS => ?_)
        refine lv_iconst (v := 1) hx hb dL_does_482 (by decide) ?_
        refine lv_icmp_ne (tgt := 494) hx hb dL_does_483 (by decide) (fun c_9 => ?_) (fun c_9 => ?_)
        · have hf := it_f c_9 hf
          refine lv_aload_n hx hb dL_does_494 rfl (lv_at hl 1 rfl) ?_
          refine lv_bipush (v := 8) hx hb dL_does_495 (by decide) ?_
          obtain ⟨hi_10, hf⟩ := ai_ok hf
          refine va_iald (n := 13) (f := (upd y_6 (7 : Int32).toNatClampNeg x10)) hx hb hK hP 1 0 rfl rfl hi_10 dL_does_497 ?_
          exact J498 syt (upd y_6 (7 : Int32).toNatClampNeg x10) syf syo syk x8 x10 8 ((upd y_6 (7 : Int32).toNatClampNeg x10) (8 : Int32).toNatClampNeg) _ _ hP hD hS _ (lv_sub hl [0, 1, 2, 8, 10] rfl) hf
        · have hf := it_t c_9 hf
          refine lv_iload hx hb dL_does_486 (lv_at hl 8 rfl) ?_
          obtain ⟨r_11, hc_11, hf⟩ := bn1_ok hf
          refine gc_i (wc := ([] : va_W)) (wr := (cf_ytyzyuyvyfyoyk cI hyt hyz hyu hyv hyf hyo hyk syt (upd y_6 (7 : Int32).toNatClampNeg x10) syu syv syf syo syk)) (w1 := ([] : va_W)) (ws' := (cf_ytyzyuyvyfyoyk cI hyt hyz hyu hyv hyf hyo hyk syt (upd y_6 (7 : Int32).toNatClampNeg x10) syu syv syf syo syk)) hP hD hS hA [] [0, 1, 2, 3, 4, 5, 6] [0, 1, 2, 3, 4, 5, 6] rfl rfl (by decide) (by decide) rfl (by decide) (va_runS (As := [.int x8]) (rest := [.int 8, .ref hyz]) ⟨hx, hb, hml, hown, hts⟩ (ktL_only l dC dI _ x8 r_11 hc_11) (va_cwS 1 hts gL_does_L_only rfl rfl rfl (by decide +kernel) ⟨Nat.le_of_ble_eq_true rfl, Nat.le_of_ble_eq_true rfl⟩) (gc_S (hP.sub (ws' := ([] : va_W)) [] rfl) (hK.sub (tys' := []) [] rfl) (hD.sub (ws' := ([] : va_W)) [] (by decide) rfl) hN) rfl rfl hl.1 rfl (lv_room (Nat.le_of_ble_eq_true rfl)) dL_does_488 ⟨by show (3) + 0 ≤ 3; omega, by show (72) + 0 ≤ 72; omega⟩) (fun H locs hP hD hS => ?_)
          refine lv_goto (tgt := 498) hx hb dL_does_491 (by decide) ?_
          exact J498 syt (upd y_6 (7 : Int32).toNatClampNeg x10) syf syo syk x8 x10 8 r_11 _ _ hP hD hS _ (lv_sub hl [0, 1, 2, 8, 10] rfl) hf
      · have hf := it_f c_1 hf
        refine lv_aload hx hb dL_does_63 (lv_at hl 5 rfl) ?_
        refine lv_iload hx hb dL_does_65 (lv_at hl 11 rfl) ?_
        obtain ⟨hi_12, hf⟩ := ai_ok hf
        refine va_iald (n := 24) (f := syo) hx hb hK hP 5 0 rfl rfl hi_12 dL_does_67 ?_
        refine lv_istore (lv' := [(12, .int (syo x11.toNatClampNeg)), (0, .ref hyt), (1, .ref hyz), (2, .ref hyu), (3, .ref hyv), (4, .ref hyf), (5, .ref hyo), (6, .ref hyk), (7, .int x7), (8, .int x8), (9, .int x9), (10, .int x10), (11, .int x11)]) hx hb dL_does_68 hl (by decide) rfl (fun ls hl => ?_)
        refine lv_aload_n hx hb dL_does_70 rfl (lv_at hl 3 rfl) ?_
        refine lv_iload hx hb dL_does_71 (lv_at hl 0 rfl) ?_
        obtain ⟨hi_13, hf⟩ := ai_ok hf
        refine va_iald (n := 24) (f := syu) hx hb hK hP 2 0 rfl rfl hi_13 dL_does_73 ?_
        refine lv_istore (lv' := [(13, .int (syu (syo x11.toNatClampNeg).toNatClampNeg)), (12, .int (syo x11.toNatClampNeg)), (0, .ref hyt), (1, .ref hyz), (2, .ref hyu), (3, .ref hyv), (4, .ref hyf), (5, .ref hyo), (6, .ref hyk), (7, .int x7), (8, .int x8), (9, .int x9), (10, .int x10), (11, .int x11)]) hx hb dL_does_74 hl (by decide) rfl (fun ls hl => ?_)
        refine lv_iconst (v := 0) hx hb dL_does_76 (by decide) ?_
        refine lv_istore (lv' := [(14, .int 0), (13, .int (syu (syo x11.toNatClampNeg).toNatClampNeg)), (12, .int (syo x11.toNatClampNeg)), (0, .ref hyt), (1, .ref hyz), (2, .ref hyu), (3, .ref hyv), (4, .ref hyf), (5, .ref hyo), (6, .ref hyk), (7, .int x7), (8, .int x8), (9, .int x9), (10, .int x10), (11, .int x11)]) hx hb dL_does_77 hl (by decide) rfl (fun ls hl => ?_)
        refine lv_iconst (v := 0) hx hb dL_does_79 (by decide) ?_
        refine lv_istore (lv' := [(15, .int 0), (14, .int 0), (13, .int (syu (syo x11.toNatClampNeg).toNatClampNeg)), (12, .int (syo x11.toNatClampNeg)), (0, .ref hyt), (1, .ref hyz), (2, .ref hyu), (3, .ref hyv), (4, .ref hyf), (5, .ref hyo), (6, .ref hyk), (7, .int x7), (8, .int x8), (9, .int x9), (10, .int x10), (11, .int x11)]) hx hb dL_does_80 hl (by decide) rfl (fun ls hl => ?_)
        refine lv_aload hx hb dL_does_82 (lv_at hl 10 rfl) ?_
        refine lv_iload hx hb dL_does_84 (lv_at hl 15 rfl) ?_
        obtain ⟨hi_14, hf⟩ := ai_ok hf
        refine va_iald (n := 24) (f := syk) hx hb hK hP 6 0 rfl rfl hi_14 dL_does_86 ?_
        refine lv_iconst (v := 2) hx hb dL_does_87 (by decide) ?_
        refine lv_icmp_ne (tgt := 105) hx hb dL_does_88 (by decide) (fun c_15 => ?_) (fun c_15 => ?_)
        · have hf := it_f c_15 hf
          refine lv_aload hx hb dL_does_105 (lv_at hl 10 rfl) ?_
          refine lv_iload hx hb dL_does_107 (lv_at hl 15 rfl) ?_
          obtain ⟨hi_16, hf⟩ := ai_ok hf
          refine va_iald (n := 24) (f := syk) hx hb hK hP 6 0 rfl rfl hi_16 dL_does_109 ?_
          refine lv_iconst (v := 1) hx hb dL_does_110 (by decide) ?_
          refine lv_icmp_ne (tgt := 164) hx hb dL_does_111 (by decide) (fun c_17 => ?_) (fun c_17 => ?_)
          · have hf := it_f c_17 hf
            refine lv_aload_n hx hb dL_does_164 rfl (lv_at hl 7 rfl) ?_
            refine lv_iload hx hb dL_does_165 (lv_at hl 3 rfl) ?_
            obtain ⟨hi_18, hf⟩ := ai_ok hf
            refine va_iald (n := 24) (f := syv) hx hb hK hP 3 0 rfl rfl hi_18 dL_does_167 ?_
            refine lv_if_lt (tgt := 182) hx hb dL_does_168 (by decide) (fun c_19 => ?_) (fun c_19 => ?_)
            · have hf := it_t c_19 hf
              refine lv_iload hx hb dL_does_182 (lv_at hl 2 rfl) ?_
              refine lv_bipush (v := 14) hx hb dL_does_184 (by decide) ?_
              refine lv_icmp_ne (tgt := 217) hx hb dL_does_186 (by decide) (fun c_20 => ?_) (fun c_20 => ?_)
              · have hf := it_f c_20 hf
                refine lv_aload_n hx hb dL_does_217 rfl (lv_at hl 4 rfl) ?_
                refine lv_aload_n hx hb dL_does_218 rfl (lv_at hl 4 rfl) ?_
                refine lv_aload_n hx hb dL_does_219 rfl (lv_at hl 5 rfl) ?_
                obtain ⟨r_21, hc_21, hf⟩ := bn1_ok hf
                refine gc_i (wc := (cf_ytyz cI hyt hyz syt syz)) (wr := (cf_yuyvyfyoyk cI hyu hyv hyf hyo hyk syu syv syf syo syk)) (w1 := (cf_ytyz cI hyt hyz syt syz)) (ws' := (cf_ytyzyuyvyfyoyk cI hyt hyz hyu hyv hyf hyo hyk syt syz syu syv syf syo syk)) hP hD hS hA [0, 1] [2, 3, 4, 5, 6] [5, 6, 0, 1, 2, 3, 4] rfl rfl (by decide) (by decide) rfl (by decide) (va_runS (As := [.ref hyt, .ref hyz]) (rest := [.ref hyt]) ⟨hx, hb, hml, hown, hts⟩ (ktL_reach l dC dI cI hyt hyz _ syt syz r_21 hc_21) (va_cwS 2 hts gL_does_L_reach rfl rfl rfl (by decide +kernel) ⟨Nat.le_of_ble_eq_true rfl, Nat.le_of_ble_eq_true rfl⟩) (gc_S (hP.sub (ws' := (cf_ytyz cI hyt hyz syt syz)) [0, 1] rfl) (hK.sub (tys' := [(cI, .int)]) [0] rfl) (hD.sub (ws' := (cf_ytyz cI hyt hyz syt syz)) [0, 1] (by decide) rfl) hN) rfl rfl hl.1 rfl (lv_room (Nat.le_of_ble_eq_true rfl)) dL_does_220 ⟨by show (3) + 0 ≤ 3; omega, by show (72) + 0 ≤ 72; omega⟩) (fun H locs hP hD hS => ?_)
                refine lv_aload_n hx hb dL_does_223 rfl (lv_at hl 6 rfl) ?_
                refine lv_aload hx hb dL_does_224 (lv_at hl 8 rfl) ?_
                refine lv_iload hx hb dL_does_226 (lv_at hl 15 rfl) ?_
                obtain ⟨hi_22, hf⟩ := ai_ok hf
                refine va_iald (n := 24) (f := syf) hx hb hK hP 4 0 rfl rfl hi_22 dL_does_228 ?_
                refine lv_iload hx hb dL_does_229 (lv_at hl 3 rfl) ?_
                refine lv_iload hx hb dL_does_231 (lv_at hl 2 rfl) ?_
                obtain ⟨r_23, hc_23, hf⟩ := bn1_ok hf
                refine gc_i (wc := ([] : va_W)) (wr := (cf_ytyzyuyvyfyoyk cI hyt hyz hyu hyv hyf hyo hyk syt syz syu syv syf syo syk)) (w1 := ([] : va_W)) (ws' := (cf_ytyzyuyvyfyoyk cI hyt hyz hyu hyv hyf hyo hyk syt syz syu syv syf syo syk)) hP hD hS hA [] [0, 1, 2, 3, 4, 5, 6] [0, 1, 2, 3, 4, 5, 6] rfl rfl (by decide) (by decide) rfl (by decide) (va_runS (As := [.int (syu (syo x11.toNatClampNeg).toNatClampNeg)]) (rest := [.int (syo x11.toNatClampNeg), .int (syf x11.toNatClampNeg), .ref hyu, .int r_21, .ref hyt]) ⟨hx, hb, hml, hown, hts⟩ (ktL_isNoun l dC dI _ (syu (syo x11.toNatClampNeg).toNatClampNeg) r_23 hc_23) (va_cwS 1 hts gL_does_L_isNoun rfl rfl rfl (by decide +kernel) ⟨Nat.le_of_ble_eq_true rfl, Nat.le_of_ble_eq_true rfl⟩) (gc_S (hP.sub (ws' := ([] : va_W)) [] rfl) (hK.sub (tys' := []) [] rfl) (hD.sub (ws' := ([] : va_W)) [] (by decide) rfl) hN) rfl rfl hl.1 rfl (lv_room (Nat.le_of_ble_eq_true rfl)) dL_does_233 ⟨by show (3) + 0 ≤ 3; omega, by show (72) + 0 ≤ 72; omega⟩) (fun H locs hP hD hS => ?_)
                refine lv_if_eq (tgt := 247) hx hb dL_does_236 (by decide) (fun c_24 => ?_) (fun c_24 => ?_)
                · have hf := it_t c_24 hf
                  refine lv_iconst (v := (-1)) hx hb dL_does_247 (by decide) ?_
                  exact J248 (fun syt syz syf syo syk x7 x8 x9 x10 x11 => fL_does_56 syu syv n syt syz syf syo syk x7 x8 x9 x10 x11) (fun syt syz syf syo syk x7 x8 x9 x10 x11 H locs hP hD hS ls hl hf => ih syt syz syf syo syk x7 x8 x9 x10 x11 H locs hP hD hS ls hl hf) syt syz syf syo syk x7 x8 x9 x10 x11 (syo x11.toNatClampNeg) r_21 (syf x11.toNatClampNeg) (syo x11.toNatClampNeg) (-1) _ _ hP hD hS _ (lv_sub hl [4, 5, 6, 7, 8, 9, 10, 11, 12, 13, 14, 15, 3] rfl) hf
                · have hf := it_f c_24 hf
                  refine lv_iload hx hb dL_does_239 (lv_at hl 2 rfl) ?_
                  refine lv_bipush (v := 30) hx hb dL_does_241 (by decide) ?_
                  refine lv_isub hx hb dL_does_243 ?_
                  refine lv_goto (tgt := 248) hx hb dL_does_244 (by decide) ?_
                  exact J248 (fun syt syz syf syo syk x7 x8 x9 x10 x11 => fL_does_56 syu syv n syt syz syf syo syk x7 x8 x9 x10 x11) (fun syt syz syf syo syk x7 x8 x9 x10 x11 H locs hP hD hS ls hl hf => ih syt syz syf syo syk x7 x8 x9 x10 x11 H locs hP hD hS ls hl hf) syt syz syf syo syk x7 x8 x9 x10 x11 (syo x11.toNatClampNeg) r_21 (syf x11.toNatClampNeg) (syo x11.toNatClampNeg) ((syu (syo x11.toNatClampNeg).toNatClampNeg) - 30) _ _ hP hD hS _ (lv_sub hl [4, 5, 6, 7, 8, 9, 10, 11, 12, 13, 14, 15, 3] rfl) hf
              · have hf := it_t c_20 hf
                refine lv_aload_n hx hb dL_does_189 rfl (lv_at hl 5 rfl) ?_
                refine lv_bipush (v := 8) hx hb dL_does_190 (by decide) ?_
                obtain ⟨hi_25, hf⟩ := ai_ok hf
                refine va_iald (n := 13) (f := syz) hx hb hK hP 1 0 rfl rfl hi_25 dL_does_192 ?_
                refine lv_if_ge (tgt := 200) hx hb dL_does_193 (by decide) (fun c_26 => ?_) (fun c_26 => ?_)
                · have hf := it_t c_26 hf
                  refine lv_iconst (v := 1) hx hb dL_does_200 (by decide) ?_
                  refine lv_aload_n hx hb dL_does_201 rfl (lv_at hl 5 rfl) ?_
                  refine lv_bipush (v := 8) hx hb dL_does_202 (by decide) ?_
                  obtain ⟨hi_27, hf⟩ := ai_ok hf
                  refine va_iald (n := 13) (f := syz) hx hb hK hP 1 0 rfl rfl hi_27 dL_does_204 ?_
                  refine lv_ishl hx hb dL_does_205 ?_
                  refine lv_aload_n hx hb dL_does_206 rfl (lv_at hl 4 rfl) ?_
                  refine lv_aload_n hx hb dL_does_207 rfl (lv_at hl 5 rfl) ?_
                  obtain ⟨r_28, hc_28, hf⟩ := bn1_ok hf
                  refine gc_i (wc := (cf_ytyz cI hyt hyz syt syz)) (wr := (cf_yuyvyfyoyk cI hyu hyv hyf hyo hyk syu syv syf syo syk)) (w1 := (cf_ytyz cI hyt hyz syt syz)) (ws' := (cf_ytyzyuyvyfyoyk cI hyt hyz hyu hyv hyf hyo hyk syt syz syu syv syf syo syk)) hP hD hS hA [0, 1] [2, 3, 4, 5, 6] [5, 6, 0, 1, 2, 3, 4] rfl rfl (by decide) (by decide) rfl (by decide) (va_runS (As := [.ref hyt, .ref hyz]) (rest := [.int ((1 : Int32) <<< ((syz (8 : Int32).toNatClampNeg) &&& 31))]) ⟨hx, hb, hml, hown, hts⟩ (ktL_reach l dC dI cI hyt hyz _ syt syz r_28 hc_28) (va_cwS 2 hts gL_does_L_reach rfl rfl rfl (by decide +kernel) ⟨Nat.le_of_ble_eq_true rfl, Nat.le_of_ble_eq_true rfl⟩) (gc_S (hP.sub (ws' := (cf_ytyz cI hyt hyz syt syz)) [0, 1] rfl) (hK.sub (tys' := [(cI, .int)]) [0] rfl) (hD.sub (ws' := (cf_ytyz cI hyt hyz syt syz)) [0, 1] (by decide) rfl) hN) rfl rfl hl.1 rfl (lv_room (Nat.le_of_ble_eq_true rfl)) dL_does_208 ⟨by show (3) + 0 ≤ 3; omega, by show (72) + 0 ≤ 72; omega⟩) (fun H locs hP hD hS => ?_)
                  refine lv_iand hx hb dL_does_211 ?_
                  exact J212 (fun syt syz syf syo syk x7 x8 x9 x10 x11 => fL_does_56 syu syv n syt syz syf syo syk x7 x8 x9 x10 x11) (fun syt syz syf syo syk x7 x8 x9 x10 x11 H locs hP hD hS ls hl hf => ih syt syz syf syo syk x7 x8 x9 x10 x11 H locs hP hD hS ls hl hf) syt syz syf syo syk x7 x8 x9 x10 x11 (syo x11.toNatClampNeg) 0 (((1 : Int32) <<< ((syz (8 : Int32).toNatClampNeg) &&& 31)) &&& r_28) _ _ hP hD hS _ (lv_sub hl [4, 5, 6, 7, 8, 9, 10, 11, 12, 13, 14, 15, 3, 0] rfl) hf
                · have hf := it_f c_26 hf
                  refine lv_iconst (v := 0) hx hb dL_does_196 (by decide) ?_
                  refine lv_goto (tgt := 212) hx hb dL_does_197 (by decide) ?_
                  exact J212 (fun syt syz syf syo syk x7 x8 x9 x10 x11 => fL_does_56 syu syv n syt syz syf syo syk x7 x8 x9 x10 x11) (fun syt syz syf syo syk x7 x8 x9 x10 x11 H locs hP hD hS ls hl hf => ih syt syz syf syo syk x7 x8 x9 x10 x11 H locs hP hD hS ls hl hf) syt syz syf syo syk x7 x8 x9 x10 x11 (syo x11.toNatClampNeg) 0 0 _ _ hP hD hS _ (lv_sub hl [4, 5, 6, 7, 8, 9, 10, 11, 12, 13, 14, 15, 3, 0] rfl) hf
            · have hf := it_f c_19 hf
              refine lv_iconst (v := 1) hx hb dL_does_171 (by decide) ?_
              refine lv_aload_n hx hb dL_does_172 rfl (lv_at hl 7 rfl) ?_
              refine lv_iload hx hb dL_does_173 (lv_at hl 3 rfl) ?_
              obtain ⟨hi_29, hf⟩ := ai_ok hf
              refine va_iald (n := 24) (f := syv) hx hb hK hP 3 0 rfl rfl hi_29 dL_does_175 ?_
              refine lv_ishl hx hb dL_does_176 ?_
              refine lv_istore (lv' := [(14, .int ((1 : Int32) <<< ((syv (syo x11.toNatClampNeg).toNatClampNeg) &&& 31))), (15, .int 0), (13, .int (syu (syo x11.toNatClampNeg).toNatClampNeg)), (12, .int (syo x11.toNatClampNeg)), (0, .ref hyt), (1, .ref hyz), (2, .ref hyu), (3, .ref hyv), (4, .ref hyf), (5, .ref hyo), (6, .ref hyk), (7, .int x7), (8, .int x8), (9, .int x9), (10, .int x10), (11, .int x11)]) hx hb dL_does_177 hl (by decide) rfl (fun ls hl => ?_)
              refine lv_goto (tgt := 334) hx hb dL_does_179 (by decide) ?_
              exact J334 (fun syt syz syf syo syk x7 x8 x9 x10 x11 => fL_does_56 syu syv n syt syz syf syo syk x7 x8 x9 x10 x11) (fun syt syz syf syo syk x7 x8 x9 x10 x11 H locs hP hD hS ls hl hf => ih syt syz syf syo syk x7 x8 x9 x10 x11 H locs hP hD hS ls hl hf) syt syz syf syo syk x7 x8 x9 x10 x11 (syo x11.toNatClampNeg) ((1 : Int32) <<< ((syv (syo x11.toNatClampNeg).toNatClampNeg) &&& 31)) 0 _ _ hP hD hS _ (lv_sub hl [4, 5, 6, 7, 8, 9, 10, 11, 12, 13, 14, 15, 3, 0, 1] rfl) hf
          · have hf := it_t c_17 hf
            refine lv_aload_n hx hb dL_does_114 rfl (lv_at hl 4 rfl) ?_
            refine lv_aload_n hx hb dL_does_115 rfl (lv_at hl 4 rfl) ?_
            refine lv_aload_n hx hb dL_does_116 rfl (lv_at hl 5 rfl) ?_
            refine lv_aload_n hx hb dL_does_117 rfl (lv_at hl 6 rfl) ?_
            refine lv_iconst (v := 0) hx hb dL_does_118 (by decide) ?_
            obtain ⟨hi_30, hf⟩ := ai_ok hf
            refine va_iald (n := 24) (f := syu) hx hb hK hP 2 0 rfl rfl hi_30 dL_does_119 ?_
            obtain ⟨r_31, hc_31, hf⟩ := bn1_ok hf
            refine gc_i (wc := (cf_ytyz cI hyt hyz syt syz)) (wr := (cf_yuyvyfyoyk cI hyu hyv hyf hyo hyk syu syv syf syo syk)) (w1 := (cf_ytyz cI hyt hyz syt syz)) (ws' := (cf_ytyzyuyvyfyoyk cI hyt hyz hyu hyv hyf hyo hyk syt syz syu syv syf syo syk)) hP hD hS hA [0, 1] [2, 3, 4, 5, 6] [5, 6, 0, 1, 2, 3, 4] rfl rfl (by decide) (by decide) rfl (by decide) (va_runS (As := [.ref hyt, .ref hyz, .int (syu (0 : Int32).toNatClampNeg)]) (rest := [.ref hyt]) ⟨hx, hb, hml, hown, hts⟩ (ktL_suited l dC dI cI hyt hyz _ syt syz (syu (0 : Int32).toNatClampNeg) r_31 hc_31) (va_cwS 3 hts gL_does_L_suited rfl rfl rfl (by decide +kernel) ⟨Nat.le_of_ble_eq_true rfl, Nat.le_of_ble_eq_true rfl⟩) (gc_S (hP.sub (ws' := (cf_ytyz cI hyt hyz syt syz)) [0, 1] rfl) (hK.sub (tys' := [(cI, .int)]) [0] rfl) (hD.sub (ws' := (cf_ytyz cI hyt hyz syt syz)) [0, 1] (by decide) rfl) hN) rfl rfl hl.1 rfl (lv_room (Nat.le_of_ble_eq_true rfl)) dL_does_120 ⟨by show (3) + 0 ≤ 3; omega, by show (72) + 0 ≤ 72; omega⟩) (fun H locs hP hD hS => ?_)
            refine lv_aload_n hx hb dL_does_123 rfl (lv_at hl 6 rfl) ?_
            refine lv_aload hx hb dL_does_124 (lv_at hl 8 rfl) ?_
            refine lv_iload hx hb dL_does_126 (lv_at hl 15 rfl) ?_
            obtain ⟨hi_32, hf⟩ := ai_ok hf
            refine va_iald (n := 24) (f := syf) hx hb hK hP 4 0 rfl rfl hi_32 dL_does_128 ?_
            refine lv_iload hx hb dL_does_129 (lv_at hl 3 rfl) ?_
            refine lv_iload hx hb dL_does_131 (lv_at hl 2 rfl) ?_
            obtain ⟨r_33, hc_33, hf⟩ := bn1_ok hf
            refine gc_i (wc := ([] : va_W)) (wr := (cf_ytyzyuyvyfyoyk cI hyt hyz hyu hyv hyf hyo hyk syt syz syu syv syf syo syk)) (w1 := ([] : va_W)) (ws' := (cf_ytyzyuyvyfyoyk cI hyt hyz hyu hyv hyf hyo hyk syt syz syu syv syf syo syk)) hP hD hS hA [] [0, 1, 2, 3, 4, 5, 6] [0, 1, 2, 3, 4, 5, 6] rfl rfl (by decide) (by decide) rfl (by decide) (va_runS (As := [.int (syu (syo x11.toNatClampNeg).toNatClampNeg)]) (rest := [.int (syo x11.toNatClampNeg), .int (syf x11.toNatClampNeg), .ref hyu, .int r_31, .ref hyt]) ⟨hx, hb, hml, hown, hts⟩ (ktL_isPlural l dC dI _ (syu (syo x11.toNatClampNeg).toNatClampNeg) r_33 hc_33) (va_cwS 1 hts gL_does_L_isPlural rfl rfl rfl (by decide +kernel) ⟨Nat.le_of_ble_eq_true rfl, Nat.le_of_ble_eq_true rfl⟩) (gc_S (hP.sub (ws' := ([] : va_W)) [] rfl) (hK.sub (tys' := []) [] rfl) (hD.sub (ws' := ([] : va_W)) [] (by decide) rfl) hN) rfl rfl hl.1 rfl (lv_room (Nat.le_of_ble_eq_true rfl)) dL_does_133 ⟨by show (3) + 0 ≤ 3; omega, by show (72) + 0 ≤ 72; omega⟩) (fun H locs hP hD hS => ?_)
            refine lv_if_eq (tgt := 147) hx hb dL_does_136 (by decide) (fun c_34 => ?_) (fun c_34 => ?_)
            · have hf := it_t c_34 hf
              refine lv_iconst (v := (-1)) hx hb dL_does_147 (by decide) ?_
              exact J148 (fun syt syz syf syo syk x7 x8 x9 x10 x11 => fL_does_56 syu syv n syt syz syf syo syk x7 x8 x9 x10 x11) (fun syt syz syf syo syk x7 x8 x9 x10 x11 H locs hP hD hS ls hl hf => ih syt syz syf syo syk x7 x8 x9 x10 x11 H locs hP hD hS ls hl hf) syt syz syf syo syk x7 x8 x9 x10 x11 (syo x11.toNatClampNeg) 0 r_31 (syf x11.toNatClampNeg) (syo x11.toNatClampNeg) (-1) _ _ hP hD hS _ (lv_sub hl [4, 5, 6, 7, 8, 9, 10, 11, 12, 13, 14, 15, 3, 0] rfl) hf
            · have hf := it_f c_34 hf
              refine lv_iload hx hb dL_does_139 (lv_at hl 2 rfl) ?_
              refine lv_bipush (v := 40) hx hb dL_does_141 (by decide) ?_
              refine lv_isub hx hb dL_does_143 ?_
              refine lv_goto (tgt := 148) hx hb dL_does_144 (by decide) ?_
              exact J148 (fun syt syz syf syo syk x7 x8 x9 x10 x11 => fL_does_56 syu syv n syt syz syf syo syk x7 x8 x9 x10 x11) (fun syt syz syf syo syk x7 x8 x9 x10 x11 H locs hP hD hS ls hl hf => ih syt syz syf syo syk x7 x8 x9 x10 x11 H locs hP hD hS ls hl hf) syt syz syf syo syk x7 x8 x9 x10 x11 (syo x11.toNatClampNeg) 0 r_31 (syf x11.toNatClampNeg) (syo x11.toNatClampNeg) ((syu (syo x11.toNatClampNeg).toNatClampNeg) - 40) _ _ hP hD hS _ (lv_sub hl [4, 5, 6, 7, 8, 9, 10, 11, 12, 13, 14, 15, 3, 0] rfl) hf
        · have hf := it_t c_15 hf
          refine lv_aload_n hx hb dL_does_91 rfl (lv_at hl 5 rfl) ?_
          refine lv_iconst (v := 5) hx hb dL_does_92 (by decide) ?_
          obtain ⟨hi_35, hf⟩ := ai_ok hf
          refine va_iald (n := 13) (f := syz) hx hb hK hP 1 0 rfl rfl hi_35 dL_does_93 ?_
          refine lv_aload_n hx hb dL_does_94 rfl (lv_at hl 4 rfl) ?_
          refine lv_aload_n hx hb dL_does_95 rfl (lv_at hl 5 rfl) ?_
          obtain ⟨r_36, hc_36, hf⟩ := bn1_ok hf
          refine gc_i (wc := (cf_ytyz cI hyt hyz syt syz)) (wr := (cf_yuyvyfyoyk cI hyu hyv hyf hyo hyk syu syv syf syo syk)) (w1 := (cf_ytyz cI hyt hyz syt syz)) (ws' := (cf_ytyzyuyvyfyoyk cI hyt hyz hyu hyv hyf hyo hyk syt syz syu syv syf syo syk)) hP hD hS hA [0, 1] [2, 3, 4, 5, 6] [5, 6, 0, 1, 2, 3, 4] rfl rfl (by decide) (by decide) rfl (by decide) (va_runS (As := [.ref hyt, .ref hyz]) (rest := [.int (syz (5 : Int32).toNatClampNeg)]) ⟨hx, hb, hml, hown, hts⟩ (ktL_reach l dC dI cI hyt hyz _ syt syz r_36 hc_36) (va_cwS 2 hts gL_does_L_reach rfl rfl rfl (by decide +kernel) ⟨Nat.le_of_ble_eq_true rfl, Nat.le_of_ble_eq_true rfl⟩) (gc_S (hP.sub (ws' := (cf_ytyz cI hyt hyz syt syz)) [0, 1] rfl) (hK.sub (tys' := [(cI, .int)]) [0] rfl) (hD.sub (ws' := (cf_ytyz cI hyt hyz syt syz)) [0, 1] (by decide) rfl) hN) rfl rfl hl.1 rfl (lv_room (Nat.le_of_ble_eq_true rfl)) dL_does_96 ⟨by show (3) + 0 ≤ 3; omega, by show (72) + 0 ≤ 72; omega⟩) (fun H locs hP hD hS => ?_)
          refine lv_iand hx hb dL_does_99 ?_
          refine lv_istore (lv' := [(14, .int ((syz (5 : Int32).toNatClampNeg) &&& r_36)), (15, .int 0), (13, .int (syu (syo x11.toNatClampNeg).toNatClampNeg)), (12, .int (syo x11.toNatClampNeg)), (0, .ref hyt), (1, .ref hyz), (2, .ref hyu), (3, .ref hyv), (4, .ref hyf), (5, .ref hyo), (6, .ref hyk), (7, .int x7), (8, .int x8), (9, .int x9), (10, .int x10), (11, .int x11)]) hx hb dL_does_100 hl (by decide) rfl (fun ls hl => ?_)
          refine lv_goto (tgt := 334) hx hb dL_does_102 (by decide) ?_
          exact J334 (fun syt syz syf syo syk x7 x8 x9 x10 x11 => fL_does_56 syu syv n syt syz syf syo syk x7 x8 x9 x10 x11) (fun syt syz syf syo syk x7 x8 x9 x10 x11 H locs hP hD hS ls hl hf => ih syt syz syf syo syk x7 x8 x9 x10 x11 H locs hP hD hS ls hl hf) syt syz syf syo syk x7 x8 x9 x10 x11 (syo x11.toNatClampNeg) ((syz (5 : Int32).toNatClampNeg) &&& r_36) 0 _ _ hP hD hS _ (lv_sub hl [4, 5, 6, 7, 8, 9, 10, 11, 12, 13, 14, 15, 3, 0, 1] rfl) hf
  refine lv_aload_n hx hb dL_does_18 rfl (lv_at hl 5 rfl) ?_
  refine lv_aload_n hx hb dL_does_19 rfl (lv_at hl 4 rfl) ?_
  refine lv_bipush (v := 12) hx hb dL_does_20 (by decide) ?_
  obtain ⟨hi_1, hf⟩ := ai_ok hf
  refine va_iald (n := 13) (f := syz) hx hb hK hP 1 0 rfl rfl hi_1 dL_does_22 ?_
  refine lv_aload hx hb dL_does_23 (lv_at hl 2 rfl) ?_
  refine lv_aload hx hb dL_does_25 (lv_at hl 1 rfl) ?_
  refine lv_aload hx hb dL_does_27 (lv_at hl 0 rfl) ?_
  obtain ⟨r_2, syf_2, syo_2, syk_2, hc_2, hf⟩ := bn4_ok hf
  refine gc_i (wc := (cf_ywyfyoyk cI hyu hyf hyo hyk syu (fun _ => 0) (fun _ => 0) (fun _ => 0))) (wr := (cf_ytyzyv cI hyt hyz hyv syt syz syv)) (w1 := (cf_ywyfyoyk cI hyu hyf hyo hyk syu syf_2 syo_2 syk_2)) (ws' := (cf_ytyzyuyvyfyoyk cI hyt hyz hyu hyv hyf hyo hyk syt syz syu syv syf_2 syo_2 syk_2)) hP hD hS hA [2, 4, 5, 6] [0, 1, 3] [0, 1, 3, 2, 4, 5, 6] rfl rfl (by decide) (by decide) rfl (by decide) (va_runS (As := [.ref hyu, .int (syz (12 : Int32).toNatClampNeg), .ref hyf, .ref hyo, .ref hyk]) (rest := []) ⟨hx, hb, hml, hown, hts⟩ (ktL_phrases l dC dI cI hyu hyf hyo hyk _ syu (fun _ => 0) (fun _ => 0) (fun _ => 0) (syz (12 : Int32).toNatClampNeg) r_2 syf_2 syo_2 syk_2 hc_2) (va_cwS 5 hts gL_does_L_phrases rfl rfl rfl (by decide +kernel) ⟨Nat.le_of_ble_eq_true rfl, Nat.le_of_ble_eq_true rfl⟩) (gc_S (hP.sub (ws' := (cf_ywyfyoyk cI hyu hyf hyo hyk syu (fun _ => 0) (fun _ => 0) (fun _ => 0))) [2, 4, 5, 6] rfl) (hK.sub (tys' := [(cI, .int)]) [0] rfl) (hD.sub (ws' := (cf_ywyfyoyk cI hyu hyf hyo hyk syu (fun _ => 0) (fun _ => 0) (fun _ => 0))) [2, 4, 5, 6] (by decide) rfl) hN) rfl rfl hl.1 rfl (lv_room (Nat.le_of_ble_eq_true rfl)) dL_does_29 ⟨by show (3) + 0 ≤ 3; omega, by show (72) + 0 ≤ 72; omega⟩) (fun H locs hP hD hS => ?_)
  refine lv_istore (lv' := [(7, .int r_2), (6, .ref hyk), (5, .ref hyo), (4, .ref hyf), (0, .ref hyt), (1, .ref hyz), (2, .ref hyu), (3, .ref hyv)]) hx hb dL_does_32 hl (by decide) rfl (fun ls hl => ?_)
  refine lv_iconst (v := 0) hx hb dL_does_34 (by decide) ?_
  refine lv_istore (lv' := [(8, .int 0), (7, .int r_2), (6, .ref hyk), (5, .ref hyo), (4, .ref hyf), (0, .ref hyt), (1, .ref hyz), (2, .ref hyu), (3, .ref hyv)]) hx hb dL_does_35 hl (by decide) rfl (fun ls hl => ?_)
  refine lv_iconst (v := 0) hx hb dL_does_37 (by decide) ?_
  refine lv_istore (lv' := [(9, .int 0), (8, .int 0), (7, .int r_2), (6, .ref hyk), (5, .ref hyo), (4, .ref hyf), (0, .ref hyt), (1, .ref hyz), (2, .ref hyu), (3, .ref hyv)]) hx hb dL_does_38 hl (by decide) rfl (fun ls hl => ?_)
  refine lv_iconst (v := (-1)) hx hb dL_does_40 (by decide) ?_
  refine lv_istore (lv' := [(10, .int (-1)), (9, .int 0), (8, .int 0), (7, .int r_2), (6, .ref hyk), (5, .ref hyo), (4, .ref hyf), (0, .ref hyt), (1, .ref hyz), (2, .ref hyu), (3, .ref hyv)]) hx hb dL_does_41 hl (by decide) rfl (fun ls hl => ?_)
  refine lv_aload_n hx hb dL_does_43 rfl (lv_at hl 8 rfl) ?_
  refine lv_bipush (v := 9) hx hb dL_does_44 (by decide) ?_
  refine lv_iconst (v := 0) hx hb dL_does_46 (by decide) ?_
  obtain ⟨hi_3, hf⟩ := ai_ok hf
  refine va_iast (n := 13) (f := syz) hx hb hK hP hD hS 1 0 rfl rfl hi_3 dL_does_47 (fun H locs hP hD hS => ?_)
  have hP : va_P (dC, dI) vwCl (cf_ytyzyuyvyfyoyk cI hyt hyz hyu hyv hyf hyo hyk syt (upd syz (9 : Int32).toNatClampNeg 0) syu syv syf_2 syo_2 syk_2) H := hP
  have hD : va_D A (cf_ytyzyuyvyfyoyk cI hyt hyz hyu hyv hyf hyo hyk syt (upd syz (9 : Int32).toNatClampNeg 0) syu syv syf_2 syo_2 syk_2) := hD
  refine lv_aload_n hx hb dL_does_48 rfl (lv_at hl 8 rfl) ?_
  refine lv_bipush (v := 10) hx hb dL_does_49 (by decide) ?_
  refine lv_iconst (v := (-1)) hx hb dL_does_51 (by decide) ?_
  obtain ⟨hi_4, hf⟩ := ai_ok hf
  refine va_iast (n := 13) (f := (upd syz (9 : Int32).toNatClampNeg 0)) hx hb hK hP hD hS 1 0 rfl rfl hi_4 dL_does_52 (fun H locs hP hD hS => ?_)
  have hP : va_P (dC, dI) vwCl (cf_ytyzyuyvyfyoyk cI hyt hyz hyu hyv hyf hyo hyk syt (upd (upd syz (9 : Int32).toNatClampNeg 0) (10 : Int32).toNatClampNeg (-1)) syu syv syf_2 syo_2 syk_2) H := hP
  have hD : va_D A (cf_ytyzyuyvyfyoyk cI hyt hyz hyu hyv hyf hyo hyk syt (upd (upd syz (9 : Int32).toNatClampNeg 0) (10 : Int32).toNatClampNeg (-1)) syu syv syf_2 syo_2 syk_2) := hD
  refine lv_iconst (v := 0) hx hb dL_does_53 (by decide) ?_
  refine lv_istore (lv' := [(11, .int 0), (10, .int (-1)), (9, .int 0), (8, .int 0), (7, .int r_2), (6, .ref hyk), (5, .ref hyo), (4, .ref hyf), (0, .ref hyt), (1, .ref hyz), (2, .ref hyu), (3, .ref hyv)]) hx hb dL_does_54 hl (by decide) rfl (fun ls hl => ?_)
  exact J56 64 syt (upd (upd syz (9 : Int32).toNatClampNeg 0) (10 : Int32).toNatClampNeg (-1)) syf_2 syo_2 syk_2 r_2 0 0 (-1) 0 _ _ hP hD hS _ (lv_sub hl [8, 9, 10, 11, 7, 6, 5, 4, 3, 2, 1, 0] rfl) hf
