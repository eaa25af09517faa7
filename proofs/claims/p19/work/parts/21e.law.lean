abbrev rmL_said : Room := { frames := 5, cells := 3, slots := 72, locals := 116 }
set_option maxHeartbeats 4000000 in
set_option maxRecDepth 100000 in
theorem ktL_said (l : Launch) (dC : Nat → ClassId) (dI : Nat → Nat → Nat) (cI : ClassId) (hyt hyz hyw hyu hyv : Nat) (sz : Nat) (syt : Syt) (syz : Syz) (syw : Syw) (syu : Syu) (syv : Syv) (r : Int32) (sytf : Syt) (syzf : Syz) (syuf : Syu) (syvf : Syv) (hf : fL_said syt syz syw syu syv = some (r, sytf, syzf, syuf, syvf)) : Met l yL_said wsL_said rmL_said (va_Pc [.ref hyt, .ref hyz, .ref hyw, .ref hyu, .ref hyv] (pre_w (dC, dI) (cf_ytyzywyuyv cI hyt hyz hyw hyu hyv syt syz syw syu syv) [(cI, .int)] sz)) (va_Qi (fun (r' : Int32) (_ : Unit) => r' = r) (post_w (dC, dI) (cf_ytyzywyuyv cI hyt hyz hyw hyu hyv sytf syzf syw syuf syvf) [(cI, .int)] (va_A (cf_ytyzywyuyv cI hyt hyz hyw hyu hyv syt syz syw syu syv) sz)) (va_A (cf_ytyzywyuyv cI hyt hyz hyw hyu hyv syt syz syw syu syv) sz)) 3 72 (va_A (cf_ytyzywyuyv cI hyt hyz hyw hyu hyv syt syz syw syu syv) sz) := by
  refine gmw (mc := 3) (ms := 72) (ty := .int) (cc := cL_said) (maxL := 7) (by decide) rfl (Nat.le_of_ble_eq_true rfl) ?_
  intro p e s m below meth c A QQ ls hx hb hml hown hts hK hN hA hP hD hS hl hret
  have hown : s.vm.findClass RL = some m.cls := hown
  have hl : lv_has ls 7 [(0, .ref hyt), (1, .ref hyz), (2, .ref hyw), (3, .ref hyu), (4, .ref hyv)] := hl
  have J59 : ∀ (n : Nat) (syt : Syt) (syz : Syz) (syu : Syu) (syv : Syv) (x5 : Int32) (x6 : Int32) (H : Heap) (locs : List Loc), va_P (dC, dI) vwCl (cf_ytyzywyuyv cI hyt hyz hyw hyu hyv syt syz syw syu syv) H → va_D A (cf_ytyzywyuyv cI hyt hyz hyw hyu hyv syt syz syw syu syv) → va_S A s.heap H locs → ∀ (ls : Array Slot), lv_has ls 7 [(0, .ref hyt), (1, .ref hyz), (2, .ref hyw), (3, .ref hyu), (4, .ref hyv), (5, .int x5), (6, .int x6)] → fL_said_59 syw n syt syz syu syv x5 x6 = some (r, sytf, syzf, syuf, syvf) → W p l e rmL_said s m ([.ref hyt, .ref hyz, .ref hyw, .ref hyu, .ref hyv] : List Value).toArray below meth c H locs (0) (0) QQ (F0 m 59 ls []) := by
    intro n
    induction n with
    | zero =>
      intro syt syz syu syv x5 x6 H locs hP hD hS ls hl hf
      cases hf
    | succ n ih =>
      intro syt syz syu syv x5 x6 H locs hP hD hS ls hl hf
      rw [fL_said_59] at hf
      refine lv_iload hx hb dL_said_59 (lv_at hl 6 rfl) ?_
      refine lv_iload hx hb dL_said_61 (lv_at hl 5 rfl) ?_
      refine lv_icmp_ge (tgt := 86) hx hb dL_said_63 (by decide) (fun c_1 => ?_) (fun c_1 => ?_)
      · have hf := it_t c_1 hf
        refine lv_aload_n hx hb dL_said_86 rfl (lv_at hl 0 rfl) ?_
        refine lv_aload_n hx hb dL_said_87 rfl (lv_at hl 1 rfl) ?_
        refine lv_aload_n hx hb dL_said_88 rfl (lv_at hl 3 rfl) ?_
        refine lv_aload hx hb dL_said_89 (lv_at hl 4 rfl) ?_
        obtain ⟨r_2, syt_2, syz_2, hc_2, hf⟩ := bn3_ok hf
        refine gc_h (wc := (cf_ytyzyuyv cI hyt hyz hyu hyv syt syz syu syv)) (wr := (cf_yw cI hyw syw)) (w1 := (cf_ytyzyuyv cI hyt hyz hyu hyv syt_2 syz_2 syu syv)) (ws' := (cf_ytyzywyuyv cI hyt hyz hyw hyu hyv syt_2 syz_2 syw syu syv)) hP hD hS hA [0, 1, 3, 4] [2] [1, 2, 0, 3, 4] rfl rfl (by decide) (by decide) rfl (by decide) (va_runS (As := [.ref hyt, .ref hyz, .ref hyu, .ref hyv]) (rest := []) ⟨hx, hb, hml, hown, hts⟩ (ktL_does l dC dI cI hyt hyz hyu hyv _ syt syz syu syv r_2 syt_2 syz_2 hc_2) (va_cwS 4 hts gL_said_L_does rfl rfl rfl (by decide +kernel) ⟨Nat.le_of_ble_eq_true rfl, Nat.le_of_ble_eq_true rfl⟩) (gc_S (hP.sub (ws' := (cf_ytyzyuyv cI hyt hyz hyu hyv syt syz syu syv)) [0, 1, 3, 4] rfl) (hK.sub (tys' := [(cI, .int)]) [0] rfl) (hD.sub (ws' := (cf_ytyzyuyv cI hyt hyz hyu hyv syt syz syu syv)) [0, 1, 3, 4] (by decide) rfl) hN) rfl rfl hl.1 rfl (lv_room (Nat.le_of_ble_eq_true rfl)) dL_said_91 ⟨by show (0) + 3 ≤ 3; omega, by show (0) + 72 ≤ 72; omega⟩) (fun H locs hP hD hS => ?_)
        have hf : (some (r_2, syt_2, syz_2, syu, syv) : Option (Int32 × Syt × Syz × Syu × Syv)) = some (r, sytf, syzf, syuf, syvf) := hf
        have he := Option.some.inj hf
        have he0 : r_2 = r := congrArg (fun q => q.1) he
        have he1 : syt_2 = sytf := congrArg (fun q => q.2.1) he
        have he2 : syz_2 = syzf := congrArg (fun q => q.2.2.1) he
        have he3 : syu = syuf := congrArg (fun q => q.2.2.2.1) he
        have he4 : syv = syvf := congrArg (fun q => q.2.2.2.2) he
        refine W.widen (k := 3) (n := 72) (by omega) (by omega) ?_
        exact hret _ _ _ _ _ _ rfl he0 (by rw [← he1, ← he2, ← he3, ← he4]) dL_said_94 hP hD hS
      · have hf := it_f c_1 hf
        refine lv_aload_n hx hb dL_said_66 rfl (lv_at hl 3 rfl) ?_
        refine lv_iload hx hb dL_said_67 (lv_at hl 6 rfl) ?_
        refine lv_aload_n hx hb dL_said_69 rfl (lv_at hl 2 rfl) ?_
        refine lv_iload hx hb dL_said_70 (lv_at hl 6 rfl) ?_
        obtain ⟨hi_3, hf⟩ := ai_ok hf
        refine va_iald (n := 24) (f := syw) hx hb hK hP 2 0 rfl rfl hi_3 dL_said_72 ?_
        obtain ⟨hi_4, hf⟩ := ai_ok hf
        refine va_iast (n := 24) (f := syu) hx hb hK hP hD hS 3 0 rfl rfl hi_4 dL_said_73 (fun H locs hP hD hS => ?_)
        have hP : va_P (dC, dI) vwCl (cf_ytyzywyuyv cI hyt hyz hyw hyu hyv syt syz syw (upd syu x6.toNatClampNeg (syw x6.toNatClampNeg)) syv) H := hP
        have hD : va_D A (cf_ytyzywyuyv cI hyt hyz hyw hyu hyv syt syz syw (upd syu x6.toNatClampNeg (syw x6.toNatClampNeg)) syv) := hD
        refine lv_aload hx hb dL_said_74 (lv_at hl 4 rfl) ?_
        refine lv_iload hx hb dL_said_76 (lv_at hl 6 rfl) ?_
        refine lv_iconst (v := (-1)) hx hb dL_said_78 (by decide) ?_
        obtain ⟨hi_5, hf⟩ := ai_ok hf
        refine va_iast (n := 24) (f := syv) hx hb hK hP hD hS 4 0 rfl rfl hi_5 dL_said_79 (fun H locs hP hD hS => ?_)
        have hP : va_P (dC, dI) vwCl (cf_ytyzywyuyv cI hyt hyz hyw hyu hyv syt syz syw (upd syu x6.toNatClampNeg (syw x6.toNatClampNeg)) (upd syv x6.toNatClampNeg (-1))) H := hP
        have hD : va_D A (cf_ytyzywyuyv cI hyt hyz hyw hyu hyv syt syz syw (upd syu x6.toNatClampNeg (syw x6.toNatClampNeg)) (upd syv x6.toNatClampNeg (-1))) := hD
        refine lv_iinc (v := (x6 + 1)) (lv' := [(6, .int (x6 + 1)), (0, .ref hyt), (1, .ref hyz), (2, .ref hyw), (3, .ref hyu), (4, .ref hyv), (5, .int x5)]) hx hb dL_said_80 hl (k := 6) rfl rfl (by decide) rfl (fun ls hl => ?_)
        refine lv_goto (tgt := 59) hx hb dL_said_83 (by decide) ?_
        exact ih syt syz (upd syu x6.toNatClampNeg (syw x6.toNatClampNeg)) (upd syv x6.toNatClampNeg (-1)) x5 (x6 + 1) _ _ hP hD hS _ (lv_sub hl [1, 2, 3, 4, 5, 6, 0] rfl) hf
  have J157 : ∀ (syt : Syt) (syz : Syz) (syu : Syu) (syv : Syv) (t1 : Int32) (t3 : Int32) (t4 : Int32) (t5 : Int32) (H : Heap) (locs : List Loc), va_P (dC, dI) vwCl (cf_ytyzywyuyv cI hyt hyz hyw hyu hyv syt syz syw syu syv) H → va_D A (cf_ytyzywyuyv cI hyt hyz hyw hyu hyv syt syz syw syu syv) → va_S A s.heap H locs → ∀ (ls : Array Slot), lv_has ls 7 [(0, .ref hyt), (1, .ref hyz), (3, .ref hyu), (4, .ref hyv)] → fL_said_157 syw syt syz syu syv t1 t3 t4 t5 = some (r, sytf, syzf, syuf, syvf) → W p l e rmL_said s m ([.ref hyt, .ref hyz, .ref hyw, .ref hyu, .ref hyv] : List Value).toArray below meth c H locs (0) (0) QQ (F0 m 157 ls [.int t5, .int t4, .int t3, .ref hyw, .int t1, .ref hyt]) := by
    intro syt syz syu syv t1 t3 t4 t5 H locs hP hD hS ls hl hf
    unfold fL_said_157 at hf
    obtain ⟨r_1, hc_1, hf⟩ := bn1_ok hf
    refine gc_i (wc := (cf_ytyw cI hyt hyw syt syw)) (wr := (cf_yzyuyv cI hyz hyu hyv syz syu syv)) (w1 := (cf_ytyw cI hyt hyw syt syw)) (ws' := (cf_ytyzywyuyv cI hyt hyz hyw hyu hyv syt syz syw syu syv)) hP hD hS hA [0, 2] [1, 3, 4] [3, 0, 4, 1, 2] rfl rfl (by decide) (by decide) rfl (by decide) (va_runS (As := [.ref hyt, .int t1, .ref hyw, .int t3, .int t4, .int t5]) (rest := []) ⟨hx, hb, hml, hown, hts⟩ (ktL_fitting l dC dI cI hyt hyw _ syt syw t1 t3 t4 t5 r_1 hc_1) (va_cwS 6 hts gL_said_L_fitting rfl rfl rfl (by decide +kernel) ⟨Nat.le_of_ble_eq_true rfl, Nat.le_of_ble_eq_true rfl⟩) (gc_S (hP.sub (ws' := (cf_ytyw cI hyt hyw syt syw)) [0, 2] rfl) (hK.sub (tys' := [(cI, .int)]) [0] rfl) (hD.sub (ws' := (cf_ytyw cI hyt hyw syt syw)) [0, 2] (by decide) rfl) hN) rfl rfl hl.1 rfl (lv_room (Nat.le_of_ble_eq_true rfl)) dL_said_157 ⟨by show (0) + 0 ≤ 3; omega, by show (0) + 0 ≤ 72; omega⟩) (fun H locs hP hD hS => ?_)
    refine lv_istore (lv' := [(6, .int r_1), (0, .ref hyt), (1, .ref hyz), (3, .ref hyu), (4, .ref hyv)]) hx hb dL_said_160 hl (by decide) rfl (fun ls hl => ?_)
    refine lv_iload hx hb dL_said_162 (lv_at hl 0 rfl) ?_
    refine lv_if_ne (tgt := 169) hx hb dL_said_164 (by decide) (fun c_2 => ?_) (fun c_2 => ?_)
    · have hf := it_f c_2 hf
      refine lv_iload hx hb dL_said_169 (lv_at hl 0 rfl) ?_
      obtain ⟨r_3, hc_3, hf⟩ := bn1_ok hf
      refine gc_i (wc := ([] : va_W)) (wr := (cf_ytyzywyuyv cI hyt hyz hyw hyu hyv syt syz syw syu syv)) (w1 := ([] : va_W)) (ws' := (cf_ytyzywyuyv cI hyt hyz hyw hyu hyv syt syz syw syu syv)) hP hD hS hA [] [0, 1, 2, 3, 4] [0, 1, 2, 3, 4] rfl rfl (by decide) (by decide) rfl (by decide) (va_runS (As := [.int r_1]) (rest := []) ⟨hx, hb, hml, hown, hts⟩ (ktL_bits l dC dI _ r_1 r_3 hc_3) (va_cwS 1 hts gL_said_L_bits rfl rfl rfl (by decide +kernel) ⟨Nat.le_of_ble_eq_true rfl, Nat.le_of_ble_eq_true rfl⟩) (gc_S (hP.sub (ws' := ([] : va_W)) [] rfl) (hK.sub (tys' := []) [] rfl) (hD.sub (ws' := ([] : va_W)) [] (by decide) rfl) hN) rfl rfl hl.1 rfl (lv_room (Nat.le_of_ble_eq_true rfl)) dL_said_171 ⟨by show (0) + 0 ≤ 3; omega, by show (0) + 0 ≤ 72; omega⟩) (fun H locs hP hD hS => ?_)
      refine lv_iconst (v := 1) hx hb dL_said_174 (by decide) ?_
      refine lv_icmp_le (tgt := 186) hx hb dL_said_175 (by decide) (fun c_4 => ?_) (fun c_4 => ?_)
      · have hf := it_t c_4 hf
        refine lv_aload hx hb dL_said_186 (lv_at hl 4 rfl) ?_
        refine lv_aload_n hx hb dL_said_188 rfl (lv_at hl 2 rfl) ?_
        refine lv_bipush (v := 10) hx hb dL_said_189 (by decide) ?_
        obtain ⟨hi_5, hf⟩ := ai_ok hf
        refine va_iald (n := 13) (f := syz) hx hb hK hP 1 0 rfl rfl hi_5 dL_said_191 ?_
        refine lv_iload hx hb dL_said_192 (lv_at hl 0 rfl) ?_
        obtain ⟨r_6, hc_6, hf⟩ := bn1_ok hf
        refine gc_i (wc := ([] : va_W)) (wr := (cf_ytyzywyuyv cI hyt hyz hyw hyu hyv syt syz syw syu syv)) (w1 := ([] : va_W)) (ws' := (cf_ytyzywyuyv cI hyt hyz hyw hyu hyv syt syz syw syu syv)) hP hD hS hA [] [0, 1, 2, 3, 4] [0, 1, 2, 3, 4] rfl rfl (by decide) (by decide) rfl (by decide) (va_runS (As := [.int r_1]) (rest := [.int (syz (10 : Int32).toNatClampNeg), .ref hyv]) ⟨hx, hb, hml, hown, hts⟩ (ktL_only l dC dI _ r_1 r_6 hc_6) (va_cwS 1 hts gL_said_L_only rfl rfl rfl (by decide +kernel) ⟨Nat.le_of_ble_eq_true rfl, Nat.le_of_ble_eq_true rfl⟩) (gc_S (hP.sub (ws' := ([] : va_W)) [] rfl) (hK.sub (tys' := []) [] rfl) (hD.sub (ws' := ([] : va_W)) [] (by decide) rfl) hN) rfl rfl hl.1 rfl (lv_room (Nat.le_of_ble_eq_true rfl)) dL_said_194 ⟨by show (0) + 0 ≤ 3; omega, by show (0) + 0 ≤ 72; omega⟩) (fun H locs hP hD hS => ?_)
        obtain ⟨hi_7, hf⟩ := ai_ok hf
        refine va_iast (n := 24) (f := syv) hx hb hK hP hD hS 4 0 rfl rfl hi_7 dL_said_197 (fun H locs hP hD hS => ?_)
        have hP : va_P (dC, dI) vwCl (cf_ytyzywyuyv cI hyt hyz hyw hyu hyv syt syz syw syu (upd syv (syz (10 : Int32).toNatClampNeg).toNatClampNeg r_6)) H := hP
        have hD : va_D A (cf_ytyzywyuyv cI hyt hyz hyw hyu hyv syt syz syw syu (upd syv (syz (10 : Int32).toNatClampNeg).toNatClampNeg r_6)) := hD
        refine lv_aload_n hx hb dL_said_198 rfl (lv_at hl 1 rfl) ?_
        refine lv_aload_n hx hb dL_said_199 rfl (lv_at hl 2 rfl) ?_
        refine lv_aload_n hx hb dL_said_200 rfl (lv_at hl 3 rfl) ?_
        refine lv_aload hx hb dL_said_201 (lv_at hl 4 rfl) ?_
        obtain ⟨r_8, syt_8, syz_8, hc_8, hf⟩ := bn3_ok hf
        refine gc_h (wc := (cf_ytyzyuyv cI hyt hyz hyu hyv syt syz syu (upd syv (syz (10 : Int32).toNatClampNeg).toNatClampNeg r_6))) (wr := (cf_yw cI hyw syw)) (w1 := (cf_ytyzyuyv cI hyt hyz hyu hyv syt_8 syz_8 syu (upd syv (syz (10 : Int32).toNatClampNeg).toNatClampNeg r_6))) (ws' := (cf_ytyzywyuyv cI hyt hyz hyw hyu hyv syt_8 syz_8 syw syu (upd syv (syz (10 : Int32).toNatClampNeg).toNatClampNeg r_6))) hP hD hS hA [0, 1, 3, 4] [2] [1, 2, 0, 3, 4] rfl rfl (by decide) (by decide) rfl (by decide) (va_runS (As := [.ref hyt, .ref hyz, .ref hyu, .ref hyv]) (rest := []) ⟨hx, hb, hml, hown, hts⟩ (ktL_does l dC dI cI hyt hyz hyu hyv _ syt syz syu (upd syv (syz (10 : Int32).toNatClampNeg).toNatClampNeg r_6) r_8 syt_8 syz_8 hc_8) (va_cwS 4 hts gL_said_L_does rfl rfl rfl (by decide +kernel) ⟨Nat.le_of_ble_eq_true rfl, Nat.le_of_ble_eq_true rfl⟩) (gc_S (hP.sub (ws' := (cf_ytyzyuyv cI hyt hyz hyu hyv syt syz syu (upd syv (syz (10 : Int32).toNatClampNeg).toNatClampNeg r_6))) [0, 1, 3, 4] rfl) (hK.sub (tys' := [(cI, .int)]) [0] rfl) (hD.sub (ws' := (cf_ytyzyuyv cI hyt hyz hyu hyv syt syz syu (upd syv (syz (10 : Int32).toNatClampNeg).toNatClampNeg r_6))) [0, 1, 3, 4] (by decide) rfl) hN) rfl rfl hl.1 rfl (lv_room (Nat.le_of_ble_eq_true rfl)) dL_said_203 ⟨by show (0) + 3 ≤ 3; omega, by show (0) + 72 ≤ 72; omega⟩) (fun H locs hP hD hS => ?_)
        have hf : (some (r_8, syt_8, syz_8, syu, (upd syv (syz (10 : Int32).toNatClampNeg).toNatClampNeg r_6)) : Option (Int32 × Syt × Syz × Syu × Syv)) = some (r, sytf, syzf, syuf, syvf) := hf
        have he := Option.some.inj hf
        have he0 : r_8 = r := congrArg (fun q => q.1) he
        have he1 : syt_8 = sytf := congrArg (fun q => q.2.1) he
        have he2 : syz_8 = syzf := congrArg (fun q => q.2.2.1) he
        have he3 : syu = syuf := congrArg (fun q => q.2.2.2.1) he
        have he4 : (upd syv (syz (10 : Int32).toNatClampNeg).toNatClampNeg r_6) = syvf := congrArg (fun q => q.2.2.2.2) he
        refine W.widen (k := 3) (n := 72) (by omega) (by omega) ?_
        exact hret _ _ _ _ _ _ rfl he0 (by rw [← he1, ← he2, ← he3, ← he4]) dL_said_206 hP hD hS
      · have hf := it_f c_4 hf
        refine lv_aload_n hx hb dL_said_178 rfl (lv_at hl 2 rfl) ?_
        refine lv_bipush (v := 9) hx hb dL_said_179 (by decide) ?_
        refine lv_iload hx hb dL_said_181 (lv_at hl 0 rfl) ?_
        obtain ⟨hi_9, hf⟩ := ai_ok hf
        refine va_iast (n := 13) (f := syz) hx hb hK hP hD hS 1 0 rfl rfl hi_9 dL_said_183 (fun H locs hP hD hS => ?_)
        have hP : va_P (dC, dI) vwCl (cf_ytyzywyuyv cI hyt hyz hyw hyu hyv syt (upd syz (9 : Int32).toNatClampNeg r_1) syw syu syv) H := hP
        have hD : va_D A (cf_ytyzywyuyv cI hyt hyz hyw hyu hyv syt (upd syz (9 : Int32).toNatClampNeg r_1) syw syu syv) := hD
        refine lv_iconst (v := 1) hx hb dL_said_184 (by decide) ?_
        have hf : (some (1, syt, (upd syz (9 : Int32).toNatClampNeg r_1), syu, syv) : Option (Int32 × Syt × Syz × Syu × Syv)) = some (r, sytf, syzf, syuf, syvf) := hf
        have he := Option.some.inj hf
        have he0 : 1 = r := congrArg (fun q => q.1) he
        have he1 : syt = sytf := congrArg (fun q => q.2.1) he
        have he2 : (upd syz (9 : Int32).toNatClampNeg r_1) = syzf := congrArg (fun q => q.2.2.1) he
        have he3 : syu = syuf := congrArg (fun q => q.2.2.2.1) he
        have he4 : syv = syvf := congrArg (fun q => q.2.2.2.2) he
        refine W.widen (k := 3) (n := 72) (by omega) (by omega) ?_
        exact hret _ _ _ _ _ _ rfl he0 (by rw [← he1, ← he2, ← he3, ← he4]) dL_said_185 hP hD hS
    · have hf := it_t c_2 hf
      refine lv_iconst (v := 5) hx hb dL_said_167 (by decide) ?_
      have hf : (some (5, syt, syz, syu, syv) : Option (Int32 × Syt × Syz × Syu × Syv)) = some (r, sytf, syzf, syuf, syvf) := hf
      have he := Option.some.inj hf
      have he0 : 5 = r := congrArg (fun q => q.1) he
      have he1 : syt = sytf := congrArg (fun q => q.2.1) he
      have he2 : syz = syzf := congrArg (fun q => q.2.2.1) he
      have he3 : syu = syuf := congrArg (fun q => q.2.2.2.1) he
      have he4 : syv = syvf := congrArg (fun q => q.2.2.2.2) he
      refine W.widen (k := 3) (n := 72) (by omega) (by omega) ?_
      exact hret _ _ _ _ _ _ rfl he0 (by rw [← he1, ← he2, ← he3, ← he4]) dL_said_168 hP hD hS
  unfold fL_said at hf
  refine lv_aload_n hx hb dL_said_0 rfl (lv_at hl 1 rfl) ?_
  refine lv_iconst (v := 1) hx hb dL_said_1 (by decide) ?_
  obtain ⟨hi_1, hf⟩ := ai_ok hf
  refine va_iald (n := 13) (f := syz) hx hb hK hP 1 0 rfl rfl hi_1 dL_said_2 ?_
  refine lv_istore (lv' := [(5, .int (syz (1 : Int32).toNatClampNeg)), (0, .ref hyt), (1, .ref hyz), (2, .ref hyw), (3, .ref hyu), (4, .ref hyv)]) hx hb dL_said_3 hl (by decide) rfl (fun ls hl => ?_)
  refine lv_aload_n hx hb dL_said_5 rfl (lv_at hl 2 rfl) ?_
  refine lv_iconst (v := 3) hx hb dL_said_6 (by decide) ?_
  refine lv_iconst (v := (-1)) hx hb dL_said_7 (by decide) ?_
  obtain ⟨hi_2, hf⟩ := ai_ok hf
  refine va_iast (n := 13) (f := syz) hx hb hK hP hD hS 1 0 rfl rfl hi_2 dL_said_8 (fun H locs hP hD hS => ?_)
  have hP : va_P (dC, dI) vwCl (cf_ytyzywyuyv cI hyt hyz hyw hyu hyv syt (upd syz (3 : Int32).toNatClampNeg (-1)) syw syu syv) H := hP
  have hD : va_D A (cf_ytyzywyuyv cI hyt hyz hyw hyu hyv syt (upd syz (3 : Int32).toNatClampNeg (-1)) syw syu syv) := hD
  refine lv_iload hx hb dL_said_9 (lv_at hl 0 rfl) ?_
  refine lv_if_ne (tgt := 16) hx hb dL_said_11 (by decide) (fun c_3 => ?_) (fun c_3 => ?_)
  · have hf := it_f c_3 hf
    refine lv_aload_n hx hb dL_said_16 rfl (lv_at hl 3 rfl) ?_
    refine lv_iconst (v := 0) hx hb dL_said_17 (by decide) ?_
    obtain ⟨hi_4, hf⟩ := ai_ok hf
    refine va_iald (n := 24) (f := syw) hx hb hK hP 2 0 rfl rfl hi_4 dL_said_18 ?_
    refine lv_iconst (v := 5) hx hb dL_said_19 (by decide) ?_
    refine lv_icmp_ge (tgt := 95) hx hb dL_said_20 (by decide) (fun c_5 => ?_) (fun c_5 => ?_)
    · have hf := it_t c_5 hf
      refine lv_aload_n hx hb dL_said_95 rfl (lv_at hl 2 rfl) ?_
      refine lv_bipush (v := 9) hx hb dL_said_96 (by decide) ?_
      obtain ⟨hi_6, hf⟩ := ai_ok hf
      refine va_iald (n := 13) (f := (upd syz (3 : Int32).toNatClampNeg (-1))) hx hb hK hP 1 0 rfl rfl hi_6 dL_said_98 ?_
      refine lv_if_ne (tgt := 104) hx hb dL_said_99 (by decide) (fun c_7 => ?_) (fun c_7 => ?_)
      · have hf := it_f c_7 hf
        refine lv_aload_n hx hb dL_said_104 rfl (lv_at hl 2 rfl) ?_
        refine lv_iconst (v := 3) hx hb dL_said_105 (by decide) ?_
        refine lv_aload_n hx hb dL_said_106 rfl (lv_at hl 3 rfl) ?_
        refine lv_iload hx hb dL_said_107 (lv_at hl 0 rfl) ?_
        obtain ⟨r_8, hc_8, hf⟩ := bn1_ok hf
        refine gc_i (wc := (cf_yw cI hyw syw)) (wr := (cf_ytyzyuyv cI hyt hyz hyu hyv syt (upd syz (3 : Int32).toNatClampNeg (-1)) syu syv)) (w1 := (cf_yw cI hyw syw)) (ws' := (cf_ytyzywyuyv cI hyt hyz hyw hyu hyv syt (upd syz (3 : Int32).toNatClampNeg (-1)) syw syu syv)) hP hD hS hA [2] [0, 1, 3, 4] [0, 1, 4, 2, 3] rfl rfl (by decide) (by decide) rfl (by decide) (va_runS (As := [.ref hyw, .int (syz (1 : Int32).toNatClampNeg)]) (rest := [.int 3, .ref hyz]) ⟨hx, hb, hml, hown, hts⟩ (ktL_wrongAnswer l dC dI cI hyw _ syw (syz (1 : Int32).toNatClampNeg) r_8 hc_8) (va_cwS 2 hts gL_said_L_wrongAnswer rfl rfl rfl (by decide +kernel) ⟨Nat.le_of_ble_eq_true rfl, Nat.le_of_ble_eq_true rfl⟩) (gc_S (hP.sub (ws' := (cf_yw cI hyw syw)) [2] rfl) (hK.sub (tys' := [(cI, .int)]) [0] rfl) (hD.sub (ws' := (cf_yw cI hyw syw)) [2] (by decide) rfl) hN) rfl rfl hl.1 rfl (lv_room (Nat.le_of_ble_eq_true rfl)) dL_said_109 ⟨by show (0) + 0 ≤ 3; omega, by show (0) + 0 ≤ 72; omega⟩) (fun H locs hP hD hS => ?_)
        obtain ⟨hi_9, hf⟩ := ai_ok hf
        refine va_iast (n := 13) (f := (upd syz (3 : Int32).toNatClampNeg (-1))) hx hb hK hP hD hS 1 0 rfl rfl hi_9 dL_said_112 (fun H locs hP hD hS => ?_)
        have hP : va_P (dC, dI) vwCl (cf_ytyzywyuyv cI hyt hyz hyw hyu hyv syt (upd (upd syz (3 : Int32).toNatClampNeg (-1)) (3 : Int32).toNatClampNeg r_8) syw syu syv) H := hP
        have hD : va_D A (cf_ytyzywyuyv cI hyt hyz hyw hyu hyv syt (upd (upd syz (3 : Int32).toNatClampNeg (-1)) (3 : Int32).toNatClampNeg r_8) syw syu syv) := hD
        refine lv_aload_n hx hb dL_said_113 rfl (lv_at hl 2 rfl) ?_
        refine lv_iconst (v := 3) hx hb dL_said_114 (by decide) ?_
        obtain ⟨hi_10, hf⟩ := ai_ok hf
        refine va_iald (n := 13) (f := (upd (upd syz (3 : Int32).toNatClampNeg (-1)) (3 : Int32).toNatClampNeg r_8)) hx hb hK hP 1 0 rfl rfl hi_10 dL_said_115 ?_
        refine lv_if_lt (tgt := 121) hx hb dL_said_116 (by decide) (fun c_11 => ?_) (fun c_11 => ?_)
        · have hf := it_t c_11 hf
          refine lv_aload_n hx hb dL_said_121 rfl (lv_at hl 1 rfl) ?_
          refine lv_aload_n hx hb dL_said_122 rfl (lv_at hl 2 rfl) ?_
          refine lv_bipush (v := 9) hx hb dL_said_123 (by decide) ?_
          obtain ⟨hi_12, hf⟩ := ai_ok hf
          refine va_iald (n := 13) (f := (upd (upd syz (3 : Int32).toNatClampNeg (-1)) (3 : Int32).toNatClampNeg r_8)) hx hb hK hP 1 0 rfl rfl hi_12 dL_said_125 ?_
          refine lv_aload_n hx hb dL_said_126 rfl (lv_at hl 3 rfl) ?_
          refine lv_iconst (v := 0) hx hb dL_said_127 (by decide) ?_
          refine lv_iload hx hb dL_said_128 (lv_at hl 0 rfl) ?_
          refine lv_iconst (v := 1) hx hb dL_said_130 (by decide) ?_
          refine lv_isub hx hb dL_said_131 ?_
          refine lv_aload_n hx hb dL_said_132 rfl (lv_at hl 3 rfl) ?_
          refine lv_iload hx hb dL_said_133 (lv_at hl 0 rfl) ?_
          refine lv_iconst (v := 1) hx hb dL_said_135 (by decide) ?_
          refine lv_isub hx hb dL_said_136 ?_
          obtain ⟨hi_13, hf⟩ := ai_ok hf
          refine va_iald (n := 24) (f := syw) hx hb hK hP 2 0 rfl rfl hi_13 dL_said_137 ?_
          obtain ⟨r_14, hc_14, hf⟩ := bn1_ok hf
          refine gc_i (wc := ([] : va_W)) (wr := (cf_ytyzywyuyv cI hyt hyz hyw hyu hyv syt (upd (upd syz (3 : Int32).toNatClampNeg (-1)) (3 : Int32).toNatClampNeg r_8) syw syu syv)) (w1 := ([] : va_W)) (ws' := (cf_ytyzywyuyv cI hyt hyz hyw hyu hyv syt (upd (upd syz (3 : Int32).toNatClampNeg (-1)) (3 : Int32).toNatClampNeg r_8) syw syu syv)) hP hD hS hA [] [0, 1, 2, 3, 4] [0, 1, 2, 3, 4] rfl rfl (by decide) (by decide) rfl (by decide) (va_runS (As := [.int (syw ((syz (1 : Int32).toNatClampNeg) - 1).toNatClampNeg)]) (rest := [.int ((syz (1 : Int32).toNatClampNeg) - 1), .int 0, .ref hyw, .int ((upd (upd syz (3 : Int32).toNatClampNeg (-1)) (3 : Int32).toNatClampNeg r_8) (9 : Int32).toNatClampNeg), .ref hyt]) ⟨hx, hb, hml, hown, hts⟩ (ktL_isNoun l dC dI _ (syw ((syz (1 : Int32).toNatClampNeg) - 1).toNatClampNeg) r_14 hc_14) (va_cwS 1 hts gL_said_L_isNoun rfl rfl rfl (by decide +kernel) ⟨Nat.le_of_ble_eq_true rfl, Nat.le_of_ble_eq_true rfl⟩) (gc_S (hP.sub (ws' := ([] : va_W)) [] rfl) (hK.sub (tys' := []) [] rfl) (hD.sub (ws' := ([] : va_W)) [] (by decide) rfl) hN) rfl rfl hl.1 rfl (lv_room (Nat.le_of_ble_eq_true rfl)) dL_said_138 ⟨by show (0) + 0 ≤ 3; omega, by show (0) + 0 ≤ 72; omega⟩) (fun H locs hP hD hS => ?_)
          refine lv_if_eq (tgt := 156) hx hb dL_said_141 (by decide) (fun c_15 => ?_) (fun c_15 => ?_)
          · have hf := it_t c_15 hf
            refine lv_iconst (v := (-1)) hx hb dL_said_156 (by decide) ?_
            exact J157 syt (upd (upd syz (3 : Int32).toNatClampNeg (-1)) (3 : Int32).toNatClampNeg r_8) syu syv ((upd (upd syz (3 : Int32).toNatClampNeg (-1)) (3 : Int32).toNatClampNeg r_8) (9 : Int32).toNatClampNeg) 0 ((syz (1 : Int32).toNatClampNeg) - 1) (-1) _ _ hP hD hS _ (lv_sub hl [1, 2, 4, 5] rfl) hf
          · have hf := it_f c_15 hf
            refine lv_aload_n hx hb dL_said_144 rfl (lv_at hl 3 rfl) ?_
            refine lv_iload hx hb dL_said_145 (lv_at hl 0 rfl) ?_
            refine lv_iconst (v := 1) hx hb dL_said_147 (by decide) ?_
            refine lv_isub hx hb dL_said_148 ?_
            obtain ⟨hi_16, hf⟩ := ai_ok hf
            refine va_iald (n := 24) (f := syw) hx hb hK hP 2 0 rfl rfl hi_16 dL_said_149 ?_
            refine lv_bipush (v := 30) hx hb dL_said_150 (by decide) ?_
            refine lv_isub hx hb dL_said_152 ?_
            refine lv_goto (tgt := 157) hx hb dL_said_153 (by decide) ?_
            exact J157 syt (upd (upd syz (3 : Int32).toNatClampNeg (-1)) (3 : Int32).toNatClampNeg r_8) syu syv ((upd (upd syz (3 : Int32).toNatClampNeg (-1)) (3 : Int32).toNatClampNeg r_8) (9 : Int32).toNatClampNeg) 0 ((syz (1 : Int32).toNatClampNeg) - 1) ((syw ((syz (1 : Int32).toNatClampNeg) - 1).toNatClampNeg) - 30) _ _ hP hD hS _ (lv_sub hl [1, 2, 4, 5] rfl) hf
        · have hf := it_f c_11 hf
          refine lv_iconst (v := 4) hx hb dL_said_119 (by decide) ?_
          have hf : (some (4, syt, (upd (upd syz (3 : Int32).toNatClampNeg (-1)) (3 : Int32).toNatClampNeg r_8), syu, syv) : Option (Int32 × Syt × Syz × Syu × Syv)) = some (r, sytf, syzf, syuf, syvf) := hf
          have he := Option.some.inj hf
          have he0 : 4 = r := congrArg (fun q => q.1) he
          have he1 : syt = sytf := congrArg (fun q => q.2.1) he
          have he2 : (upd (upd syz (3 : Int32).toNatClampNeg (-1)) (3 : Int32).toNatClampNeg r_8) = syzf := congrArg (fun q => q.2.2.1) he
          have he3 : syu = syuf := congrArg (fun q => q.2.2.2.1) he
          have he4 : syv = syvf := congrArg (fun q => q.2.2.2.2) he
          refine W.widen (k := 3) (n := 72) (by omega) (by omega) ?_
          exact hret _ _ _ _ _ _ rfl he0 (by rw [← he1, ← he2, ← he3, ← he4]) dL_said_120 hP hD hS
      · have hf := it_t c_7 hf
        refine lv_iconst (v := 3) hx hb dL_said_102 (by decide) ?_
        have hf : (some (3, syt, (upd syz (3 : Int32).toNatClampNeg (-1)), syu, syv) : Option (Int32 × Syt × Syz × Syu × Syv)) = some (r, sytf, syzf, syuf, syvf) := hf
        have he := Option.some.inj hf
        have he0 : 3 = r := congrArg (fun q => q.1) he
        have he1 : syt = sytf := congrArg (fun q => q.2.1) he
        have he2 : (upd syz (3 : Int32).toNatClampNeg (-1)) = syzf := congrArg (fun q => q.2.2.1) he
        have he3 : syu = syuf := congrArg (fun q => q.2.2.2.1) he
        have he4 : syv = syvf := congrArg (fun q => q.2.2.2.2) he
        refine W.widen (k := 3) (n := 72) (by omega) (by omega) ?_
        exact hret _ _ _ _ _ _ rfl he0 (by rw [← he1, ← he2, ← he3, ← he4]) dL_said_103 hP hD hS
    · have hf := it_f c_5 hf
      refine lv_aload_n hx hb dL_said_23 rfl (lv_at hl 2 rfl) ?_
      refine lv_bipush (v := 9) hx hb dL_said_24 (by decide) ?_
      refine lv_iconst (v := 0) hx hb dL_said_26 (by decide) ?_
      obtain ⟨hi_17, hf⟩ := ai_ok hf
      refine va_iast (n := 13) (f := (upd syz (3 : Int32).toNatClampNeg (-1))) hx hb hK hP hD hS 1 0 rfl rfl hi_17 dL_said_27 (fun H locs hP hD hS => ?_)
      have hP : va_P (dC, dI) vwCl (cf_ytyzywyuyv cI hyt hyz hyw hyu hyv syt (upd (upd syz (3 : Int32).toNatClampNeg (-1)) (9 : Int32).toNatClampNeg 0) syw syu syv) H := hP
      have hD : va_D A (cf_ytyzywyuyv cI hyt hyz hyw hyu hyv syt (upd (upd syz (3 : Int32).toNatClampNeg (-1)) (9 : Int32).toNatClampNeg 0) syw syu syv) := hD
      refine lv_aload_n hx hb dL_said_28 rfl (lv_at hl 2 rfl) ?_
      refine lv_bipush (v := 10) hx hb dL_said_29 (by decide) ?_
      refine lv_iconst (v := (-1)) hx hb dL_said_31 (by decide) ?_
      obtain ⟨hi_18, hf⟩ := ai_ok hf
      refine va_iast (n := 13) (f := (upd (upd syz (3 : Int32).toNatClampNeg (-1)) (9 : Int32).toNatClampNeg 0)) hx hb hK hP hD hS 1 0 rfl rfl hi_18 dL_said_32 (fun H locs hP hD hS => ?_)
      have hP : va_P (dC, dI) vwCl (cf_ytyzywyuyv cI hyt hyz hyw hyu hyv syt (upd (upd (upd syz (3 : Int32).toNatClampNeg (-1)) (9 : Int32).toNatClampNeg 0) (10 : Int32).toNatClampNeg (-1)) syw syu syv) H := hP
      have hD : va_D A (cf_ytyzywyuyv cI hyt hyz hyw hyu hyv syt (upd (upd (upd syz (3 : Int32).toNatClampNeg (-1)) (9 : Int32).toNatClampNeg 0) (10 : Int32).toNatClampNeg (-1)) syw syu syv) := hD
      refine lv_aload_n hx hb dL_said_33 rfl (lv_at hl 2 rfl) ?_
      refine lv_iconst (v := 3) hx hb dL_said_34 (by decide) ?_
      refine lv_aload_n hx hb dL_said_35 rfl (lv_at hl 3 rfl) ?_
      refine lv_iload hx hb dL_said_36 (lv_at hl 0 rfl) ?_
      obtain ⟨r_19, hc_19, hf⟩ := bn1_ok hf
      refine gc_i (wc := (cf_yw cI hyw syw)) (wr := (cf_ytyzyuyv cI hyt hyz hyu hyv syt (upd (upd (upd syz (3 : Int32).toNatClampNeg (-1)) (9 : Int32).toNatClampNeg 0) (10 : Int32).toNatClampNeg (-1)) syu syv)) (w1 := (cf_yw cI hyw syw)) (ws' := (cf_ytyzywyuyv cI hyt hyz hyw hyu hyv syt (upd (upd (upd syz (3 : Int32).toNatClampNeg (-1)) (9 : Int32).toNatClampNeg 0) (10 : Int32).toNatClampNeg (-1)) syw syu syv)) hP hD hS hA [2] [0, 1, 3, 4] [0, 1, 4, 2, 3] rfl rfl (by decide) (by decide) rfl (by decide) (va_runS (As := [.ref hyw, .int (syz (1 : Int32).toNatClampNeg)]) (rest := [.int 3, .ref hyz]) ⟨hx, hb, hml, hown, hts⟩ (ktL_wrongOrder l dC dI cI hyw _ syw (syz (1 : Int32).toNatClampNeg) r_19 hc_19) (va_cwS 2 hts gL_said_L_wrongOrder rfl rfl rfl (by decide +kernel) ⟨Nat.le_of_ble_eq_true rfl, Nat.le_of_ble_eq_true rfl⟩) (gc_S (hP.sub (ws' := (cf_yw cI hyw syw)) [2] rfl) (hK.sub (tys' := [(cI, .int)]) [0] rfl) (hD.sub (ws' := (cf_yw cI hyw syw)) [2] (by decide) rfl) hN) rfl rfl hl.1 rfl (lv_room (Nat.le_of_ble_eq_true rfl)) dL_said_38 ⟨by show (0) + 0 ≤ 3; omega, by show (0) + 0 ≤ 72; omega⟩) (fun H locs hP hD hS => ?_)
      obtain ⟨hi_20, hf⟩ := ai_ok hf
      refine va_iast (n := 13) (f := (upd (upd (upd syz (3 : Int32).toNatClampNeg (-1)) (9 : Int32).toNatClampNeg 0) (10 : Int32).toNatClampNeg (-1))) hx hb hK hP hD hS 1 0 rfl rfl hi_20 dL_said_41 (fun H locs hP hD hS => ?_)
      obtain ⟨y_21, ey_21⟩ : ∃ y, y = (upd (upd (upd (upd syz (3 : Int32).toNatClampNeg (-1)) (9 : Int32).toNatClampNeg 0) (10 : Int32).toNatClampNeg (-1)) (3 : Int32).toNatClampNeg r_19) := ⟨_, rfl⟩
      have hf := bl_ok ey_21 hf
      have hP : va_P (dC, dI) vwCl (cf_ytyzywyuyv cI hyt hyz hyw hyu hyv syt (upd (upd (upd (upd syz (3 : Int32).toNatClampNeg (-1)) (9 : Int32).toNatClampNeg 0) (10 : Int32).toNatClampNeg (-1)) (3 : Int32).toNatClampNeg r_19) syw syu syv) H := hP
      have hD : va_D A (cf_ytyzywyuyv cI hyt hyz hyw hyu hyv syt (upd (upd (upd (upd syz (3 : Int32).toNatClampNeg (-1)) (9 : Int32).toNatClampNeg 0) (10 : Int32).toNatClampNeg (-1)) (3 : Int32).toNatClampNeg r_19) syw syu syv) := hD
      rw [← ey_21] at hP hD
      clear ey_21
      refine lv_aload_n hx hb dL_said_42 rfl (lv_at hl 2 rfl) ?_
      refine lv_iconst (v := 3) hx hb dL_said_43 (by decide) ?_
      obtain ⟨hi_22, hf⟩ := ai_ok hf
      refine va_iald (n := 13) (f := y_21) hx hb hK hP 1 0 rfl rfl hi_22 dL_said_44 ?_
      refine lv_if_lt (tgt := 50) hx hb dL_said_45 (by decide) (fun c_23 => ?_) (fun c_23 => ?_)
      · have hf := it_t c_23 hf
        refine lv_aload_n hx hb dL_said_50 rfl (lv_at hl 2 rfl) ?_
        refine lv_bipush (v := 12) hx hb dL_said_51 (by decide) ?_
        refine lv_iload hx hb dL_said_53 (lv_at hl 0 rfl) ?_
        obtain ⟨hi_24, hf⟩ := ai_ok hf
        refine va_iast (n := 13) (f := y_21) hx hb hK hP hD hS 1 0 rfl rfl hi_24 dL_said_55 (fun H locs hP hD hS => ?_)
        have hP : va_P (dC, dI) vwCl (cf_ytyzywyuyv cI hyt hyz hyw hyu hyv syt (upd y_21 (12 : Int32).toNatClampNeg (syz (1 : Int32).toNatClampNeg)) syw syu syv) H := hP
        have hD : va_D A (cf_ytyzywyuyv cI hyt hyz hyw hyu hyv syt (upd y_21 (12 : Int32).toNatClampNeg (syz (1 : Int32).toNatClampNeg)) syw syu syv) := hD
        refine lv_iconst (v := 0) hx hb dL_said_56 (by decide) ?_
        refine lv_istore (lv' := [(6, .int 0), (5, .int (syz (1 : Int32).toNatClampNeg)), (0, .ref hyt), (1, .ref hyz), (2, .ref hyw), (3, .ref hyu), (4, .ref hyv)]) hx hb dL_said_57 hl (by decide) rfl (fun ls hl => ?_)
        exact J59 64 syt (upd y_21 (12 : Int32).toNatClampNeg (syz (1 : Int32).toNatClampNeg)) syu syv (syz (1 : Int32).toNatClampNeg) 0 _ _ hP hD hS _ (lv_sub hl [2, 3, 4, 5, 6, 1, 0] rfl) hf
      · have hf := it_f c_23 hf
        refine lv_iconst (v := 4) hx hb dL_said_48 (by decide) ?_
        have hf : (some (4, syt, y_21, syu, syv) : Option (Int32 × Syt × Syz × Syu × Syv)) = some (r, sytf, syzf, syuf, syvf) := hf
        have he := Option.some.inj hf
        have he0 : 4 = r := congrArg (fun q => q.1) he
        have he1 : syt = sytf := congrArg (fun q => q.2.1) he
        have he2 : y_21 = syzf := congrArg (fun q => q.2.2.1) he
        have he3 : syu = syuf := congrArg (fun q => q.2.2.2.1) he
        have he4 : syv = syvf := congrArg (fun q => q.2.2.2.2) he
        refine W.widen (k := 3) (n := 72) (by omega) (by omega) ?_
        exact hret _ _ _ _ _ _ rfl he0 (by rw [← he1, ← he2, ← he3, ← he4]) dL_said_49 hP hD hS
  · have hf := it_t c_3 hf
    refine lv_iconst (v := 2) hx hb dL_said_14 (by decide) ?_
    have hf : (some (2, syt, (upd syz (3 : Int32).toNatClampNeg (-1)), syu, syv) : Option (Int32 × Syt × Syz × Syu × Syv)) = some (r, sytf, syzf, syuf, syvf) := hf
    have he := Option.some.inj hf
    have he0 : 2 = r := congrArg (fun q => q.1) he
    have he1 : syt = sytf := congrArg (fun q => q.2.1) he
    have he2 : (upd syz (3 : Int32).toNatClampNeg (-1)) = syzf := congrArg (fun q => q.2.2.1) he
    have he3 : syu = syuf := congrArg (fun q => q.2.2.2.1) he
    have he4 : syv = syvf := congrArg (fun q => q.2.2.2.2) he
    refine W.widen (k := 3) (n := 72) (by omega) (by omega) ?_
    exact hret _ _ _ _ _ _ rfl he0 (by rw [← he1, ← he2, ← he3, ← he4]) dL_said_15 hP hD hS
