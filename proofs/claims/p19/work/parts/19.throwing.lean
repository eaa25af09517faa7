def xIAE : String := "java/lang/IllegalArgumentException"
def xISE : String := "java/lang/IllegalStateException"
def xIOB : String := "java/lang/IndexOutOfBoundsException"
abbrev nmE : List String := ["java/lang/RuntimeException", "java/lang/Exception"]
def xwL : List Cond := [.castable xIAE xIAE, .castable xISE xISE, .castable xIOB xIOB, .declares ⟨"java/lang/RuntimeException", "<init>", "(Ljava/lang/String;)V"⟩, .declares ⟨"java/lang/Exception", "<init>", "(Ljava/lang/String;)V"⟩, .declares ⟨"java/lang/Throwable", "<init>", "(Ljava/lang/String;)V"⟩]
def xw (U : State) : Prop := ∀ w ∈ xwL, va_Nw w U
theorem xw_tab : ∀ w ∈ xwL, w.onTables = true := by decide +kernel
def xwOk : Cond → Bool
  | .castable _ _ => true
  | .declares _ => true
  | _ => false
theorem xw_ok : ∀ w ∈ xwL, xwOk w = true := by decide +kernel
theorem xw_same {u U : State} (h : u.vm = U.vm) (q : xw u) : xw U := fun w hw => va_Nw.same (xw_tab w hw) h (q w hw)
theorem xw_warm1 {s U : State} (hW : s.WarmedH U.vm) {w : Cond} (hw : xwOk w = true) (q : va_Nw w s) : va_Nw w U := by
  cases w <;> first | exact va_Nw.warmC hW q | exact va_Nw.warmD hW q | (simp [xwOk] at hw; done)
theorem xw_warm {s U : State} (hW : s.WarmedH U.vm) (q : xw s) : xw U := fun w hw => xw_warm1 hW (xw_ok w hw) (q w hw)
def swL : List (Nat × String) := [(64, "no such noun"), (69, "no such set of adjectives"), (76, "there are 12 things"), (89, "no such thing"), (110, "no such word"), (113, "there are 24 words"), (118, "there are no words")]
def sw (U : State) : Prop := ∀ q ∈ swL, ∃ sa, vk_R RX5 q.1 q.2 sa U
theorem sw_same {u U : State} (h : u.vm = U.vm) (q : sw u) : sw U := fun x hx => by
  obtain ⟨sa, hs⟩ := q x hx
  exact ⟨sa, vk_R.same h.symm hs⟩
theorem sw_warm {s U : State} (hW : s.WarmedH U.vm) (q : sw s) : sw U := fun x hx => by
  obtain ⟨sa, hs⟩ := q x hx
  exact ⟨sa, vk_R.warm hW hs⟩
def zq (A : Nat → Prop) (U : State) (H : Heap) : Prop := vx_Zq Bundle.tN "UNASSIGNED_STACK" Bundle.steD A U H ∧ vx_Zq Bundle.tN "SUPPRESSED_SENTINEL" Bundle.listD A U H
theorem zq.moved {A : Nat → Prop} {u U : State} {H : Heap} (hvm : u.vm.Alike U.vm) (h : zq A u H) : zq A U H := ⟨vx_Zq.moved hvm h.1, vx_Zq.moved hvm h.2⟩
theorem zq.kept {A : Nat → Prop} {U : State} {H H1 : Heap} (h : zq A U H) (hq : ∀ a : Nat, a < H.size → ¬ A a → H1[a]? = H[a]?) : zq A U H1 := ⟨vx_Zq.kept h.1 hq, vx_Zq.kept h.2 hq⟩
theorem zq.narrow {A B : Nat → Prop} {U : State} {H : Heap} (h : zq A U H) (hAB : ∀ q, B q → A q) : zq B U H := ⟨vx_Zq.narrow h.1 hAB, vx_Zq.narrow h.2 hAB⟩
abbrev pre_x (D : va_G) (ws : va_W) (tys : List (ClassId × FieldType)) (sz : Nat) (U : State) : Prop := pre_w D ws tys sz U ∧ sw U ∧ xw U ∧ zq (va_A ws sz) U U.heap
theorem prex_blind {D : va_G} {ws : va_W} {tys : List (ClassId × FieldType)} {sz : Nat} {av : List Value} : FrameBlind (va_Pc av (pre_x D ws tys sz)) := fun a U g mk q => by
  obtain ⟨q0, ⟨q1, qP, qK, qD, qN⟩, qS, qX, qZ⟩ := q
  exact ⟨q0, ⟨q1, qP, va_K.moved (u := U) (U := U.calling g mk a) (Vm.Alike.refl U.vm) qK, qD, nw_same (u := U) (U := U.calling g mk a) rfl qN⟩, sw_same (u := U) (U := U.calling g mk a) rfl qS, xw_same (u := U) (U := U.calling g mk a) rfl qX, zq.moved (u := U) (U := U.calling g mk a) (Vm.Alike.refl U.vm) qZ⟩
theorem gx_V {s : State} {H H0 : Heap} {locs : List Loc} {D : va_G} {ws wc : va_W} {tys : List (ClassId × FieldType)} {A : Nat → Prop} {As : List Value} {a ci q0 N : Nat} {C : String} {T : u_T} {fs : List Value} (hP : va_P D vwCl wc H) (hK : va_K D vwCl tys s) (hD : va_D A wc) (hN : nw s) (hSW : sw s) (hXW : xw s) (hZ : zq A s H) (hF : ∀ q, va_A wc H.size q → A q) (hc : vwCl[ci]? = some (C, T, N)) (he : wc[q0]? = some (a, .inr (ci, fs))) : PreV s H C a (va_Pc (.ref a :: As) (pre_x D wc tys H.size)) As :=
  ⟨prex_blind, va_recv hK hP hc he, fun U hU hW => ⟨rfl, ⟨by rw [hU], by rw [hU]; exact hP, va_K.moved hW.alike hK, hD.weaken (fun _ _ _ _ => trivial), nw_warm hW hN⟩, sw_warm hW hSW, xw_warm hW hXW, by rw [hU]; exact zq.moved hW.alike (zq.narrow hZ hF)⟩⟩
section GMX
variable {l : Launch} {y : MethodName} {ws ws' : List Cond} {rm : Room} {cc : ByteArray} {maxL : Nat} {av : List Value} {w0 w1 : va_W} {tys : List (ClassId × FieldType)} {D : va_G} {sz : Nat}
theorem gm_x {ty : FieldType} {k r : Int32} {xe : String → Int32 → Prop} (hst : l.stackTraces = false) (hy : plainName y.cls = true) (hw : ws = Cond.code y cc maxL (some ty) :: ws') (hav : (lg_sl av).length ≤ maxL)
    (hfr : 5 < rm.frames) (hlo : 82 ≤ rm.locals) (hcl : 1 ≤ rm.cells) (hsl : 6 ≤ rm.slots)
    (body : ∀ (p : Program) (e : Env) (s : State) (m : MethodId) (below : List Frame) (meth : Method) (c : Code) (A : Nat → Prop) (QQ : State → Prop) (ls : Array Slot),
      p.tables.exec = Jvm.exec → c.code = cc → c.maxLocals = maxL → s.vm.findClass y.cls = some m.cls → (∀ w ∈ ws, w.before av.toArray s = true) → va_K D vwCl tys s → nw s → sw s → xw s → (∀ q : Nat, s.heap.size ≤ q → A q) → va_P D vwCl w0 s.heap → va_D A w0 → va_S A s.heap s.heap [] → lv_has ls maxL (lv_args 0 av) →
      (∀ (H : Heap) (locs : List Loc) (pc : Nat) (ls : Array Slot) (v : Int32) (w : va_W), narrow ty (.int v) = .int v → k = 0 → v = r → w = w1 → decode cc pc = .ok (.ireturn, 1) → va_P D vwCl w H → va_D A w → va_S A s.heap H locs → W p l e rm s m av.toArray below meth c H locs 0 0 QQ (F0 m pc ls [.int v])) →
      (∀ (H : Heap) (locs : List Loc) (pc : Nat) (ls : Array Slot) (cls text : String) (ik is ic : Nat), xe cls k → Bundle.fit cls = true → (Cond.classLink y.cls ik cls).before av.toArray s = true → (Cond.initialized cls).before av.toArray s = true → (∃ sa, vk_R y.cls is text sa s) → (∀ w ∈ vx_atS y.cls ic cls nmE, w.before av.toArray s = true) → (∀ w ∈ Cond.classLink y.cls ik cls :: Cond.initialized cls :: vx_atS y.cls ic cls nmE, vx_ot w = true) → ls.size = maxL →
        decode cc pc = .ok (.new ik, 3) → decode cc (pc + 3) = .ok (.dup, 1) → decode cc (pc + 4) = .ok (.ldc is, 2) → decode cc (pc + 6) = .ok (.invokespecial ic, 3) → decode cc (pc + 9) = .ok (.athrow, 1) →
        va_P D vwCl w0 H → va_D A w0 → va_S A s.heap H locs → W p l e rm s m av.toArray below meth c H locs 0 0 QQ (F0 m pc ls [])) →
      W p l e rm s m av.toArray below meth c s.heap [] 0 0 QQ (F0 m 0 ls [])) :
    vx_Met l y ws rm (va_Pc av (pre_x D w0 tys sz)) (va_Qi (fun (r' : Int32) (_ : Unit) => k = 0 ∧ r' = r) (post_w D w1 tys (va_A w0 sz)) (va_A w0 sz)) (vx_X (fun (_ : Unit) => True) (fun E u t => xe E k ∧ post_w D w0 tys (va_A w0 sz) u t) (va_A w0 sz)) 1 6 (va_A w0 sz) := by
  refine vx_ofW (cc := cc) (maxL := maxL) (ret := some ty) hy hw ?_
  intro p e s m args below meth c s₁ B hml htab hv
  obtain ⟨rfl, ⟨hsz, hP, hK, hD0, hN⟩, hSW, hXW, hZ⟩ := hv
  have hx := B.exec
  have hb := B.bytes
  have hr := B.returns
  have hts := atoms_spec (ws := ws) B.pre
  have hown : s.vm.findClass y.cls = some m.cls := findClass_of_methodNamed B.named
  have hlocks := B.notSynchronized
  subst hsz
  have hD := hD0.self (sz := s.heap.size)
  have hl := lv_entry av (n := maxL) hav
  rw [lg_entry_eq]
  refine body p e s m below meth c (va_A w0 s.heap.size) _ _ hx hb hml hown hts hK hN hSW hXW (fun q h => Or.inr h) hP hD va_S.rf hl ?_ ?_
  · intro H locs pc ls v w hn hk hvr hww hdg hP' hD' hS'
    subst hww
    refine W.widen (k := 1) (n := 6) (Nat.zero_le _) (Nat.zero_le _) ?_
    exact vx_ret (W.zret (v := v) (ty := ty) hx hb hr hn (fun t ht hW => ⟨⟨v, (), rfl, ⟨hk, hvr⟩, by rw [ht]; exact hP', va_K.moved hW.alike hK, hD'⟩, hS'.F ht⟩) hS'.2.2 hdg)
  · intro H locs pc ls cls text ik is ic hxe hfit hlk hini hstr hat hgood hsize d0 d3 d4 d6 d9 hP' hD' hS'
    obtain ⟨sa, hstr⟩ := hstr
    refine vx_throwS hx hb hst hown hfit (by decide +kernel) hlk hini hstr hat hgood hZ.1 hZ.2 hS' (hsize.trans hml.symm) d0 d3 d4 d6 d9 (fun x hx => absurd (htab x hx) id) hfr hlo hcl hsl hlocks (fun t ht hz hq => ?_) hS'.2.2 (Nat.le_refl 1) (Nat.le_refl 6)
    refine ⟨(), trivial, ⟨hxe, va_P.kept hP' (fun k q hk => hq q.1 ((hP' k q hk).lt)), va_K.moved ht hK, hD'⟩, Nat.le_trans hS'.1 hz, fun q h1 h2 => ?_⟩
    rw [hq q (Nat.lt_of_lt_of_le h1 hS'.1)]
    exact hS'.2.1 q h1 h2
end GMX
abbrev cf_35 (cI : ClassId) (h3 h3a0 h5 h4 h2 h1 h0 : Nat) (s3 : S3) (s5 : S5) : va_W := [(h3, .inr (3, [.ref h3a0, .int (S3_count s3), .int (S3_place s3), .int (S3_adjectives s3), .int (S3_noun s3)])), (h3a0, .inl (cI, 24, .inl (S3_given s3))), (h5, .inr (5, [.ref h4, .ref h3, .ref h2, .ref h1, .ref h0, .int (S5_lastOutcome s5), .int (S5_wrongPlace s5), .int (S5_askedThings s5), .int (S5_askedPhrase s5), .int (S5_questionCount s5)]))]
abbrev rmX5_thing : Room := { frames := 6, cells := 1, slots := 6, locals := 82 }
set_option maxHeartbeats 2000000 in
set_option maxRecDepth 100000 in
theorem ktX5_thing (l : Launch) (hst : l.stackTraces = false) (dC : Nat → ClassId) (dI : Nat → Nat → Nat) (cI : ClassId) (h4 h4a0 h4a1 h4a2 h5 h3 h2 h1 h0 : Nat) (sz : Nat) (s4 : S4) (s5 : S5) (a1 : Int32) (a2 : Int32) (a3 : Int32) (k : Int32) (r : Int32) (s4f : S4) (hf : fX5_thing s4 s5 a1 a2 a3 = some (k, r, s4f)) : vx_Met l yX5_thing wsX5_thing rmX5_thing (va_Pc [.ref h5, .int a1, .int a2, .int a3] (pre_x (dC, dI) (cf_45 cI h4 h4a0 h4a1 h4a2 h5 h3 h2 h1 h0 s4 s5) [(cI, .int)] sz)) (va_Qi (fun (r' : Int32) (_ : Unit) => k = 0 ∧ r' = r) (post_w (dC, dI) (cf_45 cI h4 h4a0 h4a1 h4a2 h5 h3 h2 h1 h0 s4f s5) [(cI, .int)] (va_A (cf_45 cI h4 h4a0 h4a1 h4a2 h5 h3 h2 h1 h0 s4 s5) sz)) (va_A (cf_45 cI h4 h4a0 h4a1 h4a2 h5 h3 h2 h1 h0 s4 s5) sz)) (vx_X (fun (_ : Unit) => True) (fun E u t => ((E = "java/lang/IllegalArgumentException" ∧ k = 1) ∨ (E = "java/lang/IllegalStateException" ∧ k = 2)) ∧ post_w (dC, dI) (cf_45 cI h4 h4a0 h4a1 h4a2 h5 h3 h2 h1 h0 s4 s5) [(cI, .int)] (va_A (cf_45 cI h4 h4a0 h4a1 h4a2 h5 h3 h2 h1 h0 s4 s5) sz) u t) (va_A (cf_45 cI h4 h4a0 h4a1 h4a2 h5 h3 h2 h1 h0 s4 s5) sz)) 1 6 (va_A (cf_45 cI h4 h4a0 h4a1 h4a2 h5 h3 h2 h1 h0 s4 s5) sz) := by
  refine gm_x (ty := .int) (xe := fun E k => (E = "java/lang/IllegalArgumentException" ∧ k = 1) ∨ (E = "java/lang/IllegalStateException" ∧ k = 2)) (cc := cX5_thing) (maxL := 4) hst (by decide) rfl (Nat.le_of_ble_eq_true rfl) (Nat.le_of_ble_eq_true rfl) (Nat.le_of_ble_eq_true rfl) (Nat.le_of_ble_eq_true rfl) (Nat.le_of_ble_eq_true rfl) ?_
  intro p e s m below meth c A QQ ls hx hb hml hown hts hK hN hSW hXW hA hP hD hS hl hret hthr
  have hown : s.vm.findClass RX5 = some m.cls := hown
  have hl : lv_has ls 4 [(0, .ref h5), (1, .int a1), (2, .int a2), (3, .int a3)] := hl
  have in5 : ∀ w ∈ u_ws RX5 TX5 10, w ∈ wsX5_thing := by decide +kernel
  have fl12 := hts (.fieldLink RX5 12 "ParserParlour" "world" "LParserParlour$World;") (by decide +kernel)
  have in4 : ∀ w ∈ u_ws RX4 TX4 6, w ∈ wsX5_thing := by decide +kernel
  have fl71 := va_Nw.use (A := ([.ref h5, .int a1, .int a2, .int a3] : List Value).toArray) (by rfl) (hN _ (List.mem_of_getElem? (i := 0) rfl))
  unfold fX5_thing at hf
  refine lv_iload_n hx hb dX5_thing_0 rfl (lv_at hl 1 rfl) ?_
  refine lv_if_lt (tgt := 10) hx hb dX5_thing_1 (by decide) (fun c_1 => ?_) (fun c_1 => ?_)
  · have hf := it_t c_1 hf
    have hf : (some (1, 0, s4) : Option (Int32 × Int32 × S4)) = some (k, r, s4f) := hf
    have he0 : 1 = k := congrArg (fun q => q.1) (Option.some.inj hf)
    exact hthr _ _ _ _ "java/lang/IllegalArgumentException" "no such noun" 62 64 66 (Or.inl ⟨rfl, he0.symm⟩) (by decide +kernel) (hts (.classLink RX5 62 "java/lang/IllegalArgumentException") (by decide +kernel)) (hts (.initialized "java/lang/IllegalArgumentException") (by decide +kernel)) (hSW (64, "no such noun") (List.mem_of_getElem? (i := 0) rfl)) (vx_hat (L := vx_atS RX5 66 "java/lang/IllegalArgumentException" nmE) (B := xwL) (fun w hw => hts w ((by decide +kernel : ∀ w ∈ (vx_atS RX5 66 "java/lang/IllegalArgumentException" nmE).filter goodWord, w ∈ wsX5_thing) w hw)) (by decide +kernel) (fun w hw => va_Nw.use (xw_tab w hw) (hXW w hw))) (by decide +kernel) hl.1 dX5_thing_10 dX5_thing_13 dX5_thing_14 dX5_thing_16 dX5_thing_19 hP hD hS
  · have hf := it_f c_1 hf
    refine lv_iload_n hx hb dX5_thing_4 rfl (lv_at hl 1 rfl) ?_
    refine lv_bipush (v := 8) hx hb dX5_thing_5 (by decide) ?_
    refine lv_icmp_lt (tgt := 20) hx hb dX5_thing_7 (by decide) (fun c_2 => ?_) (fun c_2 => ?_)
    · have hf := it_t c_2 hf
      refine lv_iload_n hx hb dX5_thing_20 rfl (lv_at hl 2 rfl) ?_
      refine lv_if_lt (tgt := 30) hx hb dX5_thing_21 (by decide) (fun c_3 => ?_) (fun c_3 => ?_)
      · have hf := it_t c_3 hf
        have hf : (some (1, 0, s4) : Option (Int32 × Int32 × S4)) = some (k, r, s4f) := hf
        have he0 : 1 = k := congrArg (fun q => q.1) (Option.some.inj hf)
        exact hthr _ _ _ _ "java/lang/IllegalArgumentException" "no such set of adjectives" 62 69 66 (Or.inl ⟨rfl, he0.symm⟩) (by decide +kernel) (hts (.classLink RX5 62 "java/lang/IllegalArgumentException") (by decide +kernel)) (hts (.initialized "java/lang/IllegalArgumentException") (by decide +kernel)) (hSW (69, "no such set of adjectives") (List.mem_of_getElem? (i := 1) rfl)) (vx_hat (L := vx_atS RX5 66 "java/lang/IllegalArgumentException" nmE) (B := xwL) (fun w hw => hts w ((by decide +kernel : ∀ w ∈ (vx_atS RX5 66 "java/lang/IllegalArgumentException" nmE).filter goodWord, w ∈ wsX5_thing) w hw)) (by decide +kernel) (fun w hw => va_Nw.use (xw_tab w hw) (hXW w hw))) (by decide +kernel) hl.1 dX5_thing_30 dX5_thing_33 dX5_thing_34 dX5_thing_36 dX5_thing_39 hP hD hS
      · have hf := it_f c_3 hf
        refine lv_iload_n hx hb dX5_thing_24 rfl (lv_at hl 2 rfl) ?_
        refine lv_bipush (v := 64) hx hb dX5_thing_25 (by decide) ?_
        refine lv_icmp_lt (tgt := 40) hx hb dX5_thing_27 (by decide) (fun c_4 => ?_) (fun c_4 => ?_)
        · have hf := it_t c_4 hf
          refine lv_aload_n hx hb dX5_thing_40 rfl (lv_at hl 0 rfl) ?_
          refine va_get (D := (dC, dI)) (ci := 5) (v := .ref h4) (C := RX5) (T := TX5) (N := 10) hx hb hts in5 hown hK hP 4 rfl rfl 0 (by decide) fl12 (fun _ h9 => h9) rfl dX5_thing_41 ?_
          refine va_getN (D := (dC, dI)) (ci := 4) (v := .int (S4_count s4)) (C := RX4) (T := TX4) (N := 6) hx hb hts in4 hown hK hP 0 rfl rfl 3 (by decide) fl71 (fun _ h9 => h9) rfl dX5_thing_44 ?_
          refine lv_bipush (v := 12) hx hb dX5_thing_47 (by decide) ?_
          refine lv_icmp_lt (tgt := 62) hx hb dX5_thing_49 (by decide) (fun c_5 => ?_) (fun c_5 => ?_)
          · have hf := it_t c_5 hf
            refine lv_aload_n hx hb dX5_thing_62 rfl (lv_at hl 0 rfl) ?_
            refine va_get (D := (dC, dI)) (ci := 5) (v := .ref h4) (C := RX5) (T := TX5) (N := 10) hx hb hts in5 hown hK hP 4 rfl rfl 0 (by decide) fl12 (fun _ h9 => h9) rfl dX5_thing_63 ?_
            refine lv_iload_n hx hb dX5_thing_66 rfl (lv_at hl 1 rfl) ?_
            refine lv_iload_n hx hb dX5_thing_67 rfl (lv_at hl 2 rfl) ?_
            refine lv_iload_n hx hb dX5_thing_68 rfl (lv_at hl 3 rfl) ?_
            obtain ⟨r_6, s4_6, hc_6, hf⟩ := bn2_ok hf
            refine gc_i (wc := (cf_4 cI h4 h4a0 h4a1 h4a2 s4)) (wr := (cf_5 cI h5 h4 h3 h2 h1 h0 s5)) (w1 := (cf_4 cI h4 h4a0 h4a1 h4a2 s4_6)) (ws' := (cf_45 cI h4 h4a0 h4a1 h4a2 h5 h3 h2 h1 h0 s4_6 s5)) hP hD hS hA [0, 1, 2, 3] [4] [1, 2, 3, 4, 0] rfl rfl (by decide) (by decide) rfl (by decide) (va_runV (As := [.int a1, .int a2, .int a3]) (rest := []) ⟨hx, hb, hml, hown, hts⟩ (ktX4_add l dC dI cI h4 h4a0 h4a1 h4a2 _ s4 a1 a2 a3 r_6 s4_6 hc_6) (cwV 3 hts gX5_thing_X4_add rfl rfl rfl (by decide +kernel) ⟨Nat.le_of_ble_eq_true rfl, Nat.le_of_ble_eq_true rfl⟩) (gc_V (ci := 4) (q0 := 0) (C := RX4) (T := TX4) (N := 6) (hP.sub (ws' := (cf_4 cI h4 h4a0 h4a1 h4a2 s4)) [0, 1, 2, 3] rfl) (hK.sub (tys' := [(cI, .int)]) [0] rfl) (hD.sub (ws' := (cf_4 cI h4 h4a0 h4a1 h4a2 s4)) [0, 1, 2, 3] (by decide) rfl) hN rfl rfl) rfl rfl hl.1 rfl (lv_room (Nat.le_of_ble_eq_true rfl)) dX5_thing_69 ⟨Nat.zero_le _, Nat.zero_le _⟩) (fun H locs hP hD hS => ?_)
            have hf : (some (0, r_6, s4_6) : Option (Int32 × Int32 × S4)) = some (k, r, s4f) := hf
            have he := Option.some.inj hf
            have he0 : 0 = k := congrArg (fun q => q.1) he
            have he1 : r_6 = r := congrArg (fun q => q.2.1) he
            have he2 : s4_6 = s4f := congrArg (fun q => q.2.2) he
            exact hret _ _ _ _ _ _ rfl he0.symm he1 (by rw [← he2]) dX5_thing_72 hP hD hS
          · have hf := it_f c_5 hf
            have hf : (some (2, 0, s4) : Option (Int32 × Int32 × S4)) = some (k, r, s4f) := hf
            have he0 : 2 = k := congrArg (fun q => q.1) (Option.some.inj hf)
            exact hthr _ _ _ _ "java/lang/IllegalStateException" "there are 12 things" 74 76 78 (Or.inr ⟨rfl, he0.symm⟩) (by decide +kernel) (hts (.classLink RX5 74 "java/lang/IllegalStateException") (by decide +kernel)) (hts (.initialized "java/lang/IllegalStateException") (by decide +kernel)) (hSW (76, "there are 12 things") (List.mem_of_getElem? (i := 2) rfl)) (vx_hat (L := vx_atS RX5 78 "java/lang/IllegalStateException" nmE) (B := xwL) (fun w hw => hts w ((by decide +kernel : ∀ w ∈ (vx_atS RX5 78 "java/lang/IllegalStateException" nmE).filter goodWord, w ∈ wsX5_thing) w hw)) (by decide +kernel) (fun w hw => va_Nw.use (xw_tab w hw) (hXW w hw))) (by decide +kernel) hl.1 dX5_thing_52 dX5_thing_55 dX5_thing_56 dX5_thing_58 dX5_thing_61 hP hD hS
        · have hf := it_f c_4 hf
          have hf : (some (1, 0, s4) : Option (Int32 × Int32 × S4)) = some (k, r, s4f) := hf
          have he0 : 1 = k := congrArg (fun q => q.1) (Option.some.inj hf)
          exact hthr _ _ _ _ "java/lang/IllegalArgumentException" "no such set of adjectives" 62 69 66 (Or.inl ⟨rfl, he0.symm⟩) (by decide +kernel) (hts (.classLink RX5 62 "java/lang/IllegalArgumentException") (by decide +kernel)) (hts (.initialized "java/lang/IllegalArgumentException") (by decide +kernel)) (hSW (69, "no such set of adjectives") (List.mem_of_getElem? (i := 1) rfl)) (vx_hat (L := vx_atS RX5 66 "java/lang/IllegalArgumentException" nmE) (B := xwL) (fun w hw => hts w ((by decide +kernel : ∀ w ∈ (vx_atS RX5 66 "java/lang/IllegalArgumentException" nmE).filter goodWord, w ∈ wsX5_thing) w hw)) (by decide +kernel) (fun w hw => va_Nw.use (xw_tab w hw) (hXW w hw))) (by decide +kernel) hl.1 dX5_thing_30 dX5_thing_33 dX5_thing_34 dX5_thing_36 dX5_thing_39 hP hD hS
    · have hf := it_f c_2 hf
      have hf : (some (1, 0, s4) : Option (Int32 × Int32 × S4)) = some (k, r, s4f) := hf
      have he0 : 1 = k := congrArg (fun q => q.1) (Option.some.inj hf)
      exact hthr _ _ _ _ "java/lang/IllegalArgumentException" "no such noun" 62 64 66 (Or.inl ⟨rfl, he0.symm⟩) (by decide +kernel) (hts (.classLink RX5 62 "java/lang/IllegalArgumentException") (by decide +kernel)) (hts (.initialized "java/lang/IllegalArgumentException") (by decide +kernel)) (hSW (64, "no such noun") (List.mem_of_getElem? (i := 0) rfl)) (vx_hat (L := vx_atS RX5 66 "java/lang/IllegalArgumentException" nmE) (B := xwL) (fun w hw => hts w ((by decide +kernel : ∀ w ∈ (vx_atS RX5 66 "java/lang/IllegalArgumentException" nmE).filter goodWord, w ∈ wsX5_thing) w hw)) (by decide +kernel) (fun w hw => va_Nw.use (xw_tab w hw) (hXW w hw))) (by decide +kernel) hl.1 dX5_thing_10 dX5_thing_13 dX5_thing_14 dX5_thing_16 dX5_thing_19 hP hD hS
abbrev rmX5_placeOf : Room := { frames := 6, cells := 1, slots := 6, locals := 82 }
set_option maxHeartbeats 2000000 in
set_option maxRecDepth 100000 in
theorem ktX5_placeOf (l : Launch) (hst : l.stackTraces = false) (dC : Nat → ClassId) (dI : Nat → Nat → Nat) (cI : ClassId) (h4 h4a0 h4a1 h4a2 h5 h3 h2 h1 h0 : Nat) (sz : Nat) (s4 : S4) (s5 : S5) (a1 : Int32) (k : Int32) (r : Int32) (hf : fX5_placeOf s4 s5 a1 = some (k, r)) : vx_Met l yX5_placeOf wsX5_placeOf rmX5_placeOf (va_Pc [.ref h5, .int a1] (pre_x (dC, dI) (cf_45 cI h4 h4a0 h4a1 h4a2 h5 h3 h2 h1 h0 s4 s5) [(cI, .int)] sz)) (va_Qi (fun (r' : Int32) (_ : Unit) => k = 0 ∧ r' = r) (post_w (dC, dI) (cf_45 cI h4 h4a0 h4a1 h4a2 h5 h3 h2 h1 h0 s4 s5) [(cI, .int)] (va_A (cf_45 cI h4 h4a0 h4a1 h4a2 h5 h3 h2 h1 h0 s4 s5) sz)) (va_A (cf_45 cI h4 h4a0 h4a1 h4a2 h5 h3 h2 h1 h0 s4 s5) sz)) (vx_X (fun (_ : Unit) => True) (fun E u t => ((E = "java/lang/IndexOutOfBoundsException" ∧ k = 1)) ∧ post_w (dC, dI) (cf_45 cI h4 h4a0 h4a1 h4a2 h5 h3 h2 h1 h0 s4 s5) [(cI, .int)] (va_A (cf_45 cI h4 h4a0 h4a1 h4a2 h5 h3 h2 h1 h0 s4 s5) sz) u t) (va_A (cf_45 cI h4 h4a0 h4a1 h4a2 h5 h3 h2 h1 h0 s4 s5) sz)) 1 6 (va_A (cf_45 cI h4 h4a0 h4a1 h4a2 h5 h3 h2 h1 h0 s4 s5) sz) := by
  refine gm_x (ty := .int) (xe := fun E k => (E = "java/lang/IndexOutOfBoundsException" ∧ k = 1)) (cc := cX5_placeOf) (maxL := 2) hst (by decide) rfl (Nat.le_of_ble_eq_true rfl) (Nat.le_of_ble_eq_true rfl) (Nat.le_of_ble_eq_true rfl) (Nat.le_of_ble_eq_true rfl) (Nat.le_of_ble_eq_true rfl) ?_
  intro p e s m below meth c A QQ ls hx hb hml hown hts hK hN hSW hXW hA hP hD hS hl hret hthr
  have hown : s.vm.findClass RX5 = some m.cls := hown
  have hl : lv_has ls 2 [(0, .ref h5), (1, .int a1)] := hl
  have in5 : ∀ w ∈ u_ws RX5 TX5 10, w ∈ wsX5_placeOf := by decide +kernel
  have fl12 := hts (.fieldLink RX5 12 "ParserParlour" "world" "LParserParlour$World;") (by decide +kernel)
  unfold fX5_placeOf at hf
  refine lv_aload_n hx hb dX5_placeOf_0 rfl (lv_at hl 0 rfl) ?_
  refine va_get (D := (dC, dI)) (ci := 5) (v := .ref h4) (C := RX5) (T := TX5) (N := 10) hx hb hts in5 hown hK hP 4 rfl rfl 0 (by decide) fl12 (fun _ h9 => h9) rfl dX5_placeOf_1 ?_
  refine lv_iload_n hx hb dX5_placeOf_4 rfl (lv_at hl 1 rfl) ?_
  obtain ⟨r_1, hc_1, hf⟩ := bn1_ok hf
  refine gc_i (wc := (cf_4 cI h4 h4a0 h4a1 h4a2 s4)) (wr := (cf_5 cI h5 h4 h3 h2 h1 h0 s5)) (w1 := (cf_4 cI h4 h4a0 h4a1 h4a2 s4)) (ws' := (cf_45 cI h4 h4a0 h4a1 h4a2 h5 h3 h2 h1 h0 s4 s5)) hP hD hS hA [0, 1, 2, 3] [4] [1, 2, 3, 4, 0] rfl rfl (by decide) (by decide) rfl (by decide) (va_runV (As := [.int a1]) (rest := []) ⟨hx, hb, hml, hown, hts⟩ (ktX4_has l dC dI cI h4 h4a0 h4a1 h4a2 _ s4 a1 r_1 hc_1) (cwV 1 hts gX5_placeOf_X4_has rfl rfl rfl (by decide +kernel) ⟨Nat.le_of_ble_eq_true rfl, Nat.le_of_ble_eq_true rfl⟩) (gc_V (ci := 4) (q0 := 0) (C := RX4) (T := TX4) (N := 6) (hP.sub (ws' := (cf_4 cI h4 h4a0 h4a1 h4a2 s4)) [0, 1, 2, 3] rfl) (hK.sub (tys' := [(cI, .int)]) [0] rfl) (hD.sub (ws' := (cf_4 cI h4 h4a0 h4a1 h4a2 s4)) [0, 1, 2, 3] (by decide) rfl) hN rfl rfl) rfl rfl hl.1 rfl (lv_room (Nat.le_of_ble_eq_true rfl)) dX5_placeOf_5 ⟨Nat.zero_le _, Nat.zero_le _⟩) (fun H locs hP hD hS => ?_)
  refine lv_if_ne (tgt := 21) hx hb dX5_placeOf_8 (by decide) (fun c_2 => ?_) (fun c_2 => ?_)
  · have hf := it_f c_2 hf
    refine lv_aload_n hx hb dX5_placeOf_21 rfl (lv_at hl 0 rfl) ?_
    refine va_get (D := (dC, dI)) (ci := 5) (v := .ref h4) (C := RX5) (T := TX5) (N := 10) hx hb hts in5 hown hK hP 4 rfl rfl 0 (by decide) fl12 (fun _ h9 => h9) rfl dX5_placeOf_22 ?_
    refine lv_iload_n hx hb dX5_placeOf_25 rfl (lv_at hl 1 rfl) ?_
    obtain ⟨r_3, hc_3, hf⟩ := bn1_ok hf
    refine gc_i (wc := (cf_4 cI h4 h4a0 h4a1 h4a2 s4)) (wr := (cf_5 cI h5 h4 h3 h2 h1 h0 s5)) (w1 := (cf_4 cI h4 h4a0 h4a1 h4a2 s4)) (ws' := (cf_45 cI h4 h4a0 h4a1 h4a2 h5 h3 h2 h1 h0 s4 s5)) hP hD hS hA [0, 1, 2, 3] [4] [1, 2, 3, 4, 0] rfl rfl (by decide) (by decide) rfl (by decide) (va_runV (As := [.int a1]) (rest := []) ⟨hx, hb, hml, hown, hts⟩ (ktX4_holderOf l dC dI cI h4 h4a0 h4a1 h4a2 _ s4 a1 r_3 hc_3) (cwV 1 hts gX5_placeOf_X4_holderOf rfl rfl rfl (by decide +kernel) ⟨Nat.le_of_ble_eq_true rfl, Nat.le_of_ble_eq_true rfl⟩) (gc_V (ci := 4) (q0 := 0) (C := RX4) (T := TX4) (N := 6) (hP.sub (ws' := (cf_4 cI h4 h4a0 h4a1 h4a2 s4)) [0, 1, 2, 3] rfl) (hK.sub (tys' := [(cI, .int)]) [0] rfl) (hD.sub (ws' := (cf_4 cI h4 h4a0 h4a1 h4a2 s4)) [0, 1, 2, 3] (by decide) rfl) hN rfl rfl) rfl rfl hl.1 rfl (lv_room (Nat.le_of_ble_eq_true rfl)) dX5_placeOf_26 ⟨Nat.zero_le _, Nat.zero_le _⟩) (fun H locs hP hD hS => ?_)
    have hf : (some (0, r_3) : Option (Int32 × Int32)) = some (k, r) := hf
    have he := Option.some.inj hf
    have he0 : 0 = k := congrArg (fun q => q.1) he
    have he1 : r_3 = r := congrArg (fun q => q.2) he
    exact hret _ _ _ _ _ _ rfl he0.symm he1 rfl dX5_placeOf_29 hP hD hS
  · have hf := it_t c_2 hf
    have hf : (some (1, 0) : Option (Int32 × Int32)) = some (k, r) := hf
    have he0 : 1 = k := congrArg (fun q => q.1) (Option.some.inj hf)
    exact hthr _ _ _ _ "java/lang/IndexOutOfBoundsException" "no such thing" 87 89 91 (⟨rfl, he0.symm⟩) (by decide +kernel) (hts (.classLink RX5 87 "java/lang/IndexOutOfBoundsException") (by decide +kernel)) (hts (.initialized "java/lang/IndexOutOfBoundsException") (by decide +kernel)) (hSW (89, "no such thing") (List.mem_of_getElem? (i := 3) rfl)) (vx_hat (L := vx_atS RX5 91 "java/lang/IndexOutOfBoundsException" nmE) (B := xwL) (fun w hw => hts w ((by decide +kernel : ∀ w ∈ (vx_atS RX5 91 "java/lang/IndexOutOfBoundsException" nmE).filter goodWord, w ∈ wsX5_placeOf) w hw)) (by decide +kernel) (fun w hw => va_Nw.use (xw_tab w hw) (hXW w hw))) (by decide +kernel) hl.1 dX5_placeOf_11 dX5_placeOf_14 dX5_placeOf_15 dX5_placeOf_17 dX5_placeOf_20 hP hD hS
abbrev rmX5_isOpen : Room := { frames := 6, cells := 1, slots := 6, locals := 82 }
set_option maxHeartbeats 2000000 in
set_option maxRecDepth 100000 in
theorem ktX5_isOpen (l : Launch) (hst : l.stackTraces = false) (dC : Nat → ClassId) (dI : Nat → Nat → Nat) (cI : ClassId) (h4 h4a0 h4a1 h4a2 h5 h3 h2 h1 h0 : Nat) (sz : Nat) (s4 : S4) (s5 : S5) (a1 : Int32) (k : Int32) (r : Int32) (hf : fX5_isOpen s4 s5 a1 = some (k, r)) : vx_Met l yX5_isOpen wsX5_isOpen rmX5_isOpen (va_Pc [.ref h5, .int a1] (pre_x (dC, dI) (cf_45 cI h4 h4a0 h4a1 h4a2 h5 h3 h2 h1 h0 s4 s5) [(cI, .int)] sz)) (va_Qi (fun (r' : Int32) (_ : Unit) => k = 0 ∧ r' = r) (post_w (dC, dI) (cf_45 cI h4 h4a0 h4a1 h4a2 h5 h3 h2 h1 h0 s4 s5) [(cI, .int)] (va_A (cf_45 cI h4 h4a0 h4a1 h4a2 h5 h3 h2 h1 h0 s4 s5) sz)) (va_A (cf_45 cI h4 h4a0 h4a1 h4a2 h5 h3 h2 h1 h0 s4 s5) sz)) (vx_X (fun (_ : Unit) => True) (fun E u t => ((E = "java/lang/IndexOutOfBoundsException" ∧ k = 1)) ∧ post_w (dC, dI) (cf_45 cI h4 h4a0 h4a1 h4a2 h5 h3 h2 h1 h0 s4 s5) [(cI, .int)] (va_A (cf_45 cI h4 h4a0 h4a1 h4a2 h5 h3 h2 h1 h0 s4 s5) sz) u t) (va_A (cf_45 cI h4 h4a0 h4a1 h4a2 h5 h3 h2 h1 h0 s4 s5) sz)) 1 6 (va_A (cf_45 cI h4 h4a0 h4a1 h4a2 h5 h3 h2 h1 h0 s4 s5) sz) := by
  refine gm_x (ty := .boolean) (xe := fun E k => (E = "java/lang/IndexOutOfBoundsException" ∧ k = 1)) (cc := cX5_isOpen) (maxL := 2) hst (by decide) rfl (Nat.le_of_ble_eq_true rfl) (Nat.le_of_ble_eq_true rfl) (Nat.le_of_ble_eq_true rfl) (Nat.le_of_ble_eq_true rfl) (Nat.le_of_ble_eq_true rfl) ?_
  intro p e s m below meth c A QQ ls hx hb hml hown hts hK hN hSW hXW hA hP hD hS hl hret hthr
  have hown : s.vm.findClass RX5 = some m.cls := hown
  have hl : lv_has ls 2 [(0, .ref h5), (1, .int a1)] := hl
  have in5 : ∀ w ∈ u_ws RX5 TX5 10, w ∈ wsX5_isOpen := by decide +kernel
  have fl12 := hts (.fieldLink RX5 12 "ParserParlour" "world" "LParserParlour$World;") (by decide +kernel)
  have in4 : ∀ w ∈ u_ws RX4 TX4 6, w ∈ wsX5_isOpen := by decide +kernel
  have fl96 := va_Nw.use (A := ([.ref h5, .int a1] : List Value).toArray) (by rfl) (hN _ (List.mem_of_getElem? (i := 1) rfl))
  unfold fX5_isOpen at hf
  refine lv_aload_n hx hb dX5_isOpen_0 rfl (lv_at hl 0 rfl) ?_
  refine va_get (D := (dC, dI)) (ci := 5) (v := .ref h4) (C := RX5) (T := TX5) (N := 10) hx hb hts in5 hown hK hP 4 rfl rfl 0 (by decide) fl12 (fun _ h9 => h9) rfl dX5_isOpen_1 ?_
  refine lv_iload_n hx hb dX5_isOpen_4 rfl (lv_at hl 1 rfl) ?_
  obtain ⟨r_1, hc_1, hf⟩ := bn1_ok hf
  refine gc_i (wc := (cf_4 cI h4 h4a0 h4a1 h4a2 s4)) (wr := (cf_5 cI h5 h4 h3 h2 h1 h0 s5)) (w1 := (cf_4 cI h4 h4a0 h4a1 h4a2 s4)) (ws' := (cf_45 cI h4 h4a0 h4a1 h4a2 h5 h3 h2 h1 h0 s4 s5)) hP hD hS hA [0, 1, 2, 3] [4] [1, 2, 3, 4, 0] rfl rfl (by decide) (by decide) rfl (by decide) (va_runV (As := [.int a1]) (rest := []) ⟨hx, hb, hml, hown, hts⟩ (ktX4_has l dC dI cI h4 h4a0 h4a1 h4a2 _ s4 a1 r_1 hc_1) (cwV 1 hts gX5_isOpen_X4_has rfl rfl rfl (by decide +kernel) ⟨Nat.le_of_ble_eq_true rfl, Nat.le_of_ble_eq_true rfl⟩) (gc_V (ci := 4) (q0 := 0) (C := RX4) (T := TX4) (N := 6) (hP.sub (ws' := (cf_4 cI h4 h4a0 h4a1 h4a2 s4)) [0, 1, 2, 3] rfl) (hK.sub (tys' := [(cI, .int)]) [0] rfl) (hD.sub (ws' := (cf_4 cI h4 h4a0 h4a1 h4a2 s4)) [0, 1, 2, 3] (by decide) rfl) hN rfl rfl) rfl rfl hl.1 rfl (lv_room (Nat.le_of_ble_eq_true rfl)) dX5_isOpen_5 ⟨Nat.zero_le _, Nat.zero_le _⟩) (fun H locs hP hD hS => ?_)
  refine lv_if_ne (tgt := 21) hx hb dX5_isOpen_8 (by decide) (fun c_2 => ?_) (fun c_2 => ?_)
  · have hf := it_f c_2 hf
    refine lv_aload_n hx hb dX5_isOpen_21 rfl (lv_at hl 0 rfl) ?_
    refine va_get (D := (dC, dI)) (ci := 5) (v := .ref h4) (C := RX5) (T := TX5) (N := 10) hx hb hts in5 hown hK hP 4 rfl rfl 0 (by decide) fl12 (fun _ h9 => h9) rfl dX5_isOpen_22 ?_
    refine va_getN (D := (dC, dI)) (ci := 4) (v := .int (S4_openBoxes s4)) (C := RX4) (T := TX4) (N := 6) hx hb hts in4 hown hK hP 0 rfl rfl 5 (by decide) fl96 (fun _ h9 => h9) rfl dX5_isOpen_25 ?_
    refine lv_iload_n hx hb dX5_isOpen_28 rfl (lv_at hl 1 rfl) ?_
    obtain ⟨r_3, hc_3, hf⟩ := bn1_ok hf
    refine gc_i (wc := ([] : va_W)) (wr := (cf_45 cI h4 h4a0 h4a1 h4a2 h5 h3 h2 h1 h0 s4 s5)) (w1 := ([] : va_W)) (ws' := (cf_45 cI h4 h4a0 h4a1 h4a2 h5 h3 h2 h1 h0 s4 s5)) hP hD hS hA [] [0, 1, 2, 3, 4] [0, 1, 2, 3, 4] rfl rfl (by decide) (by decide) rfl (by decide) (va_runS (As := [.int (S4_openBoxes s4), .int a1]) (rest := []) ⟨hx, hb, hml, hown, hts⟩ (ktX5_contains l dC dI _ (S4_openBoxes s4) a1 r_3 hc_3) (va_cwS 2 hts gX5_isOpen_X5_contains rfl rfl rfl (by decide +kernel) ⟨Nat.le_of_ble_eq_true rfl, Nat.le_of_ble_eq_true rfl⟩) (gc_S (hP.sub (ws' := ([] : va_W)) [] rfl) (hK.sub (tys' := []) [] rfl) (hD.sub (ws' := ([] : va_W)) [] (by decide) rfl) hN) rfl rfl hl.1 rfl (lv_room (Nat.le_of_ble_eq_true rfl)) dX5_isOpen_29 ⟨Nat.zero_le _, Nat.zero_le _⟩) (fun H locs hP hD hS => ?_)
    obtain ⟨hz_4, hf⟩ := bo_ok hf
    have hf : (some (0, r_3) : Option (Int32 × Int32)) = some (k, r) := hf
    have he := Option.some.inj hf
    have he0 : 0 = k := congrArg (fun q => q.1) he
    have he1 : r_3 = r := congrArg (fun q => q.2) he
    exact hret _ _ _ _ _ _ hz_4 he0.symm he1 rfl dX5_isOpen_32 hP hD hS
  · have hf := it_t c_2 hf
    have hf : (some (1, 0) : Option (Int32 × Int32)) = some (k, r) := hf
    have he0 : 1 = k := congrArg (fun q => q.1) (Option.some.inj hf)
    exact hthr _ _ _ _ "java/lang/IndexOutOfBoundsException" "no such thing" 87 89 91 (⟨rfl, he0.symm⟩) (by decide +kernel) (hts (.classLink RX5 87 "java/lang/IndexOutOfBoundsException") (by decide +kernel)) (hts (.initialized "java/lang/IndexOutOfBoundsException") (by decide +kernel)) (hSW (89, "no such thing") (List.mem_of_getElem? (i := 3) rfl)) (vx_hat (L := vx_atS RX5 91 "java/lang/IndexOutOfBoundsException" nmE) (B := xwL) (fun w hw => hts w ((by decide +kernel : ∀ w ∈ (vx_atS RX5 91 "java/lang/IndexOutOfBoundsException" nmE).filter goodWord, w ∈ wsX5_isOpen) w hw)) (by decide +kernel) (fun w hw => va_Nw.use (xw_tab w hw) (hXW w hw))) (by decide +kernel) hl.1 dX5_isOpen_11 dX5_isOpen_14 dX5_isOpen_15 dX5_isOpen_17 dX5_isOpen_20 hP hD hS
abbrev rmX5_word : Room := { frames := 6, cells := 1, slots := 6, locals := 82 }
set_option maxHeartbeats 2000000 in
set_option maxRecDepth 100000 in
theorem ktX5_word (l : Launch) (hst : l.stackTraces = false) (dC : Nat → ClassId) (dI : Nat → Nat → Nat) (cI : ClassId) (h3 h3a0 h5 h4 h2 h1 h0 : Nat) (sz : Nat) (s3 : S3) (s5 : S5) (a1 : Int32) (k : Int32) (r : Int32) (s3f : S3) (hf : fX5_word s3 s5 a1 = some (k, r, s3f)) : vx_Met l yX5_word wsX5_word rmX5_word (va_Pc [.ref h5, .int a1] (pre_x (dC, dI) (cf_35 cI h3 h3a0 h5 h4 h2 h1 h0 s3 s5) [(cI, .int)] sz)) (va_Qi (fun (r' : Int32) (_ : Unit) => k = 0 ∧ r' = r) (post_w (dC, dI) (cf_35 cI h3 h3a0 h5 h4 h2 h1 h0 s3f s5) [(cI, .int)] (va_A (cf_35 cI h3 h3a0 h5 h4 h2 h1 h0 s3 s5) sz)) (va_A (cf_35 cI h3 h3a0 h5 h4 h2 h1 h0 s3 s5) sz)) (vx_X (fun (_ : Unit) => True) (fun E u t => ((E = "java/lang/IllegalArgumentException" ∧ k = 1) ∨ (E = "java/lang/IllegalStateException" ∧ k = 2)) ∧ post_w (dC, dI) (cf_35 cI h3 h3a0 h5 h4 h2 h1 h0 s3 s5) [(cI, .int)] (va_A (cf_35 cI h3 h3a0 h5 h4 h2 h1 h0 s3 s5) sz) u t) (va_A (cf_35 cI h3 h3a0 h5 h4 h2 h1 h0 s3 s5) sz)) 1 6 (va_A (cf_35 cI h3 h3a0 h5 h4 h2 h1 h0 s3 s5) sz) := by
  refine gm_x (ty := .int) (xe := fun E k => (E = "java/lang/IllegalArgumentException" ∧ k = 1) ∨ (E = "java/lang/IllegalStateException" ∧ k = 2)) (cc := cX5_word) (maxL := 2) hst (by decide) rfl (Nat.le_of_ble_eq_true rfl) (Nat.le_of_ble_eq_true rfl) (Nat.le_of_ble_eq_true rfl) (Nat.le_of_ble_eq_true rfl) (Nat.le_of_ble_eq_true rfl) ?_
  intro p e s m below meth c A QQ ls hx hb hml hown hts hK hN hSW hXW hA hP hD hS hl hret hthr
  have hown : s.vm.findClass RX5 = some m.cls := hown
  have hl : lv_has ls 2 [(0, .ref h5), (1, .int a1)] := hl
  have in5 : ∀ w ∈ u_ws RX5 TX5 10, w ∈ wsX5_word := by decide +kernel
  have fl19 := hts (.fieldLink RX5 19 "ParserParlour" "words" "LParserParlour$Words;") (by decide +kernel)
  have in3 : ∀ w ∈ u_ws RX3 TX3 5, w ∈ wsX5_word := by decide +kernel
  have fl112 := va_Nw.use (A := ([.ref h5, .int a1] : List Value).toArray) (by rfl) (hN _ (List.mem_of_getElem? (i := 2) rfl))
  unfold fX5_word at hf
  refine lv_iload_n hx hb dX5_word_0 rfl (lv_at hl 1 rfl) ?_
  obtain ⟨r_1, hc_1, hf⟩ := bn1_ok hf
  refine gc_i (wc := ([] : va_W)) (wr := (cf_35 cI h3 h3a0 h5 h4 h2 h1 h0 s3 s5)) (w1 := ([] : va_W)) (ws' := (cf_35 cI h3 h3a0 h5 h4 h2 h1 h0 s3 s5)) hP hD hS hA [] [0, 1, 2] [0, 1, 2] rfl rfl (by decide) (by decide) rfl (by decide) (va_runS (As := [.int a1]) (rest := []) ⟨hx, hb, hml, hown, hts⟩ (ktX5_isWord l dC dI _ a1 r_1 hc_1) (va_cwS 1 hts gX5_word_X5_isWord rfl rfl rfl (by decide +kernel) ⟨Nat.le_of_ble_eq_true rfl, Nat.le_of_ble_eq_true rfl⟩) (gc_S (hP.sub (ws' := ([] : va_W)) [] rfl) (hK.sub (tys' := []) [] rfl) (hD.sub (ws' := ([] : va_W)) [] (by decide) rfl) hN) rfl rfl hl.1 rfl (lv_room (Nat.le_of_ble_eq_true rfl)) dX5_word_1 ⟨Nat.zero_le _, Nat.zero_le _⟩) (fun H locs hP hD hS => ?_)
  refine lv_if_ne (tgt := 17) hx hb dX5_word_4 (by decide) (fun c_2 => ?_) (fun c_2 => ?_)
  · have hf := it_f c_2 hf
    refine lv_aload_n hx hb dX5_word_17 rfl (lv_at hl 0 rfl) ?_
    refine va_get (D := (dC, dI)) (ci := 5) (v := .ref h3) (C := RX5) (T := TX5) (N := 10) hx hb hts in5 hown hK hP 2 rfl rfl 1 (by decide) fl19 (fun _ h9 => h9) rfl dX5_word_18 ?_
    refine va_getN (D := (dC, dI)) (ci := 3) (v := .int (S3_count s3)) (C := RX3) (T := TX3) (N := 5) hx hb hts in3 hown hK hP 0 rfl rfl 1 (by decide) fl112 (fun _ h9 => h9) rfl dX5_word_21 ?_
    refine lv_bipush (v := 24) hx hb dX5_word_24 (by decide) ?_
    refine lv_icmp_lt (tgt := 39) hx hb dX5_word_26 (by decide) (fun c_3 => ?_) (fun c_3 => ?_)
    · have hf := it_t c_3 hf
      refine lv_aload_n hx hb dX5_word_39 rfl (lv_at hl 0 rfl) ?_
      refine va_get (D := (dC, dI)) (ci := 5) (v := .ref h3) (C := RX5) (T := TX5) (N := 10) hx hb hts in5 hown hK hP 2 rfl rfl 1 (by decide) fl19 (fun _ h9 => h9) rfl dX5_word_40 ?_
      refine lv_iload_n hx hb dX5_word_43 rfl (lv_at hl 1 rfl) ?_
      obtain ⟨s3_4, hc_4, hf⟩ := bn1_ok hf
      refine gc_v (wc := (cf_3 cI h3 h3a0 s3)) (wr := (cf_5 cI h5 h4 h3 h2 h1 h0 s5)) (w1 := (cf_3 cI h3 h3a0 s3_4)) (ws' := (cf_35 cI h3 h3a0 h5 h4 h2 h1 h0 s3_4 s5)) hP hD hS hA [0, 1] [2] [1, 2, 0] rfl rfl (by decide) (by decide) rfl (by decide) (va_runV (As := [.int a1]) (rest := []) ⟨hx, hb, hml, hown, hts⟩ (ktX3_add l dC dI cI h3 h3a0 _ s3 a1 s3_4 hc_4) (cwV 1 hts gX5_word_X3_add rfl rfl rfl (by decide +kernel) ⟨Nat.le_of_ble_eq_true rfl, Nat.le_of_ble_eq_true rfl⟩) (gc_V (ci := 3) (q0 := 0) (C := RX3) (T := TX3) (N := 5) (hP.sub (ws' := (cf_3 cI h3 h3a0 s3)) [0, 1] rfl) (hK.sub (tys' := [(cI, .int)]) [0] rfl) (hD.sub (ws' := (cf_3 cI h3 h3a0 s3)) [0, 1] (by decide) rfl) hN rfl rfl) rfl rfl hl.1 rfl (lv_room (Nat.le_of_ble_eq_true rfl)) dX5_word_44 ⟨Nat.zero_le _, Nat.zero_le _⟩) (fun H locs hP hD hS => ?_)
      refine lv_aload_n hx hb dX5_word_47 rfl (lv_at hl 0 rfl) ?_
      refine va_get (D := (dC, dI)) (ci := 5) (v := .ref h3) (C := RX5) (T := TX5) (N := 10) hx hb hts in5 hown hK hP 2 rfl rfl 1 (by decide) fl19 (fun _ h9 => h9) rfl dX5_word_48 ?_
      refine va_getN (D := (dC, dI)) (ci := 3) (v := .int (S3_count s3_4)) (C := RX3) (T := TX3) (N := 5) hx hb hts in3 hown hK hP 0 rfl rfl 1 (by decide) fl112 (fun _ h9 => h9) rfl dX5_word_51 ?_
      have hf : (some (0, (S3_count s3_4), s3_4) : Option (Int32 × Int32 × S3)) = some (k, r, s3f) := hf
      have he := Option.some.inj hf
      have he0 : 0 = k := congrArg (fun q => q.1) he
      have he1 : (S3_count s3_4) = r := congrArg (fun q => q.2.1) he
      have he2 : s3_4 = s3f := congrArg (fun q => q.2.2) he
      exact hret _ _ _ _ _ _ rfl he0.symm he1 (by rw [← he2]) dX5_word_54 hP hD hS
    · have hf := it_f c_3 hf
      have hf : (some (2, 0, s3) : Option (Int32 × Int32 × S3)) = some (k, r, s3f) := hf
      have he0 : 2 = k := congrArg (fun q => q.1) (Option.some.inj hf)
      exact hthr _ _ _ _ "java/lang/IllegalStateException" "there are 24 words" 74 113 78 (Or.inr ⟨rfl, he0.symm⟩) (by decide +kernel) (hts (.classLink RX5 74 "java/lang/IllegalStateException") (by decide +kernel)) (hts (.initialized "java/lang/IllegalStateException") (by decide +kernel)) (hSW (113, "there are 24 words") (List.mem_of_getElem? (i := 5) rfl)) (vx_hat (L := vx_atS RX5 78 "java/lang/IllegalStateException" nmE) (B := xwL) (fun w hw => hts w ((by decide +kernel : ∀ w ∈ (vx_atS RX5 78 "java/lang/IllegalStateException" nmE).filter goodWord, w ∈ wsX5_word) w hw)) (by decide +kernel) (fun w hw => va_Nw.use (xw_tab w hw) (hXW w hw))) (by decide +kernel) hl.1 dX5_word_29 dX5_word_32 dX5_word_33 dX5_word_35 dX5_word_38 hP hD hS
  · have hf := it_t c_2 hf
    have hf : (some (1, 0, s3) : Option (Int32 × Int32 × S3)) = some (k, r, s3f) := hf
    have he0 : 1 = k := congrArg (fun q => q.1) (Option.some.inj hf)
    exact hthr _ _ _ _ "java/lang/IllegalArgumentException" "no such word" 62 110 66 (Or.inl ⟨rfl, he0.symm⟩) (by decide +kernel) (hts (.classLink RX5 62 "java/lang/IllegalArgumentException") (by decide +kernel)) (hts (.initialized "java/lang/IllegalArgumentException") (by decide +kernel)) (hSW (110, "no such word") (List.mem_of_getElem? (i := 4) rfl)) (vx_hat (L := vx_atS RX5 66 "java/lang/IllegalArgumentException" nmE) (B := xwL) (fun w hw => hts w ((by decide +kernel : ∀ w ∈ (vx_atS RX5 66 "java/lang/IllegalArgumentException" nmE).filter goodWord, w ∈ wsX5_word) w hw)) (by decide +kernel) (fun w hw => va_Nw.use (xw_tab w hw) (hXW w hw))) (by decide +kernel) hl.1 dX5_word_7 dX5_word_10 dX5_word_11 dX5_word_13 dX5_word_16 hP hD hS
abbrev rmX5_back : Room := { frames := 6, cells := 1, slots := 6, locals := 82 }
set_option maxHeartbeats 2000000 in
set_option maxRecDepth 100000 in
theorem ktX5_back (l : Launch) (hst : l.stackTraces = false) (dC : Nat → ClassId) (dI : Nat → Nat → Nat) (cI : ClassId) (h3 h3a0 h5 h4 h2 h1 h0 : Nat) (sz : Nat) (s3 : S3) (s5 : S5) (k : Int32) (r : Int32) (s3f : S3) (hf : fX5_back s3 s5 = some (k, r, s3f)) : vx_Met l yX5_back wsX5_back rmX5_back (va_Pc [.ref h5] (pre_x (dC, dI) (cf_35 cI h3 h3a0 h5 h4 h2 h1 h0 s3 s5) [(cI, .int)] sz)) (va_Qi (fun (r' : Int32) (_ : Unit) => k = 0 ∧ r' = r) (post_w (dC, dI) (cf_35 cI h3 h3a0 h5 h4 h2 h1 h0 s3f s5) [(cI, .int)] (va_A (cf_35 cI h3 h3a0 h5 h4 h2 h1 h0 s3 s5) sz)) (va_A (cf_35 cI h3 h3a0 h5 h4 h2 h1 h0 s3 s5) sz)) (vx_X (fun (_ : Unit) => True) (fun E u t => ((E = "java/lang/IllegalStateException" ∧ k = 1)) ∧ post_w (dC, dI) (cf_35 cI h3 h3a0 h5 h4 h2 h1 h0 s3 s5) [(cI, .int)] (va_A (cf_35 cI h3 h3a0 h5 h4 h2 h1 h0 s3 s5) sz) u t) (va_A (cf_35 cI h3 h3a0 h5 h4 h2 h1 h0 s3 s5) sz)) 1 6 (va_A (cf_35 cI h3 h3a0 h5 h4 h2 h1 h0 s3 s5) sz) := by
  refine gm_x (ty := .int) (xe := fun E k => (E = "java/lang/IllegalStateException" ∧ k = 1)) (cc := cX5_back) (maxL := 1) hst (by decide) rfl (Nat.le_of_ble_eq_true rfl) (Nat.le_of_ble_eq_true rfl) (Nat.le_of_ble_eq_true rfl) (Nat.le_of_ble_eq_true rfl) (Nat.le_of_ble_eq_true rfl) ?_
  intro p e s m below meth c A QQ ls hx hb hml hown hts hK hN hSW hXW hA hP hD hS hl hret hthr
  have hown : s.vm.findClass RX5 = some m.cls := hown
  have hl : lv_has ls 1 [(0, .ref h5)] := hl
  have in5 : ∀ w ∈ u_ws RX5 TX5 10, w ∈ wsX5_back := by decide +kernel
  have fl19 := hts (.fieldLink RX5 19 "ParserParlour" "words" "LParserParlour$Words;") (by decide +kernel)
  have in3 : ∀ w ∈ u_ws RX3 TX3 5, w ∈ wsX5_back := by decide +kernel
  have fl112 := va_Nw.use (A := ([.ref h5] : List Value).toArray) (by rfl) (hN _ (List.mem_of_getElem? (i := 2) rfl))
  unfold fX5_back at hf
  refine lv_aload_n hx hb dX5_back_0 rfl (lv_at hl 0 rfl) ?_
  refine va_get (D := (dC, dI)) (ci := 5) (v := .ref h3) (C := RX5) (T := TX5) (N := 10) hx hb hts in5 hown hK hP 2 rfl rfl 1 (by decide) fl19 (fun _ h9 => h9) rfl dX5_back_1 ?_
  refine va_getN (D := (dC, dI)) (ci := 3) (v := .int (S3_count s3)) (C := RX3) (T := TX3) (N := 5) hx hb hts in3 hown hK hP 0 rfl rfl 1 (by decide) fl112 (fun _ h9 => h9) rfl dX5_back_4 ?_
  refine lv_if_gt (tgt := 20) hx hb dX5_back_7 (by decide) (fun c_1 => ?_) (fun c_1 => ?_)
  · have hf := it_t c_1 hf
    refine lv_aload_n hx hb dX5_back_20 rfl (lv_at hl 0 rfl) ?_
    refine va_get (D := (dC, dI)) (ci := 5) (v := .ref h3) (C := RX5) (T := TX5) (N := 10) hx hb hts in5 hown hK hP 2 rfl rfl 1 (by decide) fl19 (fun _ h9 => h9) rfl dX5_back_21 ?_
    obtain ⟨r_2, s3_2, hc_2, hf⟩ := bn2_ok hf
    refine gc_i (wc := (cf_3 cI h3 h3a0 s3)) (wr := (cf_5 cI h5 h4 h3 h2 h1 h0 s5)) (w1 := (cf_3 cI h3 h3a0 s3_2)) (ws' := (cf_35 cI h3 h3a0 h5 h4 h2 h1 h0 s3_2 s5)) hP hD hS hA [0, 1] [2] [1, 2, 0] rfl rfl (by decide) (by decide) rfl (by decide) (va_runV (As := []) (rest := []) ⟨hx, hb, hml, hown, hts⟩ (ktX3_removeLast l dC dI cI h3 h3a0 _ s3 r_2 s3_2 hc_2) (cwV 0 hts gX5_back_X3_removeLast rfl rfl rfl (by decide +kernel) ⟨Nat.le_of_ble_eq_true rfl, Nat.le_of_ble_eq_true rfl⟩) (gc_V (ci := 3) (q0 := 0) (C := RX3) (T := TX3) (N := 5) (hP.sub (ws' := (cf_3 cI h3 h3a0 s3)) [0, 1] rfl) (hK.sub (tys' := [(cI, .int)]) [0] rfl) (hD.sub (ws' := (cf_3 cI h3 h3a0 s3)) [0, 1] (by decide) rfl) hN rfl rfl) rfl rfl hl.1 rfl (lv_room (Nat.le_of_ble_eq_true rfl)) dX5_back_24 ⟨Nat.zero_le _, Nat.zero_le _⟩) (fun H locs hP hD hS => ?_)
    have hf : (some (0, r_2, s3_2) : Option (Int32 × Int32 × S3)) = some (k, r, s3f) := hf
    have he := Option.some.inj hf
    have he0 : 0 = k := congrArg (fun q => q.1) he
    have he1 : r_2 = r := congrArg (fun q => q.2.1) he
    have he2 : s3_2 = s3f := congrArg (fun q => q.2.2) he
    exact hret _ _ _ _ _ _ rfl he0.symm he1 (by rw [← he2]) dX5_back_27 hP hD hS
  · have hf := it_f c_1 hf
    have hf : (some (1, 0, s3) : Option (Int32 × Int32 × S3)) = some (k, r, s3f) := hf
    have he0 : 1 = k := congrArg (fun q => q.1) (Option.some.inj hf)
    exact hthr _ _ _ _ "java/lang/IllegalStateException" "there are no words" 74 118 78 (⟨rfl, he0.symm⟩) (by decide +kernel) (hts (.classLink RX5 74 "java/lang/IllegalStateException") (by decide +kernel)) (hts (.initialized "java/lang/IllegalStateException") (by decide +kernel)) (hSW (118, "there are no words") (List.mem_of_getElem? (i := 6) rfl)) (vx_hat (L := vx_atS RX5 78 "java/lang/IllegalStateException" nmE) (B := xwL) (fun w hw => hts w ((by decide +kernel : ∀ w ∈ (vx_atS RX5 78 "java/lang/IllegalStateException" nmE).filter goodWord, w ∈ wsX5_back) w hw)) (by decide +kernel) (fun w hw => va_Nw.use (xw_tab w hw) (hXW w hw))) (by decide +kernel) hl.1 dX5_back_10 dX5_back_13 dX5_back_14 dX5_back_16 dX5_back_19 hP hD hS
