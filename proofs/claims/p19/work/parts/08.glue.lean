def nwL : List Cond := [.fieldLinkNest RX5 71 "ParserParlour$World" "count" "I" RX5, .fieldLinkNest RX5 96 "ParserParlour$World" "openBoxes" "I" RX5, .fieldLinkNest RX5 112 "ParserParlour$Words" "count" "I" RX5, .fieldLinkNest RX2 85 "ParserParlour$Words" "place" "I" RX5, .fieldLinkNest RX5 160 "ParserParlour$Words" "place" "I" RX5, .fieldLinkNest RX2 69 "ParserParlour$Words" "adjectives" "I" RX5, .fieldLinkNest RX5 170 "ParserParlour$Words" "adjectives" "I" RX5, .fieldLinkNest RX2 82 "ParserParlour$Words" "noun" "I" RX5, .fieldLinkNest RX5 173 "ParserParlour$Words" "noun" "I" RX5, .fieldLinkNest RX0 52 "ParserParlour$Order" "orderVerb" "I" RX5, .fieldLinkNest RX5 204 "ParserParlour$Order" "orderVerb" "I" RX5, .fieldLinkNest RX0 61 "ParserParlour$Order" "count" "I" RX5, .fieldLinkNest RX0 85 "ParserParlour$Order" "kinds" "[I" RX5, .fieldLinkNest RX0 114 "ParserParlour$Order" "adjectiveSets" "[I" RX5, .fieldLinkNest RX0 117 "ParserParlour$Order" "nouns" "[I" RX5, .fieldLinkNest RX0 100 "ParserParlour$Order" "answers" "[I" RX5, .fieldLinkNest RX5 138 "ParserParlour$Memory" "lastVerb" "I" RX5, .fieldLinkNest RX0 89 "ParserParlour$Memory" "lastMeant" "I" RX5, .fieldLinkNest RX5 141 "ParserParlour$Memory" "lastMeant" "I" RX5, .fieldLinkNest RX5 144 "ParserParlour$Memory" "lastDone" "I" RX5, .fieldLinkNest RX5 147 "ParserParlour$Memory" "lastTarget" "I" RX5, .fieldLinkNest RX0 103 "ParserParlour$Memory" "lastAlone" "I" RX5, .fieldLinkNest RX5 201 "ParserParlour$Meaning" "group" "I" RX5, .fieldLinkNest RX5 207 "ParserParlour$Meaning" "target" "I" RX5, .fieldLinkNest RX5 192 "ParserParlour$Meaning" "openPhrase" "I" RX5, .fieldLinkNest RX5 195 "ParserParlour$Meaning" "choice" "I" RX5, .methodLinkNest RX3 32 yX5_isBetween RX5, .methodLinkNest RX4 35 yX5_contains RX5, .methodLinkNest RX0 77 yX5_contains RX5]
def nw (U : State) : Prop := ∀ w ∈ nwL, va_Nw w U
theorem nw_tab : ∀ w ∈ nwL, w.onTables = true := by decide +kernel
def nwOk : Cond → Bool
  | .fieldLinkNest _ _ _ _ _ _ => true
  | .methodLinkNest _ _ _ _ => true
  | _ => false
theorem nw_ok : ∀ w ∈ nwL, nwOk w = true := by decide +kernel
theorem nw_same {u U : State} (h : u.vm = U.vm) (q : nw u) : nw U := fun w hw => va_Nw.same (nw_tab w hw) h (q w hw)
theorem nw_warm1 {s U : State} (hW : s.WarmedH U.vm) {w : Cond} (hw : nwOk w = true) (q : va_Nw w s) : va_Nw w U := by
  cases w <;> first | exact va_Nw.warmF hW q | exact va_Nw.warmM hW q | (simp [nwOk] at hw; done)
theorem nw_warm {s U : State} (hW : s.WarmedH U.vm) (q : nw s) : nw U := fun w hw => nw_warm1 hW (nw_ok w hw) (q w hw)
abbrev pre_w (D : va_G) (ws : va_W) (tys : List (ClassId × FieldType)) (sz : Nat) (U : State) : Prop := U.heap.size = sz ∧ va_P D vwCl ws U.heap ∧ va_K D vwCl tys U ∧ va_D (fun _ => True) ws ∧ nw U
abbrev post_w (D : va_G) (ws : va_W) (tys : List (ClassId × FieldType)) (A : Nat → Prop) (_ : Unit) (t : State) : Prop := va_P D vwCl ws t.heap ∧ va_K D vwCl tys t ∧ va_D A ws
theorem pre_blind {D : va_G} {ws : va_W} {tys : List (ClassId × FieldType)} {sz : Nat} {av : List Value} : FrameBlind (va_Pc av (pre_w D ws tys sz)) := fun a U g mk q => by
  obtain ⟨q0, q1, qP, qK, qD, qN⟩ := q
  exact ⟨q0, q1, qP, va_K.moved (u := U) (U := U.calling g mk a) (Vm.Alike.refl U.vm) qK, qD, nw_same (u := U) (U := U.calling g mk a) rfl qN⟩
theorem gc_S {s : State} {H : Heap} {D : va_G} {wc : va_W} {tys : List (ClassId × FieldType)} {A : Nat → Prop} {As : List Value} (hP : va_P D vwCl wc H) (hK : va_K D vwCl tys s) (hD : va_D A wc) (hN : nw s) : PreS s H (va_Pc As (pre_w D wc tys H.size)) As :=
  ⟨pre_blind, fun U hU hW => ⟨rfl, by rw [hU], by rw [hU]; exact hP, va_K.moved hW.alike hK, hD.weaken (fun _ _ _ _ => trivial), nw_warm hW hN⟩⟩
theorem gc_V {s : State} {H : Heap} {D : va_G} {wc : va_W} {tys : List (ClassId × FieldType)} {A : Nat → Prop} {As : List Value} {a ci q0 N : Nat} {C : String} {T : u_T} {fs : List Value} (hP : va_P D vwCl wc H) (hK : va_K D vwCl tys s) (hD : va_D A wc) (hN : nw s) (hc : vwCl[ci]? = some (C, T, N)) (he : wc[q0]? = some (a, .inr (ci, fs))) : PreV s H C a (va_Pc (.ref a :: As) (pre_w D wc tys H.size)) As :=
  ⟨pre_blind, va_recv hK hP hc he, fun U hU hW => ⟨rfl, by rw [hU], by rw [hU]; exact hP, va_K.moved hW.alike hK, hD.weaken (fun _ _ _ _ => trivial), nw_warm hW hN⟩⟩
theorem fm_of_map {α : Type} {f : Nat → Option α} : ∀ {is : List Nat} {l : List α}, is.map f = l.map some → is.filterMap f = l
  | [], [], _ => rfl
  | [], _ :: _, h => by cases h
  | _ :: _, [], h => by cases h
  | i :: is, a :: l, h => by
    rw [List.map_cons, List.map_cons] at h
    obtain ⟨h1, h2⟩ := List.cons.inj h
    rw [List.filterMap_cons_some h1, fm_of_map h2]
section GC
variable {p : Program} {l : Launch} {e : Env} {R : Room} {s : State} {m : MethodId} {args : Array Value} {below : List Frame} {meth : Method} {c : Code} {H H0 : Heap} {locs : List Loc} {cells slots : Nat} {Q : State → Prop} {D : va_G} {A : Nat → Prop} {tyc : List (ClassId × FieldType)} {ws wc wr w1 ws' : va_W} {pc : Nat} {ls : Array Slot} {st0 rest : List Value} {a : Array Value}
theorem gc_i {r : Int32} (hP : va_P D vwCl ws H) (hD : va_D A ws) (hS : va_S A H0 H locs) (hA : ∀ q : Nat, H0.size ≤ q → A q)
    (isC isR isB : List Nat) (hC : isC.map (fun i => ws[i]?) = wc.map some) (hR : isR.map (fun i => ws[i]?) = wr.map some) (hn : va_nd isR = true) (hdis : ∀ i ∈ isR, i ∉ isC) (hB : isB.map (fun i => (wr ++ w1)[i]?) = ws'.map some) (hnB : va_nd isB = true)
    (hr : va_Run p l e R s m args below meth c H locs cells slots 0 0 (F0 m pc ls st0) rest (va_Qi (fun (r' : Int32) (_ : Unit) => r' = r) (post_w D w1 tyc (va_A wc H.size)) (va_A wc H.size) a) (va_A wc H.size))
    (kk : ∀ (H1 : Heap) (locs1 : List Loc), va_P D vwCl ws' H1 → va_D A ws' → va_S A H0 H1 locs1 → W p l e R s m args below meth c H1 locs1 cells slots Q (F0 m (pc + 3) ls (.int r :: rest))) : W p l e R s m args below meth c H locs cells slots Q (F0 m pc ls st0) := by
  have hF := va_free hD hS hA isC hC
  refine va_calli hr hS (fun q _ h => hF q h) hF (fun r' u t H1 locs1 ht hvm hw hB2 hz hk hS1 => ?_)
  obtain ⟨hP1, -, hD1⟩ := hB2
  rw [ht] at hP1
  obtain ⟨hP2, hD2⟩ := va_join hP hD isC isR hC hR hn hdis hk hF hP1 hD1
  rw [hw]
  exact kk H1 locs1 (hP2.sub isB (fm_of_map hB)) (hD2.sub isB hnB hB) hS1
theorem gc_v (hP : va_P D vwCl ws H) (hD : va_D A ws) (hS : va_S A H0 H locs) (hA : ∀ q : Nat, H0.size ≤ q → A q)
    (isC isR isB : List Nat) (hC : isC.map (fun i => ws[i]?) = wc.map some) (hR : isR.map (fun i => ws[i]?) = wr.map some) (hn : va_nd isR = true) (hdis : ∀ i ∈ isR, i ∉ isC) (hB : isB.map (fun i => (wr ++ w1)[i]?) = ws'.map some) (hnB : va_nd isB = true)
    (hr : va_Run p l e R s m args below meth c H locs cells slots 0 0 (F0 m pc ls st0) rest (va_Qv (fun (_ : Unit) => True) (post_w D w1 tyc (va_A wc H.size)) (va_A wc H.size) a) (va_A wc H.size))
    (kk : ∀ (H1 : Heap) (locs1 : List Loc), va_P D vwCl ws' H1 → va_D A ws' → va_S A H0 H1 locs1 → W p l e R s m args below meth c H1 locs1 cells slots Q (F0 m (pc + 3) ls rest)) : W p l e R s m args below meth c H locs cells slots Q (F0 m pc ls st0) := by
  have hF := va_free hD hS hA isC hC
  refine va_callv hr hS (fun q _ h => hF q h) hF (fun u t H1 locs1 ht hvm hw hB2 hz hk hS1 => ?_)
  obtain ⟨hP1, -, hD1⟩ := hB2
  rw [ht] at hP1
  obtain ⟨hP2, hD2⟩ := va_join hP hD isC isR hC hR hn hdis hk hF hP1 hD1
  exact kk H1 locs1 (hP2.sub isB (fm_of_map hB)) (hD2.sub isB hnB hB) hS1
end GC
section GM
variable {l : Launch} {y : MethodName} {ws ws' : List Cond} {rm : Room} {cc : ByteArray} {maxL : Nat} {av : List Value} {w0 w1 : va_W} {tys : List (ClassId × FieldType)} {D : va_G} {sz : Nat}
theorem gm_i {r : Int32} (hy : plainName y.cls = true) (hw : ws = Cond.code y cc maxL (some .int) :: ws') (hav : (lg_sl av).length ≤ maxL)
    (body : ∀ (p : Program) (e : Env) (s : State) (m : MethodId) (below : List Frame) (meth : Method) (c : Code) (A : Nat → Prop) (QQ : State → Prop) (ls : Array Slot),
      p.tables.exec = Jvm.exec → c.code = cc → c.maxLocals = maxL → s.vm.findClass y.cls = some m.cls → (∀ w ∈ ws, w.before av.toArray s = true) → va_K D vwCl tys s → nw s → (∀ q : Nat, s.heap.size ≤ q → A q) → va_P D vwCl w0 s.heap → va_D A w0 → va_S A s.heap s.heap [] → lv_has ls maxL (lv_args 0 av) →
      (∀ (H : Heap) (locs : List Loc) (pc : Nat) (ls : Array Slot) (v : Int32) (w : va_W), v = r → w = w1 → decode cc pc = .ok (.ireturn, 1) → va_P D vwCl w H → va_D A w → va_S A s.heap H locs → W p l e rm s m av.toArray below meth c H locs 0 0 QQ (F0 m pc ls [.int v])) →
      W p l e rm s m av.toArray below meth c s.heap [] 0 0 QQ (F0 m 0 ls [])) :
    Met l y ws rm (va_Pc av (pre_w D w0 tys sz)) (va_Qi (fun (r' : Int32) (_ : Unit) => r' = r) (post_w D w1 tys (va_A w0 sz)) (va_A w0 sz)) 0 0 (va_A w0 sz) := by
  refine Met.ofW (cc := cc) (maxL := maxL) (ret := some .int) hy hw ?_
  intro p e s m args below meth c s₁ B hml hv
  obtain ⟨rfl, hsz, hP, hK, hD0, hN⟩ := hv
  have hx := B.exec
  have hb := B.bytes
  have hr := B.returns
  have hts := atoms_spec (ws := ws) B.pre
  have hown : s.vm.findClass y.cls = some m.cls := findClass_of_methodNamed B.named
  have hlocks := B.notSynchronized
  subst hsz
  have hD := hD0.self (sz := s.heap.size)
  have hl := lv_entry av (n := maxL) hav
  rw [lg_entry_eq]
  refine body p e s m below meth c (va_A w0 s.heap.size) _ _ hx hb hml hown hts hK hN (fun q h => Or.inr h) hP hD va_S.rf hl ?_
  intro H locs pc ls v w hvr hww hdg hP' hD' hS'
  subst hvr
  subst hww
  exact W.iret (v := v) hx hb hr (fun t ht hW => ⟨⟨v, (), rfl, rfl, by rw [ht]; exact hP', va_K.moved hW.alike hK, hD'⟩, hS'.F ht⟩) hS'.2.2 hdg
theorem gm_z {r : Int32} (hy : plainName y.cls = true) (hw : ws = Cond.code y cc maxL (some .boolean) :: ws') (hav : (lg_sl av).length ≤ maxL)
    (body : ∀ (p : Program) (e : Env) (s : State) (m : MethodId) (below : List Frame) (meth : Method) (c : Code) (A : Nat → Prop) (QQ : State → Prop) (ls : Array Slot),
      p.tables.exec = Jvm.exec → c.code = cc → c.maxLocals = maxL → s.vm.findClass y.cls = some m.cls → (∀ w ∈ ws, w.before av.toArray s = true) → va_K D vwCl tys s → nw s → (∀ q : Nat, s.heap.size ≤ q → A q) → va_P D vwCl w0 s.heap → va_D A w0 → va_S A s.heap s.heap [] → lv_has ls maxL (lv_args 0 av) →
      (∀ (H : Heap) (locs : List Loc) (pc : Nat) (ls : Array Slot) (v : Int32) (w : va_W), narrow .boolean (.int v) = .int v → v = r → w = w1 → decode cc pc = .ok (.ireturn, 1) → va_P D vwCl w H → va_D A w → va_S A s.heap H locs → W p l e rm s m av.toArray below meth c H locs 0 0 QQ (F0 m pc ls [.int v])) →
      W p l e rm s m av.toArray below meth c s.heap [] 0 0 QQ (F0 m 0 ls [])) :
    Met l y ws rm (va_Pc av (pre_w D w0 tys sz)) (va_Qi (fun (r' : Int32) (_ : Unit) => r' = r) (post_w D w1 tys (va_A w0 sz)) (va_A w0 sz)) 0 0 (va_A w0 sz) := by
  refine Met.ofW (cc := cc) (maxL := maxL) (ret := some .boolean) hy hw ?_
  intro p e s m args below meth c s₁ B hml hv
  obtain ⟨rfl, hsz, hP, hK, hD0, hN⟩ := hv
  have hx := B.exec
  have hb := B.bytes
  have hr := B.returns
  have hts := atoms_spec (ws := ws) B.pre
  have hown : s.vm.findClass y.cls = some m.cls := findClass_of_methodNamed B.named
  have hlocks := B.notSynchronized
  subst hsz
  have hD := hD0.self (sz := s.heap.size)
  have hl := lv_entry av (n := maxL) hav
  rw [lg_entry_eq]
  refine body p e s m below meth c (va_A w0 s.heap.size) _ _ hx hb hml hown hts hK hN (fun q h => Or.inr h) hP hD va_S.rf hl ?_
  intro H locs pc ls v w hn hvr hww hdg hP' hD' hS'
  subst hvr
  subst hww
  exact W.zret (v := v) (ty := .boolean) hx hb hr hn (fun t ht hW => ⟨⟨v, (), rfl, rfl, by rw [ht]; exact hP', va_K.moved hW.alike hK, hD'⟩, hS'.F ht⟩) hS'.2.2 hdg
theorem gm_v (hy : plainName y.cls = true) (hw : ws = Cond.code y cc maxL none :: ws') (hav : (lg_sl av).length ≤ maxL)
    (body : ∀ (p : Program) (e : Env) (s : State) (m : MethodId) (below : List Frame) (meth : Method) (c : Code) (A : Nat → Prop) (QQ : State → Prop) (ls : Array Slot),
      p.tables.exec = Jvm.exec → c.code = cc → c.maxLocals = maxL → s.vm.findClass y.cls = some m.cls → (∀ w ∈ ws, w.before av.toArray s = true) → va_K D vwCl tys s → nw s → (∀ q : Nat, s.heap.size ≤ q → A q) → va_P D vwCl w0 s.heap → va_D A w0 → va_S A s.heap s.heap [] → lv_has ls maxL (lv_args 0 av) →
      (∀ (H : Heap) (locs : List Loc) (pc : Nat) (ls : Array Slot) (w : va_W), w = w1 → decode cc pc = .ok (.return_, 1) → va_P D vwCl w H → va_D A w → va_S A s.heap H locs → W p l e rm s m av.toArray below meth c H locs 0 0 QQ (F0 m pc ls [])) →
      W p l e rm s m av.toArray below meth c s.heap [] 0 0 QQ (F0 m 0 ls [])) :
    Met l y ws rm (va_Pc av (pre_w D w0 tys sz)) (va_Qv (fun (_ : Unit) => True) (post_w D w1 tys (va_A w0 sz)) (va_A w0 sz)) 0 0 (va_A w0 sz) := by
  refine Met.ofW (cc := cc) (maxL := maxL) (ret := none) hy hw ?_
  intro p e s m args below meth c s₁ B hml hv
  obtain ⟨rfl, hsz, hP, hK, hD0, hN⟩ := hv
  have hx := B.exec
  have hb := B.bytes
  have hr := B.returns
  have hts := atoms_spec (ws := ws) B.pre
  have hown : s.vm.findClass y.cls = some m.cls := findClass_of_methodNamed B.named
  have hlocks := B.notSynchronized
  subst hsz
  have hD := hD0.self (sz := s.heap.size)
  have hl := lv_entry av (n := maxL) hav
  rw [lg_entry_eq]
  refine body p e s m below meth c (va_A w0 s.heap.size) _ _ hx hb hml hown hts hK hN (fun q h => Or.inr h) hP hD va_S.rf hl ?_
  intro H locs pc ls w hww hdg hP' hD' hS'
  subst hww
  exact W.vret hx hb hr (fun t ht hW => ⟨⟨(), rfl, trivial, by rw [ht]; exact hP', va_K.moved hW.alike hK, hD'⟩, hS'.F ht⟩) hS'.2.2 hdg
end GM
section GMC
variable {l : Launch} {y : MethodName} {ws ws' : List Cond} {rm : Room} {cc : ByteArray} {maxL : Nat} {av : List Value} {w0 : va_W} {tys : List (ClassId × FieldType)} {D : va_G} {sz : Nat}
theorem gm_c {U : Type} {mc ms : Nat} {w1 : U → va_W} (hy : plainName y.cls = true) (hw : ws = Cond.code y cc maxL none :: ws') (hnm : y.name = "<init>") (hav : (lg_sl av).length ≤ maxL)
    (body : ∀ (p : Program) (e : Env) (s : State) (m : MethodId) (below : List Frame) (meth : Method) (c : Code) (A : Nat → Prop) (QQ : State → Prop) (ls : Array Slot),
      p.tables.exec = Jvm.exec → c.code = cc → c.maxLocals = maxL → s.vm.findClass y.cls = some m.cls → (∀ w ∈ ws, w.before av.toArray s = true) → meth.name = "<init>" → va_K D vwCl tys s → nw s → (∀ q : Nat, s.heap.size ≤ q → A q) → va_P D vwCl w0 s.heap → va_D A w0 → va_S A s.heap s.heap [] → lv_has ls maxL (lv_args 0 av) →
      (∀ (H : Heap) (locs : List Loc) (pc : Nat) (ls : Array Slot) (u : U), decode cc pc = .ok (.return_, 1) → va_P D vwCl (w1 u) H → va_D A (w1 u) → va_S A s.heap H locs → W p l e rm s m av.toArray below meth c H locs mc ms QQ (F0 m pc ls [])) →
      W p l e rm s m av.toArray below meth c s.heap [] 0 0 QQ (F0 m 0 ls [])) :
    Met l y ws rm (va_Pc av (pre_w D w0 tys sz)) (va_Qv (fun (_ : U) => True) (fun u t => post_w D (w1 u) tys (va_A w0 sz) () t) (va_A w0 sz)) mc ms (va_A w0 sz) := by
  refine Met.ofW (cc := cc) (maxL := maxL) (ret := none) hy hw ?_
  intro p e s m args below meth c s₁ B hml hv
  obtain ⟨rfl, hsz, hP, hK, hD0, hN⟩ := hv
  have hx := B.exec
  have hb := B.bytes
  have hr := B.returns
  have hts := atoms_spec (ws := ws) B.pre
  have hown : s.vm.findClass y.cls = some m.cls := findClass_of_methodNamed B.named
  have hlocks := B.notSynchronized
  have hin : meth.name = "<init>" := ((name_of_methodNamed B.named B.method).1).trans hnm
  subst hsz
  have hD := hD0.self (sz := s.heap.size)
  have hl := lv_entry av (n := maxL) hav
  rw [lg_entry_eq]
  refine body p e s m below meth c (va_A w0 s.heap.size) _ _ hx hb hml hown hts hin hK hN (fun q h => Or.inr h) hP hD va_S.rf hl ?_
  intro H locs pc ls u hdg hP' hD' hS'
  exact W.vret hx hb hr (fun t ht hW => ⟨⟨u, rfl, trivial, by rw [ht]; exact hP', va_K.moved hW.alike hK, hD'⟩, hS'.F ht⟩) hS'.2.2 hdg
end GMC
section GCC
variable {p : Program} {l : Launch} {e : Env} {R : Room} {s : State} {m : MethodId} {args : Array Value} {below : List Frame} {meth : Method} {c : Code} {H H0 : Heap} {locs : List Loc} {cells slots : Nat} {Q : State → Prop} {D : va_G} {A : Nat → Prop} {tyc : List (ClassId × FieldType)} {ws wc wr : va_W} {pc : Nat} {ls : Array Slot} {st0 rest : List Value} {a : Array Value}
theorem gc_c {U : Type} {w1 : U → va_W} {mc ms : Nat} (hP : va_P D vwCl ws H) (hD : va_D A ws) (hS : va_S A H0 H locs) (hA : ∀ q : Nat, H0.size ≤ q → A q)
    (isC isR : List Nat) (hC : isC.map (fun i => ws[i]?) = wc.map some) (hR : isR.map (fun i => ws[i]?) = wr.map some) (hn : va_nd isR = true) (hdis : ∀ i ∈ isR, i ∉ isC)
    (hr : va_Run p l e R s m args below meth c H locs cells slots mc ms (F0 m pc ls st0) rest (va_Qv (fun (_ : U) => True) (fun u t => post_w D (w1 u) tyc (va_A wc H.size) () t) (va_A wc H.size) a) (va_A wc H.size))
    (kk : ∀ (u : U) (H1 : Heap) (locs1 : List Loc), va_P D vwCl (wr ++ w1 u) H1 → va_D A (wr ++ w1 u) → va_S A H0 H1 locs1 → W p l e R s m args below meth c H1 locs1 (cells + mc) (slots + ms) Q (F0 m (pc + 3) ls rest)) : W p l e R s m args below meth c H locs cells slots Q (F0 m pc ls st0) := by
  have hF := va_free hD hS hA isC hC
  refine va_callv hr hS (fun q _ h => hF q h) hF (fun u t H1 locs1 ht hvm hw hB2 hz hk hS1 => ?_)
  obtain ⟨hP1, -, hD1⟩ := hB2
  rw [ht] at hP1
  obtain ⟨hP2, hD2⟩ := va_join hP hD isC isR hC hR hn hdis hk hF hP1 hD1
  exact kk u H1 locs1 hP2 hD2 hS1
theorem rk_same {cA cB : ClassId} {tys : List (ClassId × FieldType)} {ty : FieldType} (hK : va_K D vwCl tys s) (i j : Nat) (hi : tys[i]? = some (cA, ty)) (hj : tys[j]? = some (cB, ty)) (hp : ∀ C : String, ty ≠ .object C) : cA = cB := by
  have h1 := (hK.2 i _ hi).2
  have h2 := (hK.2 j _ hj).2
  cases ty <;> first | exact absurd rfl (hp _) | exact Option.some.inj (h1.symm.trans h2)
end GCC
