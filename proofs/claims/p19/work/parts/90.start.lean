theorem sw_one {own tx : String} {k : Nat} {A : Array Value} {U : State} (h1 : (Cond.stringRef own k tx).before A U = true) (h2 : (Cond.exactly (.string own k) "java/lang/String").before A U = true) : ∃ sa, vk_R own k tx sa U := by
  obtain ⟨a, c, cell, k9, he, -⟩ := Cond.exactly_spec h2
  exact ⟨a, vk_R.of h1 he⟩
theorem nw_in : ∀ w ∈ nwL, w ∈ lw_tbl := by decide +kernel
theorem xw_in : ∀ w ∈ xwL, w ∈ lw_tbl := by decide +kernel
set_option maxHeartbeats 8000000 in
set_option maxRecDepth 100000 in
theorem whole_start {p : Program} {e : Env} {s : State} {m : MethodId} {below : List Frame} {meth : Method} {c : Code} (l : Launch) (hflags : l.flags = flags0) {b L : Nat} {xs : Nat → Int32} (hL : L ≤ 260) (C0 : lw_At p s m meth c b L xs) : W p l e room_1 s m #[Value.ref b] below meth c s.heap [] 0 0 (lw_Z below #[Value.ref b] s) (entryFrame m ([Value.ref b] : List Value).toArray 10) := by
  have hst : l.stackTraces = false := by
    unfold Launch.stackTraces
    rw [hflags]
    decide +kernel
  obtain ⟨hx, hb, hr, hml, hown, hts0, hX, hbl, hlocks, hgv⟩ := id C0
  have hs := flat_of_before _ hgv
  have hts : ∀ w ∈ wsL_law, w.before #[Value.ref b] s = true := fun w h => hts0 w (wsL_law_in w h)
  have hown : s.vm.findClass RL = some m.cls := hown
  obtain ⟨A, hAe⟩ : ∃ A : Nat → Prop, A = fun q : Nat => s.heap.size ≤ q := ⟨_, rfl⟩
  have hA : ∀ q : Nat, s.heap.size ≤ q → A q := fun q h => by rw [hAe]; exact h
  have hA2 : ∀ q : Nat, q < s.heap.size → ¬ A q := fun q h h2 => by rw [hAe] at h2; exact absurd h (Nat.not_lt.mpr h2)
  have hN : nw s := fun w hw => va_Nw.of (nw_tab w hw) (hts0 w (nw_in w hw))
  have hXW : xw s := fun w hw => va_Nw.of (xw_tab w hw) (hts0 w (xw_in w hw))
  have hNc : va_Nc xISE xIAE s := va_Nc.of (args := #[Value.ref b]) (hs (.not (.castable xISE xIAE)) (by decide +kernel))
  have hSW : sw s := by
    intro x hx
    simp only [swL, List.mem_cons, List.not_mem_nil, or_false] at hx
    rcases hx with rfl | rfl | rfl | rfl | rfl | rfl | rfl
    · exact sw_one (A := #[Value.ref b]) (hts0 (.stringRef RX5 64 "no such noun") (by decide +kernel)) (hs (.exactly (.string RX5 64) "java/lang/String") (by decide +kernel))
    · exact sw_one (A := #[Value.ref b]) (hts0 (.stringRef RX5 69 "no such set of adjectives") (by decide +kernel)) (hs (.exactly (.string RX5 69) "java/lang/String") (by decide +kernel))
    · exact sw_one (A := #[Value.ref b]) (hts0 (.stringRef RX5 76 "there are 12 things") (by decide +kernel)) (hs (.exactly (.string RX5 76) "java/lang/String") (by decide +kernel))
    · exact sw_one (A := #[Value.ref b]) (hts0 (.stringRef RX5 89 "no such thing") (by decide +kernel)) (hs (.exactly (.string RX5 89) "java/lang/String") (by decide +kernel))
    · exact sw_one (A := #[Value.ref b]) (hts0 (.stringRef RX5 110 "no such word") (by decide +kernel)) (hs (.exactly (.string RX5 110) "java/lang/String") (by decide +kernel))
    · exact sw_one (A := #[Value.ref b]) (hts0 (.stringRef RX5 113 "there are 24 words") (by decide +kernel)) (hs (.exactly (.string RX5 113) "java/lang/String") (by decide +kernel))
    · exact sw_one (A := #[Value.ref b]) (hts0 (.stringRef RX5 118 "there are no words") (by decide +kernel)) (hs (.exactly (.string RX5 118) "java/lang/String") (by decide +kernel))
  have hZ : zq A s s.heap := ⟨vx_Zqof (args := #[Value.ref b]) (hts0 (.laysStatic Bundle.tN "UNASSIGNED_STACK" Bundle.steD) (by decide +kernel)) (hts0 (.initialized Bundle.tN) (by decide +kernel)) (hs (.isRef (.static Bundle.tN "UNASSIGNED_STACK" Bundle.steD)) (by decide +kernel)) hA2, vx_Zqof (args := #[Value.ref b]) (hts0 (.laysStatic Bundle.tN "SUPPRESSED_SENTINEL" Bundle.listD) (by decide +kernel)) (hts0 (.initialized Bundle.tN) (by decide +kernel)) (hs (.isRef (.static Bundle.tN "SUPPRESSED_SENTINEL" Bundle.listD)) (by decide +kernel)) hA2⟩
  obtain ⟨c0, iS0, hKn0⟩ := u_known (C := RX0) (T := TX0) (N := 9) (n := 9) hts inlX0 (hts (.instantiable RX0 9) (by decide +kernel))
  obtain ⟨c1, iS1, hKn1⟩ := u_known (C := RX1) (T := TX1) (N := 5) (n := 5) hts inlX1 (hts (.instantiable RX1 5) (by decide +kernel))
  obtain ⟨c2, iS2, hKn2⟩ := u_known (C := RX2) (T := TX2) (N := 8) (n := 8) hts inlX2 (hts (.instantiable RX2 8) (by decide +kernel))
  obtain ⟨c3, iS3, hKn3⟩ := u_known (C := RX3) (T := TX3) (N := 5) (n := 5) hts inlX3 (hts (.instantiable RX3 5) (by decide +kernel))
  obtain ⟨c4, iS4, hKn4⟩ := u_known (C := RX4) (T := TX4) (N := 6) (n := 6) hts inlX4 (hts (.instantiable RX4 6) (by decide +kernel))
  obtain ⟨c5, iS5, hKn5⟩ := u_known (C := RX5) (T := TX5) (N := 10) (n := 10) hts inlX5 (hts (.instantiable RX5 10) (by decide +kernel))
  obtain ⟨dC, dI, hKc⟩ : ∃ (dC : Nat → ClassId) (dI : Nat → Nat → Nat), ∀ (k : Nat) (q : vw_C), vwCl[k]? = some q → u_Kn s q.1 q.2.1 q.2.2 (dC k) (dI k) := by
    refine ⟨fun k => match k with | 0 => c0 | 1 => c1 | 2 => c2 | 3 => c3 | 4 => c4 | _ => c5, fun k => match k with | 0 => iS0 | 1 => iS1 | 2 => iS2 | 3 => iS3 | 4 => iS4 | _ => iS5, ?_⟩
    intro k q hq
    match k, hq with
    | 0, hq => cases hq; exact hKn0
    | 1, hq => cases hq; exact hKn1
    | 2, hq => cases hq; exact hKn2
    | 3, hq => cases hq; exact hKn3
    | 4, hq => cases hq; exact hKn4
    | 5, hq => cases hq; exact hKn5
    | k + 6, hq => simp [vwCl] at hq
  obtain ⟨cI, kI, mI, gI1, gI2, gI3⟩ := Cond.arrayClass_spec (hts (.arrayClass .int) (by decide +kernel))
  have hS : va_S A s.heap s.heap [] := va_S.rf
  have hK : va_K (dC, dI) vwCl [(cI, .int)] s := by
    refine ⟨hKc, fun k q h => ?_⟩
    match k, h with
    | 0, h => cases h; exact ⟨fun n z => ⟨fun k h => (by cases h), kI, gI2, mI, gI3⟩, gI1⟩
    | k + 1, h => simp at h
  have hP : va_P (dC, dI) vwCl [] s.heap := fun k q h => by simp at h
  have hD : va_D A [] := ⟨fun i j p q h => by simp at h, fun k q h => by simp at h⟩
  have hl := lv_entry ([.ref b]) (n := 10) (Nat.le_of_ble_eq_true rfl)
  rw [lg_entry_eq]
  generalize (lg_sl ([.ref b]) ++ List.replicate (10 - (lg_sl ([.ref b])).length) Slot.unset).toArray = ls at hl ⊢
  have hl : lv_has ls 10 [(0, .ref b)] := hl
  refine va_new (ci := 5) (fs := [.null, .null, .null, .null, .null, .int 0, .int 0, .int 0, .int 0, .int 0]) (C := RX5) (T := TX5) (N := 10) hx hb hts inlX5 tyX5 tyX5_ok hown (hts (.classLink RL 9 RX5) (by decide +kernel)) (hts (.instantiable RX5 10) (by decide +kernel)) (hts (.initialized RX5) (by decide +kernel)) hK hP hD hS hA rfl (fun j hj => by rcases (show j = 0 ∨ j = 1 ∨ j = 2 ∨ j = 3 ∨ j = 4 ∨ j = 5 ∨ j = 6 ∨ j = 7 ∨ j = 8 ∨ j = 9 by omega) with rfl | rfl | rfl | rfl | rfl | rfl | rfl | rfl | rfl | rfl <;> rfl) (Nat.le_of_ble_eq_true rfl) (Nat.le_of_ble_eq_true rfl) dL_law_0 (fun q5 H hP hD hS => ?_)
  have hP : va_P (dC, dI) vwCl [(q5, .inr (5, [.null, .null, .null, .null, .null, .int 0, .int 0, .int 0, .int 0, .int 0]))] H := hP
  have hD : va_D A [(q5, .inr (5, [.null, .null, .null, .null, .null, .int 0, .int 0, .int 0, .int 0, .int 0]))] := hD
  refine lv_dup hx hb dL_law_3 rfl ?_
  refine gc_c (wc := [(q5, .inr (5, [.null, .null, .null, .null, .null, .int 0, .int 0, .int 0, .int 0, .int 0]))]) (wr := ([] : va_W)) hP hD hS hA [0] [] rfl rfl (by decide) (by decide) (va_runI (As := []) (rest := [.ref q5]) ⟨hx, hb, hml, hown, hts⟩ (ktX5_init l dC dI cI q5 _) (cwI 0 hts gL_law_X5_init rfl rfl rfl (hts (.initialized RX5) (by decide +kernel)) (hts (.methodLink RL 149 yX5_init) (by decide +kernel)) (hts (.instanceMethod yX5_init) (by decide +kernel)) rfl (by decide +kernel) ⟨Nat.le_of_ble_eq_true rfl, Nat.le_of_ble_eq_true rfl⟩) (gc_S (hP.sub (ws' := [(q5, .inr (5, [.null, .null, .null, .null, .null, .int 0, .int 0, .int 0, .int 0, .int 0]))]) [0] rfl) (hK.sub (tys' := [(cI, .int)]) [0] rfl) (hD.sub (ws' := [(q5, .inr (5, [.null, .null, .null, .null, .null, .int 0, .int 0, .int 0, .int 0, .int 0]))]) [0] (by decide) rfl) hN) rfl rfl hl.1 rfl (lv_room (Nat.le_of_ble_eq_true rfl)) dL_law_4 ⟨Nat.le_of_ble_eq_true rfl, Nat.le_of_ble_eq_true rfl⟩) (fun u H locs hP hD hS => ?_)
  obtain ⟨h0, h1, h2, h2a2, h2a3, h2a4, h2a5, h2a6, h2a7, h3, h3a0, h4, h4a0, h4a1, h4a2⟩ := u
  have hP : va_P (dC, dI) vwCl (cf_012345 cI h0 h1 h2 h2a2 h2a3 h2a4 h2a5 h2a6 h2a7 h3 h3a0 h4 h4a0 h4a1 h4a2 q5 z0 z1 z2 z3 z4 z5) H := hP
  have hD : va_D A (cf_012345 cI h0 h1 h2 h2a2 h2a3 h2a4 h2a5 h2a6 h2a7 h3 h3a0 h4 h4a0 h4a1 h4a2 q5 z0 z1 z2 z3 z4 z5) := hD
  refine lv_astore_n (lv' := [(1, .ref q5), (0, .ref b)]) hx hb dL_law_7 rfl hl (by decide) rfl (fun ls hl => ?_)
  refine lv_bipush (v := 30) hx hb dL_law_8 (by decide) ?_
  refine va_newa (atype := .int) (ty := .int) (N' := 30) (a0 := (30, .inl (fun _ => 0))) hx hb (hts (.arrayClass .int) (by decide +kernel)) rfl hK hP hD hS hA (fun _ => rfl) (by decide) rfl (Nat.le_of_ble_eq_true rfl) (Nat.le_of_ble_eq_true rfl) (Nat.le_of_ble_eq_true rfl) dL_law_10 (fun hyt cA H hK2 hP hD hS => ?_)
  have ecA : cI = cA := rk_same hK2 0 1 rfl rfl (fun C h => by cases h)
  subst ecA
  clear hK2
  have hP : va_P (dC, dI) vwCl (cf_012345yt cI h0 h1 h2 h2a2 h2a3 h2a4 h2a5 h2a6 h2a7 h3 h3a0 h4 h4a0 h4a1 h4a2 q5 hyt z0 z1 z2 z3 z4 z5 (fun _ => 0)) H := hP
  have hD : va_D A (cf_012345yt cI h0 h1 h2 h2a2 h2a3 h2a4 h2a5 h2a6 h2a7 h3 h3a0 h4 h4a0 h4a1 h4a2 q5 hyt z0 z1 z2 z3 z4 z5 (fun _ => 0)) := hD
  refine lv_astore_n (lv' := [(2, .ref hyt), (1, .ref q5), (0, .ref b)]) hx hb dL_law_12 rfl hl (by decide) rfl (fun ls hl => ?_)
  refine lv_bipush (v := 13) hx hb dL_law_13 (by decide) ?_
  refine va_newa (atype := .int) (ty := .int) (N' := 13) (a0 := (13, .inl (fun _ => 0))) hx hb (hts (.arrayClass .int) (by decide +kernel)) rfl hK hP hD hS hA (fun _ => rfl) (by decide) rfl (Nat.le_of_ble_eq_true rfl) (Nat.le_of_ble_eq_true rfl) (Nat.le_of_ble_eq_true rfl) dL_law_15 (fun hyz cA H hK2 hP hD hS => ?_)
  have ecA : cI = cA := rk_same hK2 0 1 rfl rfl (fun C h => by cases h)
  subst ecA
  clear hK2
  have hP : va_P (dC, dI) vwCl (cf_012345ytyz cI h0 h1 h2 h2a2 h2a3 h2a4 h2a5 h2a6 h2a7 h3 h3a0 h4 h4a0 h4a1 h4a2 q5 hyt hyz z0 z1 z2 z3 z4 z5 (fun _ => 0) (fun _ => 0)) H := hP
  have hD : va_D A (cf_012345ytyz cI h0 h1 h2 h2a2 h2a3 h2a4 h2a5 h2a6 h2a7 h3 h3a0 h4 h4a0 h4a1 h4a2 q5 hyt hyz z0 z1 z2 z3 z4 z5 (fun _ => 0) (fun _ => 0)) := hD
  refine lv_astore_n (lv' := [(3, .ref hyz), (2, .ref hyt), (1, .ref q5), (0, .ref b)]) hx hb dL_law_17 rfl hl (by decide) rfl (fun ls hl => ?_)
  refine lv_bipush (v := 24) hx hb dL_law_18 (by decide) ?_
  refine va_newa (atype := .int) (ty := .int) (N' := 24) (a0 := (24, .inl (fun _ => 0))) hx hb (hts (.arrayClass .int) (by decide +kernel)) rfl hK hP hD hS hA (fun _ => rfl) (by decide) rfl (Nat.le_of_ble_eq_true rfl) (Nat.le_of_ble_eq_true rfl) (Nat.le_of_ble_eq_true rfl) dL_law_20 (fun hyw cA H hK2 hP hD hS => ?_)
  have ecA : cI = cA := rk_same hK2 0 1 rfl rfl (fun C h => by cases h)
  subst ecA
  clear hK2
  have hP : va_P (dC, dI) vwCl (cf_012345ytyzyw cI h0 h1 h2 h2a2 h2a3 h2a4 h2a5 h2a6 h2a7 h3 h3a0 h4 h4a0 h4a1 h4a2 q5 hyt hyz hyw z0 z1 z2 z3 z4 z5 (fun _ => 0) (fun _ => 0) (fun _ => 0)) H := hP
  have hD : va_D A (cf_012345ytyzyw cI h0 h1 h2 h2a2 h2a3 h2a4 h2a5 h2a6 h2a7 h3 h3a0 h4 h4a0 h4a1 h4a2 q5 hyt hyz hyw z0 z1 z2 z3 z4 z5 (fun _ => 0) (fun _ => 0) (fun _ => 0)) := hD
  refine lv_astore (lv' := [(4, .ref hyw), (3, .ref hyz), (2, .ref hyt), (1, .ref q5), (0, .ref b)]) hx hb dL_law_22 hl (by decide) rfl (fun ls hl => ?_)
  refine lv_bipush (v := 24) hx hb dL_law_24 (by decide) ?_
  refine va_newa (atype := .int) (ty := .int) (N' := 24) (a0 := (24, .inl (fun _ => 0))) hx hb (hts (.arrayClass .int) (by decide +kernel)) rfl hK hP hD hS hA (fun _ => rfl) (by decide) rfl (Nat.le_of_ble_eq_true rfl) (Nat.le_of_ble_eq_true rfl) (Nat.le_of_ble_eq_true rfl) dL_law_26 (fun hyu cA H hK2 hP hD hS => ?_)
  have ecA : cI = cA := rk_same hK2 0 1 rfl rfl (fun C h => by cases h)
  subst ecA
  clear hK2
  have hP : va_P (dC, dI) vwCl (cf_012345ytyzywyu cI h0 h1 h2 h2a2 h2a3 h2a4 h2a5 h2a6 h2a7 h3 h3a0 h4 h4a0 h4a1 h4a2 q5 hyt hyz hyw hyu z0 z1 z2 z3 z4 z5 (fun _ => 0) (fun _ => 0) (fun _ => 0) (fun _ => 0)) H := hP
  have hD : va_D A (cf_012345ytyzywyu cI h0 h1 h2 h2a2 h2a3 h2a4 h2a5 h2a6 h2a7 h3 h3a0 h4 h4a0 h4a1 h4a2 q5 hyt hyz hyw hyu z0 z1 z2 z3 z4 z5 (fun _ => 0) (fun _ => 0) (fun _ => 0) (fun _ => 0)) := hD
  refine lv_astore (lv' := [(5, .ref hyu), (4, .ref hyw), (3, .ref hyz), (2, .ref hyt), (1, .ref q5), (0, .ref b)]) hx hb dL_law_28 hl (by decide) rfl (fun ls hl => ?_)
  refine lv_bipush (v := 24) hx hb dL_law_30 (by decide) ?_
  refine va_newa (atype := .int) (ty := .int) (N' := 24) (a0 := (24, .inl (fun _ => 0))) hx hb (hts (.arrayClass .int) (by decide +kernel)) rfl hK hP hD hS hA (fun _ => rfl) (by decide) rfl (Nat.le_of_ble_eq_true rfl) (Nat.le_of_ble_eq_true rfl) (Nat.le_of_ble_eq_true rfl) dL_law_32 (fun hyv cA H hK2 hP hD hS => ?_)
  have ecA : cI = cA := rk_same hK2 0 1 rfl rfl (fun C h => by cases h)
  subst ecA
  clear hK2
  have hP : va_P (dC, dI) vwCl (cf_012345ytyzywyuyv cI h0 h1 h2 h2a2 h2a3 h2a4 h2a5 h2a6 h2a7 h3 h3a0 h4 h4a0 h4a1 h4a2 q5 hyt hyz hyw hyu hyv z0 z1 z2 z3 z4 z5 (fun _ => 0) (fun _ => 0) (fun _ => 0) (fun _ => 0) (fun _ => 0)) H := hP
  have hD : va_D A (cf_012345ytyzywyuyv cI h0 h1 h2 h2a2 h2a3 h2a4 h2a5 h2a6 h2a7 h3 h3a0 h4 h4a0 h4a1 h4a2 q5 hyt hyz hyw hyu hyv z0 z1 z2 z3 z4 z5 (fun _ => 0) (fun _ => 0) (fun _ => 0) (fun _ => 0) (fun _ => 0)) := hD
  refine lv_astore (lv' := [(6, .ref hyv), (5, .ref hyu), (4, .ref hyw), (3, .ref hyz), (2, .ref hyt), (1, .ref q5), (0, .ref b)]) hx hb dL_law_34 hl (by decide) rfl (fun ls hl => ?_)
  refine lv_aload_n hx hb dL_law_36 rfl (lv_at hl 3 rfl) ?_
  refine lv_iconst (v := 2) hx hb dL_law_37 (by decide) ?_
  refine lv_iconst (v := (-1)) hx hb dL_law_38 (by decide) ?_
  refine va_iast (n := 13) (f := (fun _ => 0)) hx hb hK hP hD hS 17 0 rfl rfl (show vp_in 2 13 by unfold vp_in; decide) dL_law_39 (fun H locs hP hD hS => ?_)
  have hP : va_P (dC, dI) vwCl (cf_012345ytyzywyuyv cI h0 h1 h2 h2a2 h2a3 h2a4 h2a5 h2a6 h2a7 h3 h3a0 h4 h4a0 h4a1 h4a2 q5 hyt hyz hyw hyu hyv z0 z1 z2 z3 z4 z5 (fun _ => 0) (upd (fun _ => 0) (2 : Int32).toNatClampNeg (-1)) (fun _ => 0) (fun _ => 0) (fun _ => 0)) H := hP
  have hD : va_D A (cf_012345ytyzywyuyv cI h0 h1 h2 h2a2 h2a3 h2a4 h2a5 h2a6 h2a7 h3 h3a0 h4 h4a0 h4a1 h4a2 q5 hyt hyz hyw hyu hyv z0 z1 z2 z3 z4 z5 (fun _ => 0) (upd (fun _ => 0) (2 : Int32).toNatClampNeg (-1)) (fun _ => 0) (fun _ => 0) (fun _ => 0)) := hD
  refine lv_aload_n hx hb dL_law_40 rfl (lv_at hl 3 rfl) ?_
  refine lv_iconst (v := 3) hx hb dL_law_41 (by decide) ?_
  refine lv_iconst (v := (-1)) hx hb dL_law_42 (by decide) ?_
  refine va_iast (n := 13) (f := (upd (fun _ => 0) (2 : Int32).toNatClampNeg (-1))) hx hb hK hP hD hS 17 0 rfl rfl (show vp_in 3 13 by unfold vp_in; decide) dL_law_43 (fun H locs hP hD hS => ?_)
  have hP : va_P (dC, dI) vwCl (cf_012345ytyzywyuyv cI h0 h1 h2 h2a2 h2a3 h2a4 h2a5 h2a6 h2a7 h3 h3a0 h4 h4a0 h4a1 h4a2 q5 hyt hyz hyw hyu hyv z0 z1 z2 z3 z4 z5 (fun _ => 0) (upd (upd (fun _ => 0) (2 : Int32).toNatClampNeg (-1)) (3 : Int32).toNatClampNeg (-1)) (fun _ => 0) (fun _ => 0) (fun _ => 0)) H := hP
  have hD : va_D A (cf_012345ytyzywyuyv cI h0 h1 h2 h2a2 h2a3 h2a4 h2a5 h2a6 h2a7 h3 h3a0 h4 h4a0 h4a1 h4a2 q5 hyt hyz hyw hyu hyv z0 z1 z2 z3 z4 z5 (fun _ => 0) (upd (upd (fun _ => 0) (2 : Int32).toNatClampNeg (-1)) (3 : Int32).toNatClampNeg (-1)) (fun _ => 0) (fun _ => 0) (fun _ => 0)) := hD
  refine lv_aload_n hx hb dL_law_44 rfl (lv_at hl 3 rfl) ?_
  refine lv_iconst (v := 4) hx hb dL_law_45 (by decide) ?_
  refine lv_iconst (v := (-1)) hx hb dL_law_46 (by decide) ?_
  refine va_iast (n := 13) (f := (upd (upd (fun _ => 0) (2 : Int32).toNatClampNeg (-1)) (3 : Int32).toNatClampNeg (-1))) hx hb hK hP hD hS 17 0 rfl rfl (show vp_in 4 13 by unfold vp_in; decide) dL_law_47 (fun H locs hP hD hS => ?_)
  have hP : va_P (dC, dI) vwCl (cf_012345ytyzywyuyv cI h0 h1 h2 h2a2 h2a3 h2a4 h2a5 h2a6 h2a7 h3 h3a0 h4 h4a0 h4a1 h4a2 q5 hyt hyz hyw hyu hyv z0 z1 z2 z3 z4 z5 (fun _ => 0) (upd (upd (upd (fun _ => 0) (2 : Int32).toNatClampNeg (-1)) (3 : Int32).toNatClampNeg (-1)) (4 : Int32).toNatClampNeg (-1)) (fun _ => 0) (fun _ => 0) (fun _ => 0)) H := hP
  have hD : va_D A (cf_012345ytyzywyuyv cI h0 h1 h2 h2a2 h2a3 h2a4 h2a5 h2a6 h2a7 h3 h3a0 h4 h4a0 h4a1 h4a2 q5 hyt hyz hyw hyu hyv z0 z1 z2 z3 z4 z5 (fun _ => 0) (upd (upd (upd (fun _ => 0) (2 : Int32).toNatClampNeg (-1)) (3 : Int32).toNatClampNeg (-1)) (4 : Int32).toNatClampNeg (-1)) (fun _ => 0) (fun _ => 0) (fun _ => 0)) := hD
  refine lv_aload_n hx hb dL_law_48 rfl (lv_at hl 3 rfl) ?_
  refine lv_bipush (v := 7) hx hb dL_law_49 (by decide) ?_
  refine lv_iconst (v := (-1)) hx hb dL_law_51 (by decide) ?_
  refine va_iast (n := 13) (f := (upd (upd (upd (fun _ => 0) (2 : Int32).toNatClampNeg (-1)) (3 : Int32).toNatClampNeg (-1)) (4 : Int32).toNatClampNeg (-1))) hx hb hK hP hD hS 17 0 rfl rfl (show vp_in 7 13 by unfold vp_in; decide) dL_law_52 (fun H locs hP hD hS => ?_)
  have hP : va_P (dC, dI) vwCl (cf_012345ytyzywyuyv cI h0 h1 h2 h2a2 h2a3 h2a4 h2a5 h2a6 h2a7 h3 h3a0 h4 h4a0 h4a1 h4a2 q5 hyt hyz hyw hyu hyv z0 z1 z2 z3 z4 z5 (fun _ => 0) (upd (upd (upd (upd (fun _ => 0) (2 : Int32).toNatClampNeg (-1)) (3 : Int32).toNatClampNeg (-1)) (4 : Int32).toNatClampNeg (-1)) (7 : Int32).toNatClampNeg (-1)) (fun _ => 0) (fun _ => 0) (fun _ => 0)) H := hP
  have hD : va_D A (cf_012345ytyzywyuyv cI h0 h1 h2 h2a2 h2a3 h2a4 h2a5 h2a6 h2a7 h3 h3a0 h4 h4a0 h4a1 h4a2 q5 hyt hyz hyw hyu hyv z0 z1 z2 z3 z4 z5 (fun _ => 0) (upd (upd (upd (upd (fun _ => 0) (2 : Int32).toNatClampNeg (-1)) (3 : Int32).toNatClampNeg (-1)) (4 : Int32).toNatClampNeg (-1)) (7 : Int32).toNatClampNeg (-1)) (fun _ => 0) (fun _ => 0) (fun _ => 0)) := hD
  refine lv_aload_n hx hb dL_law_53 rfl (lv_at hl 3 rfl) ?_
  refine lv_bipush (v := 8) hx hb dL_law_54 (by decide) ?_
  refine lv_iconst (v := (-1)) hx hb dL_law_56 (by decide) ?_
  refine va_iast (n := 13) (f := (upd (upd (upd (upd (fun _ => 0) (2 : Int32).toNatClampNeg (-1)) (3 : Int32).toNatClampNeg (-1)) (4 : Int32).toNatClampNeg (-1)) (7 : Int32).toNatClampNeg (-1))) hx hb hK hP hD hS 17 0 rfl rfl (show vp_in 8 13 by unfold vp_in; decide) dL_law_57 (fun H locs hP hD hS => ?_)
  have hP : va_P (dC, dI) vwCl (cf_012345ytyzywyuyv cI h0 h1 h2 h2a2 h2a3 h2a4 h2a5 h2a6 h2a7 h3 h3a0 h4 h4a0 h4a1 h4a2 q5 hyt hyz hyw hyu hyv z0 z1 z2 z3 z4 z5 (fun _ => 0) (upd (upd (upd (upd (upd (fun _ => 0) (2 : Int32).toNatClampNeg (-1)) (3 : Int32).toNatClampNeg (-1)) (4 : Int32).toNatClampNeg (-1)) (7 : Int32).toNatClampNeg (-1)) (8 : Int32).toNatClampNeg (-1)) (fun _ => 0) (fun _ => 0) (fun _ => 0)) H := hP
  have hD : va_D A (cf_012345ytyzywyuyv cI h0 h1 h2 h2a2 h2a3 h2a4 h2a5 h2a6 h2a7 h3 h3a0 h4 h4a0 h4a1 h4a2 q5 hyt hyz hyw hyu hyv z0 z1 z2 z3 z4 z5 (fun _ => 0) (upd (upd (upd (upd (upd (fun _ => 0) (2 : Int32).toNatClampNeg (-1)) (3 : Int32).toNatClampNeg (-1)) (4 : Int32).toNatClampNeg (-1)) (7 : Int32).toNatClampNeg (-1)) (8 : Int32).toNatClampNeg (-1)) (fun _ => 0) (fun _ => 0) (fun _ => 0)) := hD
  refine lv_aload_n hx hb dL_law_58 rfl (lv_at hl 3 rfl) ?_
  refine lv_bipush (v := 10) hx hb dL_law_59 (by decide) ?_
  refine lv_iconst (v := (-1)) hx hb dL_law_61 (by decide) ?_
  refine va_iast (n := 13) (f := (upd (upd (upd (upd (upd (fun _ => 0) (2 : Int32).toNatClampNeg (-1)) (3 : Int32).toNatClampNeg (-1)) (4 : Int32).toNatClampNeg (-1)) (7 : Int32).toNatClampNeg (-1)) (8 : Int32).toNatClampNeg (-1))) hx hb hK hP hD hS 17 0 rfl rfl (show vp_in 10 13 by unfold vp_in; decide) dL_law_62 (fun H locs hP hD hS => ?_)
  have hP : va_P (dC, dI) vwCl (cf_012345ytyzywyuyv cI h0 h1 h2 h2a2 h2a3 h2a4 h2a5 h2a6 h2a7 h3 h3a0 h4 h4a0 h4a1 h4a2 q5 hyt hyz hyw hyu hyv z0 z1 z2 z3 z4 z5 (fun _ => 0) (upd (upd (upd (upd (upd (upd (fun _ => 0) (2 : Int32).toNatClampNeg (-1)) (3 : Int32).toNatClampNeg (-1)) (4 : Int32).toNatClampNeg (-1)) (7 : Int32).toNatClampNeg (-1)) (8 : Int32).toNatClampNeg (-1)) (10 : Int32).toNatClampNeg (-1)) (fun _ => 0) (fun _ => 0) (fun _ => 0)) H := hP
  have hD : va_D A (cf_012345ytyzywyuyv cI h0 h1 h2 h2a2 h2a3 h2a4 h2a5 h2a6 h2a7 h3 h3a0 h4 h4a0 h4a1 h4a2 q5 hyt hyz hyw hyu hyv z0 z1 z2 z3 z4 z5 (fun _ => 0) (upd (upd (upd (upd (upd (upd (fun _ => 0) (2 : Int32).toNatClampNeg (-1)) (3 : Int32).toNatClampNeg (-1)) (4 : Int32).toNatClampNeg (-1)) (7 : Int32).toNatClampNeg (-1)) (8 : Int32).toNatClampNeg (-1)) (10 : Int32).toNatClampNeg (-1)) (fun _ => 0) (fun _ => 0) (fun _ => 0)) := hD
  have hP : va_P (dC, dI) vwCl (cf_012345ytyzywyuyv cI h0 h1 h2 h2a2 h2a3 h2a4 h2a5 h2a6 h2a7 h3 h3a0 h4 h4a0 h4a1 h4a2 q5 hyt hyz hyw hyu hyv z0 z1 z2 z3 z4 z5 (fun _ => 0) zyz (fun _ => 0) (fun _ => 0) (fun _ => 0)) H := hP
  have hD : va_D A (cf_012345ytyzywyuyv cI h0 h1 h2 h2a2 h2a3 h2a4 h2a5 h2a6 h2a7 h3 h3a0 h4 h4a0 h4a1 h4a2 q5 hyt hyz hyw hyu hyv z0 z1 z2 z3 z4 z5 (fun _ => 0) zyz (fun _ => 0) (fun _ => 0) (fun _ => 0)) := hD
  refine lv_iconst (v := 0) hx hb dL_law_63 (by decide) ?_
  refine lv_istore (lv' := [(7, .int 0), (6, .ref hyv), (5, .ref hyu), (4, .ref hyw), (3, .ref hyz), (2, .ref hyt), (1, .ref q5), (0, .ref b)]) hx hb dL_law_64 hl (by decide) rfl (fun ls hl => ?_)
  refine W.widen (k := 21 + 151 * 0 + 0) (n := 362 + 960 * 0 + 0) (Nat.le_of_ble_eq_true rfl) (Nat.le_of_ble_eq_true rfl) ?_
  exact law_loop hst dC dI cI h0 h1 h2 h2a2 h2a3 h2a4 h2a5 h2a6 h2a7 h3 h3a0 h4 h4a0 h4a1 h4a2 q5 hyt hyz hyw hyu hyv A hAe C0 hK hN ⟨hSW, hXW, hZ, hNc⟩ 64 0 rfl z0 z1 z2 z3 z4 z5 (fun _ => 0) zyz (fun _ => 0) (fun _ => 0) (fun _ => 0) 0 H _ hP hD hS ls (lv_sub hl [7, 6, 5, 4, 3, 2, 1, 0] rfl) (pure_law_open L xs)
