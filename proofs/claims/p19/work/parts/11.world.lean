abbrev rmX4_holderOf : Room := { frames := 0, cells := 0, slots := 0, locals := 0 }
set_option maxHeartbeats 2000000 in
set_option maxRecDepth 100000 in
theorem ktX4_holderOf (l : Launch) (dC : Nat → ClassId) (dI : Nat → Nat → Nat) (cI : ClassId) (h4 h4a0 h4a1 h4a2 : Nat) (sz : Nat) (s4 : S4) (a1 : Int32) (r : Int32) (hf : fX4_holderOf s4 a1 = some r) : Met l yX4_holderOf wsX4_holderOf rmX4_holderOf (va_Pc [.ref h4, .int a1] (pre_w (dC, dI) (cf_4 cI h4 h4a0 h4a1 h4a2 s4) [(cI, .int)] sz)) (va_Qi (fun (r' : Int32) (_ : Unit) => r' = r) (post_w (dC, dI) (cf_4 cI h4 h4a0 h4a1 h4a2 s4) [(cI, .int)] (va_A (cf_4 cI h4 h4a0 h4a1 h4a2 s4) sz)) (va_A (cf_4 cI h4 h4a0 h4a1 h4a2 s4) sz)) 0 0 (va_A (cf_4 cI h4 h4a0 h4a1 h4a2 s4) sz) := by
  refine gm_i (cc := cX4_holderOf) (maxL := 2) (by decide) rfl (Nat.le_of_ble_eq_true rfl) ?_
  intro p e s m below meth c A QQ ls hx hb hml hown hts hK hN hA hP hD hS hl hret
  have hown : s.vm.findClass RX4 = some m.cls := hown
  have hl : lv_has ls 2 [(0, .ref h4), (1, .int a1)] := hl
  have in4 : ∀ w ∈ u_ws RX4 TX4 6, w ∈ wsX4_holderOf := by decide +kernel
  have fl21 := hts (.fieldLink RX4 21 "ParserParlour$World" "count" "I") (by decide +kernel)
  have fl18 := hts (.fieldLink RX4 18 "ParserParlour$World" "holders" "[I") (by decide +kernel)
  have J29 : ∀ (t0 : Int32) (H : Heap) (locs : List Loc), va_P (dC, dI) vwCl (cf_4 cI h4 h4a0 h4a1 h4a2 s4) H → va_D A (cf_4 cI h4 h4a0 h4a1 h4a2 s4) → va_S A s.heap H locs → ∀ (ls : Array Slot), lv_has ls 2 [] → fX4_holderOf_29 s4 a1 t0 = some r → W p l e rmX4_holderOf s m ([.ref h4, .int a1] : List Value).toArray below meth c H locs 0 0 QQ (F0 m 29 ls [.int t0]) := by
    intro  t0 H locs hP hD hS ls hl hf
    unfold fX4_holderOf_29 at hf
    have hf : (some t0 : Option (Int32)) = some r := hf
    have he := Option.some.inj hf
    have he0 : t0 = r := he
    exact hret _ _ _ _ _ _ he0 rfl dX4_holderOf_29 hP hD hS
  have J27 : ∀ (H : Heap) (locs : List Loc), va_P (dC, dI) vwCl (cf_4 cI h4 h4a0 h4a1 h4a2 s4) H → va_D A (cf_4 cI h4 h4a0 h4a1 h4a2 s4) → va_S A s.heap H locs → ∀ (ls : Array Slot), lv_has ls 2 [] → fX4_holderOf_27 s4 a1 = some r → W p l e rmX4_holderOf s m ([.ref h4, .int a1] : List Value).toArray below meth c H locs 0 0 QQ (F0 m 27 ls []) := by
    intro   H locs hP hD hS ls hl hf
    unfold fX4_holderOf_27 at hf
    refine lv_bipush (v := (-2)) hx hb dX4_holderOf_27 (by decide) ?_
    exact J29 (-2) _ _ hP hD hS _ (lv_sub hl [] rfl) hf
  unfold fX4_holderOf at hf
  refine lv_iload_n hx hb dX4_holderOf_0 rfl (lv_at hl 1 rfl) ?_
  refine lv_if_lt (tgt := 27) hx hb dX4_holderOf_1 (by decide) (fun c_1 => ?_) (fun c_1 => ?_)
  · have hf := it_t c_1 hf
    exact J27 _ _ hP hD hS _ (lv_sub hl [] rfl) hf
  · have hf := it_f c_1 hf
    refine lv_iload_n hx hb dX4_holderOf_4 rfl (lv_at hl 1 rfl) ?_
    refine lv_aload_n hx hb dX4_holderOf_5 rfl (lv_at hl 0 rfl) ?_
    refine va_get (D := (dC, dI)) (ci := 4) (v := .int (S4_count s4)) (C := RX4) (T := TX4) (N := 6) hx hb hts in4 hown hK hP 0 rfl rfl 3 (by decide) fl21 (fun _ h9 => h9) rfl dX4_holderOf_6 ?_
    refine lv_icmp_ge (tgt := 27) hx hb dX4_holderOf_9 (by decide) (fun c_2 => ?_) (fun c_2 => ?_)
    · have hf := it_t c_2 hf
      exact J27 _ _ hP hD hS _ (lv_sub hl [] rfl) hf
    · have hf := it_f c_2 hf
      refine lv_iload_n hx hb dX4_holderOf_12 rfl (lv_at hl 1 rfl) ?_
      refine lv_bipush (v := 12) hx hb dX4_holderOf_13 (by decide) ?_
      refine lv_icmp_ge (tgt := 27) hx hb dX4_holderOf_15 (by decide) (fun c_3 => ?_) (fun c_3 => ?_)
      · have hf := it_t c_3 hf
        exact J27 _ _ hP hD hS _ (lv_sub hl [] rfl) hf
      · have hf := it_f c_3 hf
        refine lv_aload_n hx hb dX4_holderOf_18 rfl (lv_at hl 0 rfl) ?_
        refine va_get (D := (dC, dI)) (ci := 4) (v := .ref h4a2) (C := RX4) (T := TX4) (N := 6) hx hb hts in4 hown hK hP 0 rfl rfl 2 (by decide) fl18 (fun _ h9 => h9) rfl dX4_holderOf_19 ?_
        refine lv_iload_n hx hb dX4_holderOf_22 rfl (lv_at hl 1 rfl) ?_
        obtain ⟨hi_4, hf⟩ := ai_ok hf
        refine va_iald (n := 12) (f := (S4_holders s4)) hx hb hK hP 3 0 rfl rfl hi_4 dX4_holderOf_23 ?_
        refine lv_goto (tgt := 29) hx hb dX4_holderOf_24 (by decide) ?_
        exact J29 ((S4_holders s4) a1.toNatClampNeg) _ _ hP hD hS _ (lv_sub hl [] rfl) hf
abbrev rmX4_reachable : Room := { frames := 1, cells := 0, slots := 0, locals := 21 }
set_option maxHeartbeats 2000000 in
set_option maxRecDepth 100000 in
theorem ktX4_reachable (l : Launch) (dC : Nat → ClassId) (dI : Nat → Nat → Nat) (cI : ClassId) (h4 h4a0 h4a1 h4a2 : Nat) (sz : Nat) (s4 : S4) (r : Int32) (hf : fX4_reachable s4 = some r) : Met l yX4_reachable wsX4_reachable rmX4_reachable (va_Pc [.ref h4] (pre_w (dC, dI) (cf_4 cI h4 h4a0 h4a1 h4a2 s4) [(cI, .int)] sz)) (va_Qi (fun (r' : Int32) (_ : Unit) => r' = r) (post_w (dC, dI) (cf_4 cI h4 h4a0 h4a1 h4a2 s4) [(cI, .int)] (va_A (cf_4 cI h4 h4a0 h4a1 h4a2 s4) sz)) (va_A (cf_4 cI h4 h4a0 h4a1 h4a2 s4) sz)) 0 0 (va_A (cf_4 cI h4 h4a0 h4a1 h4a2 s4) sz) := by
  refine gm_i (cc := cX4_reachable) (maxL := 5) (by decide) rfl (Nat.le_of_ble_eq_true rfl) ?_
  intro p e s m below meth c A QQ ls hx hb hml hown hts hK hN hA hP hD hS hl hret
  have hown : s.vm.findClass RX4 = some m.cls := hown
  have hl : lv_has ls 5 [(0, .ref h4)] := hl
  have in4 : ∀ w ∈ u_ws RX4 TX4 6, w ∈ wsX4_reachable := by decide +kernel
  have fl21 := hts (.fieldLink RX4 21 "ParserParlour$World" "count" "I") (by decide +kernel)
  have fl28 := hts (.fieldLink RX4 28 "ParserParlour$World" "openBoxes" "I") (by decide +kernel)
  have J61 : ∀ (k4 : Int32 → Int32 → Option (Int32)) (hk4 : ∀ (x1 : Int32) (x2 : Int32) (H : Heap) (locs : List Loc), va_P (dC, dI) vwCl (cf_4 cI h4 h4a0 h4a1 h4a2 s4) H → va_D A (cf_4 cI h4 h4a0 h4a1 h4a2 s4) → va_S A s.heap H locs → ∀ (ls : Array Slot), lv_has ls 5 [(0, .ref h4), (1, .int x1), (2, .int x2)] → k4 x1 x2 = some r → W p l e rmX4_reachable s m ([.ref h4] : List Value).toArray below meth c H locs 0 0 QQ (F0 m 4 ls [])) (x1 : Int32) (x2 : Int32) (H : Heap) (locs : List Loc), va_P (dC, dI) vwCl (cf_4 cI h4 h4a0 h4a1 h4a2 s4) H → va_D A (cf_4 cI h4 h4a0 h4a1 h4a2 s4) → va_S A s.heap H locs → ∀ (ls : Array Slot), lv_has ls 5 [(0, .ref h4), (1, .int x1), (2, .int x2)] → fX4_reachable_61 s4 k4 x1 x2 = some r → W p l e rmX4_reachable s m ([.ref h4] : List Value).toArray below meth c H locs 0 0 QQ (F0 m 61 ls []) := by
    intro k4 hk4 x1 x2 H locs hP hD hS ls hl hf
    unfold fX4_reachable_61 at hf
    refine lv_iinc (v := (x2 + 1)) (lv' := [(2, .int (x2 + 1)), (0, .ref h4), (1, .int x1)]) hx hb dX4_reachable_61 hl (k := 2) rfl rfl (by decide) rfl (fun ls hl => ?_)
    refine lv_goto (tgt := 4) hx hb dX4_reachable_64 (by decide) ?_
    exact hk4 x1 (x2 + 1) _ _ hP hD hS _ (lv_sub hl [1, 2, 0] rfl) hf
  have J51 : ∀ (k4 : Int32 → Int32 → Option (Int32)) (hk4 : ∀ (x1 : Int32) (x2 : Int32) (H : Heap) (locs : List Loc), va_P (dC, dI) vwCl (cf_4 cI h4 h4a0 h4a1 h4a2 s4) H → va_D A (cf_4 cI h4 h4a0 h4a1 h4a2 s4) → va_S A s.heap H locs → ∀ (ls : Array Slot), lv_has ls 5 [(0, .ref h4), (1, .int x1), (2, .int x2)] → k4 x1 x2 = some r → W p l e rmX4_reachable s m ([.ref h4] : List Value).toArray below meth c H locs 0 0 QQ (F0 m 4 ls [])) (x1 : Int32) (x2 : Int32) (x3 : Int32) (H : Heap) (locs : List Loc), va_P (dC, dI) vwCl (cf_4 cI h4 h4a0 h4a1 h4a2 s4) H → va_D A (cf_4 cI h4 h4a0 h4a1 h4a2 s4) → va_S A s.heap H locs → ∀ (ls : Array Slot), lv_has ls 5 [(0, .ref h4), (1, .int x1), (2, .int x2), (3, .int x3)] → fX4_reachable_51 s4 k4 x1 x2 x3 = some r → W p l e rmX4_reachable s m ([.ref h4] : List Value).toArray below meth c H locs 0 0 QQ (F0 m 51 ls []) := by
    intro k4 hk4 x1 x2 x3 H locs hP hD hS ls hl hf
    unfold fX4_reachable_51 at hf
    refine lv_iload_n hx hb dX4_reachable_51 rfl (lv_at hl 3 rfl) ?_
    refine lv_if_ge (tgt := 61) hx hb dX4_reachable_52 (by decide) (fun c_1 => ?_) (fun c_1 => ?_)
    · have hf := it_t c_1 hf
      exact J61 k4 hk4 x1 x2 _ _ hP hD hS _ (lv_sub hl [0, 1, 2] rfl) hf
    · have hf := it_f c_1 hf
      refine lv_iload_n hx hb dX4_reachable_55 rfl (lv_at hl 1 rfl) ?_
      refine lv_iconst (v := 1) hx hb dX4_reachable_56 (by decide) ?_
      refine lv_iload_n hx hb dX4_reachable_57 rfl (lv_at hl 2 rfl) ?_
      refine lv_ishl hx hb dX4_reachable_58 ?_
      refine lv_ior hx hb dX4_reachable_59 ?_
      refine lv_istore_n (lv' := [(1, .int (x1 ||| ((1 : Int32) <<< (x2 &&& 31)))), (0, .ref h4), (2, .int x2), (3, .int x3)]) hx hb dX4_reachable_60 rfl hl (by decide) rfl (fun ls hl => ?_)
      exact J61 k4 hk4 (x1 ||| ((1 : Int32) <<< (x2 &&& 31))) x2 _ _ hP hD hS _ (lv_sub hl [1, 0, 2] rfl) hf
  have J21 : ∀ (k4 : Int32 → Int32 → Option (Int32)) (hk4 : ∀ (x1 : Int32) (x2 : Int32) (H : Heap) (locs : List Loc), va_P (dC, dI) vwCl (cf_4 cI h4 h4a0 h4a1 h4a2 s4) H → va_D A (cf_4 cI h4 h4a0 h4a1 h4a2 s4) → va_S A s.heap H locs → ∀ (ls : Array Slot), lv_has ls 5 [(0, .ref h4), (1, .int x1), (2, .int x2)] → k4 x1 x2 = some r → W p l e rmX4_reachable s m ([.ref h4] : List Value).toArray below meth c H locs 0 0 QQ (F0 m 4 ls [])) (n : Nat) (x1 : Int32) (x2 : Int32) (x3 : Int32) (x4 : Int32) (H : Heap) (locs : List Loc), va_P (dC, dI) vwCl (cf_4 cI h4 h4a0 h4a1 h4a2 s4) H → va_D A (cf_4 cI h4 h4a0 h4a1 h4a2 s4) → va_S A s.heap H locs → ∀ (ls : Array Slot), lv_has ls 5 [(0, .ref h4), (1, .int x1), (2, .int x2), (3, .int x3), (4, .int x4)] → fX4_reachable_21 s4 k4 n x1 x2 x3 x4 = some r → W p l e rmX4_reachable s m ([.ref h4] : List Value).toArray below meth c H locs 0 0 QQ (F0 m 21 ls []) := by
    intro k4 hk4
    intro n
    induction n with
    | zero =>
      intro x1 x2 x3 x4 H locs hP hD hS ls hl hf
      cases hf
    | succ n ih =>
      intro x1 x2 x3 x4 H locs hP hD hS ls hl hf
      rw [fX4_reachable_21] at hf
      refine lv_iload hx hb dX4_reachable_21 (lv_at hl 4 rfl) ?_
      refine lv_bipush (v := 12) hx hb dX4_reachable_23 (by decide) ?_
      refine lv_icmp_ge (tgt := 51) hx hb dX4_reachable_25 (by decide) (fun c_1 => ?_) (fun c_1 => ?_)
      · have hf := it_t c_1 hf
        exact J51 k4 hk4 x1 x2 x3 _ _ hP hD hS _ (lv_sub hl [0, 1, 2, 3] rfl) hf
      · have hf := it_f c_1 hf
        refine lv_aload_n hx hb dX4_reachable_28 rfl (lv_at hl 0 rfl) ?_
        refine va_get (D := (dC, dI)) (ci := 4) (v := .int (S4_openBoxes s4)) (C := RX4) (T := TX4) (N := 6) hx hb hts in4 hown hK hP 0 rfl rfl 5 (by decide) fl28 (fun _ h9 => h9) rfl dX4_reachable_29 ?_
        refine lv_iload_n hx hb dX4_reachable_32 rfl (lv_at hl 3 rfl) ?_
        obtain ⟨r_2, hc_2, hf⟩ := bn1_ok hf
        refine gc_i (wc := ([] : va_W)) (wr := (cf_4 cI h4 h4a0 h4a1 h4a2 s4)) (w1 := ([] : va_W)) (ws' := (cf_4 cI h4 h4a0 h4a1 h4a2 s4)) hP hD hS hA [] [0, 1, 2, 3] [0, 1, 2, 3] rfl rfl (by decide) (by decide) rfl (by decide) (va_runSN (As := [.int (S4_openBoxes s4), .int x3]) (rest := []) ⟨hx, hb, hml, hown, hts⟩ (ktX5_contains l dC dI _ (S4_openBoxes s4) x3 r_2 hc_2) ⟨va_cnB (host := RX5) 2 hts ggX4_reachable_X5_contains rfl rfl rfl (hN _ (List.mem_of_getElem? (i := 27) rfl)) (hts (.initialized RX5) (by decide +kernel)) (by decide +kernel) ⟨Nat.le_of_ble_eq_true rfl, Nat.le_of_ble_eq_true rfl⟩, hts (.static yX5_contains) (by decide +kernel), trivial⟩ (gc_S (hP.sub (ws' := ([] : va_W)) [] rfl) (hK.sub (tys' := []) [] rfl) (hD.sub (ws' := ([] : va_W)) [] (by decide) rfl) hN) rfl rfl hl.1 rfl (lv_room (Nat.le_of_ble_eq_true rfl)) dX4_reachable_33 ⟨Nat.zero_le _, Nat.zero_le _⟩) (fun H locs hP hD hS => ?_)
        refine lv_if_eq (tgt := 51) hx hb dX4_reachable_36 (by decide) (fun c_3 => ?_) (fun c_3 => ?_)
        · have hf := it_t c_3 hf
          exact J51 k4 hk4 x1 x2 x3 _ _ hP hD hS _ (lv_sub hl [0, 1, 2, 3] rfl) hf
        · have hf := it_f c_3 hf
          refine lv_aload_n hx hb dX4_reachable_39 rfl (lv_at hl 0 rfl) ?_
          refine lv_iload_n hx hb dX4_reachable_40 rfl (lv_at hl 3 rfl) ?_
          obtain ⟨r_4, hc_4, hf⟩ := bn1_ok hf
          refine gc_i (wc := (cf_4 cI h4 h4a0 h4a1 h4a2 s4)) (wr := ([] : va_W)) (w1 := (cf_4 cI h4 h4a0 h4a1 h4a2 s4)) (ws' := (cf_4 cI h4 h4a0 h4a1 h4a2 s4)) hP hD hS hA [0, 1, 2, 3] [] [0, 1, 2, 3] rfl rfl (by decide) (by decide) rfl (by decide) (va_runV (As := [.int x3]) (rest := []) ⟨hx, hb, hml, hown, hts⟩ (ktX4_holderOf l dC dI cI h4 h4a0 h4a1 h4a2 _ s4 x3 r_4 hc_4) (cwV 1 hts gX4_reachable_X4_holderOf rfl rfl rfl (by decide +kernel) ⟨Nat.le_of_ble_eq_true rfl, Nat.le_of_ble_eq_true rfl⟩) (gc_V (ci := 4) (q0 := 0) (C := RX4) (T := TX4) (N := 6) (hP.sub (ws' := (cf_4 cI h4 h4a0 h4a1 h4a2 s4)) [0, 1, 2, 3] rfl) (hK.sub (tys' := [(cI, .int)]) [0] rfl) (hD.sub (ws' := (cf_4 cI h4 h4a0 h4a1 h4a2 s4)) [0, 1, 2, 3] (by decide) rfl) hN rfl rfl) rfl rfl hl.1 rfl (lv_room (Nat.le_of_ble_eq_true rfl)) dX4_reachable_41 ⟨Nat.zero_le _, Nat.zero_le _⟩) (fun H locs hP hD hS => ?_)
          refine lv_istore_n (lv' := [(3, .int r_4), (0, .ref h4), (1, .int x1), (2, .int x2), (4, .int x4)]) hx hb dX4_reachable_44 rfl hl (by decide) rfl (fun ls hl => ?_)
          refine lv_iinc (v := (x4 + 1)) (lv' := [(4, .int (x4 + 1)), (3, .int r_4), (0, .ref h4), (1, .int x1), (2, .int x2)]) hx hb dX4_reachable_45 hl (k := 4) rfl rfl (by decide) rfl (fun ls hl => ?_)
          refine lv_goto (tgt := 21) hx hb dX4_reachable_48 (by decide) ?_
          exact ih x1 x2 r_4 (x4 + 1) _ _ hP hD hS _ (lv_sub hl [2, 3, 4, 1, 0] rfl) hf
  have J4 : ∀ (n : Nat) (x1 : Int32) (x2 : Int32) (H : Heap) (locs : List Loc), va_P (dC, dI) vwCl (cf_4 cI h4 h4a0 h4a1 h4a2 s4) H → va_D A (cf_4 cI h4 h4a0 h4a1 h4a2 s4) → va_S A s.heap H locs → ∀ (ls : Array Slot), lv_has ls 5 [(0, .ref h4), (1, .int x1), (2, .int x2)] → fX4_reachable_4 s4 n x1 x2 = some r → W p l e rmX4_reachable s m ([.ref h4] : List Value).toArray below meth c H locs 0 0 QQ (F0 m 4 ls []) := by
    intro n
    induction n with
    | zero =>
      intro x1 x2 H locs hP hD hS ls hl hf
      cases hf
    | succ n ih =>
      intro x1 x2 H locs hP hD hS ls hl hf
      rw [fX4_reachable_4] at hf
      refine lv_iload_n hx hb dX4_reachable_4 rfl (lv_at hl 2 rfl) ?_
      refine lv_aload_n hx hb dX4_reachable_5 rfl (lv_at hl 0 rfl) ?_
      refine va_get (D := (dC, dI)) (ci := 4) (v := .int (S4_count s4)) (C := RX4) (T := TX4) (N := 6) hx hb hts in4 hown hK hP 0 rfl rfl 3 (by decide) fl21 (fun _ h9 => h9) rfl dX4_reachable_6 ?_
      refine lv_icmp_ge (tgt := 67) hx hb dX4_reachable_9 (by decide) (fun c_1 => ?_) (fun c_1 => ?_)
      · have hf := it_t c_1 hf
        refine lv_iload_n hx hb dX4_reachable_67 rfl (lv_at hl 1 rfl) ?_
        have hf : (some x1 : Option (Int32)) = some r := hf
        have he := Option.some.inj hf
        have he0 : x1 = r := he
        exact hret _ _ _ _ _ _ he0 rfl dX4_reachable_68 hP hD hS
      · have hf := it_f c_1 hf
        refine lv_aload_n hx hb dX4_reachable_12 rfl (lv_at hl 0 rfl) ?_
        refine lv_iload_n hx hb dX4_reachable_13 rfl (lv_at hl 2 rfl) ?_
        obtain ⟨r_2, hc_2, hf⟩ := bn1_ok hf
        refine gc_i (wc := (cf_4 cI h4 h4a0 h4a1 h4a2 s4)) (wr := ([] : va_W)) (w1 := (cf_4 cI h4 h4a0 h4a1 h4a2 s4)) (ws' := (cf_4 cI h4 h4a0 h4a1 h4a2 s4)) hP hD hS hA [0, 1, 2, 3] [] [0, 1, 2, 3] rfl rfl (by decide) (by decide) rfl (by decide) (va_runV (As := [.int x2]) (rest := []) ⟨hx, hb, hml, hown, hts⟩ (ktX4_holderOf l dC dI cI h4 h4a0 h4a1 h4a2 _ s4 x2 r_2 hc_2) (cwV 1 hts gX4_reachable_X4_holderOf rfl rfl rfl (by decide +kernel) ⟨Nat.le_of_ble_eq_true rfl, Nat.le_of_ble_eq_true rfl⟩) (gc_V (ci := 4) (q0 := 0) (C := RX4) (T := TX4) (N := 6) (hP.sub (ws' := (cf_4 cI h4 h4a0 h4a1 h4a2 s4)) [0, 1, 2, 3] rfl) (hK.sub (tys' := [(cI, .int)]) [0] rfl) (hD.sub (ws' := (cf_4 cI h4 h4a0 h4a1 h4a2 s4)) [0, 1, 2, 3] (by decide) rfl) hN rfl rfl) rfl rfl hl.1 rfl (lv_room (Nat.le_of_ble_eq_true rfl)) dX4_reachable_14 ⟨Nat.zero_le _, Nat.zero_le _⟩) (fun H locs hP hD hS => ?_)
        refine lv_istore_n (lv' := [(3, .int r_2), (0, .ref h4), (1, .int x1), (2, .int x2)]) hx hb dX4_reachable_17 rfl hl (by decide) rfl (fun ls hl => ?_)
        refine lv_iconst (v := 0) hx hb dX4_reachable_18 (by decide) ?_
        refine lv_istore (lv' := [(4, .int 0), (3, .int r_2), (0, .ref h4), (1, .int x1), (2, .int x2)]) hx hb dX4_reachable_19 hl (by decide) rfl (fun ls hl => ?_)
        exact J21 (fun x1 x2 => fX4_reachable_4 s4 n x1 x2) (fun x1 x2 H locs hP hD hS ls hl hf => ih x1 x2 H locs hP hD hS ls hl hf) 64 x1 x2 r_2 0 _ _ hP hD hS _ (lv_sub hl [2, 3, 4, 1, 0] rfl) hf
  unfold fX4_reachable at hf
  refine lv_iconst (v := 0) hx hb dX4_reachable_0 (by decide) ?_
  refine lv_istore_n (lv' := [(1, .int 0), (0, .ref h4)]) hx hb dX4_reachable_1 rfl hl (by decide) rfl (fun ls hl => ?_)
  refine lv_iconst (v := 0) hx hb dX4_reachable_2 (by decide) ?_
  refine lv_istore_n (lv' := [(2, .int 0), (1, .int 0), (0, .ref h4)]) hx hb dX4_reachable_3 rfl hl (by decide) rfl (fun ls hl => ?_)
  exact J4 64 0 0 _ _ hP hD hS _ (lv_sub hl [2, 1, 0] rfl) hf
abbrev rmX4_described : Room := { frames := 0, cells := 0, slots := 0, locals := 0 }
set_option maxHeartbeats 2000000 in
set_option maxRecDepth 100000 in
theorem ktX4_described (l : Launch) (dC : Nat → ClassId) (dI : Nat → Nat → Nat) (cI : ClassId) (h4 h4a0 h4a1 h4a2 : Nat) (sz : Nat) (s4 : S4) (a1 : Int32) (a2 : Int32) (a3 : Int32) (r : Int32) (hf : fX4_described s4 a1 a2 a3 = some r) : Met l yX4_described wsX4_described rmX4_described (va_Pc [.ref h4, .int a1, .int a2, .int a3] (pre_w (dC, dI) (cf_4 cI h4 h4a0 h4a1 h4a2 s4) [(cI, .int)] sz)) (va_Qi (fun (r' : Int32) (_ : Unit) => r' = r) (post_w (dC, dI) (cf_4 cI h4 h4a0 h4a1 h4a2 s4) [(cI, .int)] (va_A (cf_4 cI h4 h4a0 h4a1 h4a2 s4) sz)) (va_A (cf_4 cI h4 h4a0 h4a1 h4a2 s4) sz)) 0 0 (va_A (cf_4 cI h4 h4a0 h4a1 h4a2 s4) sz) := by
  refine gm_i (cc := cX4_described) (maxL := 7) (by decide) rfl (Nat.le_of_ble_eq_true rfl) ?_
  intro p e s m below meth c A QQ ls hx hb hml hown hts hK hN hA hP hD hS hl hret
  have hown : s.vm.findClass RX4 = some m.cls := hown
  have hl : lv_has ls 7 [(0, .ref h4), (1, .int a1), (2, .int a2), (3, .int a3)] := hl
  have in4 : ∀ w ∈ u_ws RX4 TX4 6, w ∈ wsX4_described := by decide +kernel
  have fl21 := hts (.fieldLink RX4 21 "ParserParlour$World" "count" "I") (by decide +kernel)
  have fl9 := hts (.fieldLink RX4 9 "ParserParlour$World" "nouns" "[I") (by decide +kernel)
  have fl15 := hts (.fieldLink RX4 15 "ParserParlour$World" "adjectiveSets" "[I") (by decide +kernel)
  have J88 : ∀ (x4 : Int32) (H : Heap) (locs : List Loc), va_P (dC, dI) vwCl (cf_4 cI h4 h4a0 h4a1 h4a2 s4) H → va_D A (cf_4 cI h4 h4a0 h4a1 h4a2 s4) → va_S A s.heap H locs → ∀ (ls : Array Slot), lv_has ls 7 [(4, .int x4)] → fX4_described_88 s4 a1 a2 a3 x4 = some r → W p l e rmX4_described s m ([.ref h4, .int a1, .int a2, .int a3] : List Value).toArray below meth c H locs 0 0 QQ (F0 m 88 ls []) := by
    intro  x4 H locs hP hD hS ls hl hf
    unfold fX4_described_88 at hf
    refine lv_iload hx hb dX4_described_88 (lv_at hl 0 rfl) ?_
    have hf : (some x4 : Option (Int32)) = some r := hf
    have he := Option.some.inj hf
    have he0 : x4 = r := he
    exact hret _ _ _ _ _ _ he0 rfl dX4_described_90 hP hD hS
  have J82 : ∀ (k6 : Int32 → Int32 → Option (Int32)) (hk6 : ∀ (x4 : Int32) (x5 : Int32) (H : Heap) (locs : List Loc), va_P (dC, dI) vwCl (cf_4 cI h4 h4a0 h4a1 h4a2 s4) H → va_D A (cf_4 cI h4 h4a0 h4a1 h4a2 s4) → va_S A s.heap H locs → ∀ (ls : Array Slot), lv_has ls 7 [(0, .ref h4), (1, .int a1), (2, .int a2), (3, .int a3), (4, .int x4), (5, .int x5)] → k6 x4 x5 = some r → W p l e rmX4_described s m ([.ref h4, .int a1, .int a2, .int a3] : List Value).toArray below meth c H locs 0 0 QQ (F0 m 6 ls [])) (x4 : Int32) (x5 : Int32) (H : Heap) (locs : List Loc), va_P (dC, dI) vwCl (cf_4 cI h4 h4a0 h4a1 h4a2 s4) H → va_D A (cf_4 cI h4 h4a0 h4a1 h4a2 s4) → va_S A s.heap H locs → ∀ (ls : Array Slot), lv_has ls 7 [(0, .ref h4), (1, .int a1), (2, .int a2), (3, .int a3), (4, .int x4), (5, .int x5)] → fX4_described_82 s4 a1 a2 a3 k6 x4 x5 = some r → W p l e rmX4_described s m ([.ref h4, .int a1, .int a2, .int a3] : List Value).toArray below meth c H locs 0 0 QQ (F0 m 82 ls []) := by
    intro k6 hk6 x4 x5 H locs hP hD hS ls hl hf
    unfold fX4_described_82 at hf
    refine lv_iinc (v := (x5 + 1)) (lv' := [(5, .int (x5 + 1)), (0, .ref h4), (1, .int a1), (2, .int a2), (3, .int a3), (4, .int x4)]) hx hb dX4_described_82 hl (k := 5) rfl rfl (by decide) rfl (fun ls hl => ?_)
    refine lv_goto (tgt := 6) hx hb dX4_described_85 (by decide) ?_
    exact hk6 x4 (x5 + 1) _ _ hP hD hS _ (lv_sub hl [1, 2, 3, 4, 5, 0] rfl) hf
  have J43 : ∀ (k6 : Int32 → Int32 → Option (Int32)) (hk6 : ∀ (x4 : Int32) (x5 : Int32) (H : Heap) (locs : List Loc), va_P (dC, dI) vwCl (cf_4 cI h4 h4a0 h4a1 h4a2 s4) H → va_D A (cf_4 cI h4 h4a0 h4a1 h4a2 s4) → va_S A s.heap H locs → ∀ (ls : Array Slot), lv_has ls 7 [(0, .ref h4), (1, .int a1), (2, .int a2), (3, .int a3), (4, .int x4), (5, .int x5)] → k6 x4 x5 = some r → W p l e rmX4_described s m ([.ref h4, .int a1, .int a2, .int a3] : List Value).toArray below meth c H locs 0 0 QQ (F0 m 6 ls [])) (x4 : Int32) (x5 : Int32) (t0 : Int32) (H : Heap) (locs : List Loc), va_P (dC, dI) vwCl (cf_4 cI h4 h4a0 h4a1 h4a2 s4) H → va_D A (cf_4 cI h4 h4a0 h4a1 h4a2 s4) → va_S A s.heap H locs → ∀ (ls : Array Slot), lv_has ls 7 [(0, .ref h4), (1, .int a1), (2, .int a2), (3, .int a3), (4, .int x4), (5, .int x5)] → fX4_described_43 s4 a1 a2 a3 k6 x4 x5 t0 = some r → W p l e rmX4_described s m ([.ref h4, .int a1, .int a2, .int a3] : List Value).toArray below meth c H locs 0 0 QQ (F0 m 43 ls [.int t0]) := by
    intro k6 hk6 x4 x5 t0 H locs hP hD hS ls hl hf
    unfold fX4_described_43 at hf
    refine lv_istore (lv' := [(6, .int t0), (0, .ref h4), (1, .int a1), (2, .int a2), (3, .int a3), (4, .int x4), (5, .int x5)]) hx hb dX4_described_43 hl (by decide) rfl (fun ls hl => ?_)
    refine lv_iload_n hx hb dX4_described_45 rfl (lv_at hl 2 rfl) ?_
    refine lv_iload hx hb dX4_described_46 (lv_at hl 6 rfl) ?_
    refine lv_ishr hx hb dX4_described_48 ?_
    refine lv_iconst (v := 1) hx hb dX4_described_49 (by decide) ?_
    refine lv_iand hx hb dX4_described_50 ?_
    refine lv_if_eq (tgt := 82) hx hb dX4_described_51 (by decide) (fun c_1 => ?_) (fun c_1 => ?_)
    · have hf := it_t c_1 hf
      exact J82 k6 hk6 x4 x5 _ _ hP hD hS _ (lv_sub hl [1, 2, 3, 4, 5, 6] rfl) hf
    · have hf := it_f c_1 hf
      refine lv_iload hx hb dX4_described_54 (lv_at hl 0 rfl) ?_
      refine lv_if_eq (tgt := 82) hx hb dX4_described_56 (by decide) (fun c_2 => ?_) (fun c_2 => ?_)
      · have hf := it_t c_2 hf
        exact J82 k6 hk6 x4 x5 _ _ hP hD hS _ (lv_sub hl [1, 2, 3, 4, 5, 6] rfl) hf
      · have hf := it_f c_2 hf
        refine lv_iload_n hx hb dX4_described_59 rfl (lv_at hl 3 rfl) ?_
        refine lv_aload_n hx hb dX4_described_60 rfl (lv_at hl 1 rfl) ?_
        refine va_get (D := (dC, dI)) (ci := 4) (v := .ref h4a1) (C := RX4) (T := TX4) (N := 6) hx hb hts in4 hown hK hP 0 rfl rfl 1 (by decide) fl15 (fun _ h9 => h9) rfl dX4_described_61 ?_
        refine lv_iload hx hb dX4_described_64 (lv_at hl 6 rfl) ?_
        obtain ⟨hi_3, hf⟩ := ai_ok hf
        refine va_iald (n := 12) (f := (S4_adjectiveSets s4)) hx hb hK hP 2 0 rfl rfl hi_3 dX4_described_66 ?_
        refine lv_iconst (v := (-1)) hx hb dX4_described_67 (by decide) ?_
        refine lv_ixor hx hb dX4_described_68 ?_
        refine lv_iand hx hb dX4_described_69 ?_
        refine lv_if_ne (tgt := 82) hx hb dX4_described_70 (by decide) (fun c_4 => ?_) (fun c_4 => ?_)
        · have hf := it_f c_4 hf
          exact J82 k6 hk6 x4 x5 _ _ hP hD hS _ (lv_sub hl [1, 2, 3, 4, 5, 6] rfl) hf
        · have hf := it_t c_4 hf
          refine lv_iload hx hb dX4_described_73 (lv_at hl 5 rfl) ?_
          refine lv_iconst (v := 1) hx hb dX4_described_75 (by decide) ?_
          refine lv_iload hx hb dX4_described_76 (lv_at hl 6 rfl) ?_
          refine lv_ishl hx hb dX4_described_78 ?_
          refine lv_ior hx hb dX4_described_79 ?_
          refine lv_istore (lv' := [(4, .int (x4 ||| ((1 : Int32) <<< (x5 &&& 31)))), (6, .int t0), (0, .ref h4), (1, .int a1), (2, .int a2), (3, .int a3), (5, .int x5)]) hx hb dX4_described_80 hl (by decide) rfl (fun ls hl => ?_)
          exact J82 k6 hk6 (x4 ||| ((1 : Int32) <<< (x5 &&& 31))) x5 _ _ hP hD hS _ (lv_sub hl [2, 3, 4, 5, 0, 6] rfl) hf
  have J38 : ∀ (k6 : Int32 → Int32 → Option (Int32)) (hk6 : ∀ (x4 : Int32) (x5 : Int32) (H : Heap) (locs : List Loc), va_P (dC, dI) vwCl (cf_4 cI h4 h4a0 h4a1 h4a2 s4) H → va_D A (cf_4 cI h4 h4a0 h4a1 h4a2 s4) → va_S A s.heap H locs → ∀ (ls : Array Slot), lv_has ls 7 [(0, .ref h4), (1, .int a1), (2, .int a2), (3, .int a3), (4, .int x4), (5, .int x5)] → k6 x4 x5 = some r → W p l e rmX4_described s m ([.ref h4, .int a1, .int a2, .int a3] : List Value).toArray below meth c H locs 0 0 QQ (F0 m 6 ls [])) (x4 : Int32) (x5 : Int32) (H : Heap) (locs : List Loc), va_P (dC, dI) vwCl (cf_4 cI h4 h4a0 h4a1 h4a2 s4) H → va_D A (cf_4 cI h4 h4a0 h4a1 h4a2 s4) → va_S A s.heap H locs → ∀ (ls : Array Slot), lv_has ls 7 [(0, .ref h4), (1, .int a1), (2, .int a2), (3, .int a3), (4, .int x4), (5, .int x5)] → fX4_described_38 s4 a1 a2 a3 k6 x4 x5 = some r → W p l e rmX4_described s m ([.ref h4, .int a1, .int a2, .int a3] : List Value).toArray below meth c H locs 0 0 QQ (F0 m 38 ls []) := by
    intro k6 hk6 x4 x5 H locs hP hD hS ls hl hf
    unfold fX4_described_38 at hf
    refine lv_iconst (v := 1) hx hb dX4_described_38 (by decide) ?_
    refine lv_goto (tgt := 43) hx hb dX4_described_39 (by decide) ?_
    exact J43 k6 hk6 x4 x5 1 _ _ hP hD hS _ (lv_sub hl [0, 1, 2, 3, 4, 5] rfl) hf
  have J6 : ∀ (n : Nat) (x4 : Int32) (x5 : Int32) (H : Heap) (locs : List Loc), va_P (dC, dI) vwCl (cf_4 cI h4 h4a0 h4a1 h4a2 s4) H → va_D A (cf_4 cI h4 h4a0 h4a1 h4a2 s4) → va_S A s.heap H locs → ∀ (ls : Array Slot), lv_has ls 7 [(0, .ref h4), (1, .int a1), (2, .int a2), (3, .int a3), (4, .int x4), (5, .int x5)] → fX4_described_6 s4 a1 a2 a3 n x4 x5 = some r → W p l e rmX4_described s m ([.ref h4, .int a1, .int a2, .int a3] : List Value).toArray below meth c H locs 0 0 QQ (F0 m 6 ls []) := by
    intro n
    induction n with
    | zero =>
      intro x4 x5 H locs hP hD hS ls hl hf
      cases hf
    | succ n ih =>
      intro x4 x5 H locs hP hD hS ls hl hf
      rw [fX4_described_6] at hf
      refine lv_iload hx hb dX4_described_6 (lv_at hl 5 rfl) ?_
      refine lv_aload_n hx hb dX4_described_8 rfl (lv_at hl 0 rfl) ?_
      refine va_get (D := (dC, dI)) (ci := 4) (v := .int (S4_count s4)) (C := RX4) (T := TX4) (N := 6) hx hb hts in4 hown hK hP 0 rfl rfl 3 (by decide) fl21 (fun _ h9 => h9) rfl dX4_described_9 ?_
      refine lv_icmp_ge (tgt := 88) hx hb dX4_described_12 (by decide) (fun c_1 => ?_) (fun c_1 => ?_)
      · have hf := it_t c_1 hf
        exact J88 x4 _ _ hP hD hS _ (lv_sub hl [4] rfl) hf
      · have hf := it_f c_1 hf
        refine lv_iload hx hb dX4_described_15 (lv_at hl 5 rfl) ?_
        refine lv_bipush (v := 12) hx hb dX4_described_17 (by decide) ?_
        refine lv_icmp_ge (tgt := 88) hx hb dX4_described_19 (by decide) (fun c_2 => ?_) (fun c_2 => ?_)
        · have hf := it_t c_2 hf
          exact J88 x4 _ _ hP hD hS _ (lv_sub hl [4] rfl) hf
        · have hf := it_f c_2 hf
          refine lv_iload_n hx hb dX4_described_22 rfl (lv_at hl 3 rfl) ?_
          refine lv_iconst (v := (-1)) hx hb dX4_described_23 (by decide) ?_
          refine lv_icmp_eq (tgt := 38) hx hb dX4_described_24 (by decide) (fun c_3 => ?_) (fun c_3 => ?_)
          · have hf := it_t c_3 hf
            exact J38 (fun x4 x5 => fX4_described_6 s4 a1 a2 a3 n x4 x5) (fun x4 x5 H locs hP hD hS ls hl hf => ih x4 x5 H locs hP hD hS ls hl hf) x4 x5 _ _ hP hD hS _ (lv_sub hl [0, 1, 2, 3, 4, 5] rfl) hf
          · have hf := it_f c_3 hf
            refine lv_aload_n hx hb dX4_described_27 rfl (lv_at hl 0 rfl) ?_
            refine va_get (D := (dC, dI)) (ci := 4) (v := .ref h4a0) (C := RX4) (T := TX4) (N := 6) hx hb hts in4 hown hK hP 0 rfl rfl 0 (by decide) fl9 (fun _ h9 => h9) rfl dX4_described_28 ?_
            refine lv_iload hx hb dX4_described_31 (lv_at hl 5 rfl) ?_
            obtain ⟨hi_4, hf⟩ := ai_ok hf
            refine va_iald (n := 12) (f := (S4_nouns s4)) hx hb hK hP 1 0 rfl rfl hi_4 dX4_described_33 ?_
            refine lv_iload_n hx hb dX4_described_34 rfl (lv_at hl 3 rfl) ?_
            refine lv_icmp_ne (tgt := 42) hx hb dX4_described_35 (by decide) (fun c_5 => ?_) (fun c_5 => ?_)
            · have hf := it_f c_5 hf
              refine lv_iconst (v := 0) hx hb dX4_described_42 (by decide) ?_
              exact J43 (fun x4 x5 => fX4_described_6 s4 a1 a2 a3 n x4 x5) (fun x4 x5 H locs hP hD hS ls hl hf => ih x4 x5 H locs hP hD hS ls hl hf) x4 x5 0 _ _ hP hD hS _ (lv_sub hl [0, 1, 2, 3, 4, 5] rfl) hf
            · have hf := it_t c_5 hf
              exact J38 (fun x4 x5 => fX4_described_6 s4 a1 a2 a3 n x4 x5) (fun x4 x5 H locs hP hD hS ls hl hf => ih x4 x5 H locs hP hD hS ls hl hf) x4 x5 _ _ hP hD hS _ (lv_sub hl [0, 1, 2, 3, 4, 5] rfl) hf
  unfold fX4_described at hf
  refine lv_iconst (v := 0) hx hb dX4_described_0 (by decide) ?_
  refine lv_istore (lv' := [(4, .int 0), (0, .ref h4), (1, .int a1), (2, .int a2), (3, .int a3)]) hx hb dX4_described_1 hl (by decide) rfl (fun ls hl => ?_)
  refine lv_iconst (v := 0) hx hb dX4_described_3 (by decide) ?_
  refine lv_istore (lv' := [(5, .int 0), (4, .int 0), (0, .ref h4), (1, .int a1), (2, .int a2), (3, .int a3)]) hx hb dX4_described_4 hl (by decide) rfl (fun ls hl => ?_)
  exact J6 64 0 0 _ _ hP hD hS _ (lv_sub hl [2, 3, 4, 5, 1, 0] rfl) hf
abbrev rmX4_held : Room := { frames := 0, cells := 0, slots := 0, locals := 0 }
set_option maxHeartbeats 2000000 in
set_option maxRecDepth 100000 in
theorem ktX4_held (l : Launch) (dC : Nat → ClassId) (dI : Nat → Nat → Nat) (cI : ClassId) (h4 h4a0 h4a1 h4a2 : Nat) (sz : Nat) (s4 : S4) (r : Int32) (hf : fX4_held s4 = some r) : Met l yX4_held wsX4_held rmX4_held (va_Pc [.ref h4] (pre_w (dC, dI) (cf_4 cI h4 h4a0 h4a1 h4a2 s4) [(cI, .int)] sz)) (va_Qi (fun (r' : Int32) (_ : Unit) => r' = r) (post_w (dC, dI) (cf_4 cI h4 h4a0 h4a1 h4a2 s4) [(cI, .int)] (va_A (cf_4 cI h4 h4a0 h4a1 h4a2 s4) sz)) (va_A (cf_4 cI h4 h4a0 h4a1 h4a2 s4) sz)) 0 0 (va_A (cf_4 cI h4 h4a0 h4a1 h4a2 s4) sz) := by
  refine gm_i (cc := cX4_held) (maxL := 3) (by decide) rfl (Nat.le_of_ble_eq_true rfl) ?_
  intro p e s m below meth c A QQ ls hx hb hml hown hts hK hN hA hP hD hS hl hret
  have hown : s.vm.findClass RX4 = some m.cls := hown
  have hl : lv_has ls 3 [(0, .ref h4)] := hl
  have in4 : ∀ w ∈ u_ws RX4 TX4 6, w ∈ wsX4_held := by decide +kernel
  have fl21 := hts (.fieldLink RX4 21 "ParserParlour$World" "count" "I") (by decide +kernel)
  have fl18 := hts (.fieldLink RX4 18 "ParserParlour$World" "holders" "[I") (by decide +kernel)
  have J41 : ∀ (x1 : Int32) (H : Heap) (locs : List Loc), va_P (dC, dI) vwCl (cf_4 cI h4 h4a0 h4a1 h4a2 s4) H → va_D A (cf_4 cI h4 h4a0 h4a1 h4a2 s4) → va_S A s.heap H locs → ∀ (ls : Array Slot), lv_has ls 3 [(1, .int x1)] → fX4_held_41 s4 x1 = some r → W p l e rmX4_held s m ([.ref h4] : List Value).toArray below meth c H locs 0 0 QQ (F0 m 41 ls []) := by
    intro  x1 H locs hP hD hS ls hl hf
    unfold fX4_held_41 at hf
    refine lv_iload_n hx hb dX4_held_41 rfl (lv_at hl 0 rfl) ?_
    have hf : (some x1 : Option (Int32)) = some r := hf
    have he := Option.some.inj hf
    have he0 : x1 = r := he
    exact hret _ _ _ _ _ _ he0 rfl dX4_held_42 hP hD hS
  have J35 : ∀ (k4 : Int32 → Int32 → Option (Int32)) (hk4 : ∀ (x1 : Int32) (x2 : Int32) (H : Heap) (locs : List Loc), va_P (dC, dI) vwCl (cf_4 cI h4 h4a0 h4a1 h4a2 s4) H → va_D A (cf_4 cI h4 h4a0 h4a1 h4a2 s4) → va_S A s.heap H locs → ∀ (ls : Array Slot), lv_has ls 3 [(0, .ref h4), (1, .int x1), (2, .int x2)] → k4 x1 x2 = some r → W p l e rmX4_held s m ([.ref h4] : List Value).toArray below meth c H locs 0 0 QQ (F0 m 4 ls [])) (x1 : Int32) (x2 : Int32) (H : Heap) (locs : List Loc), va_P (dC, dI) vwCl (cf_4 cI h4 h4a0 h4a1 h4a2 s4) H → va_D A (cf_4 cI h4 h4a0 h4a1 h4a2 s4) → va_S A s.heap H locs → ∀ (ls : Array Slot), lv_has ls 3 [(0, .ref h4), (1, .int x1), (2, .int x2)] → fX4_held_35 s4 k4 x1 x2 = some r → W p l e rmX4_held s m ([.ref h4] : List Value).toArray below meth c H locs 0 0 QQ (F0 m 35 ls []) := by
    intro k4 hk4 x1 x2 H locs hP hD hS ls hl hf
    unfold fX4_held_35 at hf
    refine lv_iinc (v := (x2 + 1)) (lv' := [(2, .int (x2 + 1)), (0, .ref h4), (1, .int x1)]) hx hb dX4_held_35 hl (k := 2) rfl rfl (by decide) rfl (fun ls hl => ?_)
    refine lv_goto (tgt := 4) hx hb dX4_held_38 (by decide) ?_
    exact hk4 x1 (x2 + 1) _ _ hP hD hS _ (lv_sub hl [1, 2, 0] rfl) hf
  have J4 : ∀ (n : Nat) (x1 : Int32) (x2 : Int32) (H : Heap) (locs : List Loc), va_P (dC, dI) vwCl (cf_4 cI h4 h4a0 h4a1 h4a2 s4) H → va_D A (cf_4 cI h4 h4a0 h4a1 h4a2 s4) → va_S A s.heap H locs → ∀ (ls : Array Slot), lv_has ls 3 [(0, .ref h4), (1, .int x1), (2, .int x2)] → fX4_held_4 s4 n x1 x2 = some r → W p l e rmX4_held s m ([.ref h4] : List Value).toArray below meth c H locs 0 0 QQ (F0 m 4 ls []) := by
    intro n
    induction n with
    | zero =>
      intro x1 x2 H locs hP hD hS ls hl hf
      cases hf
    | succ n ih =>
      intro x1 x2 H locs hP hD hS ls hl hf
      rw [fX4_held_4] at hf
      refine lv_iload_n hx hb dX4_held_4 rfl (lv_at hl 2 rfl) ?_
      refine lv_aload_n hx hb dX4_held_5 rfl (lv_at hl 0 rfl) ?_
      refine va_get (D := (dC, dI)) (ci := 4) (v := .int (S4_count s4)) (C := RX4) (T := TX4) (N := 6) hx hb hts in4 hown hK hP 0 rfl rfl 3 (by decide) fl21 (fun _ h9 => h9) rfl dX4_held_6 ?_
      refine lv_icmp_ge (tgt := 41) hx hb dX4_held_9 (by decide) (fun c_1 => ?_) (fun c_1 => ?_)
      · have hf := it_t c_1 hf
        exact J41 x1 _ _ hP hD hS _ (lv_sub hl [1] rfl) hf
      · have hf := it_f c_1 hf
        refine lv_iload_n hx hb dX4_held_12 rfl (lv_at hl 2 rfl) ?_
        refine lv_bipush (v := 12) hx hb dX4_held_13 (by decide) ?_
        refine lv_icmp_ge (tgt := 41) hx hb dX4_held_15 (by decide) (fun c_2 => ?_) (fun c_2 => ?_)
        · have hf := it_t c_2 hf
          exact J41 x1 _ _ hP hD hS _ (lv_sub hl [1] rfl) hf
        · have hf := it_f c_2 hf
          refine lv_aload_n hx hb dX4_held_18 rfl (lv_at hl 0 rfl) ?_
          refine va_get (D := (dC, dI)) (ci := 4) (v := .ref h4a2) (C := RX4) (T := TX4) (N := 6) hx hb hts in4 hown hK hP 0 rfl rfl 2 (by decide) fl18 (fun _ h9 => h9) rfl dX4_held_19 ?_
          refine lv_iload_n hx hb dX4_held_22 rfl (lv_at hl 2 rfl) ?_
          obtain ⟨hi_3, hf⟩ := ai_ok hf
          refine va_iald (n := 12) (f := (S4_holders s4)) hx hb hK hP 3 0 rfl rfl hi_3 dX4_held_23 ?_
          refine lv_bipush (v := (-3)) hx hb dX4_held_24 (by decide) ?_
          refine lv_icmp_ne (tgt := 35) hx hb dX4_held_26 (by decide) (fun c_4 => ?_) (fun c_4 => ?_)
          · have hf := it_f c_4 hf
            exact J35 (fun x1 x2 => fX4_held_4 s4 n x1 x2) (fun x1 x2 H locs hP hD hS ls hl hf => ih x1 x2 H locs hP hD hS ls hl hf) x1 x2 _ _ hP hD hS _ (lv_sub hl [0, 1, 2] rfl) hf
          · have hf := it_t c_4 hf
            refine lv_iload_n hx hb dX4_held_29 rfl (lv_at hl 1 rfl) ?_
            refine lv_iconst (v := 1) hx hb dX4_held_30 (by decide) ?_
            refine lv_iload_n hx hb dX4_held_31 rfl (lv_at hl 2 rfl) ?_
            refine lv_ishl hx hb dX4_held_32 ?_
            refine lv_ior hx hb dX4_held_33 ?_
            refine lv_istore_n (lv' := [(1, .int (x1 ||| ((1 : Int32) <<< (x2 &&& 31)))), (0, .ref h4), (2, .int x2)]) hx hb dX4_held_34 rfl hl (by decide) rfl (fun ls hl => ?_)
            exact J35 (fun x1 x2 => fX4_held_4 s4 n x1 x2) (fun x1 x2 H locs hP hD hS ls hl hf => ih x1 x2 H locs hP hD hS ls hl hf) (x1 ||| ((1 : Int32) <<< (x2 &&& 31))) x2 _ _ hP hD hS _ (lv_sub hl [1, 0, 2] rfl) hf
  unfold fX4_held at hf
  refine lv_iconst (v := 0) hx hb dX4_held_0 (by decide) ?_
  refine lv_istore_n (lv' := [(1, .int 0), (0, .ref h4)]) hx hb dX4_held_1 rfl hl (by decide) rfl (fun ls hl => ?_)
  refine lv_iconst (v := 0) hx hb dX4_held_2 (by decide) ?_
  refine lv_istore_n (lv' := [(2, .int 0), (1, .int 0), (0, .ref h4)]) hx hb dX4_held_3 rfl hl (by decide) rfl (fun ls hl => ?_)
  exact J4 64 0 0 _ _ hP hD hS _ (lv_sub hl [2, 1, 0] rfl) hf
abbrev rmX4_suited : Room := { frames := 2, cells := 0, slots := 0, locals := 45 }
set_option maxHeartbeats 2000000 in
set_option maxRecDepth 100000 in
theorem ktX4_suited (l : Launch) (dC : Nat → ClassId) (dI : Nat → Nat → Nat) (cI : ClassId) (h4 h4a0 h4a1 h4a2 : Nat) (sz : Nat) (s4 : S4) (a1 : Int32) (r : Int32) (hf : fX4_suited s4 a1 = some r) : Met l yX4_suited wsX4_suited rmX4_suited (va_Pc [.ref h4, .int a1] (pre_w (dC, dI) (cf_4 cI h4 h4a0 h4a1 h4a2 s4) [(cI, .int)] sz)) (va_Qi (fun (r' : Int32) (_ : Unit) => r' = r) (post_w (dC, dI) (cf_4 cI h4 h4a0 h4a1 h4a2 s4) [(cI, .int)] (va_A (cf_4 cI h4 h4a0 h4a1 h4a2 s4) sz)) (va_A (cf_4 cI h4 h4a0 h4a1 h4a2 s4) sz)) 0 0 (va_A (cf_4 cI h4 h4a0 h4a1 h4a2 s4) sz) := by
  refine gm_i (cc := cX4_suited) (maxL := 3) (by decide) rfl (Nat.le_of_ble_eq_true rfl) ?_
  intro p e s m below meth c A QQ ls hx hb hml hown hts hK hN hA hP hD hS hl hret
  have hown : s.vm.findClass RX4 = some m.cls := hown
  have hl : lv_has ls 3 [(0, .ref h4), (1, .int a1)] := hl
  have in4 : ∀ w ∈ u_ws RX4 TX4 6, w ∈ wsX4_suited := by decide +kernel
  have fl25 := hts (.fieldLink RX4 25 "ParserParlour$World" "boxes" "I") (by decide +kernel)
  have fl28 := hts (.fieldLink RX4 28 "ParserParlour$World" "openBoxes" "I") (by decide +kernel)
  unfold fX4_suited at hf
  refine lv_aload_n hx hb dX4_suited_0 rfl (lv_at hl 0 rfl) ?_
  obtain ⟨r_1, hc_1, hf⟩ := bn1_ok hf
  refine gc_i (wc := (cf_4 cI h4 h4a0 h4a1 h4a2 s4)) (wr := ([] : va_W)) (w1 := (cf_4 cI h4 h4a0 h4a1 h4a2 s4)) (ws' := (cf_4 cI h4 h4a0 h4a1 h4a2 s4)) hP hD hS hA [0, 1, 2, 3] [] [0, 1, 2, 3] rfl rfl (by decide) (by decide) rfl (by decide) (va_runV (As := []) (rest := []) ⟨hx, hb, hml, hown, hts⟩ (ktX4_reachable l dC dI cI h4 h4a0 h4a1 h4a2 _ s4 r_1 hc_1) (cwV 0 hts gX4_suited_X4_reachable rfl rfl rfl (by decide +kernel) ⟨Nat.le_of_ble_eq_true rfl, Nat.le_of_ble_eq_true rfl⟩) (gc_V (ci := 4) (q0 := 0) (C := RX4) (T := TX4) (N := 6) (hP.sub (ws' := (cf_4 cI h4 h4a0 h4a1 h4a2 s4)) [0, 1, 2, 3] rfl) (hK.sub (tys' := [(cI, .int)]) [0] rfl) (hD.sub (ws' := (cf_4 cI h4 h4a0 h4a1 h4a2 s4)) [0, 1, 2, 3] (by decide) rfl) hN rfl rfl) rfl rfl hl.1 rfl (lv_room (Nat.le_of_ble_eq_true rfl)) dX4_suited_1 ⟨Nat.zero_le _, Nat.zero_le _⟩) (fun H locs hP hD hS => ?_)
  refine lv_istore_n (lv' := [(2, .int r_1), (0, .ref h4), (1, .int a1)]) hx hb dX4_suited_4 rfl hl (by decide) rfl (fun ls hl => ?_)
  refine lv_iload_n hx hb dX4_suited_5 rfl (lv_at hl 2 rfl) ?_
  by_cases c_2 : a1 = 0
  · have hf := it_t c_2 hf
    refine lv_tableIn (off := 82) (tgt := 88) hx hb dX4_suited_6 (by rw [c_2]; decide) (by rw [c_2]; decide) (by rw [c_2]; rfl) (by decide) ?_
    refine lv_iload_n hx hb dX4_suited_88 rfl (lv_at hl 0 rfl) ?_
    refine lv_aload_n hx hb dX4_suited_89 rfl (lv_at hl 1 rfl) ?_
    obtain ⟨r_3, hc_3, hf⟩ := bn1_ok hf
    refine gc_i (wc := (cf_4 cI h4 h4a0 h4a1 h4a2 s4)) (wr := ([] : va_W)) (w1 := (cf_4 cI h4 h4a0 h4a1 h4a2 s4)) (ws' := (cf_4 cI h4 h4a0 h4a1 h4a2 s4)) hP hD hS hA [0, 1, 2, 3] [] [0, 1, 2, 3] rfl rfl (by decide) (by decide) rfl (by decide) (va_runV (As := []) (rest := [.int r_1]) ⟨hx, hb, hml, hown, hts⟩ (ktX4_held l dC dI cI h4 h4a0 h4a1 h4a2 _ s4 r_3 hc_3) (cwV 0 hts gX4_suited_X4_held rfl rfl rfl (by decide +kernel) ⟨Nat.le_of_ble_eq_true rfl, Nat.le_of_ble_eq_true rfl⟩) (gc_V (ci := 4) (q0 := 0) (C := RX4) (T := TX4) (N := 6) (hP.sub (ws' := (cf_4 cI h4 h4a0 h4a1 h4a2 s4)) [0, 1, 2, 3] rfl) (hK.sub (tys' := [(cI, .int)]) [0] rfl) (hD.sub (ws' := (cf_4 cI h4 h4a0 h4a1 h4a2 s4)) [0, 1, 2, 3] (by decide) rfl) hN rfl rfl) rfl rfl hl.1 rfl (lv_room (Nat.le_of_ble_eq_true rfl)) dX4_suited_90 ⟨Nat.zero_le _, Nat.zero_le _⟩) (fun H locs hP hD hS => ?_)
    refine lv_iconst (v := (-1)) hx hb dX4_suited_93 (by decide) ?_
    refine lv_ixor hx hb dX4_suited_94 ?_
    refine lv_iand hx hb dX4_suited_95 ?_
    have hf : (some (r_1 &&& (r_3 ^^^ (-1))) : Option (Int32)) = some r := hf
    have he := Option.some.inj hf
    have he0 : (r_1 &&& (r_3 ^^^ (-1))) = r := he
    exact hret _ _ _ _ _ _ he0 rfl dX4_suited_96 hP hD hS
  have hf := it_f c_2 hf
  by_cases c_4 : a1 = 1
  · have hf := it_t c_4 hf
    refine lv_tableIn (off := 91) (tgt := 97) hx hb dX4_suited_6 (by rw [c_4]; decide) (by rw [c_4]; decide) (by rw [c_4]; rfl) (by decide) ?_
    refine lv_iload_n hx hb dX4_suited_97 rfl (lv_at hl 0 rfl) ?_
    refine lv_aload_n hx hb dX4_suited_98 rfl (lv_at hl 1 rfl) ?_
    obtain ⟨r_5, hc_5, hf⟩ := bn1_ok hf
    refine gc_i (wc := (cf_4 cI h4 h4a0 h4a1 h4a2 s4)) (wr := ([] : va_W)) (w1 := (cf_4 cI h4 h4a0 h4a1 h4a2 s4)) (ws' := (cf_4 cI h4 h4a0 h4a1 h4a2 s4)) hP hD hS hA [0, 1, 2, 3] [] [0, 1, 2, 3] rfl rfl (by decide) (by decide) rfl (by decide) (va_runV (As := []) (rest := [.int r_1]) ⟨hx, hb, hml, hown, hts⟩ (ktX4_held l dC dI cI h4 h4a0 h4a1 h4a2 _ s4 r_5 hc_5) (cwV 0 hts gX4_suited_X4_held rfl rfl rfl (by decide +kernel) ⟨Nat.le_of_ble_eq_true rfl, Nat.le_of_ble_eq_true rfl⟩) (gc_V (ci := 4) (q0 := 0) (C := RX4) (T := TX4) (N := 6) (hP.sub (ws' := (cf_4 cI h4 h4a0 h4a1 h4a2 s4)) [0, 1, 2, 3] rfl) (hK.sub (tys' := [(cI, .int)]) [0] rfl) (hD.sub (ws' := (cf_4 cI h4 h4a0 h4a1 h4a2 s4)) [0, 1, 2, 3] (by decide) rfl) hN rfl rfl) rfl rfl hl.1 rfl (lv_room (Nat.le_of_ble_eq_true rfl)) dX4_suited_99 ⟨Nat.zero_le _, Nat.zero_le _⟩) (fun H locs hP hD hS => ?_)
    refine lv_iand hx hb dX4_suited_102 ?_
    have hf : (some (r_1 &&& r_5) : Option (Int32)) = some r := hf
    have he := Option.some.inj hf
    have he0 : (r_1 &&& r_5) = r := he
    exact hret _ _ _ _ _ _ he0 rfl dX4_suited_103 hP hD hS
  have hf := it_f c_4 hf
  by_cases c_6 : a1 = 2
  · have hf := it_t c_6 hf
    refine lv_tableIn (off := 91) (tgt := 97) hx hb dX4_suited_6 (by rw [c_6]; decide) (by rw [c_6]; decide) (by rw [c_6]; rfl) (by decide) ?_
    refine lv_iload_n hx hb dX4_suited_97 rfl (lv_at hl 0 rfl) ?_
    refine lv_aload_n hx hb dX4_suited_98 rfl (lv_at hl 1 rfl) ?_
    obtain ⟨r_7, hc_7, hf⟩ := bn1_ok hf
    refine gc_i (wc := (cf_4 cI h4 h4a0 h4a1 h4a2 s4)) (wr := ([] : va_W)) (w1 := (cf_4 cI h4 h4a0 h4a1 h4a2 s4)) (ws' := (cf_4 cI h4 h4a0 h4a1 h4a2 s4)) hP hD hS hA [0, 1, 2, 3] [] [0, 1, 2, 3] rfl rfl (by decide) (by decide) rfl (by decide) (va_runV (As := []) (rest := [.int r_1]) ⟨hx, hb, hml, hown, hts⟩ (ktX4_held l dC dI cI h4 h4a0 h4a1 h4a2 _ s4 r_7 hc_7) (cwV 0 hts gX4_suited_X4_held rfl rfl rfl (by decide +kernel) ⟨Nat.le_of_ble_eq_true rfl, Nat.le_of_ble_eq_true rfl⟩) (gc_V (ci := 4) (q0 := 0) (C := RX4) (T := TX4) (N := 6) (hP.sub (ws' := (cf_4 cI h4 h4a0 h4a1 h4a2 s4)) [0, 1, 2, 3] rfl) (hK.sub (tys' := [(cI, .int)]) [0] rfl) (hD.sub (ws' := (cf_4 cI h4 h4a0 h4a1 h4a2 s4)) [0, 1, 2, 3] (by decide) rfl) hN rfl rfl) rfl rfl hl.1 rfl (lv_room (Nat.le_of_ble_eq_true rfl)) dX4_suited_99 ⟨Nat.zero_le _, Nat.zero_le _⟩) (fun H locs hP hD hS => ?_)
    refine lv_iand hx hb dX4_suited_102 ?_
    have hf : (some (r_1 &&& r_7) : Option (Int32)) = some r := hf
    have he := Option.some.inj hf
    have he0 : (r_1 &&& r_7) = r := he
    exact hret _ _ _ _ _ _ he0 rfl dX4_suited_103 hP hD hS
  have hf := it_f c_6 hf
  by_cases c_8 : a1 = 3
  · have hf := it_t c_8 hf
    refine lv_tableIn (off := 98) (tgt := 104) hx hb dX4_suited_6 (by rw [c_8]; decide) (by rw [c_8]; decide) (by rw [c_8]; rfl) (by decide) ?_
    refine lv_iload_n hx hb dX4_suited_104 rfl (lv_at hl 0 rfl) ?_
    refine lv_aload_n hx hb dX4_suited_105 rfl (lv_at hl 1 rfl) ?_
    refine va_get (D := (dC, dI)) (ci := 4) (v := .int (S4_boxes s4)) (C := RX4) (T := TX4) (N := 6) hx hb hts in4 hown hK hP 0 rfl rfl 4 (by decide) fl25 (fun _ h9 => h9) rfl dX4_suited_106 ?_
    refine lv_iand hx hb dX4_suited_109 ?_
    refine lv_aload_n hx hb dX4_suited_110 rfl (lv_at hl 1 rfl) ?_
    refine va_get (D := (dC, dI)) (ci := 4) (v := .int (S4_openBoxes s4)) (C := RX4) (T := TX4) (N := 6) hx hb hts in4 hown hK hP 0 rfl rfl 5 (by decide) fl28 (fun _ h9 => h9) rfl dX4_suited_111 ?_
    refine lv_iconst (v := (-1)) hx hb dX4_suited_114 (by decide) ?_
    refine lv_ixor hx hb dX4_suited_115 ?_
    refine lv_iand hx hb dX4_suited_116 ?_
    have hf : (some ((r_1 &&& (S4_boxes s4)) &&& ((S4_openBoxes s4) ^^^ (-1))) : Option (Int32)) = some r := hf
    have he := Option.some.inj hf
    have he0 : ((r_1 &&& (S4_boxes s4)) &&& ((S4_openBoxes s4) ^^^ (-1))) = r := he
    exact hret _ _ _ _ _ _ he0 rfl dX4_suited_117 hP hD hS
  have hf := it_f c_8 hf
  by_cases c_9 : a1 = 4
  · have hf := it_t c_9 hf
    refine lv_tableIn (off := 112) (tgt := 118) hx hb dX4_suited_6 (by rw [c_9]; decide) (by rw [c_9]; decide) (by rw [c_9]; rfl) (by decide) ?_
    refine lv_iload_n hx hb dX4_suited_118 rfl (lv_at hl 0 rfl) ?_
    refine lv_aload_n hx hb dX4_suited_119 rfl (lv_at hl 1 rfl) ?_
    refine va_get (D := (dC, dI)) (ci := 4) (v := .int (S4_openBoxes s4)) (C := RX4) (T := TX4) (N := 6) hx hb hts in4 hown hK hP 0 rfl rfl 5 (by decide) fl28 (fun _ h9 => h9) rfl dX4_suited_120 ?_
    refine lv_iand hx hb dX4_suited_123 ?_
    have hf : (some (r_1 &&& (S4_openBoxes s4)) : Option (Int32)) = some r := hf
    have he := Option.some.inj hf
    have he0 : (r_1 &&& (S4_openBoxes s4)) = r := he
    exact hret _ _ _ _ _ _ he0 rfl dX4_suited_124 hP hD hS
  have hf := it_f c_9 hf
  by_cases c_10 : a1 = 16
  · have hf := it_t c_10 hf
    refine lv_tableIn (off := 112) (tgt := 118) hx hb dX4_suited_6 (by rw [c_10]; decide) (by rw [c_10]; decide) (by rw [c_10]; rfl) (by decide) ?_
    refine lv_iload_n hx hb dX4_suited_118 rfl (lv_at hl 0 rfl) ?_
    refine lv_aload_n hx hb dX4_suited_119 rfl (lv_at hl 1 rfl) ?_
    refine va_get (D := (dC, dI)) (ci := 4) (v := .int (S4_openBoxes s4)) (C := RX4) (T := TX4) (N := 6) hx hb hts in4 hown hK hP 0 rfl rfl 5 (by decide) fl28 (fun _ h9 => h9) rfl dX4_suited_120 ?_
    refine lv_iand hx hb dX4_suited_123 ?_
    have hf : (some (r_1 &&& (S4_openBoxes s4)) : Option (Int32)) = some r := hf
    have he := Option.some.inj hf
    have he0 : (r_1 &&& (S4_openBoxes s4)) = r := he
    exact hret _ _ _ _ _ _ he0 rfl dX4_suited_124 hP hD hS
  have hf := it_f c_10 hf
  have KD : W p l e rmX4_suited s m ([.ref h4, .int a1] : List Value).toArray below meth c H locs 0 0 QQ (F0 m 125 ls []) := by
    refine lv_iconst (v := 0) hx hb dX4_suited_125 (by decide) ?_
    have hf : (some 0 : Option (Int32)) = some r := hf
    have he := Option.some.inj hf
    have he0 : 0 = r := he
    exact hret _ _ _ _ _ _ he0 rfl dX4_suited_126 hP hD hS
  have z_2 := lv_neT c_2 (show (0 : Int32).toInt = 0 from rfl)
  have z_4 := lv_neT c_4 (show (1 : Int32).toInt = 1 from rfl)
  have z_6 := lv_neT c_6 (show (2 : Int32).toInt = 2 from rfl)
  have z_8 := lv_neT c_8 (show (3 : Int32).toInt = 3 from rfl)
  have z_9 := lv_neT c_9 (show (4 : Int32).toInt = 4 from rfl)
  have z_10 := lv_neT c_10 (show (16 : Int32).toInt = 16 from rfl)
  by_cases zo : (a1).toInt < 0 ∨ 16 < (a1).toInt
  · exact lv_tableOut (tgt := 125) hx hb dX4_suited_6 zo (by decide) KD
  · rcases (show (a1).toInt = 5 ∨ (a1).toInt = 6 ∨ (a1).toInt = 7 ∨ (a1).toInt = 8 ∨ (a1).toInt = 9 ∨ (a1).toInt = 10 ∨ (a1).toInt = 11 ∨ (a1).toInt = 12 ∨ (a1).toInt = 13 ∨ (a1).toInt = 14 ∨ (a1).toInt = 15 by omega) with zg | zg | zg | zg | zg | zg | zg | zg | zg | zg | zg
    all_goals exact lv_tableIn (off := 119) (tgt := 125) hx hb dX4_suited_6 (by rw [zg]; decide) (by rw [zg]; decide) (by rw [zg]; rfl) (by decide) KD
abbrev rmX4_has : Room := { frames := 0, cells := 0, slots := 0, locals := 0 }
set_option maxHeartbeats 2000000 in
set_option maxRecDepth 100000 in
theorem ktX4_has (l : Launch) (dC : Nat → ClassId) (dI : Nat → Nat → Nat) (cI : ClassId) (h4 h4a0 h4a1 h4a2 : Nat) (sz : Nat) (s4 : S4) (a1 : Int32) (r : Int32) (hf : fX4_has s4 a1 = some r) : Met l yX4_has wsX4_has rmX4_has (va_Pc [.ref h4, .int a1] (pre_w (dC, dI) (cf_4 cI h4 h4a0 h4a1 h4a2 s4) [(cI, .int)] sz)) (va_Qi (fun (r' : Int32) (_ : Unit) => r' = r) (post_w (dC, dI) (cf_4 cI h4 h4a0 h4a1 h4a2 s4) [(cI, .int)] (va_A (cf_4 cI h4 h4a0 h4a1 h4a2 s4) sz)) (va_A (cf_4 cI h4 h4a0 h4a1 h4a2 s4) sz)) 0 0 (va_A (cf_4 cI h4 h4a0 h4a1 h4a2 s4) sz) := by
  refine gm_z (cc := cX4_has) (maxL := 2) (by decide) rfl (Nat.le_of_ble_eq_true rfl) ?_
  intro p e s m below meth c A QQ ls hx hb hml hown hts hK hN hA hP hD hS hl hret
  have hown : s.vm.findClass RX4 = some m.cls := hown
  have hl : lv_has ls 2 [(0, .ref h4), (1, .int a1)] := hl
  have in4 : ∀ w ∈ u_ws RX4 TX4 6, w ∈ wsX4_has := by decide +kernel
  have fl21 := hts (.fieldLink RX4 21 "ParserParlour$World" "count" "I") (by decide +kernel)
  have J23 : ∀ (t0 : Int32) (H : Heap) (locs : List Loc), va_P (dC, dI) vwCl (cf_4 cI h4 h4a0 h4a1 h4a2 s4) H → va_D A (cf_4 cI h4 h4a0 h4a1 h4a2 s4) → va_S A s.heap H locs → ∀ (ls : Array Slot), lv_has ls 2 [] → fX4_has_23 s4 a1 t0 = some r → W p l e rmX4_has s m ([.ref h4, .int a1] : List Value).toArray below meth c H locs 0 0 QQ (F0 m 23 ls [.int t0]) := by
    intro  t0 H locs hP hD hS ls hl hf
    unfold fX4_has_23 at hf
    obtain ⟨hz_1, hf⟩ := bo_ok hf
    have hf : (some t0 : Option (Int32)) = some r := hf
    have he := Option.some.inj hf
    have he0 : t0 = r := he
    exact hret _ _ _ _ _ _ hz_1 he0 rfl dX4_has_23 hP hD hS
  have J22 : ∀ (H : Heap) (locs : List Loc), va_P (dC, dI) vwCl (cf_4 cI h4 h4a0 h4a1 h4a2 s4) H → va_D A (cf_4 cI h4 h4a0 h4a1 h4a2 s4) → va_S A s.heap H locs → ∀ (ls : Array Slot), lv_has ls 2 [] → fX4_has_22 s4 a1 = some r → W p l e rmX4_has s m ([.ref h4, .int a1] : List Value).toArray below meth c H locs 0 0 QQ (F0 m 22 ls []) := by
    intro   H locs hP hD hS ls hl hf
    unfold fX4_has_22 at hf
    refine lv_iconst (v := 0) hx hb dX4_has_22 (by decide) ?_
    exact J23 0 _ _ hP hD hS _ (lv_sub hl [] rfl) hf
  unfold fX4_has at hf
  refine lv_iload_n hx hb dX4_has_0 rfl (lv_at hl 1 rfl) ?_
  refine lv_if_lt (tgt := 22) hx hb dX4_has_1 (by decide) (fun c_1 => ?_) (fun c_1 => ?_)
  · have hf := it_t c_1 hf
    exact J22 _ _ hP hD hS _ (lv_sub hl [] rfl) hf
  · have hf := it_f c_1 hf
    refine lv_iload_n hx hb dX4_has_4 rfl (lv_at hl 1 rfl) ?_
    refine lv_aload_n hx hb dX4_has_5 rfl (lv_at hl 0 rfl) ?_
    refine va_get (D := (dC, dI)) (ci := 4) (v := .int (S4_count s4)) (C := RX4) (T := TX4) (N := 6) hx hb hts in4 hown hK hP 0 rfl rfl 3 (by decide) fl21 (fun _ h9 => h9) rfl dX4_has_6 ?_
    refine lv_icmp_ge (tgt := 22) hx hb dX4_has_9 (by decide) (fun c_2 => ?_) (fun c_2 => ?_)
    · have hf := it_t c_2 hf
      exact J22 _ _ hP hD hS _ (lv_sub hl [] rfl) hf
    · have hf := it_f c_2 hf
      refine lv_iload_n hx hb dX4_has_12 rfl (lv_at hl 1 rfl) ?_
      refine lv_bipush (v := 12) hx hb dX4_has_13 (by decide) ?_
      refine lv_icmp_ge (tgt := 22) hx hb dX4_has_15 (by decide) (fun c_3 => ?_) (fun c_3 => ?_)
      · have hf := it_t c_3 hf
        exact J22 _ _ hP hD hS _ (lv_sub hl [] rfl) hf
      · have hf := it_f c_3 hf
        refine lv_iconst (v := 1) hx hb dX4_has_18 (by decide) ?_
        refine lv_goto (tgt := 23) hx hb dX4_has_19 (by decide) ?_
        exact J23 1 _ _ hP hD hS _ (lv_sub hl [] rfl) hf
abbrev rmX4_isWithin : Room := { frames := 1, cells := 0, slots := 0, locals := 21 }
set_option maxHeartbeats 2000000 in
set_option maxRecDepth 100000 in
theorem ktX4_isWithin (l : Launch) (dC : Nat → ClassId) (dI : Nat → Nat → Nat) (cI : ClassId) (h4 h4a0 h4a1 h4a2 : Nat) (sz : Nat) (s4 : S4) (a1 : Int32) (a2 : Int32) (r : Int32) (hf : fX4_isWithin s4 a1 a2 = some r) : Met l yX4_isWithin wsX4_isWithin rmX4_isWithin (va_Pc [.ref h4, .int a1, .int a2] (pre_w (dC, dI) (cf_4 cI h4 h4a0 h4a1 h4a2 s4) [(cI, .int)] sz)) (va_Qi (fun (r' : Int32) (_ : Unit) => r' = r) (post_w (dC, dI) (cf_4 cI h4 h4a0 h4a1 h4a2 s4) [(cI, .int)] (va_A (cf_4 cI h4 h4a0 h4a1 h4a2 s4) sz)) (va_A (cf_4 cI h4 h4a0 h4a1 h4a2 s4) sz)) 0 0 (va_A (cf_4 cI h4 h4a0 h4a1 h4a2 s4) sz) := by
  refine gm_z (cc := cX4_isWithin) (maxL := 5) (by decide) rfl (Nat.le_of_ble_eq_true rfl) ?_
  intro p e s m below meth c A QQ ls hx hb hml hown hts hK hN hA hP hD hS hl hret
  have hown : s.vm.findClass RX4 = some m.cls := hown
  have hl : lv_has ls 5 [(0, .ref h4), (1, .int a1), (2, .int a2)] := hl
  have J43 : ∀ (t0 : Int32) (H : Heap) (locs : List Loc), va_P (dC, dI) vwCl (cf_4 cI h4 h4a0 h4a1 h4a2 s4) H → va_D A (cf_4 cI h4 h4a0 h4a1 h4a2 s4) → va_S A s.heap H locs → ∀ (ls : Array Slot), lv_has ls 5 [] → fX4_isWithin_43 s4 a1 a2 t0 = some r → W p l e rmX4_isWithin s m ([.ref h4, .int a1, .int a2] : List Value).toArray below meth c H locs 0 0 QQ (F0 m 43 ls [.int t0]) := by
    intro  t0 H locs hP hD hS ls hl hf
    unfold fX4_isWithin_43 at hf
    obtain ⟨hz_1, hf⟩ := bo_ok hf
    have hf : (some t0 : Option (Int32)) = some r := hf
    have he := Option.some.inj hf
    have he0 : t0 = r := he
    exact hret _ _ _ _ _ _ hz_1 he0 rfl dX4_isWithin_43 hP hD hS
  have J33 : ∀ (x3 : Int32) (H : Heap) (locs : List Loc), va_P (dC, dI) vwCl (cf_4 cI h4 h4a0 h4a1 h4a2 s4) H → va_D A (cf_4 cI h4 h4a0 h4a1 h4a2 s4) → va_S A s.heap H locs → ∀ (ls : Array Slot), lv_has ls 5 [(2, .int a2), (3, .int x3)] → fX4_isWithin_33 s4 a1 a2 x3 = some r → W p l e rmX4_isWithin s m ([.ref h4, .int a1, .int a2] : List Value).toArray below meth c H locs 0 0 QQ (F0 m 33 ls []) := by
    intro  x3 H locs hP hD hS ls hl hf
    unfold fX4_isWithin_33 at hf
    refine lv_iload_n hx hb dX4_isWithin_33 rfl (lv_at hl 1 rfl) ?_
    refine lv_iload_n hx hb dX4_isWithin_34 rfl (lv_at hl 0 rfl) ?_
    refine lv_icmp_ne (tgt := 42) hx hb dX4_isWithin_35 (by decide) (fun c_1 => ?_) (fun c_1 => ?_)
    · have hf := it_f c_1 hf
      refine lv_iconst (v := 0) hx hb dX4_isWithin_42 (by decide) ?_
      exact J43 0 _ _ hP hD hS _ (lv_sub hl [] rfl) hf
    · have hf := it_t c_1 hf
      refine lv_iconst (v := 1) hx hb dX4_isWithin_38 (by decide) ?_
      refine lv_goto (tgt := 43) hx hb dX4_isWithin_39 (by decide) ?_
      exact J43 1 _ _ hP hD hS _ (lv_sub hl [] rfl) hf
  have J5 : ∀ (n : Nat) (x3 : Int32) (x4 : Int32) (H : Heap) (locs : List Loc), va_P (dC, dI) vwCl (cf_4 cI h4 h4a0 h4a1 h4a2 s4) H → va_D A (cf_4 cI h4 h4a0 h4a1 h4a2 s4) → va_S A s.heap H locs → ∀ (ls : Array Slot), lv_has ls 5 [(0, .ref h4), (2, .int a2), (3, .int x3), (4, .int x4)] → fX4_isWithin_5 s4 a1 a2 n x3 x4 = some r → W p l e rmX4_isWithin s m ([.ref h4, .int a1, .int a2] : List Value).toArray below meth c H locs 0 0 QQ (F0 m 5 ls []) := by
    intro n
    induction n with
    | zero =>
      intro x3 x4 H locs hP hD hS ls hl hf
      cases hf
    | succ n ih =>
      intro x3 x4 H locs hP hD hS ls hl hf
      rw [fX4_isWithin_5] at hf
      refine lv_iload hx hb dX4_isWithin_5 (lv_at hl 3 rfl) ?_
      refine lv_bipush (v := 12) hx hb dX4_isWithin_7 (by decide) ?_
      refine lv_icmp_ge (tgt := 33) hx hb dX4_isWithin_9 (by decide) (fun c_1 => ?_) (fun c_1 => ?_)
      · have hf := it_t c_1 hf
        exact J33 x3 _ _ hP hD hS _ (lv_sub hl [1, 2] rfl) hf
      · have hf := it_f c_1 hf
        refine lv_iload_n hx hb dX4_isWithin_12 rfl (lv_at hl 2 rfl) ?_
        refine lv_if_lt (tgt := 33) hx hb dX4_isWithin_13 (by decide) (fun c_2 => ?_) (fun c_2 => ?_)
        · have hf := it_t c_2 hf
          exact J33 x3 _ _ hP hD hS _ (lv_sub hl [1, 2] rfl) hf
        · have hf := it_f c_2 hf
          refine lv_iload_n hx hb dX4_isWithin_16 rfl (lv_at hl 2 rfl) ?_
          refine lv_iload_n hx hb dX4_isWithin_17 rfl (lv_at hl 1 rfl) ?_
          refine lv_icmp_eq (tgt := 33) hx hb dX4_isWithin_18 (by decide) (fun c_3 => ?_) (fun c_3 => ?_)
          · have hf := it_t c_3 hf
            exact J33 x3 _ _ hP hD hS _ (lv_sub hl [1, 2] rfl) hf
          · have hf := it_f c_3 hf
            refine lv_aload_n hx hb dX4_isWithin_21 rfl (lv_at hl 0 rfl) ?_
            refine lv_iload_n hx hb dX4_isWithin_22 rfl (lv_at hl 2 rfl) ?_
            obtain ⟨r_4, hc_4, hf⟩ := bn1_ok hf
            refine gc_i (wc := (cf_4 cI h4 h4a0 h4a1 h4a2 s4)) (wr := ([] : va_W)) (w1 := (cf_4 cI h4 h4a0 h4a1 h4a2 s4)) (ws' := (cf_4 cI h4 h4a0 h4a1 h4a2 s4)) hP hD hS hA [0, 1, 2, 3] [] [0, 1, 2, 3] rfl rfl (by decide) (by decide) rfl (by decide) (va_runV (As := [.int x3]) (rest := []) ⟨hx, hb, hml, hown, hts⟩ (ktX4_holderOf l dC dI cI h4 h4a0 h4a1 h4a2 _ s4 x3 r_4 hc_4) (cwV 1 hts gX4_isWithin_X4_holderOf rfl rfl rfl (by decide +kernel) ⟨Nat.le_of_ble_eq_true rfl, Nat.le_of_ble_eq_true rfl⟩) (gc_V (ci := 4) (q0 := 0) (C := RX4) (T := TX4) (N := 6) (hP.sub (ws' := (cf_4 cI h4 h4a0 h4a1 h4a2 s4)) [0, 1, 2, 3] rfl) (hK.sub (tys' := [(cI, .int)]) [0] rfl) (hD.sub (ws' := (cf_4 cI h4 h4a0 h4a1 h4a2 s4)) [0, 1, 2, 3] (by decide) rfl) hN rfl rfl) rfl rfl hl.1 rfl (lv_room (Nat.le_of_ble_eq_true rfl)) dX4_isWithin_23 ⟨Nat.zero_le _, Nat.zero_le _⟩) (fun H locs hP hD hS => ?_)
            refine lv_istore_n (lv' := [(3, .int r_4), (0, .ref h4), (2, .int a2), (4, .int x4)]) hx hb dX4_isWithin_26 rfl hl (by decide) rfl (fun ls hl => ?_)
            refine lv_iinc (v := (x4 + 1)) (lv' := [(4, .int (x4 + 1)), (3, .int r_4), (0, .ref h4), (2, .int a2)]) hx hb dX4_isWithin_27 hl (k := 3) rfl rfl (by decide) rfl (fun ls hl => ?_)
            refine lv_goto (tgt := 5) hx hb dX4_isWithin_30 (by decide) ?_
            exact ih r_4 (x4 + 1) _ _ hP hD hS _ (lv_sub hl [2, 3, 1, 0] rfl) hf
  unfold fX4_isWithin at hf
  refine lv_iload_n hx hb dX4_isWithin_0 rfl (lv_at hl 1 rfl) ?_
  refine lv_istore_n (lv' := [(3, .int a1), (0, .ref h4), (1, .int a1), (2, .int a2)]) hx hb dX4_isWithin_1 rfl hl (by decide) rfl (fun ls hl => ?_)
  refine lv_iconst (v := 0) hx hb dX4_isWithin_2 (by decide) ?_
  refine lv_istore (lv' := [(4, .int 0), (3, .int a1), (0, .ref h4), (1, .int a1), (2, .int a2)]) hx hb dX4_isWithin_3 hl (by decide) rfl (fun ls hl => ?_)
  exact J5 64 a1 0 _ _ hP hD hS _ (lv_sub hl [2, 4, 1, 0] rfl) hf
abbrev rmX4_perform : Room := { frames := 3, cells := 0, slots := 0, locals := 67 }
set_option maxHeartbeats 2000000 in
set_option maxRecDepth 100000 in
theorem ktX4_perform (l : Launch) (dC : Nat → ClassId) (dI : Nat → Nat → Nat) (cI : ClassId) (h4 h4a0 h4a1 h4a2 : Nat) (sz : Nat) (s4 : S4) (a1 : Int32) (a2 : Int32) (a3 : Int32) (r : Int32) (s4f : S4) (hf : fX4_perform s4 a1 a2 a3 = some (r, s4f)) : Met l yX4_perform wsX4_perform rmX4_perform (va_Pc [.ref h4, .int a1, .int a2, .int a3] (pre_w (dC, dI) (cf_4 cI h4 h4a0 h4a1 h4a2 s4) [(cI, .int)] sz)) (va_Qi (fun (r' : Int32) (_ : Unit) => r' = r) (post_w (dC, dI) (cf_4 cI h4 h4a0 h4a1 h4a2 s4f) [(cI, .int)] (va_A (cf_4 cI h4 h4a0 h4a1 h4a2 s4) sz)) (va_A (cf_4 cI h4 h4a0 h4a1 h4a2 s4) sz)) 0 0 (va_A (cf_4 cI h4 h4a0 h4a1 h4a2 s4) sz) := by
  refine gm_z (cc := cX4_perform) (maxL := 4) (by decide) rfl (Nat.le_of_ble_eq_true rfl) ?_
  intro p e s m below meth c A QQ ls hx hb hml hown hts hK hN hA hP hD hS hl hret
  have hown : s.vm.findClass RX4 = some m.cls := hown
  have hl : lv_has ls 4 [(0, .ref h4), (1, .int a1), (2, .int a2), (3, .int a3)] := hl
  have in4 : ∀ w ∈ u_ws RX4 TX4 6, w ∈ wsX4_perform := by decide +kernel
  have fl18 := hts (.fieldLink RX4 18 "ParserParlour$World" "holders" "[I") (by decide +kernel)
  have fl28 := hts (.fieldLink RX4 28 "ParserParlour$World" "openBoxes" "I") (by decide +kernel)
  have J20 : ∀ (s4 : S4) (H : Heap) (locs : List Loc), va_P (dC, dI) vwCl (cf_4 cI h4 h4a0 h4a1 h4a2 s4) H → va_D A (cf_4 cI h4 h4a0 h4a1 h4a2 s4) → va_S A s.heap H locs → ∀ (ls : Array Slot), lv_has ls 4 [] → fX4_perform_20 a1 a2 a3 s4 = some (r, s4f) → W p l e rmX4_perform s m ([.ref h4, .int a1, .int a2, .int a3] : List Value).toArray below meth c H locs 0 0 QQ (F0 m 20 ls []) := by
    intro  s4 H locs hP hD hS ls hl hf
    unfold fX4_perform_20 at hf
    refine lv_iconst (v := 0) hx hb dX4_perform_20 (by decide) ?_
    have hf : (some (0, s4) : Option (Int32 × S4)) = some (r, s4f) := hf
    have he := Option.some.inj hf
    have he0 : 0 = r := congrArg (fun q => q.1) he
    have he1 : s4 = s4f := congrArg (fun q => q.2) he
    exact hret _ _ _ _ _ _ rfl he0 (by rw [← he1]) dX4_perform_21 hP hD hS
  have J98 : ∀ (s4 : S4) (H : Heap) (locs : List Loc), va_P (dC, dI) vwCl (cf_4 cI h4 h4a0 h4a1 h4a2 s4) H → va_D A (cf_4 cI h4 h4a0 h4a1 h4a2 s4) → va_S A s.heap H locs → ∀ (ls : Array Slot), lv_has ls 4 [] → fX4_perform_98 a1 a2 a3 s4 = some (r, s4f) → W p l e rmX4_perform s m ([.ref h4, .int a1, .int a2, .int a3] : List Value).toArray below meth c H locs 0 0 QQ (F0 m 98 ls []) := by
    intro  s4 H locs hP hD hS ls hl hf
    unfold fX4_perform_98 at hf
    refine lv_iconst (v := 0) hx hb dX4_perform_98 (by decide) ?_
    have hf : (some (0, s4) : Option (Int32 × S4)) = some (r, s4f) := hf
    have he := Option.some.inj hf
    have he0 : 0 = r := congrArg (fun q => q.1) he
    have he1 : s4 = s4f := congrArg (fun q => q.2) he
    exact hret _ _ _ _ _ _ rfl he0 (by rw [← he1]) dX4_perform_99 hP hD hS
  unfold fX4_perform at hf
  refine lv_aload_n hx hb dX4_perform_0 rfl (lv_at hl 0 rfl) ?_
  refine lv_iload_n hx hb dX4_perform_1 rfl (lv_at hl 2 rfl) ?_
  obtain ⟨r_1, hc_1, hf⟩ := bn1_ok hf
  refine gc_i (wc := (cf_4 cI h4 h4a0 h4a1 h4a2 s4)) (wr := ([] : va_W)) (w1 := (cf_4 cI h4 h4a0 h4a1 h4a2 s4)) (ws' := (cf_4 cI h4 h4a0 h4a1 h4a2 s4)) hP hD hS hA [0, 1, 2, 3] [] [0, 1, 2, 3] rfl rfl (by decide) (by decide) rfl (by decide) (va_runV (As := [.int a2]) (rest := []) ⟨hx, hb, hml, hown, hts⟩ (ktX4_has l dC dI cI h4 h4a0 h4a1 h4a2 _ s4 a2 r_1 hc_1) (cwV 1 hts gX4_perform_X4_has rfl rfl rfl (by decide +kernel) ⟨Nat.le_of_ble_eq_true rfl, Nat.le_of_ble_eq_true rfl⟩) (gc_V (ci := 4) (q0 := 0) (C := RX4) (T := TX4) (N := 6) (hP.sub (ws' := (cf_4 cI h4 h4a0 h4a1 h4a2 s4)) [0, 1, 2, 3] rfl) (hK.sub (tys' := [(cI, .int)]) [0] rfl) (hD.sub (ws' := (cf_4 cI h4 h4a0 h4a1 h4a2 s4)) [0, 1, 2, 3] (by decide) rfl) hN rfl rfl) rfl rfl hl.1 rfl (lv_room (Nat.le_of_ble_eq_true rfl)) dX4_perform_2 ⟨Nat.zero_le _, Nat.zero_le _⟩) (fun H locs hP hD hS => ?_)
  refine lv_if_eq (tgt := 20) hx hb dX4_perform_5 (by decide) (fun c_2 => ?_) (fun c_2 => ?_)
  · have hf := it_t c_2 hf
    exact J20 s4 _ _ hP hD hS _ (lv_sub hl [] rfl) hf
  · have hf := it_f c_2 hf
    refine lv_aload_n hx hb dX4_perform_8 rfl (lv_at hl 0 rfl) ?_
    refine lv_iload_n hx hb dX4_perform_9 rfl (lv_at hl 1 rfl) ?_
    obtain ⟨r_3, hc_3, hf⟩ := bn1_ok hf
    refine gc_i (wc := (cf_4 cI h4 h4a0 h4a1 h4a2 s4)) (wr := ([] : va_W)) (w1 := (cf_4 cI h4 h4a0 h4a1 h4a2 s4)) (ws' := (cf_4 cI h4 h4a0 h4a1 h4a2 s4)) hP hD hS hA [0, 1, 2, 3] [] [0, 1, 2, 3] rfl rfl (by decide) (by decide) rfl (by decide) (va_runV (As := [.int a1]) (rest := []) ⟨hx, hb, hml, hown, hts⟩ (ktX4_suited l dC dI cI h4 h4a0 h4a1 h4a2 _ s4 a1 r_3 hc_3) (cwV 1 hts gX4_perform_X4_suited rfl rfl rfl (by decide +kernel) ⟨Nat.le_of_ble_eq_true rfl, Nat.le_of_ble_eq_true rfl⟩) (gc_V (ci := 4) (q0 := 0) (C := RX4) (T := TX4) (N := 6) (hP.sub (ws' := (cf_4 cI h4 h4a0 h4a1 h4a2 s4)) [0, 1, 2, 3] rfl) (hK.sub (tys' := [(cI, .int)]) [0] rfl) (hD.sub (ws' := (cf_4 cI h4 h4a0 h4a1 h4a2 s4)) [0, 1, 2, 3] (by decide) rfl) hN rfl rfl) rfl rfl hl.1 rfl (lv_room (Nat.le_of_ble_eq_true rfl)) dX4_perform_10 ⟨Nat.zero_le _, Nat.zero_le _⟩) (fun H locs hP hD hS => ?_)
    refine lv_iload_n hx hb dX4_perform_13 rfl (lv_at hl 2 rfl) ?_
    obtain ⟨r_4, hc_4, hf⟩ := bn1_ok hf
    refine gc_i (wc := ([] : va_W)) (wr := (cf_4 cI h4 h4a0 h4a1 h4a2 s4)) (w1 := ([] : va_W)) (ws' := (cf_4 cI h4 h4a0 h4a1 h4a2 s4)) hP hD hS hA [] [0, 1, 2, 3] [0, 1, 2, 3] rfl rfl (by decide) (by decide) rfl (by decide) (va_runSN (As := [.int r_3, .int a2]) (rest := []) ⟨hx, hb, hml, hown, hts⟩ (ktX5_contains l dC dI _ r_3 a2 r_4 hc_4) ⟨va_cnB (host := RX5) 2 hts ggX4_perform_X5_contains rfl rfl rfl (hN _ (List.mem_of_getElem? (i := 27) rfl)) (hts (.initialized RX5) (by decide +kernel)) (by decide +kernel) ⟨Nat.le_of_ble_eq_true rfl, Nat.le_of_ble_eq_true rfl⟩, hts (.static yX5_contains) (by decide +kernel), trivial⟩ (gc_S (hP.sub (ws' := ([] : va_W)) [] rfl) (hK.sub (tys' := []) [] rfl) (hD.sub (ws' := ([] : va_W)) [] (by decide) rfl) hN) rfl rfl hl.1 rfl (lv_room (Nat.le_of_ble_eq_true rfl)) dX4_perform_14 ⟨Nat.zero_le _, Nat.zero_le _⟩) (fun H locs hP hD hS => ?_)
    refine lv_if_ne (tgt := 22) hx hb dX4_perform_17 (by decide) (fun c_5 => ?_) (fun c_5 => ?_)
    · have hf := it_f c_5 hf
      refine lv_iload_n hx hb dX4_perform_22 rfl (lv_at hl 1 rfl) ?_
      by_cases c_6 : a1 = 0
      · have hf := it_t c_6 hf
        refine lv_tableIn (off := 33) (tgt := 56) hx hb dX4_perform_23 (by rw [c_6]; decide) (by rw [c_6]; decide) (by rw [c_6]; rfl) (by decide) ?_
        refine lv_aload_n hx hb dX4_perform_56 rfl (lv_at hl 0 rfl) ?_
        refine va_get (D := (dC, dI)) (ci := 4) (v := .ref h4a2) (C := RX4) (T := TX4) (N := 6) hx hb hts in4 hown hK hP 0 rfl rfl 2 (by decide) fl18 (fun _ h9 => h9) rfl dX4_perform_57 ?_
        refine lv_iload_n hx hb dX4_perform_60 rfl (lv_at hl 2 rfl) ?_
        refine lv_bipush (v := (-3)) hx hb dX4_perform_61 (by decide) ?_
        obtain ⟨hi_7, hf⟩ := ai_ok hf
        refine va_iast (n := 12) (f := (S4_holders s4)) hx hb hK hP hD hS 3 0 rfl rfl hi_7 dX4_perform_63 (fun H locs hP hD hS => ?_)
        have hP : va_P (dC, dI) vwCl (cf_4 cI h4 h4a0 h4a1 h4a2 (S4_set_holders s4 (upd (S4_holders s4) a2.toNatClampNeg (-3)))) H := hP
        have hD : va_D A (cf_4 cI h4 h4a0 h4a1 h4a2 (S4_set_holders s4 (upd (S4_holders s4) a2.toNatClampNeg (-3)))) := hD
        refine lv_iconst (v := 1) hx hb dX4_perform_64 (by decide) ?_
        have hf : (some (1, (S4_set_holders s4 (upd (S4_holders s4) a2.toNatClampNeg (-3)))) : Option (Int32 × S4)) = some (r, s4f) := hf
        have he := Option.some.inj hf
        have he0 : 1 = r := congrArg (fun q => q.1) he
        have he1 : (S4_set_holders s4 (upd (S4_holders s4) a2.toNatClampNeg (-3))) = s4f := congrArg (fun q => q.2) he
        exact hret _ _ _ _ _ _ rfl he0 (by rw [← he1]) dX4_perform_65 hP hD hS
      have hf := it_f c_6 hf
      by_cases c_8 : a1 = 1
      · have hf := it_t c_8 hf
        refine lv_tableIn (off := 43) (tgt := 66) hx hb dX4_perform_23 (by rw [c_8]; decide) (by rw [c_8]; decide) (by rw [c_8]; rfl) (by decide) ?_
        refine lv_aload_n hx hb dX4_perform_66 rfl (lv_at hl 0 rfl) ?_
        refine va_get (D := (dC, dI)) (ci := 4) (v := .ref h4a2) (C := RX4) (T := TX4) (N := 6) hx hb hts in4 hown hK hP 0 rfl rfl 2 (by decide) fl18 (fun _ h9 => h9) rfl dX4_perform_67 ?_
        refine lv_iload_n hx hb dX4_perform_70 rfl (lv_at hl 2 rfl) ?_
        refine lv_bipush (v := (-2)) hx hb dX4_perform_71 (by decide) ?_
        obtain ⟨hi_9, hf⟩ := ai_ok hf
        refine va_iast (n := 12) (f := (S4_holders s4)) hx hb hK hP hD hS 3 0 rfl rfl hi_9 dX4_perform_73 (fun H locs hP hD hS => ?_)
        have hP : va_P (dC, dI) vwCl (cf_4 cI h4 h4a0 h4a1 h4a2 (S4_set_holders s4 (upd (S4_holders s4) a2.toNatClampNeg (-2)))) H := hP
        have hD : va_D A (cf_4 cI h4 h4a0 h4a1 h4a2 (S4_set_holders s4 (upd (S4_holders s4) a2.toNatClampNeg (-2)))) := hD
        refine lv_iconst (v := 1) hx hb dX4_perform_74 (by decide) ?_
        have hf : (some (1, (S4_set_holders s4 (upd (S4_holders s4) a2.toNatClampNeg (-2)))) : Option (Int32 × S4)) = some (r, s4f) := hf
        have he := Option.some.inj hf
        have he0 : 1 = r := congrArg (fun q => q.1) he
        have he1 : (S4_set_holders s4 (upd (S4_holders s4) a2.toNatClampNeg (-2))) = s4f := congrArg (fun q => q.2) he
        exact hret _ _ _ _ _ _ rfl he0 (by rw [← he1]) dX4_perform_75 hP hD hS
      have hf := it_f c_8 hf
      by_cases c_10 : a1 = 2
      · have hf := it_t c_10 hf
        refine lv_tableIn (off := 53) (tgt := 76) hx hb dX4_perform_23 (by rw [c_10]; decide) (by rw [c_10]; decide) (by rw [c_10]; rfl) (by decide) ?_
        refine lv_aload_n hx hb dX4_perform_76 rfl (lv_at hl 0 rfl) ?_
        refine lv_bipush (v := 16) hx hb dX4_perform_77 (by decide) ?_
        obtain ⟨r_11, hc_11, hf⟩ := bn1_ok hf
        refine gc_i (wc := (cf_4 cI h4 h4a0 h4a1 h4a2 s4)) (wr := ([] : va_W)) (w1 := (cf_4 cI h4 h4a0 h4a1 h4a2 s4)) (ws' := (cf_4 cI h4 h4a0 h4a1 h4a2 s4)) hP hD hS hA [0, 1, 2, 3] [] [0, 1, 2, 3] rfl rfl (by decide) (by decide) rfl (by decide) (va_runV (As := [.int 16]) (rest := []) ⟨hx, hb, hml, hown, hts⟩ (ktX4_suited l dC dI cI h4 h4a0 h4a1 h4a2 _ s4 16 r_11 hc_11) (cwV 1 hts gX4_perform_X4_suited rfl rfl rfl (by decide +kernel) ⟨Nat.le_of_ble_eq_true rfl, Nat.le_of_ble_eq_true rfl⟩) (gc_V (ci := 4) (q0 := 0) (C := RX4) (T := TX4) (N := 6) (hP.sub (ws' := (cf_4 cI h4 h4a0 h4a1 h4a2 s4)) [0, 1, 2, 3] rfl) (hK.sub (tys' := [(cI, .int)]) [0] rfl) (hD.sub (ws' := (cf_4 cI h4 h4a0 h4a1 h4a2 s4)) [0, 1, 2, 3] (by decide) rfl) hN rfl rfl) rfl rfl hl.1 rfl (lv_room (Nat.le_of_ble_eq_true rfl)) dX4_perform_79 ⟨Nat.zero_le _, Nat.zero_le _⟩) (fun H locs hP hD hS => ?_)
        refine lv_iload_n hx hb dX4_perform_82 rfl (lv_at hl 3 rfl) ?_
        obtain ⟨r_12, hc_12, hf⟩ := bn1_ok hf
        refine gc_i (wc := ([] : va_W)) (wr := (cf_4 cI h4 h4a0 h4a1 h4a2 s4)) (w1 := ([] : va_W)) (ws' := (cf_4 cI h4 h4a0 h4a1 h4a2 s4)) hP hD hS hA [] [0, 1, 2, 3] [0, 1, 2, 3] rfl rfl (by decide) (by decide) rfl (by decide) (va_runSN (As := [.int r_11, .int a3]) (rest := []) ⟨hx, hb, hml, hown, hts⟩ (ktX5_contains l dC dI _ r_11 a3 r_12 hc_12) ⟨va_cnB (host := RX5) 2 hts ggX4_perform_X5_contains rfl rfl rfl (hN _ (List.mem_of_getElem? (i := 27) rfl)) (hts (.initialized RX5) (by decide +kernel)) (by decide +kernel) ⟨Nat.le_of_ble_eq_true rfl, Nat.le_of_ble_eq_true rfl⟩, hts (.static yX5_contains) (by decide +kernel), trivial⟩ (gc_S (hP.sub (ws' := ([] : va_W)) [] rfl) (hK.sub (tys' := []) [] rfl) (hD.sub (ws' := ([] : va_W)) [] (by decide) rfl) hN) rfl rfl hl.1 rfl (lv_room (Nat.le_of_ble_eq_true rfl)) dX4_perform_83 ⟨Nat.zero_le _, Nat.zero_le _⟩) (fun H locs hP hD hS => ?_)
        refine lv_if_eq (tgt := 98) hx hb dX4_perform_86 (by decide) (fun c_13 => ?_) (fun c_13 => ?_)
        · have hf := it_t c_13 hf
          exact J98 s4 _ _ hP hD hS _ (lv_sub hl [] rfl) hf
        · have hf := it_f c_13 hf
          refine lv_aload_n hx hb dX4_perform_89 rfl (lv_at hl 0 rfl) ?_
          refine lv_iload_n hx hb dX4_perform_90 rfl (lv_at hl 3 rfl) ?_
          refine lv_iload_n hx hb dX4_perform_91 rfl (lv_at hl 2 rfl) ?_
          obtain ⟨r_14, hc_14, hf⟩ := bn1_ok hf
          refine gc_i (wc := (cf_4 cI h4 h4a0 h4a1 h4a2 s4)) (wr := ([] : va_W)) (w1 := (cf_4 cI h4 h4a0 h4a1 h4a2 s4)) (ws' := (cf_4 cI h4 h4a0 h4a1 h4a2 s4)) hP hD hS hA [0, 1, 2, 3] [] [0, 1, 2, 3] rfl rfl (by decide) (by decide) rfl (by decide) (va_runV (As := [.int a3, .int a2]) (rest := []) ⟨hx, hb, hml, hown, hts⟩ (ktX4_isWithin l dC dI cI h4 h4a0 h4a1 h4a2 _ s4 a3 a2 r_14 hc_14) (cwV 2 hts gX4_perform_X4_isWithin rfl rfl rfl (by decide +kernel) ⟨Nat.le_of_ble_eq_true rfl, Nat.le_of_ble_eq_true rfl⟩) (gc_V (ci := 4) (q0 := 0) (C := RX4) (T := TX4) (N := 6) (hP.sub (ws' := (cf_4 cI h4 h4a0 h4a1 h4a2 s4)) [0, 1, 2, 3] rfl) (hK.sub (tys' := [(cI, .int)]) [0] rfl) (hD.sub (ws' := (cf_4 cI h4 h4a0 h4a1 h4a2 s4)) [0, 1, 2, 3] (by decide) rfl) hN rfl rfl) rfl rfl hl.1 rfl (lv_room (Nat.le_of_ble_eq_true rfl)) dX4_perform_92 ⟨Nat.zero_le _, Nat.zero_le _⟩) (fun H locs hP hD hS => ?_)
          refine lv_if_eq (tgt := 100) hx hb dX4_perform_95 (by decide) (fun c_15 => ?_) (fun c_15 => ?_)
          · have hf := it_t c_15 hf
            refine lv_aload_n hx hb dX4_perform_100 rfl (lv_at hl 0 rfl) ?_
            refine va_get (D := (dC, dI)) (ci := 4) (v := .ref h4a2) (C := RX4) (T := TX4) (N := 6) hx hb hts in4 hown hK hP 0 rfl rfl 2 (by decide) fl18 (fun _ h9 => h9) rfl dX4_perform_101 ?_
            refine lv_iload_n hx hb dX4_perform_104 rfl (lv_at hl 2 rfl) ?_
            refine lv_iload_n hx hb dX4_perform_105 rfl (lv_at hl 3 rfl) ?_
            obtain ⟨hi_16, hf⟩ := ai_ok hf
            refine va_iast (n := 12) (f := (S4_holders s4)) hx hb hK hP hD hS 3 0 rfl rfl hi_16 dX4_perform_106 (fun H locs hP hD hS => ?_)
            have hP : va_P (dC, dI) vwCl (cf_4 cI h4 h4a0 h4a1 h4a2 (S4_set_holders s4 (upd (S4_holders s4) a2.toNatClampNeg a3))) H := hP
            have hD : va_D A (cf_4 cI h4 h4a0 h4a1 h4a2 (S4_set_holders s4 (upd (S4_holders s4) a2.toNatClampNeg a3))) := hD
            refine lv_iconst (v := 1) hx hb dX4_perform_107 (by decide) ?_
            have hf : (some (1, (S4_set_holders s4 (upd (S4_holders s4) a2.toNatClampNeg a3))) : Option (Int32 × S4)) = some (r, s4f) := hf
            have he := Option.some.inj hf
            have he0 : 1 = r := congrArg (fun q => q.1) he
            have he1 : (S4_set_holders s4 (upd (S4_holders s4) a2.toNatClampNeg a3)) = s4f := congrArg (fun q => q.2) he
            exact hret _ _ _ _ _ _ rfl he0 (by rw [← he1]) dX4_perform_108 hP hD hS
          · have hf := it_f c_15 hf
            exact J98 s4 _ _ hP hD hS _ (lv_sub hl [] rfl) hf
      have hf := it_f c_10 hf
      by_cases c_17 : a1 = 3
      · have hf := it_t c_17 hf
        refine lv_tableIn (off := 86) (tgt := 109) hx hb dX4_perform_23 (by rw [c_17]; decide) (by rw [c_17]; decide) (by rw [c_17]; rfl) (by decide) ?_
        refine lv_aload_n hx hb dX4_perform_109 rfl (lv_at hl 0 rfl) ?_
        refine lv_dup hx hb dX4_perform_110 rfl ?_
        refine va_get (D := (dC, dI)) (ci := 4) (v := .int (S4_openBoxes s4)) (C := RX4) (T := TX4) (N := 6) hx hb hts in4 hown hK hP 0 rfl rfl 5 (by decide) fl28 (fun _ h9 => h9) rfl dX4_perform_111 ?_
        refine lv_iconst (v := 1) hx hb dX4_perform_114 (by decide) ?_
        refine lv_iload_n hx hb dX4_perform_115 rfl (lv_at hl 2 rfl) ?_
        refine lv_ishl hx hb dX4_perform_116 ?_
        refine lv_ior hx hb dX4_perform_117 ?_
        refine va_put (D := (dC, dI)) (ci := 4) (v := .int ((S4_openBoxes s4) ||| ((1 : Int32) <<< (a2 &&& 31)))) (ty := .int) (C := RX4) (T := TX4) (N := 6) hx hb hts in4 tyX4 tyX4_ok nmX4 hown hK hP hD hS 0 rfl rfl 5 (by decide) fl28 (fun _ h9 => h9) rfl (by decide +kernel) rfl rfl (Nat.le_of_ble_eq_true rfl) dX4_perform_118 (fun H locs hP hD hS => ?_)
        have hP : va_P (dC, dI) vwCl (cf_4 cI h4 h4a0 h4a1 h4a2 (S4_set_openBoxes s4 ((S4_openBoxes s4) ||| ((1 : Int32) <<< (a2 &&& 31))))) H := hP
        have hD : va_D A (cf_4 cI h4 h4a0 h4a1 h4a2 (S4_set_openBoxes s4 ((S4_openBoxes s4) ||| ((1 : Int32) <<< (a2 &&& 31))))) := hD
        refine lv_iconst (v := 1) hx hb dX4_perform_121 (by decide) ?_
        have hf : (some (1, (S4_set_openBoxes s4 ((S4_openBoxes s4) ||| ((1 : Int32) <<< (a2 &&& 31))))) : Option (Int32 × S4)) = some (r, s4f) := hf
        have he := Option.some.inj hf
        have he0 : 1 = r := congrArg (fun q => q.1) he
        have he1 : (S4_set_openBoxes s4 ((S4_openBoxes s4) ||| ((1 : Int32) <<< (a2 &&& 31)))) = s4f := congrArg (fun q => q.2) he
        exact hret _ _ _ _ _ _ rfl he0 (by rw [← he1]) dX4_perform_122 hP hD hS
      have hf := it_f c_17 hf
      by_cases c_18 : a1 = 4
      · have hf := it_t c_18 hf
        refine lv_tableIn (off := 100) (tgt := 123) hx hb dX4_perform_23 (by rw [c_18]; decide) (by rw [c_18]; decide) (by rw [c_18]; rfl) (by decide) ?_
        refine lv_aload_n hx hb dX4_perform_123 rfl (lv_at hl 0 rfl) ?_
        refine lv_dup hx hb dX4_perform_124 rfl ?_
        refine va_get (D := (dC, dI)) (ci := 4) (v := .int (S4_openBoxes s4)) (C := RX4) (T := TX4) (N := 6) hx hb hts in4 hown hK hP 0 rfl rfl 5 (by decide) fl28 (fun _ h9 => h9) rfl dX4_perform_125 ?_
        refine lv_iconst (v := 1) hx hb dX4_perform_128 (by decide) ?_
        refine lv_iload_n hx hb dX4_perform_129 rfl (lv_at hl 2 rfl) ?_
        refine lv_ishl hx hb dX4_perform_130 ?_
        refine lv_iconst (v := (-1)) hx hb dX4_perform_131 (by decide) ?_
        refine lv_ixor hx hb dX4_perform_132 ?_
        refine lv_iand hx hb dX4_perform_133 ?_
        refine va_put (D := (dC, dI)) (ci := 4) (v := .int ((S4_openBoxes s4) &&& (((1 : Int32) <<< (a2 &&& 31)) ^^^ (-1)))) (ty := .int) (C := RX4) (T := TX4) (N := 6) hx hb hts in4 tyX4 tyX4_ok nmX4 hown hK hP hD hS 0 rfl rfl 5 (by decide) fl28 (fun _ h9 => h9) rfl (by decide +kernel) rfl rfl (Nat.le_of_ble_eq_true rfl) dX4_perform_134 (fun H locs hP hD hS => ?_)
        have hP : va_P (dC, dI) vwCl (cf_4 cI h4 h4a0 h4a1 h4a2 (S4_set_openBoxes s4 ((S4_openBoxes s4) &&& (((1 : Int32) <<< (a2 &&& 31)) ^^^ (-1))))) H := hP
        have hD : va_D A (cf_4 cI h4 h4a0 h4a1 h4a2 (S4_set_openBoxes s4 ((S4_openBoxes s4) &&& (((1 : Int32) <<< (a2 &&& 31)) ^^^ (-1))))) := hD
        refine lv_iconst (v := 1) hx hb dX4_perform_137 (by decide) ?_
        have hf : (some (1, (S4_set_openBoxes s4 ((S4_openBoxes s4) &&& (((1 : Int32) <<< (a2 &&& 31)) ^^^ (-1))))) : Option (Int32 × S4)) = some (r, s4f) := hf
        have he := Option.some.inj hf
        have he0 : 1 = r := congrArg (fun q => q.1) he
        have he1 : (S4_set_openBoxes s4 ((S4_openBoxes s4) &&& (((1 : Int32) <<< (a2 &&& 31)) ^^^ (-1)))) = s4f := congrArg (fun q => q.2) he
        exact hret _ _ _ _ _ _ rfl he0 (by rw [← he1]) dX4_perform_138 hP hD hS
      have hf := it_f c_18 hf
      have KD : W p l e rmX4_perform s m ([.ref h4, .int a1, .int a2, .int a3] : List Value).toArray below meth c H locs 0 0 QQ (F0 m 139 ls []) := by
        refine lv_iconst (v := 0) hx hb dX4_perform_139 (by decide) ?_
        have hf : (some (0, s4) : Option (Int32 × S4)) = some (r, s4f) := hf
        have he := Option.some.inj hf
        have he0 : 0 = r := congrArg (fun q => q.1) he
        have he1 : s4 = s4f := congrArg (fun q => q.2) he
        exact hret _ _ _ _ _ _ rfl he0 (by rw [← he1]) dX4_perform_140 hP hD hS
      have z_6 := lv_neT c_6 (show (0 : Int32).toInt = 0 from rfl)
      have z_8 := lv_neT c_8 (show (1 : Int32).toInt = 1 from rfl)
      have z_10 := lv_neT c_10 (show (2 : Int32).toInt = 2 from rfl)
      have z_17 := lv_neT c_17 (show (3 : Int32).toInt = 3 from rfl)
      have z_18 := lv_neT c_18 (show (4 : Int32).toInt = 4 from rfl)
      by_cases zo : (a1).toInt < 0 ∨ 4 < (a1).toInt
      · exact lv_tableOut (tgt := 139) hx hb dX4_perform_23 zo (by decide) KD
      · exact absurd zo (by omega)
    · have hf := it_t c_5 hf
      exact J20 s4 _ _ hP hD hS _ (lv_sub hl [] rfl) hf
abbrev rmX4_add : Room := { frames := 0, cells := 0, slots := 0, locals := 0 }
set_option maxHeartbeats 2000000 in
set_option maxRecDepth 100000 in
theorem ktX4_add (l : Launch) (dC : Nat → ClassId) (dI : Nat → Nat → Nat) (cI : ClassId) (h4 h4a0 h4a1 h4a2 : Nat) (sz : Nat) (s4 : S4) (a1 : Int32) (a2 : Int32) (a3 : Int32) (r : Int32) (s4f : S4) (hf : fX4_add s4 a1 a2 a3 = some (r, s4f)) : Met l yX4_add wsX4_add rmX4_add (va_Pc [.ref h4, .int a1, .int a2, .int a3] (pre_w (dC, dI) (cf_4 cI h4 h4a0 h4a1 h4a2 s4) [(cI, .int)] sz)) (va_Qi (fun (r' : Int32) (_ : Unit) => r' = r) (post_w (dC, dI) (cf_4 cI h4 h4a0 h4a1 h4a2 s4f) [(cI, .int)] (va_A (cf_4 cI h4 h4a0 h4a1 h4a2 s4) sz)) (va_A (cf_4 cI h4 h4a0 h4a1 h4a2 s4) sz)) 0 0 (va_A (cf_4 cI h4 h4a0 h4a1 h4a2 s4) sz) := by
  refine gm_i (cc := cX4_add) (maxL := 5) (by decide) rfl (Nat.le_of_ble_eq_true rfl) ?_
  intro p e s m below meth c A QQ ls hx hb hml hown hts hK hN hA hP hD hS hl hret
  have hown : s.vm.findClass RX4 = some m.cls := hown
  have hl : lv_has ls 5 [(0, .ref h4), (1, .int a1), (2, .int a2), (3, .int a3)] := hl
  have in4 : ∀ w ∈ u_ws RX4 TX4 6, w ∈ wsX4_add := by decide +kernel
  have fl21 := hts (.fieldLink RX4 21 "ParserParlour$World" "count" "I") (by decide +kernel)
  have fl9 := hts (.fieldLink RX4 9 "ParserParlour$World" "nouns" "[I") (by decide +kernel)
  have fl15 := hts (.fieldLink RX4 15 "ParserParlour$World" "adjectiveSets" "[I") (by decide +kernel)
  have fl18 := hts (.fieldLink RX4 18 "ParserParlour$World" "holders" "[I") (by decide +kernel)
  have fl25 := hts (.fieldLink RX4 25 "ParserParlour$World" "boxes" "I") (by decide +kernel)
  have J18 : ∀ (s4 : S4) (H : Heap) (locs : List Loc), va_P (dC, dI) vwCl (cf_4 cI h4 h4a0 h4a1 h4a2 s4) H → va_D A (cf_4 cI h4 h4a0 h4a1 h4a2 s4) → va_S A s.heap H locs → ∀ (ls : Array Slot), lv_has ls 5 [] → fX4_add_18 a1 a2 a3 s4 = some (r, s4f) → W p l e rmX4_add s m ([.ref h4, .int a1, .int a2, .int a3] : List Value).toArray below meth c H locs 0 0 QQ (F0 m 18 ls []) := by
    intro  s4 H locs hP hD hS ls hl hf
    unfold fX4_add_18 at hf
    refine lv_iconst (v := (-1)) hx hb dX4_add_18 (by decide) ?_
    have hf : (some ((-1), s4) : Option (Int32 × S4)) = some (r, s4f) := hf
    have he := Option.some.inj hf
    have he0 : (-1) = r := congrArg (fun q => q.1) he
    have he1 : s4 = s4f := congrArg (fun q => q.2) he
    exact hret _ _ _ _ _ _ he0 (by rw [← he1]) dX4_add_19 hP hD hS
  have J62 : ∀ (s4 : S4) (x4 : Int32) (H : Heap) (locs : List Loc), va_P (dC, dI) vwCl (cf_4 cI h4 h4a0 h4a1 h4a2 s4) H → va_D A (cf_4 cI h4 h4a0 h4a1 h4a2 s4) → va_S A s.heap H locs → ∀ (ls : Array Slot), lv_has ls 5 [(0, .ref h4), (4, .int x4)] → fX4_add_62 a1 a2 a3 s4 x4 = some (r, s4f) → W p l e rmX4_add s m ([.ref h4, .int a1, .int a2, .int a3] : List Value).toArray below meth c H locs 0 0 QQ (F0 m 62 ls []) := by
    intro  s4 x4 H locs hP hD hS ls hl hf
    unfold fX4_add_62 at hf
    refine lv_aload_n hx hb dX4_add_62 rfl (lv_at hl 0 rfl) ?_
    refine lv_dup hx hb dX4_add_63 rfl ?_
    refine va_get (D := (dC, dI)) (ci := 4) (v := .int (S4_count s4)) (C := RX4) (T := TX4) (N := 6) hx hb hts in4 hown hK hP 0 rfl rfl 3 (by decide) fl21 (fun _ h9 => h9) rfl dX4_add_64 ?_
    refine lv_iconst (v := 1) hx hb dX4_add_67 (by decide) ?_
    refine lv_iadd hx hb dX4_add_68 ?_
    refine va_put (D := (dC, dI)) (ci := 4) (v := .int ((S4_count s4) + 1)) (ty := .int) (C := RX4) (T := TX4) (N := 6) hx hb hts in4 tyX4 tyX4_ok nmX4 hown hK hP hD hS 0 rfl rfl 3 (by decide) fl21 (fun _ h9 => h9) rfl (by decide +kernel) rfl rfl (Nat.le_of_ble_eq_true rfl) dX4_add_69 (fun H locs hP hD hS => ?_)
    have hP : va_P (dC, dI) vwCl (cf_4 cI h4 h4a0 h4a1 h4a2 (S4_set_count s4 ((S4_count s4) + 1))) H := hP
    have hD : va_D A (cf_4 cI h4 h4a0 h4a1 h4a2 (S4_set_count s4 ((S4_count s4) + 1))) := hD
    refine lv_iload hx hb dX4_add_72 (lv_at hl 1 rfl) ?_
    have hf : (some (x4, (S4_set_count s4 ((S4_count s4) + 1))) : Option (Int32 × S4)) = some (r, s4f) := hf
    have he := Option.some.inj hf
    have he0 : x4 = r := congrArg (fun q => q.1) he
    have he1 : (S4_set_count s4 ((S4_count s4) + 1)) = s4f := congrArg (fun q => q.2) he
    exact hret _ _ _ _ _ _ he0 (by rw [← he1]) dX4_add_74 hP hD hS
  unfold fX4_add at hf
  refine lv_aload_n hx hb dX4_add_0 rfl (lv_at hl 0 rfl) ?_
  refine va_get (D := (dC, dI)) (ci := 4) (v := .int (S4_count s4)) (C := RX4) (T := TX4) (N := 6) hx hb hts in4 hown hK hP 0 rfl rfl 3 (by decide) fl21 (fun _ h9 => h9) rfl dX4_add_1 ?_
  refine lv_istore (lv' := [(4, .int (S4_count s4)), (0, .ref h4), (1, .int a1), (2, .int a2), (3, .int a3)]) hx hb dX4_add_4 hl (by decide) rfl (fun ls hl => ?_)
  refine lv_iload hx hb dX4_add_6 (lv_at hl 0 rfl) ?_
  refine lv_if_lt (tgt := 18) hx hb dX4_add_8 (by decide) (fun c_1 => ?_) (fun c_1 => ?_)
  · have hf := it_t c_1 hf
    exact J18 s4 _ _ hP hD hS _ (lv_sub hl [] rfl) hf
  · have hf := it_f c_1 hf
    refine lv_iload hx hb dX4_add_11 (lv_at hl 0 rfl) ?_
    refine lv_bipush (v := 12) hx hb dX4_add_13 (by decide) ?_
    refine lv_icmp_lt (tgt := 20) hx hb dX4_add_15 (by decide) (fun c_2 => ?_) (fun c_2 => ?_)
    · have hf := it_t c_2 hf
      refine lv_aload_n hx hb dX4_add_20 rfl (lv_at hl 1 rfl) ?_
      refine va_get (D := (dC, dI)) (ci := 4) (v := .ref h4a0) (C := RX4) (T := TX4) (N := 6) hx hb hts in4 hown hK hP 0 rfl rfl 0 (by decide) fl9 (fun _ h9 => h9) rfl dX4_add_21 ?_
      refine lv_iload hx hb dX4_add_24 (lv_at hl 0 rfl) ?_
      refine lv_iload_n hx hb dX4_add_26 rfl (lv_at hl 2 rfl) ?_
      obtain ⟨hi_3, hf⟩ := ai_ok hf
      refine va_iast (n := 12) (f := (S4_nouns s4)) hx hb hK hP hD hS 1 0 rfl rfl hi_3 dX4_add_27 (fun H locs hP hD hS => ?_)
      have hP : va_P (dC, dI) vwCl (cf_4 cI h4 h4a0 h4a1 h4a2 (S4_set_nouns s4 (upd (S4_nouns s4) (S4_count s4).toNatClampNeg a1))) H := hP
      have hD : va_D A (cf_4 cI h4 h4a0 h4a1 h4a2 (S4_set_nouns s4 (upd (S4_nouns s4) (S4_count s4).toNatClampNeg a1))) := hD
      refine lv_aload_n hx hb dX4_add_28 rfl (lv_at hl 1 rfl) ?_
      refine va_get (D := (dC, dI)) (ci := 4) (v := .ref h4a1) (C := RX4) (T := TX4) (N := 6) hx hb hts in4 hown hK hP 0 rfl rfl 1 (by decide) fl15 (fun _ h9 => h9) rfl dX4_add_29 ?_
      refine lv_iload hx hb dX4_add_32 (lv_at hl 0 rfl) ?_
      refine lv_iload_n hx hb dX4_add_34 rfl (lv_at hl 3 rfl) ?_
      obtain ⟨hi_4, hf⟩ := ai_ok hf
      refine va_iast (n := 12) (f := (S4_adjectiveSets s4)) hx hb hK hP hD hS 2 0 rfl rfl hi_4 dX4_add_35 (fun H locs hP hD hS => ?_)
      have hP : va_P (dC, dI) vwCl (cf_4 cI h4 h4a0 h4a1 h4a2 (S4_set_adjectiveSets (S4_set_nouns s4 (upd (S4_nouns s4) (S4_count s4).toNatClampNeg a1)) (upd (S4_adjectiveSets s4) (S4_count s4).toNatClampNeg a2))) H := hP
      have hD : va_D A (cf_4 cI h4 h4a0 h4a1 h4a2 (S4_set_adjectiveSets (S4_set_nouns s4 (upd (S4_nouns s4) (S4_count s4).toNatClampNeg a1)) (upd (S4_adjectiveSets s4) (S4_count s4).toNatClampNeg a2))) := hD
      refine lv_aload_n hx hb dX4_add_36 rfl (lv_at hl 1 rfl) ?_
      refine va_get (D := (dC, dI)) (ci := 4) (v := .ref h4a2) (C := RX4) (T := TX4) (N := 6) hx hb hts in4 hown hK hP 0 rfl rfl 2 (by decide) fl18 (fun _ h9 => h9) rfl dX4_add_37 ?_
      refine lv_iload hx hb dX4_add_40 (lv_at hl 0 rfl) ?_
      refine lv_bipush (v := (-2)) hx hb dX4_add_42 (by decide) ?_
      obtain ⟨hi_5, hf⟩ := ai_ok hf
      refine va_iast (n := 12) (f := (S4_holders s4)) hx hb hK hP hD hS 3 0 rfl rfl hi_5 dX4_add_44 (fun H locs hP hD hS => ?_)
      have hP : va_P (dC, dI) vwCl (cf_4 cI h4 h4a0 h4a1 h4a2 (S4_set_holders (S4_set_adjectiveSets (S4_set_nouns s4 (upd (S4_nouns s4) (S4_count s4).toNatClampNeg a1)) (upd (S4_adjectiveSets s4) (S4_count s4).toNatClampNeg a2)) (upd (S4_holders s4) (S4_count s4).toNatClampNeg (-2)))) H := hP
      have hD : va_D A (cf_4 cI h4 h4a0 h4a1 h4a2 (S4_set_holders (S4_set_adjectiveSets (S4_set_nouns s4 (upd (S4_nouns s4) (S4_count s4).toNatClampNeg a1)) (upd (S4_adjectiveSets s4) (S4_count s4).toNatClampNeg a2)) (upd (S4_holders s4) (S4_count s4).toNatClampNeg (-2)))) := hD
      refine lv_iload_n hx hb dX4_add_45 rfl (lv_at hl 4 rfl) ?_
      refine lv_if_eq (tgt := 62) hx hb dX4_add_46 (by decide) (fun c_6 => ?_) (fun c_6 => ?_)
      · have hf := it_t c_6 hf
        exact J62 (S4_set_holders (S4_set_adjectiveSets (S4_set_nouns s4 (upd (S4_nouns s4) (S4_count s4).toNatClampNeg a1)) (upd (S4_adjectiveSets s4) (S4_count s4).toNatClampNeg a2)) (upd (S4_holders s4) (S4_count s4).toNatClampNeg (-2))) (S4_count s4) _ _ hP hD hS _ (lv_sub hl [1, 0] rfl) hf
      · have hf := it_f c_6 hf
        refine lv_aload_n hx hb dX4_add_49 rfl (lv_at hl 1 rfl) ?_
        refine lv_dup hx hb dX4_add_50 rfl ?_
        refine va_get (D := (dC, dI)) (ci := 4) (v := .int (S4_boxes s4)) (C := RX4) (T := TX4) (N := 6) hx hb hts in4 hown hK hP 0 rfl rfl 4 (by decide) fl25 (fun _ h9 => h9) rfl dX4_add_51 ?_
        refine lv_iconst (v := 1) hx hb dX4_add_54 (by decide) ?_
        refine lv_iload hx hb dX4_add_55 (lv_at hl 0 rfl) ?_
        refine lv_ishl hx hb dX4_add_57 ?_
        refine lv_ior hx hb dX4_add_58 ?_
        refine va_put (D := (dC, dI)) (ci := 4) (v := .int ((S4_boxes s4) ||| ((1 : Int32) <<< ((S4_count s4) &&& 31)))) (ty := .int) (C := RX4) (T := TX4) (N := 6) hx hb hts in4 tyX4 tyX4_ok nmX4 hown hK hP hD hS 0 rfl rfl 4 (by decide) fl25 (fun _ h9 => h9) rfl (by decide +kernel) rfl rfl (Nat.le_of_ble_eq_true rfl) dX4_add_59 (fun H locs hP hD hS => ?_)
        have hP : va_P (dC, dI) vwCl (cf_4 cI h4 h4a0 h4a1 h4a2 (S4_set_boxes (S4_set_holders (S4_set_adjectiveSets (S4_set_nouns s4 (upd (S4_nouns s4) (S4_count s4).toNatClampNeg a1)) (upd (S4_adjectiveSets s4) (S4_count s4).toNatClampNeg a2)) (upd (S4_holders s4) (S4_count s4).toNatClampNeg (-2))) ((S4_boxes s4) ||| ((1 : Int32) <<< ((S4_count s4) &&& 31))))) H := hP
        have hD : va_D A (cf_4 cI h4 h4a0 h4a1 h4a2 (S4_set_boxes (S4_set_holders (S4_set_adjectiveSets (S4_set_nouns s4 (upd (S4_nouns s4) (S4_count s4).toNatClampNeg a1)) (upd (S4_adjectiveSets s4) (S4_count s4).toNatClampNeg a2)) (upd (S4_holders s4) (S4_count s4).toNatClampNeg (-2))) ((S4_boxes s4) ||| ((1 : Int32) <<< ((S4_count s4) &&& 31))))) := hD
        exact J62 (S4_set_boxes (S4_set_holders (S4_set_adjectiveSets (S4_set_nouns s4 (upd (S4_nouns s4) (S4_count s4).toNatClampNeg a1)) (upd (S4_adjectiveSets s4) (S4_count s4).toNatClampNeg a2)) (upd (S4_holders s4) (S4_count s4).toNatClampNeg (-2))) ((S4_boxes s4) ||| ((1 : Int32) <<< ((S4_count s4) &&& 31)))) (S4_count s4) _ _ hP hD hS _ (lv_sub hl [1, 0] rfl) hf
    · have hf := it_f c_2 hf
      exact J18 s4 _ _ hP hD hS _ (lv_sub hl [] rfl) hf
