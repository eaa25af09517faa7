abbrev rmL_described : Room := { frames := 1, cells := 0, slots := 0, locals := 20 }
set_option maxHeartbeats 4000000 in
set_option maxRecDepth 100000 in
theorem ktL_described (l : Launch) (dC : Nat → ClassId) (dI : Nat → Nat → Nat) (cI : ClassId) (hyw : Nat) (sz : Nat) (syw : Syw) (a1 : Int32) (a2 : Int32) (a3 : Int32) (r : Int32) (hf : fL_described syw a1 a2 a3 = some r) : Met l yL_described wsL_described rmL_described (va_Pc [.ref hyw, .int a1, .int a2, .int a3] (pre_w (dC, dI) (cf_yw cI hyw syw) [(cI, .int)] sz)) (va_Qi (fun (r' : Int32) (_ : Unit) => r' = r) (post_w (dC, dI) (cf_yw cI hyw syw) [(cI, .int)] (va_A (cf_yw cI hyw syw) sz)) (va_A (cf_yw cI hyw syw) sz)) 0 0 (va_A (cf_yw cI hyw syw) sz) := by
  refine gmw (mc := 0) (ms := 0) (ty := .int) (cc := cL_described) (maxL := 7) (by decide) rfl (Nat.le_of_ble_eq_true rfl) ?_
  intro p e s m below meth c A QQ ls hx hb hml hown hts hK hN hA hP hD hS hl hret
  have hown : s.vm.findClass RL = some m.cls := hown
  have hl : lv_has ls 7 [(0, .ref hyw), (1, .int a1), (2, .int a2), (3, .int a3)] := hl
  have J144 : ∀ (t0 : Int32) (H : Heap) (locs : List Loc), va_P (dC, dI) vwCl (cf_yw cI hyw syw) H → va_D A (cf_yw cI hyw syw) → va_S A s.heap H locs → ∀ (ls : Array Slot), lv_has ls 7 [] → fL_described_144 syw a1 a2 a3 t0 = some r → W p l e rmL_described s m ([.ref hyw, .int a1, .int a2, .int a3] : List Value).toArray below meth c H locs (0) (0) QQ (F0 m 144 ls [.int t0]) := by
    intro t0 H locs hP hD hS ls hl hf
    unfold fL_described_144 at hf
    have hf : (some t0 : Option (Int32)) = some r := hf
    have he := Option.some.inj hf
    have he0 : t0 = r := he
    exact hret _ _ _ _ _ _ rfl he0 rfl dL_described_144 hP hD hS
  have J126 : ∀ (x4 : Int32) (t0 : Int32) (H : Heap) (locs : List Loc), va_P (dC, dI) vwCl (cf_yw cI hyw syw) H → va_D A (cf_yw cI hyw syw) → va_S A s.heap H locs → ∀ (ls : Array Slot), lv_has ls 7 [(4, .int x4)] → fL_described_126 syw a1 a2 a3 x4 t0 = some r → W p l e rmL_described s m ([.ref hyw, .int a1, .int a2, .int a3] : List Value).toArray below meth c H locs (0) (0) QQ (F0 m 126 ls [.int t0]) := by
    intro x4 t0 H locs hP hD hS ls hl hf
    unfold fL_described_126 at hf
    refine lv_istore (lv' := [(6, .int t0), (4, .int x4)]) hx hb dL_described_126 hl (by decide) rfl (fun ls hl => ?_)
    refine lv_iload hx hb dL_described_128 (lv_at hl 0 rfl) ?_
    refine lv_if_eq (tgt := 140) hx hb dL_described_130 (by decide) (fun c_1 => ?_) (fun c_1 => ?_)
    · have hf := it_t c_1 hf
      refine lv_iconst (v := (-1)) hx hb dL_described_140 (by decide) ?_
      refine lv_iload hx hb dL_described_141 (lv_at hl 1 rfl) ?_
      refine lv_isub hx hb dL_described_143 ?_
      exact J144 ((-1) - x4) _ _ hP hD hS _ (lv_sub hl [] rfl) hf
    · have hf := it_f c_1 hf
      refine lv_iload hx hb dL_described_133 (lv_at hl 1 rfl) ?_
      refine lv_iconst (v := 1) hx hb dL_described_135 (by decide) ?_
      refine lv_iadd hx hb dL_described_136 ?_
      refine lv_goto (tgt := 144) hx hb dL_described_137 (by decide) ?_
      exact J144 (x4 + 1) _ _ hP hD hS _ (lv_sub hl [] rfl) hf
  have J125 : ∀ (x4 : Int32) (H : Heap) (locs : List Loc), va_P (dC, dI) vwCl (cf_yw cI hyw syw) H → va_D A (cf_yw cI hyw syw) → va_S A s.heap H locs → ∀ (ls : Array Slot), lv_has ls 7 [(4, .int x4)] → fL_described_125 syw a1 a2 a3 x4 = some r → W p l e rmL_described s m ([.ref hyw, .int a1, .int a2, .int a3] : List Value).toArray below meth c H locs (0) (0) QQ (F0 m 125 ls []) := by
    intro x4 H locs hP hD hS ls hl hf
    unfold fL_described_125 at hf
    refine lv_iconst (v := 0) hx hb dL_described_125 (by decide) ?_
    exact J126 x4 0 _ _ hP hD hS _ (lv_sub hl [0] rfl) hf
  have J121 : ∀ (x4 : Int32) (H : Heap) (locs : List Loc), va_P (dC, dI) vwCl (cf_yw cI hyw syw) H → va_D A (cf_yw cI hyw syw) → va_S A s.heap H locs → ∀ (ls : Array Slot), lv_has ls 7 [(4, .int x4)] → fL_described_121 syw a1 a2 a3 x4 = some r → W p l e rmL_described s m ([.ref hyw, .int a1, .int a2, .int a3] : List Value).toArray below meth c H locs (0) (0) QQ (F0 m 121 ls []) := by
    intro x4 H locs hP hD hS ls hl hf
    unfold fL_described_121 at hf
    refine lv_iconst (v := 1) hx hb dL_described_121 (by decide) ?_
    refine lv_goto (tgt := 126) hx hb dL_described_122 (by decide) ?_
    exact J126 x4 1 _ _ hP hD hS _ (lv_sub hl [0] rfl) hf
  have J106 : ∀ (x4 : Int32) (H : Heap) (locs : List Loc), va_P (dC, dI) vwCl (cf_yw cI hyw syw) H → va_D A (cf_yw cI hyw syw) → va_S A s.heap H locs → ∀ (ls : Array Slot), lv_has ls 7 [(0, .ref hyw), (3, .int a3), (4, .int x4)] → fL_described_106 syw a1 a2 a3 x4 = some r → W p l e rmL_described s m ([.ref hyw, .int a1, .int a2, .int a3] : List Value).toArray below meth c H locs (0) (0) QQ (F0 m 106 ls []) := by
    intro x4 H locs hP hD hS ls hl hf
    unfold fL_described_106 at hf
    refine lv_iload_n hx hb dL_described_106 rfl (lv_at hl 1 rfl) ?_
    refine lv_iconst (v := 1) hx hb dL_described_107 (by decide) ?_
    refine lv_icmp_ne (tgt := 125) hx hb dL_described_108 (by decide) (fun c_1 => ?_) (fun c_1 => ?_)
    · have hf := it_f c_1 hf
      exact J125 x4 _ _ hP hD hS _ (lv_sub hl [2] rfl) hf
    · have hf := it_t c_1 hf
      refine lv_aload_n hx hb dL_described_111 rfl (lv_at hl 0 rfl) ?_
      refine lv_iload hx hb dL_described_112 (lv_at hl 2 rfl) ?_
      obtain ⟨hi_2, hf⟩ := ai_ok hf
      refine va_iald (n := 24) (f := syw) hx hb hK hP 0 0 rfl rfl hi_2 dL_described_114 ?_
      obtain ⟨r_3, hc_3, hf⟩ := bn1_ok hf
      refine gc_i (wc := ([] : va_W)) (wr := (cf_yw cI hyw syw)) (w1 := ([] : va_W)) (ws' := (cf_yw cI hyw syw)) hP hD hS hA [] [0] [0] rfl rfl (by decide) (by decide) rfl (by decide) (va_runS (As := [.int (syw x4.toNatClampNeg)]) (rest := []) ⟨hx, hb, hml, hown, hts⟩ (ktL_isPlural l dC dI _ (syw x4.toNatClampNeg) r_3 hc_3) (va_cwS 1 hts gL_described_L_isPlural rfl rfl rfl (by decide +kernel) ⟨Nat.le_of_ble_eq_true rfl, Nat.le_of_ble_eq_true rfl⟩) (gc_S (hP.sub (ws' := ([] : va_W)) [] rfl) (hK.sub (tys' := []) [] rfl) (hD.sub (ws' := ([] : va_W)) [] (by decide) rfl) hN) rfl rfl hl.1 rfl (lv_room (Nat.le_of_ble_eq_true rfl)) dL_described_115 ⟨by show (0) + 0 ≤ 0; omega, by show (0) + 0 ≤ 0; omega⟩) (fun H locs hP hD hS => ?_)
      refine lv_if_eq (tgt := 125) hx hb dL_described_118 (by decide) (fun c_4 => ?_) (fun c_4 => ?_)
      · have hf := it_t c_4 hf
        exact J125 x4 _ _ hP hD hS _ (lv_sub hl [2] rfl) hf
      · have hf := it_f c_4 hf
        exact J121 x4 _ _ hP hD hS _ (lv_sub hl [2] rfl) hf
  have J74 : ∀ (x4 : Int32) (x5 : Int32) (H : Heap) (locs : List Loc), va_P (dC, dI) vwCl (cf_yw cI hyw syw) H → va_D A (cf_yw cI hyw syw) → va_S A s.heap H locs → ∀ (ls : Array Slot), lv_has ls 7 [(0, .ref hyw), (1, .int a1), (3, .int a3), (4, .int x4), (5, .int x5)] → fL_described_74 syw a1 a2 a3 x4 x5 = some r → W p l e rmL_described s m ([.ref hyw, .int a1, .int a2, .int a3] : List Value).toArray below meth c H locs (0) (0) QQ (F0 m 74 ls []) := by
    intro x4 x5 H locs hP hD hS ls hl hf
    unfold fL_described_74 at hf
    refine lv_iload hx hb dL_described_74 (lv_at hl 3 rfl) ?_
    refine lv_iload_n hx hb dL_described_76 rfl (lv_at hl 1 rfl) ?_
    refine lv_icmp_ge (tgt := 125) hx hb dL_described_77 (by decide) (fun c_1 => ?_) (fun c_1 => ?_)
    · have hf := it_t c_1 hf
      exact J125 x4 _ _ hP hD hS _ (lv_sub hl [3] rfl) hf
    · have hf := it_f c_1 hf
      refine lv_aload_n hx hb dL_described_80 rfl (lv_at hl 0 rfl) ?_
      refine lv_iload hx hb dL_described_81 (lv_at hl 3 rfl) ?_
      obtain ⟨hi_2, hf⟩ := ai_ok hf
      refine va_iald (n := 24) (f := syw) hx hb hK hP 0 0 rfl rfl hi_2 dL_described_83 ?_
      obtain ⟨r_3, hc_3, hf⟩ := bn1_ok hf
      refine gc_i (wc := ([] : va_W)) (wr := (cf_yw cI hyw syw)) (w1 := ([] : va_W)) (ws' := (cf_yw cI hyw syw)) hP hD hS hA [] [0] [0] rfl rfl (by decide) (by decide) rfl (by decide) (va_runS (As := [.int (syw x4.toNatClampNeg)]) (rest := []) ⟨hx, hb, hml, hown, hts⟩ (ktL_isNoun l dC dI _ (syw x4.toNatClampNeg) r_3 hc_3) (va_cwS 1 hts gL_described_L_isNoun rfl rfl rfl (by decide +kernel) ⟨Nat.le_of_ble_eq_true rfl, Nat.le_of_ble_eq_true rfl⟩) (gc_S (hP.sub (ws' := ([] : va_W)) [] rfl) (hK.sub (tys' := []) [] rfl) (hD.sub (ws' := ([] : va_W)) [] (by decide) rfl) hN) rfl rfl hl.1 rfl (lv_room (Nat.le_of_ble_eq_true rfl)) dL_described_84 ⟨by show (0) + 0 ≤ 0; omega, by show (0) + 0 ≤ 0; omega⟩) (fun H locs hP hD hS => ?_)
      refine lv_if_ne (tgt := 121) hx hb dL_described_87 (by decide) (fun c_4 => ?_) (fun c_4 => ?_)
      · have hf := it_f c_4 hf
        exact J121 x4 _ _ hP hD hS _ (lv_sub hl [3] rfl) hf
      · have hf := it_t c_4 hf
        refine lv_aload_n hx hb dL_described_90 rfl (lv_at hl 0 rfl) ?_
        refine lv_iload hx hb dL_described_91 (lv_at hl 3 rfl) ?_
        obtain ⟨hi_5, hf⟩ := ai_ok hf
        refine va_iald (n := 24) (f := syw) hx hb hK hP 0 0 rfl rfl hi_5 dL_described_93 ?_
        refine lv_bipush (v := 17) hx hb dL_described_94 (by decide) ?_
        refine lv_icmp_ne (tgt := 106) hx hb dL_described_96 (by decide) (fun c_6 => ?_) (fun c_6 => ?_)
        · have hf := it_f c_6 hf
          exact J106 x4 _ _ hP hD hS _ (lv_sub hl [0, 2, 3] rfl) hf
        · have hf := it_t c_6 hf
          refine lv_iload hx hb dL_described_99 (lv_at hl 3 rfl) ?_
          refine lv_iload hx hb dL_described_101 (lv_at hl 4 rfl) ?_
          refine lv_icmp_gt (tgt := 121) hx hb dL_described_103 (by decide) (fun c_7 => ?_) (fun c_7 => ?_)
          · have hf := it_t c_7 hf
            exact J121 x4 _ _ hP hD hS _ (lv_sub hl [3] rfl) hf
          · have hf := it_f c_7 hf
            exact J106 x4 _ _ hP hD hS _ (lv_sub hl [0, 2, 3] rfl) hf
  have J52 : ∀ (n : Nat) (x4 : Int32) (x5 : Int32) (H : Heap) (locs : List Loc), va_P (dC, dI) vwCl (cf_yw cI hyw syw) H → va_D A (cf_yw cI hyw syw) → va_S A s.heap H locs → ∀ (ls : Array Slot), lv_has ls 7 [(0, .ref hyw), (1, .int a1), (3, .int a3), (4, .int x4), (5, .int x5)] → fL_described_52 syw a1 a2 a3 n x4 x5 = some r → W p l e rmL_described s m ([.ref hyw, .int a1, .int a2, .int a3] : List Value).toArray below meth c H locs (0) (0) QQ (F0 m 52 ls []) := by
    intro n
    induction n with
    | zero =>
      intro x4 x5 H locs hP hD hS ls hl hf
      cases hf
    | succ n ih =>
      intro x4 x5 H locs hP hD hS ls hl hf
      rw [fL_described_52] at hf
      refine lv_iload hx hb dL_described_52 (lv_at hl 3 rfl) ?_
      refine lv_iload_n hx hb dL_described_54 rfl (lv_at hl 1 rfl) ?_
      refine lv_icmp_ge (tgt := 74) hx hb dL_described_55 (by decide) (fun c_1 => ?_) (fun c_1 => ?_)
      · have hf := it_t c_1 hf
        exact J74 x4 x5 _ _ hP hD hS _ (lv_sub hl [0, 1, 2, 3, 4] rfl) hf
      · have hf := it_f c_1 hf
        refine lv_aload_n hx hb dL_described_58 rfl (lv_at hl 0 rfl) ?_
        refine lv_iload hx hb dL_described_59 (lv_at hl 3 rfl) ?_
        obtain ⟨hi_2, hf⟩ := ai_ok hf
        refine va_iald (n := 24) (f := syw) hx hb hK hP 0 0 rfl rfl hi_2 dL_described_61 ?_
        obtain ⟨r_3, hc_3, hf⟩ := bn1_ok hf
        refine gc_i (wc := ([] : va_W)) (wr := (cf_yw cI hyw syw)) (w1 := ([] : va_W)) (ws' := (cf_yw cI hyw syw)) hP hD hS hA [] [0] [0] rfl rfl (by decide) (by decide) rfl (by decide) (va_runS (As := [.int (syw x4.toNatClampNeg)]) (rest := []) ⟨hx, hb, hml, hown, hts⟩ (ktL_isAdjective l dC dI _ (syw x4.toNatClampNeg) r_3 hc_3) (va_cwS 1 hts gL_described_L_isAdjective rfl rfl rfl (by decide +kernel) ⟨Nat.le_of_ble_eq_true rfl, Nat.le_of_ble_eq_true rfl⟩) (gc_S (hP.sub (ws' := ([] : va_W)) [] rfl) (hK.sub (tys' := []) [] rfl) (hD.sub (ws' := ([] : va_W)) [] (by decide) rfl) hN) rfl rfl hl.1 rfl (lv_room (Nat.le_of_ble_eq_true rfl)) dL_described_62 ⟨by show (0) + 0 ≤ 0; omega, by show (0) + 0 ≤ 0; omega⟩) (fun H locs hP hD hS => ?_)
        refine lv_if_eq (tgt := 74) hx hb dL_described_65 (by decide) (fun c_4 => ?_) (fun c_4 => ?_)
        · have hf := it_t c_4 hf
          exact J74 x4 x5 _ _ hP hD hS _ (lv_sub hl [0, 1, 2, 3, 4] rfl) hf
        · have hf := it_f c_4 hf
          refine lv_iinc (v := (x4 + 1)) (lv' := [(4, .int (x4 + 1)), (0, .ref hyw), (1, .int a1), (3, .int a3), (5, .int x5)]) hx hb dL_described_68 hl (k := 3) rfl rfl (by decide) rfl (fun ls hl => ?_)
          refine lv_goto (tgt := 52) hx hb dL_described_71 (by decide) ?_
          exact ih (x4 + 1) x5 _ _ hP hD hS _ (lv_sub hl [1, 2, 3, 0, 4] rfl) hf
  have J45 : ∀ (t0 : Int32) (t1 : Int32) (H : Heap) (locs : List Loc), va_P (dC, dI) vwCl (cf_yw cI hyw syw) H → va_D A (cf_yw cI hyw syw) → va_S A s.heap H locs → ∀ (ls : Array Slot), lv_has ls 7 [(0, .ref hyw), (1, .int a1), (3, .int a3)] → fL_described_45 syw a1 a2 a3 t0 t1 = some r → W p l e rmL_described s m ([.ref hyw, .int a1, .int a2, .int a3] : List Value).toArray below meth c H locs (0) (0) QQ (F0 m 45 ls [.int t1, .int t0]) := by
    intro t0 t1 H locs hP hD hS ls hl hf
    unfold fL_described_45 at hf
    refine lv_iadd hx hb dL_described_45 ?_
    refine lv_istore (lv' := [(4, .int (t0 + t1)), (0, .ref hyw), (1, .int a1), (3, .int a3)]) hx hb dL_described_46 hl (by decide) rfl (fun ls hl => ?_)
    refine lv_iload hx hb dL_described_48 (lv_at hl 0 rfl) ?_
    refine lv_istore (lv' := [(5, .int (t0 + t1)), (4, .int (t0 + t1)), (0, .ref hyw), (1, .int a1), (3, .int a3)]) hx hb dL_described_50 hl (by decide) rfl (fun ls hl => ?_)
    exact J52 64 (t0 + t1) (t0 + t1) _ _ hP hD hS _ (lv_sub hl [2, 3, 4, 1, 0] rfl) hf
  have J44 : ∀ (t0 : Int32) (H : Heap) (locs : List Loc), va_P (dC, dI) vwCl (cf_yw cI hyw syw) H → va_D A (cf_yw cI hyw syw) → va_S A s.heap H locs → ∀ (ls : Array Slot), lv_has ls 7 [(0, .ref hyw), (1, .int a1), (3, .int a3)] → fL_described_44 syw a1 a2 a3 t0 = some r → W p l e rmL_described s m ([.ref hyw, .int a1, .int a2, .int a3] : List Value).toArray below meth c H locs (0) (0) QQ (F0 m 44 ls [.int t0]) := by
    intro t0 H locs hP hD hS ls hl hf
    unfold fL_described_44 at hf
    refine lv_iconst (v := 0) hx hb dL_described_44 (by decide) ?_
    exact J45 t0 0 _ _ hP hD hS _ (lv_sub hl [0, 1, 2] rfl) hf
  have J23 : ∀ (x4 : Int32) (H : Heap) (locs : List Loc), va_P (dC, dI) vwCl (cf_yw cI hyw syw) H → va_D A (cf_yw cI hyw syw) → va_S A s.heap H locs → ∀ (ls : Array Slot), lv_has ls 7 [(0, .ref hyw), (1, .int a1), (3, .int a3), (4, .int x4)] → fL_described_23 syw a1 a2 a3 x4 = some r → W p l e rmL_described s m ([.ref hyw, .int a1, .int a2, .int a3] : List Value).toArray below meth c H locs (0) (0) QQ (F0 m 23 ls []) := by
    intro x4 H locs hP hD hS ls hl hf
    unfold fL_described_23 at hf
    refine lv_iload hx hb dL_described_23 (lv_at hl 3 rfl) ?_
    refine lv_iload hx hb dL_described_25 (lv_at hl 3 rfl) ?_
    refine lv_iload_n hx hb dL_described_27 rfl (lv_at hl 1 rfl) ?_
    refine lv_icmp_ge (tgt := 44) hx hb dL_described_28 (by decide) (fun c_1 => ?_) (fun c_1 => ?_)
    · have hf := it_t c_1 hf
      exact J44 x4 _ _ hP hD hS _ (lv_sub hl [0, 1, 2] rfl) hf
    · have hf := it_f c_1 hf
      refine lv_aload_n hx hb dL_described_31 rfl (lv_at hl 0 rfl) ?_
      refine lv_iload hx hb dL_described_32 (lv_at hl 3 rfl) ?_
      obtain ⟨hi_2, hf⟩ := ai_ok hf
      refine va_iald (n := 24) (f := syw) hx hb hK hP 0 0 rfl rfl hi_2 dL_described_34 ?_
      refine lv_bipush (v := 10) hx hb dL_described_35 (by decide) ?_
      refine lv_icmp_ne (tgt := 44) hx hb dL_described_37 (by decide) (fun c_3 => ?_) (fun c_3 => ?_)
      · have hf := it_f c_3 hf
        exact J44 x4 _ _ hP hD hS _ (lv_sub hl [0, 1, 2] rfl) hf
      · have hf := it_t c_3 hf
        refine lv_iconst (v := 1) hx hb dL_described_40 (by decide) ?_
        refine lv_goto (tgt := 45) hx hb dL_described_41 (by decide) ?_
        exact J45 x4 1 _ _ hP hD hS _ (lv_sub hl [0, 1, 2] rfl) hf
  unfold fL_described at hf
  refine lv_iload_n hx hb dL_described_0 rfl (lv_at hl 2 rfl) ?_
  refine lv_istore (lv' := [(4, .int a2), (0, .ref hyw), (1, .int a1), (2, .int a2), (3, .int a3)]) hx hb dL_described_1 hl (by decide) rfl (fun ls hl => ?_)
  refine lv_iload hx hb dL_described_3 (lv_at hl 0 rfl) ?_
  refine lv_iload_n hx hb dL_described_5 rfl (lv_at hl 2 rfl) ?_
  refine lv_icmp_ge (tgt := 23) hx hb dL_described_6 (by decide) (fun c_1 => ?_) (fun c_1 => ?_)
  · have hf := it_t c_1 hf
    exact J23 a2 _ _ hP hD hS _ (lv_sub hl [1, 2, 4, 0] rfl) hf
  · have hf := it_f c_1 hf
    refine lv_aload_n hx hb dL_described_9 rfl (lv_at hl 1 rfl) ?_
    refine lv_iload hx hb dL_described_10 (lv_at hl 0 rfl) ?_
    obtain ⟨hi_2, hf⟩ := ai_ok hf
    refine va_iald (n := 24) (f := syw) hx hb hK hP 0 0 rfl rfl hi_2 dL_described_12 ?_
    refine lv_bipush (v := 14) hx hb dL_described_13 (by decide) ?_
    refine lv_icmp_ne (tgt := 23) hx hb dL_described_15 (by decide) (fun c_3 => ?_) (fun c_3 => ?_)
    · have hf := it_f c_3 hf
      exact J23 a2 _ _ hP hD hS _ (lv_sub hl [1, 2, 4, 0] rfl) hf
    · have hf := it_t c_3 hf
      refine lv_iload hx hb dL_described_18 (lv_at hl 0 rfl) ?_
      refine lv_iconst (v := 1) hx hb dL_described_20 (by decide) ?_
      refine lv_iadd hx hb dL_described_21 ?_
      have hf : (some (a2 + 1) : Option (Int32)) = some r := hf
      have he := Option.some.inj hf
      have he0 : (a2 + 1) = r := he
      exact hret _ _ _ _ _ _ rfl he0 rfl dL_described_22 hP hD hS
abbrev rmL_leftOut : Room := { frames := 2, cells := 0, slots := 0, locals := 46 }
set_option maxHeartbeats 4000000 in
set_option maxRecDepth 100000 in
theorem ktL_leftOut (l : Launch) (dC : Nat → ClassId) (dI : Nat → Nat → Nat) (cI : ClassId) (hyw : Nat) (sz : Nat) (syw : Syw) (a1 : Int32) (a2 : Int32) (r : Int32) (hf : fL_leftOut syw a1 a2 = some r) : Met l yL_leftOut wsL_leftOut rmL_leftOut (va_Pc [.ref hyw, .int a1, .int a2] (pre_w (dC, dI) (cf_yw cI hyw syw) [(cI, .int)] sz)) (va_Qi (fun (r' : Int32) (_ : Unit) => r' = r) (post_w (dC, dI) (cf_yw cI hyw syw) [(cI, .int)] (va_A (cf_yw cI hyw syw) sz)) (va_A (cf_yw cI hyw syw) sz)) 0 0 (va_A (cf_yw cI hyw syw) sz) := by
  refine gmw (mc := 0) (ms := 0) (ty := .int) (cc := cL_leftOut) (maxL := 5) (by decide) rfl (Nat.le_of_ble_eq_true rfl) ?_
  intro p e s m below meth c A QQ ls hx hb hml hown hts hK hN hA hP hD hS hl hret
  have hown : s.vm.findClass RL = some m.cls := hown
  have hl : lv_has ls 5 [(0, .ref hyw), (1, .int a1), (2, .int a2)] := hl
  have J49 : ∀ (x3 : Int32) (H : Heap) (locs : List Loc), va_P (dC, dI) vwCl (cf_yw cI hyw syw) H → va_D A (cf_yw cI hyw syw) → va_S A s.heap H locs → ∀ (ls : Array Slot), lv_has ls 5 [(3, .int x3)] → fL_leftOut_49 syw a1 a2 x3 = some r → W p l e rmL_leftOut s m ([.ref hyw, .int a1, .int a2] : List Value).toArray below meth c H locs (0) (0) QQ (F0 m 49 ls []) := by
    intro x3 H locs hP hD hS ls hl hf
    unfold fL_leftOut_49 at hf
    refine lv_iload_n hx hb dL_leftOut_49 rfl (lv_at hl 0 rfl) ?_
    have hf : (some x3 : Option (Int32)) = some r := hf
    have he := Option.some.inj hf
    have he0 : x3 = r := he
    exact hret _ _ _ _ _ _ rfl he0 rfl dL_leftOut_50 hP hD hS
  have J8 : ∀ (n : Nat) (x3 : Int32) (H : Heap) (locs : List Loc), va_P (dC, dI) vwCl (cf_yw cI hyw syw) H → va_D A (cf_yw cI hyw syw) → va_S A s.heap H locs → ∀ (ls : Array Slot), lv_has ls 5 [(0, .ref hyw), (1, .int a1), (3, .int x3)] → fL_leftOut_8 syw a1 a2 n x3 = some r → W p l e rmL_leftOut s m ([.ref hyw, .int a1, .int a2] : List Value).toArray below meth c H locs (0) (0) QQ (F0 m 8 ls []) := by
    intro n
    induction n with
    | zero =>
      intro x3 H locs hP hD hS ls hl hf
      cases hf
    | succ n ih =>
      intro x3 H locs hP hD hS ls hl hf
      rw [fL_leftOut_8] at hf
      refine lv_iload_n hx hb dL_leftOut_8 rfl (lv_at hl 2 rfl) ?_
      refine lv_if_le (tgt := 49) hx hb dL_leftOut_9 (by decide) (fun c_1 => ?_) (fun c_1 => ?_)
      · have hf := it_t c_1 hf
        exact J49 x3 _ _ hP hD hS _ (lv_sub hl [2] rfl) hf
      · have hf := it_f c_1 hf
        refine lv_iload_n hx hb dL_leftOut_12 rfl (lv_at hl 2 rfl) ?_
        refine lv_iload_n hx hb dL_leftOut_13 rfl (lv_at hl 1 rfl) ?_
        refine lv_icmp_ge (tgt := 49) hx hb dL_leftOut_14 (by decide) (fun c_2 => ?_) (fun c_2 => ?_)
        · have hf := it_t c_2 hf
          exact J49 x3 _ _ hP hD hS _ (lv_sub hl [2] rfl) hf
        · have hf := it_f c_2 hf
          refine lv_aload_n hx hb dL_leftOut_17 rfl (lv_at hl 0 rfl) ?_
          refine lv_iload_n hx hb dL_leftOut_18 rfl (lv_at hl 2 rfl) ?_
          obtain ⟨hi_3, hf⟩ := ai_ok hf
          refine va_iald (n := 24) (f := syw) hx hb hK hP 0 0 rfl rfl hi_3 dL_leftOut_19 ?_
          refine lv_bipush (v := 13) hx hb dL_leftOut_20 (by decide) ?_
          refine lv_icmp_ne (tgt := 49) hx hb dL_leftOut_22 (by decide) (fun c_4 => ?_) (fun c_4 => ?_)
          · have hf := it_f c_4 hf
            exact J49 x3 _ _ hP hD hS _ (lv_sub hl [2] rfl) hf
          · have hf := it_t c_4 hf
            refine lv_aload_n hx hb dL_leftOut_25 rfl (lv_at hl 0 rfl) ?_
            refine lv_iload_n hx hb dL_leftOut_26 rfl (lv_at hl 1 rfl) ?_
            refine lv_iload_n hx hb dL_leftOut_27 rfl (lv_at hl 2 rfl) ?_
            refine lv_iconst (v := 1) hx hb dL_leftOut_28 (by decide) ?_
            refine lv_iadd hx hb dL_leftOut_29 ?_
            refine lv_iconst (v := 0) hx hb dL_leftOut_30 (by decide) ?_
            obtain ⟨r_5, hc_5, hf⟩ := bn1_ok hf
            refine gc_i (wc := (cf_yw cI hyw syw)) (wr := ([] : va_W)) (w1 := (cf_yw cI hyw syw)) (ws' := (cf_yw cI hyw syw)) hP hD hS hA [0] [] [0] rfl rfl (by decide) (by decide) rfl (by decide) (va_runS (As := [.ref hyw, .int a1, .int (x3 + 1), .int 0]) (rest := []) ⟨hx, hb, hml, hown, hts⟩ (ktL_described l dC dI cI hyw _ syw a1 (x3 + 1) 0 r_5 hc_5) (va_cwS 4 hts gL_leftOut_L_described rfl rfl rfl (by decide +kernel) ⟨Nat.le_of_ble_eq_true rfl, Nat.le_of_ble_eq_true rfl⟩) (gc_S (hP.sub (ws' := (cf_yw cI hyw syw)) [0] rfl) (hK.sub (tys' := [(cI, .int)]) [0] rfl) (hD.sub (ws' := (cf_yw cI hyw syw)) [0] (by decide) rfl) hN) rfl rfl hl.1 rfl (lv_room (Nat.le_of_ble_eq_true rfl)) dL_leftOut_31 ⟨by show (0) + 0 ≤ 0; omega, by show (0) + 0 ≤ 0; omega⟩) (fun H locs hP hD hS => ?_)
            refine lv_istore (lv' := [(4, .int r_5), (0, .ref hyw), (1, .int a1), (3, .int x3)]) hx hb dL_leftOut_34 hl (by decide) rfl (fun ls hl => ?_)
            refine lv_iload hx hb dL_leftOut_36 (lv_at hl 0 rfl) ?_
            refine lv_if_ge (tgt := 43) hx hb dL_leftOut_38 (by decide) (fun c_6 => ?_) (fun c_6 => ?_)
            · have hf := it_t c_6 hf
              refine lv_iload hx hb dL_leftOut_43 (lv_at hl 0 rfl) ?_
              refine lv_istore_n (lv' := [(3, .int r_5), (4, .int r_5), (0, .ref hyw), (1, .int a1)]) hx hb dL_leftOut_45 rfl hl (by decide) rfl (fun ls hl => ?_)
              refine lv_goto (tgt := 8) hx hb dL_leftOut_46 (by decide) ?_
              exact ih r_5 _ _ hP hD hS _ (lv_sub hl [2, 3, 0] rfl) hf
            · have hf := it_f c_6 hf
              refine lv_iload_n hx hb dL_leftOut_41 rfl (lv_at hl 3 rfl) ?_
              have hf : (some x3 : Option (Int32)) = some r := hf
              have he := Option.some.inj hf
              have he0 : x3 = r := he
              exact hret _ _ _ _ _ _ rfl he0 rfl dL_leftOut_42 hP hD hS
  unfold fL_leftOut at hf
  refine lv_aload_n hx hb dL_leftOut_0 rfl (lv_at hl 0 rfl) ?_
  refine lv_iload_n hx hb dL_leftOut_1 rfl (lv_at hl 1 rfl) ?_
  refine lv_iload_n hx hb dL_leftOut_2 rfl (lv_at hl 2 rfl) ?_
  refine lv_iconst (v := 0) hx hb dL_leftOut_3 (by decide) ?_
  obtain ⟨r_1, hc_1, hf⟩ := bn1_ok hf
  refine gc_i (wc := (cf_yw cI hyw syw)) (wr := ([] : va_W)) (w1 := (cf_yw cI hyw syw)) (ws' := (cf_yw cI hyw syw)) hP hD hS hA [0] [] [0] rfl rfl (by decide) (by decide) rfl (by decide) (va_runS (As := [.ref hyw, .int a1, .int a2, .int 0]) (rest := []) ⟨hx, hb, hml, hown, hts⟩ (ktL_described l dC dI cI hyw _ syw a1 a2 0 r_1 hc_1) (va_cwS 4 hts gL_leftOut_L_described rfl rfl rfl (by decide +kernel) ⟨Nat.le_of_ble_eq_true rfl, Nat.le_of_ble_eq_true rfl⟩) (gc_S (hP.sub (ws' := (cf_yw cI hyw syw)) [0] rfl) (hK.sub (tys' := [(cI, .int)]) [0] rfl) (hD.sub (ws' := (cf_yw cI hyw syw)) [0] (by decide) rfl) hN) rfl rfl hl.1 rfl (lv_room (Nat.le_of_ble_eq_true rfl)) dL_leftOut_4 ⟨by show (0) + 0 ≤ 0; omega, by show (0) + 0 ≤ 0; omega⟩) (fun H locs hP hD hS => ?_)
  refine lv_istore_n (lv' := [(3, .int r_1), (0, .ref hyw), (1, .int a1), (2, .int a2)]) hx hb dL_leftOut_7 rfl hl (by decide) rfl (fun ls hl => ?_)
  exact J8 64 r_1 _ _ hP hD hS _ (lv_sub hl [1, 2, 0] rfl) hf
abbrev rmL_part : Room := { frames := 3, cells := 0, slots := 0, locals := 70 }
set_option maxHeartbeats 4000000 in
set_option maxRecDepth 100000 in
theorem ktL_part (l : Launch) (dC : Nat → ClassId) (dI : Nat → Nat → Nat) (cI : ClassId) (hyw : Nat) (sz : Nat) (syw : Syw) (a1 : Int32) (a2 : Int32) (r : Int32) (hf : fL_part syw a1 a2 = some r) : Met l yL_part wsL_part rmL_part (va_Pc [.ref hyw, .int a1, .int a2] (pre_w (dC, dI) (cf_yw cI hyw syw) [(cI, .int)] sz)) (va_Qi (fun (r' : Int32) (_ : Unit) => r' = r) (post_w (dC, dI) (cf_yw cI hyw syw) [(cI, .int)] (va_A (cf_yw cI hyw syw) sz)) (va_A (cf_yw cI hyw syw) sz)) 0 0 (va_A (cf_yw cI hyw syw) sz) := by
  refine gmw (mc := 0) (ms := 0) (ty := .int) (cc := cL_part) (maxL := 5) (by decide) rfl (Nat.le_of_ble_eq_true rfl) ?_
  intro p e s m below meth c A QQ ls hx hb hml hown hts hK hN hA hP hD hS hl hret
  have hown : s.vm.findClass RL = some m.cls := hown
  have hl : lv_has ls 5 [(0, .ref hyw), (1, .int a1), (2, .int a2)] := hl
  have J156 : ∀ (t0 : Int32) (H : Heap) (locs : List Loc), va_P (dC, dI) vwCl (cf_yw cI hyw syw) H → va_D A (cf_yw cI hyw syw) → va_S A s.heap H locs → ∀ (ls : Array Slot), lv_has ls 5 [] → fL_part_156 syw a1 a2 t0 = some r → W p l e rmL_part s m ([.ref hyw, .int a1, .int a2] : List Value).toArray below meth c H locs (0) (0) QQ (F0 m 156 ls [.int t0]) := by
    intro t0 H locs hP hD hS ls hl hf
    unfold fL_part_156 at hf
    have hf : (some t0 : Option (Int32)) = some r := hf
    have he := Option.some.inj hf
    have he0 : t0 = r := he
    exact hret _ _ _ _ _ _ rfl he0 rfl dL_part_156 hP hD hS
  have J155 : ∀ (x3 : Int32) (H : Heap) (locs : List Loc), va_P (dC, dI) vwCl (cf_yw cI hyw syw) H → va_D A (cf_yw cI hyw syw) → va_S A s.heap H locs → ∀ (ls : Array Slot), lv_has ls 5 [(3, .int x3)] → fL_part_155 syw a1 a2 x3 = some r → W p l e rmL_part s m ([.ref hyw, .int a1, .int a2] : List Value).toArray below meth c H locs (0) (0) QQ (F0 m 155 ls []) := by
    intro x3 H locs hP hD hS ls hl hf
    unfold fL_part_155 at hf
    refine lv_iload_n hx hb dL_part_155 rfl (lv_at hl 0 rfl) ?_
    exact J156 x3 _ _ hP hD hS _ (lv_sub hl [] rfl) hf
  have J131 : ∀ (x3 : Int32) (H : Heap) (locs : List Loc), va_P (dC, dI) vwCl (cf_yw cI hyw syw) H → va_D A (cf_yw cI hyw syw) → va_S A s.heap H locs → ∀ (ls : Array Slot), lv_has ls 5 [(0, .ref hyw), (1, .int a1), (3, .int x3)] → fL_part_131 syw a1 a2 x3 = some r → W p l e rmL_part s m ([.ref hyw, .int a1, .int a2] : List Value).toArray below meth c H locs (0) (0) QQ (F0 m 131 ls []) := by
    intro x3 H locs hP hD hS ls hl hf
    unfold fL_part_131 at hf
    refine lv_iload_n hx hb dL_part_131 rfl (lv_at hl 2 rfl) ?_
    refine lv_iload_n hx hb dL_part_132 rfl (lv_at hl 1 rfl) ?_
    refine lv_icmp_ge (tgt := 155) hx hb dL_part_133 (by decide) (fun c_1 => ?_) (fun c_1 => ?_)
    · have hf := it_t c_1 hf
      exact J155 x3 _ _ hP hD hS _ (lv_sub hl [2] rfl) hf
    · have hf := it_f c_1 hf
      refine lv_aload_n hx hb dL_part_136 rfl (lv_at hl 0 rfl) ?_
      refine lv_iload_n hx hb dL_part_137 rfl (lv_at hl 2 rfl) ?_
      obtain ⟨hi_2, hf⟩ := ai_ok hf
      refine va_iald (n := 24) (f := syw) hx hb hK hP 0 0 rfl rfl hi_2 dL_part_138 ?_
      refine lv_bipush (v := 12) hx hb dL_part_139 (by decide) ?_
      refine lv_icmp_ne (tgt := 155) hx hb dL_part_141 (by decide) (fun c_3 => ?_) (fun c_3 => ?_)
      · have hf := it_f c_3 hf
        exact J155 x3 _ _ hP hD hS _ (lv_sub hl [2] rfl) hf
      · have hf := it_t c_3 hf
        refine lv_aload_n hx hb dL_part_144 rfl (lv_at hl 0 rfl) ?_
        refine lv_iload_n hx hb dL_part_145 rfl (lv_at hl 1 rfl) ?_
        refine lv_iload_n hx hb dL_part_146 rfl (lv_at hl 2 rfl) ?_
        refine lv_iconst (v := 1) hx hb dL_part_147 (by decide) ?_
        refine lv_iadd hx hb dL_part_148 ?_
        obtain ⟨r_4, hc_4, hf⟩ := bn1_ok hf
        refine gc_i (wc := (cf_yw cI hyw syw)) (wr := ([] : va_W)) (w1 := (cf_yw cI hyw syw)) (ws' := (cf_yw cI hyw syw)) hP hD hS hA [0] [] [0] rfl rfl (by decide) (by decide) rfl (by decide) (va_runS (As := [.ref hyw, .int a1, .int (x3 + 1)]) (rest := []) ⟨hx, hb, hml, hown, hts⟩ (ktL_leftOut l dC dI cI hyw _ syw a1 (x3 + 1) r_4 hc_4) (va_cwS 3 hts gL_part_L_leftOut rfl rfl rfl (by decide +kernel) ⟨Nat.le_of_ble_eq_true rfl, Nat.le_of_ble_eq_true rfl⟩) (gc_S (hP.sub (ws' := (cf_yw cI hyw syw)) [0] rfl) (hK.sub (tys' := [(cI, .int)]) [0] rfl) (hD.sub (ws' := (cf_yw cI hyw syw)) [0] (by decide) rfl) hN) rfl rfl hl.1 rfl (lv_room (Nat.le_of_ble_eq_true rfl)) dL_part_149 ⟨by show (0) + 0 ≤ 0; omega, by show (0) + 0 ≤ 0; omega⟩) (fun H locs hP hD hS => ?_)
        refine lv_goto (tgt := 156) hx hb dL_part_152 (by decide) ?_
        exact J156 r_4 _ _ hP hD hS _ (lv_sub hl [] rfl) hf
  have J101 : ∀ (t0 : Int32) (t1 : Int32) (H : Heap) (locs : List Loc), va_P (dC, dI) vwCl (cf_yw cI hyw syw) H → va_D A (cf_yw cI hyw syw) → va_S A s.heap H locs → ∀ (ls : Array Slot), lv_has ls 5 [(0, .ref hyw), (1, .int a1)] → fL_part_101 syw a1 a2 t0 t1 = some r → W p l e rmL_part s m ([.ref hyw, .int a1, .int a2] : List Value).toArray below meth c H locs (0) (0) QQ (F0 m 101 ls [.int t1, .int t0]) := by
    intro t0 t1 H locs hP hD hS ls hl hf
    unfold fL_part_101 at hf
    refine lv_iadd hx hb dL_part_101 ?_
    refine lv_istore_n (lv' := [(3, .int (t0 + t1)), (0, .ref hyw), (1, .int a1)]) hx hb dL_part_102 rfl hl (by decide) rfl (fun ls hl => ?_)
    refine lv_goto (tgt := 131) hx hb dL_part_103 (by decide) ?_
    exact J131 (t0 + t1) _ _ hP hD hS _ (lv_sub hl [1, 2, 0] rfl) hf
  have J90 : ∀ (x3 : Int32) (x4 : Int32) (H : Heap) (locs : List Loc), va_P (dC, dI) vwCl (cf_yw cI hyw syw) H → va_D A (cf_yw cI hyw syw) → va_S A s.heap H locs → ∀ (ls : Array Slot), lv_has ls 5 [(0, .ref hyw), (1, .int a1), (3, .int x3), (4, .int x4)] → fL_part_90 syw a1 a2 x3 x4 = some r → W p l e rmL_part s m ([.ref hyw, .int a1, .int a2] : List Value).toArray below meth c H locs (0) (0) QQ (F0 m 90 ls []) := by
    intro x3 x4 H locs hP hD hS ls hl hf
    unfold fL_part_90 at hf
    refine lv_iload_n hx hb dL_part_90 rfl (lv_at hl 2 rfl) ?_
    refine lv_iload hx hb dL_part_91 (lv_at hl 3 rfl) ?_
    refine lv_if_eq (tgt := 100) hx hb dL_part_93 (by decide) (fun c_1 => ?_) (fun c_1 => ?_)
    · have hf := it_t c_1 hf
      refine lv_iconst (v := 0) hx hb dL_part_100 (by decide) ?_
      exact J101 x3 0 _ _ hP hD hS _ (lv_sub hl [0, 1] rfl) hf
    · have hf := it_f c_1 hf
      refine lv_iconst (v := 1) hx hb dL_part_96 (by decide) ?_
      refine lv_goto (tgt := 101) hx hb dL_part_97 (by decide) ?_
      exact J101 x3 1 _ _ hP hD hS _ (lv_sub hl [0, 1] rfl) hf
  have J72 : ∀ (x3 : Int32) (t0 : Int32) (H : Heap) (locs : List Loc), va_P (dC, dI) vwCl (cf_yw cI hyw syw) H → va_D A (cf_yw cI hyw syw) → va_S A s.heap H locs → ∀ (ls : Array Slot), lv_has ls 5 [(0, .ref hyw), (1, .int a1), (2, .int a2), (3, .int x3)] → fL_part_72 syw a1 a2 x3 t0 = some r → W p l e rmL_part s m ([.ref hyw, .int a1, .int a2] : List Value).toArray below meth c H locs (0) (0) QQ (F0 m 72 ls [.int t0]) := by
    intro x3 t0 H locs hP hD hS ls hl hf
    unfold fL_part_72 at hf
    refine lv_istore (lv' := [(4, .int t0), (0, .ref hyw), (1, .int a1), (2, .int a2), (3, .int x3)]) hx hb dL_part_72 hl (by decide) rfl (fun ls hl => ?_)
    refine lv_iload hx hb dL_part_74 (lv_at hl 0 rfl) ?_
    refine lv_if_ne (tgt := 90) hx hb dL_part_76 (by decide) (fun c_1 => ?_) (fun c_1 => ?_)
    · have hf := it_f c_1 hf
      exact J90 x3 t0 _ _ hP hD hS _ (lv_sub hl [1, 2, 4, 0] rfl) hf
    · have hf := it_t c_1 hf
      refine lv_iload_n hx hb dL_part_79 rfl (lv_at hl 4 rfl) ?_
      refine lv_iload_n hx hb dL_part_80 rfl (lv_at hl 3 rfl) ?_
      refine lv_iconst (v := 1) hx hb dL_part_81 (by decide) ?_
      refine lv_iadd hx hb dL_part_82 ?_
      refine lv_icmp_le (tgt := 90) hx hb dL_part_83 (by decide) (fun c_2 => ?_) (fun c_2 => ?_)
      · have hf := it_t c_2 hf
        exact J90 x3 t0 _ _ hP hD hS _ (lv_sub hl [1, 2, 4, 0] rfl) hf
      · have hf := it_f c_2 hf
        refine lv_iconst (v := (-1)) hx hb dL_part_86 (by decide) ?_
        refine lv_iload_n hx hb dL_part_87 rfl (lv_at hl 4 rfl) ?_
        refine lv_isub hx hb dL_part_88 ?_
        have hf : (some ((-1) - x3) : Option (Int32)) = some r := hf
        have he := Option.some.inj hf
        have he0 : ((-1) - x3) = r := he
        exact hret _ _ _ _ _ _ rfl he0 rfl dL_part_89 hP hD hS
  have J71 : ∀ (x3 : Int32) (H : Heap) (locs : List Loc), va_P (dC, dI) vwCl (cf_yw cI hyw syw) H → va_D A (cf_yw cI hyw syw) → va_S A s.heap H locs → ∀ (ls : Array Slot), lv_has ls 5 [(0, .ref hyw), (1, .int a1), (2, .int a2), (3, .int x3)] → fL_part_71 syw a1 a2 x3 = some r → W p l e rmL_part s m ([.ref hyw, .int a1, .int a2] : List Value).toArray below meth c H locs (0) (0) QQ (F0 m 71 ls []) := by
    intro x3 H locs hP hD hS ls hl hf
    unfold fL_part_71 at hf
    refine lv_iconst (v := 0) hx hb dL_part_71 (by decide) ?_
    exact J72 x3 0 _ _ hP hD hS _ (lv_sub hl [0, 1, 2, 3] rfl) hf
  have J53 : ∀ (x3 : Int32) (H : Heap) (locs : List Loc), va_P (dC, dI) vwCl (cf_yw cI hyw syw) H → va_D A (cf_yw cI hyw syw) → va_S A s.heap H locs → ∀ (ls : Array Slot), lv_has ls 5 [(0, .ref hyw), (1, .int a1), (2, .int a2), (3, .int x3)] → fL_part_53 syw a1 a2 x3 = some r → W p l e rmL_part s m ([.ref hyw, .int a1, .int a2] : List Value).toArray below meth c H locs (0) (0) QQ (F0 m 53 ls []) := by
    intro x3 H locs hP hD hS ls hl hf
    unfold fL_part_53 at hf
    refine lv_iload_n hx hb dL_part_53 rfl (lv_at hl 3 rfl) ?_
    refine lv_iload_n hx hb dL_part_54 rfl (lv_at hl 1 rfl) ?_
    refine lv_icmp_ge (tgt := 71) hx hb dL_part_55 (by decide) (fun c_1 => ?_) (fun c_1 => ?_)
    · have hf := it_t c_1 hf
      exact J71 x3 _ _ hP hD hS _ (lv_sub hl [0, 1, 2, 3] rfl) hf
    · have hf := it_f c_1 hf
      refine lv_aload_n hx hb dL_part_58 rfl (lv_at hl 0 rfl) ?_
      refine lv_iload_n hx hb dL_part_59 rfl (lv_at hl 3 rfl) ?_
      obtain ⟨hi_2, hf⟩ := ai_ok hf
      refine va_iald (n := 24) (f := syw) hx hb hK hP 0 0 rfl rfl hi_2 dL_part_60 ?_
      obtain ⟨r_3, hc_3, hf⟩ := bn1_ok hf
      refine gc_i (wc := ([] : va_W)) (wr := (cf_yw cI hyw syw)) (w1 := ([] : va_W)) (ws' := (cf_yw cI hyw syw)) hP hD hS hA [] [0] [0] rfl rfl (by decide) (by decide) rfl (by decide) (va_runS (As := [.int (syw x3.toNatClampNeg)]) (rest := []) ⟨hx, hb, hml, hown, hts⟩ (ktL_isPlural l dC dI _ (syw x3.toNatClampNeg) r_3 hc_3) (va_cwS 1 hts gL_part_L_isPlural rfl rfl rfl (by decide +kernel) ⟨Nat.le_of_ble_eq_true rfl, Nat.le_of_ble_eq_true rfl⟩) (gc_S (hP.sub (ws' := ([] : va_W)) [] rfl) (hK.sub (tys' := []) [] rfl) (hD.sub (ws' := ([] : va_W)) [] (by decide) rfl) hN) rfl rfl hl.1 rfl (lv_room (Nat.le_of_ble_eq_true rfl)) dL_part_61 ⟨by show (0) + 0 ≤ 0; omega, by show (0) + 0 ≤ 0; omega⟩) (fun H locs hP hD hS => ?_)
      refine lv_if_eq (tgt := 71) hx hb dL_part_64 (by decide) (fun c_4 => ?_) (fun c_4 => ?_)
      · have hf := it_t c_4 hf
        exact J71 x3 _ _ hP hD hS _ (lv_sub hl [0, 1, 2, 3] rfl) hf
      · have hf := it_f c_4 hf
        refine lv_iconst (v := 1) hx hb dL_part_67 (by decide) ?_
        refine lv_goto (tgt := 72) hx hb dL_part_68 (by decide) ?_
        exact J72 x3 1 _ _ hP hD hS _ (lv_sub hl [0, 1, 2, 3] rfl) hf
  have J33 : ∀ (n : Nat) (x3 : Int32) (H : Heap) (locs : List Loc), va_P (dC, dI) vwCl (cf_yw cI hyw syw) H → va_D A (cf_yw cI hyw syw) → va_S A s.heap H locs → ∀ (ls : Array Slot), lv_has ls 5 [(0, .ref hyw), (1, .int a1), (2, .int a2), (3, .int x3)] → fL_part_33 syw a1 a2 n x3 = some r → W p l e rmL_part s m ([.ref hyw, .int a1, .int a2] : List Value).toArray below meth c H locs (0) (0) QQ (F0 m 33 ls []) := by
    intro n
    induction n with
    | zero =>
      intro x3 H locs hP hD hS ls hl hf
      cases hf
    | succ n ih =>
      intro x3 H locs hP hD hS ls hl hf
      rw [fL_part_33] at hf
      refine lv_iload_n hx hb dL_part_33 rfl (lv_at hl 3 rfl) ?_
      refine lv_iload_n hx hb dL_part_34 rfl (lv_at hl 1 rfl) ?_
      refine lv_icmp_ge (tgt := 53) hx hb dL_part_35 (by decide) (fun c_1 => ?_) (fun c_1 => ?_)
      · have hf := it_t c_1 hf
        exact J53 x3 _ _ hP hD hS _ (lv_sub hl [0, 1, 2, 3] rfl) hf
      · have hf := it_f c_1 hf
        refine lv_aload_n hx hb dL_part_38 rfl (lv_at hl 0 rfl) ?_
        refine lv_iload_n hx hb dL_part_39 rfl (lv_at hl 3 rfl) ?_
        obtain ⟨hi_2, hf⟩ := ai_ok hf
        refine va_iald (n := 24) (f := syw) hx hb hK hP 0 0 rfl rfl hi_2 dL_part_40 ?_
        obtain ⟨r_3, hc_3, hf⟩ := bn1_ok hf
        refine gc_i (wc := ([] : va_W)) (wr := (cf_yw cI hyw syw)) (w1 := ([] : va_W)) (ws' := (cf_yw cI hyw syw)) hP hD hS hA [] [0] [0] rfl rfl (by decide) (by decide) rfl (by decide) (va_runS (As := [.int (syw x3.toNatClampNeg)]) (rest := []) ⟨hx, hb, hml, hown, hts⟩ (ktL_isAdjective l dC dI _ (syw x3.toNatClampNeg) r_3 hc_3) (va_cwS 1 hts gL_part_L_isAdjective rfl rfl rfl (by decide +kernel) ⟨Nat.le_of_ble_eq_true rfl, Nat.le_of_ble_eq_true rfl⟩) (gc_S (hP.sub (ws' := ([] : va_W)) [] rfl) (hK.sub (tys' := []) [] rfl) (hD.sub (ws' := ([] : va_W)) [] (by decide) rfl) hN) rfl rfl hl.1 rfl (lv_room (Nat.le_of_ble_eq_true rfl)) dL_part_41 ⟨by show (0) + 0 ≤ 0; omega, by show (0) + 0 ≤ 0; omega⟩) (fun H locs hP hD hS => ?_)
        refine lv_if_eq (tgt := 53) hx hb dL_part_44 (by decide) (fun c_4 => ?_) (fun c_4 => ?_)
        · have hf := it_t c_4 hf
          exact J53 x3 _ _ hP hD hS _ (lv_sub hl [0, 1, 2, 3] rfl) hf
        · have hf := it_f c_4 hf
          refine lv_iinc (v := (x3 + 1)) (lv' := [(3, .int (x3 + 1)), (0, .ref hyw), (1, .int a1), (2, .int a2)]) hx hb dL_part_47 hl (k := 3) rfl rfl (by decide) rfl (fun ls hl => ?_)
          refine lv_goto (tgt := 33) hx hb dL_part_50 (by decide) ?_
          exact ih (x3 + 1) _ _ hP hD hS _ (lv_sub hl [1, 2, 3, 0] rfl) hf
  have J129 : ∀ (x3 : Int32) (H : Heap) (locs : List Loc), va_P (dC, dI) vwCl (cf_yw cI hyw syw) H → va_D A (cf_yw cI hyw syw) → va_S A s.heap H locs → ∀ (ls : Array Slot), lv_has ls 5 [(3, .int x3)] → fL_part_129 syw a1 a2 x3 = some r → W p l e rmL_part s m ([.ref hyw, .int a1, .int a2] : List Value).toArray below meth c H locs (0) (0) QQ (F0 m 129 ls []) := by
    intro x3 H locs hP hD hS ls hl hf
    unfold fL_part_129 at hf
    refine lv_iload_n hx hb dL_part_129 rfl (lv_at hl 0 rfl) ?_
    have hf : (some x3 : Option (Int32)) = some r := hf
    have he := Option.some.inj hf
    have he0 : x3 = r := he
    exact hret _ _ _ _ _ _ rfl he0 rfl dL_part_130 hP hD hS
  unfold fL_part at hf
  refine lv_iload_n hx hb dL_part_0 rfl (lv_at hl 2 rfl) ?_
  refine lv_iload_n hx hb dL_part_1 rfl (lv_at hl 1 rfl) ?_
  refine lv_icmp_ne (tgt := 9) hx hb dL_part_2 (by decide) (fun c_1 => ?_) (fun c_1 => ?_)
  · have hf := it_f c_1 hf
    refine lv_aload_n hx hb dL_part_9 rfl (lv_at hl 0 rfl) ?_
    refine lv_iload_n hx hb dL_part_10 rfl (lv_at hl 2 rfl) ?_
    obtain ⟨hi_2, hf⟩ := ai_ok hf
    refine va_iald (n := 24) (f := syw) hx hb hK hP 0 0 rfl rfl hi_2 dL_part_11 ?_
    refine lv_bipush (v := 15) hx hb dL_part_12 (by decide) ?_
    refine lv_icmp_ne (tgt := 21) hx hb dL_part_14 (by decide) (fun c_3 => ?_) (fun c_3 => ?_)
    · have hf := it_f c_3 hf
      refine lv_iload_n hx hb dL_part_21 rfl (lv_at hl 2 rfl) ?_
      refine lv_iconst (v := 1) hx hb dL_part_22 (by decide) ?_
      refine lv_iadd hx hb dL_part_23 ?_
      refine lv_istore_n (lv' := [(3, .int (a2 + 1)), (0, .ref hyw), (1, .int a1), (2, .int a2)]) hx hb dL_part_24 rfl hl (by decide) rfl (fun ls hl => ?_)
      refine lv_aload_n hx hb dL_part_25 rfl (lv_at hl 1 rfl) ?_
      refine lv_iload_n hx hb dL_part_26 rfl (lv_at hl 3 rfl) ?_
      obtain ⟨hi_4, hf⟩ := ai_ok hf
      refine va_iald (n := 24) (f := syw) hx hb hK hP 0 0 rfl rfl hi_4 dL_part_27 ?_
      refine lv_bipush (v := 11) hx hb dL_part_28 (by decide) ?_
      refine lv_icmp_ne (tgt := 106) hx hb dL_part_30 (by decide) (fun c_5 => ?_) (fun c_5 => ?_)
      · have hf := it_f c_5 hf
        refine lv_aload_n hx hb dL_part_106 rfl (lv_at hl 1 rfl) ?_
        refine lv_iload_n hx hb dL_part_107 rfl (lv_at hl 2 rfl) ?_
        refine lv_iload_n hx hb dL_part_108 rfl (lv_at hl 3 rfl) ?_
        refine lv_iconst (v := 1) hx hb dL_part_109 (by decide) ?_
        obtain ⟨r_6, hc_6, hf⟩ := bn1_ok hf
        refine gc_i (wc := (cf_yw cI hyw syw)) (wr := ([] : va_W)) (w1 := (cf_yw cI hyw syw)) (ws' := (cf_yw cI hyw syw)) hP hD hS hA [0] [] [0] rfl rfl (by decide) (by decide) rfl (by decide) (va_runS (As := [.ref hyw, .int a1, .int a2, .int 1]) (rest := []) ⟨hx, hb, hml, hown, hts⟩ (ktL_described l dC dI cI hyw _ syw a1 a2 1 r_6 hc_6) (va_cwS 4 hts gL_part_L_described rfl rfl rfl (by decide +kernel) ⟨Nat.le_of_ble_eq_true rfl, Nat.le_of_ble_eq_true rfl⟩) (gc_S (hP.sub (ws' := (cf_yw cI hyw syw)) [0] rfl) (hK.sub (tys' := [(cI, .int)]) [0] rfl) (hD.sub (ws' := (cf_yw cI hyw syw)) [0] (by decide) rfl) hN) rfl rfl hl.1 rfl (lv_room (Nat.le_of_ble_eq_true rfl)) dL_part_110 ⟨by show (0) + 0 ≤ 0; omega, by show (0) + 0 ≤ 0; omega⟩) (fun H locs hP hD hS => ?_)
        refine lv_istore_n (lv' := [(3, .int r_6), (0, .ref hyw), (1, .int a1), (2, .int a2)]) hx hb dL_part_113 rfl hl (by decide) rfl (fun ls hl => ?_)
        refine lv_iload_n hx hb dL_part_114 rfl (lv_at hl 0 rfl) ?_
        refine lv_if_lt (tgt := 129) hx hb dL_part_115 (by decide) (fun c_7 => ?_) (fun c_7 => ?_)
        · have hf := it_t c_7 hf
          exact J129 r_6 _ _ hP hD hS _ (lv_sub hl [0] rfl) hf
        · have hf := it_f c_7 hf
          refine lv_aload_n hx hb dL_part_118 rfl (lv_at hl 1 rfl) ?_
          refine lv_iload_n hx hb dL_part_119 rfl (lv_at hl 0 rfl) ?_
          refine lv_iconst (v := 1) hx hb dL_part_120 (by decide) ?_
          refine lv_isub hx hb dL_part_121 ?_
          obtain ⟨hi_8, hf⟩ := ai_ok hf
          refine va_iald (n := 24) (f := syw) hx hb hK hP 0 0 rfl rfl hi_8 dL_part_122 ?_
          obtain ⟨r_9, hc_9, hf⟩ := bn1_ok hf
          refine gc_i (wc := ([] : va_W)) (wr := (cf_yw cI hyw syw)) (w1 := ([] : va_W)) (ws' := (cf_yw cI hyw syw)) hP hD hS hA [] [0] [0] rfl rfl (by decide) (by decide) rfl (by decide) (va_runS (As := [.int (syw (r_6 - 1).toNatClampNeg)]) (rest := []) ⟨hx, hb, hml, hown, hts⟩ (ktL_isPlural l dC dI _ (syw (r_6 - 1).toNatClampNeg) r_9 hc_9) (va_cwS 1 hts gL_part_L_isPlural rfl rfl rfl (by decide +kernel) ⟨Nat.le_of_ble_eq_true rfl, Nat.le_of_ble_eq_true rfl⟩) (gc_S (hP.sub (ws' := ([] : va_W)) [] rfl) (hK.sub (tys' := []) [] rfl) (hD.sub (ws' := ([] : va_W)) [] (by decide) rfl) hN) rfl rfl hl.1 rfl (lv_room (Nat.le_of_ble_eq_true rfl)) dL_part_123 ⟨by show (0) + 0 ≤ 0; omega, by show (0) + 0 ≤ 0; omega⟩) (fun H locs hP hD hS => ?_)
          refine lv_if_ne (tgt := 131) hx hb dL_part_126 (by decide) (fun c_10 => ?_) (fun c_10 => ?_)
          · have hf := it_f c_10 hf
            exact J131 r_6 _ _ hP hD hS _ (lv_sub hl [1, 2, 0] rfl) hf
          · have hf := it_t c_10 hf
            exact J129 r_6 _ _ hP hD hS _ (lv_sub hl [0] rfl) hf
      · have hf := it_t c_5 hf
        exact J33 64 (a2 + 1) _ _ hP hD hS _ (lv_sub hl [1, 2, 3, 0] rfl) hf
    · have hf := it_t c_3 hf
      refine lv_iload_n hx hb dL_part_17 rfl (lv_at hl 2 rfl) ?_
      refine lv_iconst (v := 1) hx hb dL_part_18 (by decide) ?_
      refine lv_iadd hx hb dL_part_19 ?_
      have hf : (some (a2 + 1) : Option (Int32)) = some r := hf
      have he := Option.some.inj hf
      have he0 : (a2 + 1) = r := he
      exact hret _ _ _ _ _ _ rfl he0 rfl dL_part_20 hP hD hS
  · have hf := it_t c_1 hf
    refine lv_iconst (v := (-1)) hx hb dL_part_5 (by decide) ?_
    refine lv_iload_n hx hb dL_part_6 rfl (lv_at hl 1 rfl) ?_
    refine lv_isub hx hb dL_part_7 ?_
    have hf : (some ((-1) - a1) : Option (Int32)) = some r := hf
    have he := Option.some.inj hf
    have he0 : ((-1) - a1) = r := he
    exact hret _ _ _ _ _ _ rfl he0 rfl dL_part_8 hP hD hS
abbrev rmL_wrongOrder : Room := { frames := 4, cells := 0, slots := 0, locals := 94 }
set_option maxHeartbeats 4000000 in
set_option maxRecDepth 100000 in
theorem ktL_wrongOrder (l : Launch) (dC : Nat → ClassId) (dI : Nat → Nat → Nat) (cI : ClassId) (hyw : Nat) (sz : Nat) (syw : Syw) (a1 : Int32) (r : Int32) (hf : fL_wrongOrder syw a1 = some r) : Met l yL_wrongOrder wsL_wrongOrder rmL_wrongOrder (va_Pc [.ref hyw, .int a1] (pre_w (dC, dI) (cf_yw cI hyw syw) [(cI, .int)] sz)) (va_Qi (fun (r' : Int32) (_ : Unit) => r' = r) (post_w (dC, dI) (cf_yw cI hyw syw) [(cI, .int)] (va_A (cf_yw cI hyw syw) sz)) (va_A (cf_yw cI hyw syw) sz)) 0 0 (va_A (cf_yw cI hyw syw) sz) := by
  refine gmw (mc := 0) (ms := 0) (ty := .int) (cc := cL_wrongOrder) (maxL := 3) (by decide) rfl (Nat.le_of_ble_eq_true rfl) ?_
  intro p e s m below meth c A QQ ls hx hb hml hown hts hK hN hA hP hD hS hl hret
  have hown : s.vm.findClass RL = some m.cls := hown
  have hl : lv_has ls 3 [(0, .ref hyw), (1, .int a1)] := hl
  have J96 : ∀ (t0 : Int32) (H : Heap) (locs : List Loc), va_P (dC, dI) vwCl (cf_yw cI hyw syw) H → va_D A (cf_yw cI hyw syw) → va_S A s.heap H locs → ∀ (ls : Array Slot), lv_has ls 3 [] → fL_wrongOrder_96 syw a1 t0 = some r → W p l e rmL_wrongOrder s m ([.ref hyw, .int a1] : List Value).toArray below meth c H locs (0) (0) QQ (F0 m 96 ls [.int t0]) := by
    intro t0 H locs hP hD hS ls hl hf
    unfold fL_wrongOrder_96 at hf
    have hf : (some t0 : Option (Int32)) = some r := hf
    have he := Option.some.inj hf
    have he0 : t0 = r := he
    exact hret _ _ _ _ _ _ rfl he0 rfl dL_wrongOrder_96 hP hD hS
  have J76 : ∀ (x2 : Int32) (H : Heap) (locs : List Loc), va_P (dC, dI) vwCl (cf_yw cI hyw syw) H → va_D A (cf_yw cI hyw syw) → va_S A s.heap H locs → ∀ (ls : Array Slot), lv_has ls 3 [(1, .int a1), (2, .int x2)] → fL_wrongOrder_76 syw a1 x2 = some r → W p l e rmL_wrongOrder s m ([.ref hyw, .int a1] : List Value).toArray below meth c H locs (0) (0) QQ (F0 m 76 ls []) := by
    intro x2 H locs hP hD hS ls hl hf
    unfold fL_wrongOrder_76 at hf
    refine lv_iload_n hx hb dL_wrongOrder_76 rfl (lv_at hl 1 rfl) ?_
    refine lv_if_ge (tgt := 86) hx hb dL_wrongOrder_77 (by decide) (fun c_1 => ?_) (fun c_1 => ?_)
    · have hf := it_t c_1 hf
      refine lv_iload_n hx hb dL_wrongOrder_86 rfl (lv_at hl 1 rfl) ?_
      refine lv_iload_n hx hb dL_wrongOrder_87 rfl (lv_at hl 0 rfl) ?_
      refine lv_icmp_ge (tgt := 95) hx hb dL_wrongOrder_88 (by decide) (fun c_2 => ?_) (fun c_2 => ?_)
      · have hf := it_t c_2 hf
        refine lv_iconst (v := (-1)) hx hb dL_wrongOrder_95 (by decide) ?_
        exact J96 (-1) _ _ hP hD hS _ (lv_sub hl [] rfl) hf
      · have hf := it_f c_2 hf
        refine lv_iload_n hx hb dL_wrongOrder_91 rfl (lv_at hl 1 rfl) ?_
        refine lv_goto (tgt := 96) hx hb dL_wrongOrder_92 (by decide) ?_
        exact J96 x2 _ _ hP hD hS _ (lv_sub hl [] rfl) hf
    · have hf := it_f c_1 hf
      refine lv_iconst (v := (-1)) hx hb dL_wrongOrder_80 (by decide) ?_
      refine lv_iload_n hx hb dL_wrongOrder_81 rfl (lv_at hl 1 rfl) ?_
      refine lv_isub hx hb dL_wrongOrder_82 ?_
      refine lv_goto (tgt := 96) hx hb dL_wrongOrder_83 (by decide) ?_
      exact J96 ((-1) - x2) _ _ hP hD hS _ (lv_sub hl [] rfl) hf
  have J75 : ∀ (t0 : Int32) (H : Heap) (locs : List Loc), va_P (dC, dI) vwCl (cf_yw cI hyw syw) H → va_D A (cf_yw cI hyw syw) → va_S A s.heap H locs → ∀ (ls : Array Slot), lv_has ls 3 [(1, .int a1)] → fL_wrongOrder_75 syw a1 t0 = some r → W p l e rmL_wrongOrder s m ([.ref hyw, .int a1] : List Value).toArray below meth c H locs (0) (0) QQ (F0 m 75 ls [.int t0]) := by
    intro t0 H locs hP hD hS ls hl hf
    unfold fL_wrongOrder_75 at hf
    refine lv_istore_n (lv' := [(2, .int t0), (1, .int a1)]) hx hb dL_wrongOrder_75 rfl hl (by decide) rfl (fun ls hl => ?_)
    exact J76 t0 _ _ hP hD hS _ (lv_sub hl [1, 0] rfl) hf
  have J72 : ∀ (x2 : Int32) (H : Heap) (locs : List Loc), va_P (dC, dI) vwCl (cf_yw cI hyw syw) H → va_D A (cf_yw cI hyw syw) → va_S A s.heap H locs → ∀ (ls : Array Slot), lv_has ls 3 [(1, .int a1), (2, .int x2)] → fL_wrongOrder_72 syw a1 x2 = some r → W p l e rmL_wrongOrder s m ([.ref hyw, .int a1] : List Value).toArray below meth c H locs (0) (0) QQ (F0 m 72 ls []) := by
    intro x2 H locs hP hD hS ls hl hf
    unfold fL_wrongOrder_72 at hf
    refine lv_iconst (v := (-1)) hx hb dL_wrongOrder_72 (by decide) ?_
    refine lv_iload_n hx hb dL_wrongOrder_73 rfl (lv_at hl 1 rfl) ?_
    refine lv_isub hx hb dL_wrongOrder_74 ?_
    exact J75 ((-1) - x2) _ _ hP hD hS _ (lv_sub hl [0] rfl) hf
  have J36 : ∀ (x2 : Int32) (H : Heap) (locs : List Loc), va_P (dC, dI) vwCl (cf_yw cI hyw syw) H → va_D A (cf_yw cI hyw syw) → va_S A s.heap H locs → ∀ (ls : Array Slot), lv_has ls 3 [(0, .ref hyw), (1, .int a1), (2, .int x2)] → fL_wrongOrder_36 syw a1 x2 = some r → W p l e rmL_wrongOrder s m ([.ref hyw, .int a1] : List Value).toArray below meth c H locs (0) (0) QQ (F0 m 36 ls []) := by
    intro x2 H locs hP hD hS ls hl hf
    unfold fL_wrongOrder_36 at hf
    refine lv_iload_n hx hb dL_wrongOrder_36 rfl (lv_at hl 2 rfl) ?_
    refine lv_if_le (tgt := 76) hx hb dL_wrongOrder_37 (by decide) (fun c_1 => ?_) (fun c_1 => ?_)
    · have hf := it_t c_1 hf
      exact J76 x2 _ _ hP hD hS _ (lv_sub hl [1, 2] rfl) hf
    · have hf := it_f c_1 hf
      refine lv_aload_n hx hb dL_wrongOrder_40 rfl (lv_at hl 0 rfl) ?_
      refine lv_iconst (v := 0) hx hb dL_wrongOrder_41 (by decide) ?_
      obtain ⟨hi_2, hf⟩ := ai_ok hf
      refine va_iald (n := 24) (f := syw) hx hb hK hP 0 0 rfl rfl hi_2 dL_wrongOrder_42 ?_
      refine lv_iconst (v := 2) hx hb dL_wrongOrder_43 (by decide) ?_
      refine lv_icmp_ne (tgt := 76) hx hb dL_wrongOrder_44 (by decide) (fun c_3 => ?_) (fun c_3 => ?_)
      · have hf := it_f c_3 hf
        exact J76 x2 _ _ hP hD hS _ (lv_sub hl [1, 2] rfl) hf
      · have hf := it_t c_3 hf
        refine lv_iload_n hx hb dL_wrongOrder_47 rfl (lv_at hl 2 rfl) ?_
        refine lv_iload_n hx hb dL_wrongOrder_48 rfl (lv_at hl 1 rfl) ?_
        refine lv_icmp_ge (tgt := 72) hx hb dL_wrongOrder_49 (by decide) (fun c_4 => ?_) (fun c_4 => ?_)
        · have hf := it_t c_4 hf
          exact J72 x2 _ _ hP hD hS _ (lv_sub hl [1, 2] rfl) hf
        · have hf := it_f c_4 hf
          refine lv_aload_n hx hb dL_wrongOrder_52 rfl (lv_at hl 0 rfl) ?_
          refine lv_iload_n hx hb dL_wrongOrder_53 rfl (lv_at hl 2 rfl) ?_
          obtain ⟨hi_5, hf⟩ := ai_ok hf
          refine va_iald (n := 24) (f := syw) hx hb hK hP 0 0 rfl rfl hi_5 dL_wrongOrder_54 ?_
          refine lv_bipush (v := 16) hx hb dL_wrongOrder_55 (by decide) ?_
          refine lv_icmp_ne (tgt := 72) hx hb dL_wrongOrder_57 (by decide) (fun c_6 => ?_) (fun c_6 => ?_)
          · have hf := it_f c_6 hf
            exact J72 x2 _ _ hP hD hS _ (lv_sub hl [1, 2] rfl) hf
          · have hf := it_t c_6 hf
            refine lv_aload_n hx hb dL_wrongOrder_60 rfl (lv_at hl 0 rfl) ?_
            refine lv_iload_n hx hb dL_wrongOrder_61 rfl (lv_at hl 1 rfl) ?_
            refine lv_iload_n hx hb dL_wrongOrder_62 rfl (lv_at hl 2 rfl) ?_
            refine lv_iconst (v := 1) hx hb dL_wrongOrder_63 (by decide) ?_
            refine lv_iadd hx hb dL_wrongOrder_64 ?_
            refine lv_iconst (v := 0) hx hb dL_wrongOrder_65 (by decide) ?_
            obtain ⟨r_7, hc_7, hf⟩ := bn1_ok hf
            refine gc_i (wc := (cf_yw cI hyw syw)) (wr := ([] : va_W)) (w1 := (cf_yw cI hyw syw)) (ws' := (cf_yw cI hyw syw)) hP hD hS hA [0] [] [0] rfl rfl (by decide) (by decide) rfl (by decide) (va_runS (As := [.ref hyw, .int a1, .int (x2 + 1), .int 0]) (rest := []) ⟨hx, hb, hml, hown, hts⟩ (ktL_described l dC dI cI hyw _ syw a1 (x2 + 1) 0 r_7 hc_7) (va_cwS 4 hts gL_wrongOrder_L_described rfl rfl rfl (by decide +kernel) ⟨Nat.le_of_ble_eq_true rfl, Nat.le_of_ble_eq_true rfl⟩) (gc_S (hP.sub (ws' := (cf_yw cI hyw syw)) [0] rfl) (hK.sub (tys' := [(cI, .int)]) [0] rfl) (hD.sub (ws' := (cf_yw cI hyw syw)) [0] (by decide) rfl) hN) rfl rfl hl.1 rfl (lv_room (Nat.le_of_ble_eq_true rfl)) dL_wrongOrder_66 ⟨by show (0) + 0 ≤ 0; omega, by show (0) + 0 ≤ 0; omega⟩) (fun H locs hP hD hS => ?_)
            refine lv_goto (tgt := 75) hx hb dL_wrongOrder_69 (by decide) ?_
            exact J75 r_7 _ _ hP hD hS _ (lv_sub hl [1] rfl) hf
  have J7 : ∀ (n : Nat) (x2 : Int32) (H : Heap) (locs : List Loc), va_P (dC, dI) vwCl (cf_yw cI hyw syw) H → va_D A (cf_yw cI hyw syw) → va_S A s.heap H locs → ∀ (ls : Array Slot), lv_has ls 3 [(0, .ref hyw), (1, .int a1), (2, .int x2)] → fL_wrongOrder_7 syw a1 n x2 = some r → W p l e rmL_wrongOrder s m ([.ref hyw, .int a1] : List Value).toArray below meth c H locs (0) (0) QQ (F0 m 7 ls []) := by
    intro n
    induction n with
    | zero =>
      intro x2 H locs hP hD hS ls hl hf
      cases hf
    | succ n ih =>
      intro x2 H locs hP hD hS ls hl hf
      rw [fL_wrongOrder_7] at hf
      refine lv_iload_n hx hb dL_wrongOrder_7 rfl (lv_at hl 2 rfl) ?_
      refine lv_if_le (tgt := 36) hx hb dL_wrongOrder_8 (by decide) (fun c_1 => ?_) (fun c_1 => ?_)
      · have hf := it_t c_1 hf
        exact J36 x2 _ _ hP hD hS _ (lv_sub hl [0, 1, 2] rfl) hf
      · have hf := it_f c_1 hf
        refine lv_iload_n hx hb dL_wrongOrder_11 rfl (lv_at hl 2 rfl) ?_
        refine lv_iload_n hx hb dL_wrongOrder_12 rfl (lv_at hl 1 rfl) ?_
        refine lv_icmp_ge (tgt := 36) hx hb dL_wrongOrder_13 (by decide) (fun c_2 => ?_) (fun c_2 => ?_)
        · have hf := it_t c_2 hf
          exact J36 x2 _ _ hP hD hS _ (lv_sub hl [0, 1, 2] rfl) hf
        · have hf := it_f c_2 hf
          refine lv_aload_n hx hb dL_wrongOrder_16 rfl (lv_at hl 0 rfl) ?_
          refine lv_iload_n hx hb dL_wrongOrder_17 rfl (lv_at hl 2 rfl) ?_
          obtain ⟨hi_3, hf⟩ := ai_ok hf
          refine va_iald (n := 24) (f := syw) hx hb hK hP 0 0 rfl rfl hi_3 dL_wrongOrder_18 ?_
          refine lv_bipush (v := 13) hx hb dL_wrongOrder_19 (by decide) ?_
          refine lv_icmp_ne (tgt := 36) hx hb dL_wrongOrder_21 (by decide) (fun c_4 => ?_) (fun c_4 => ?_)
          · have hf := it_f c_4 hf
            exact J36 x2 _ _ hP hD hS _ (lv_sub hl [0, 1, 2] rfl) hf
          · have hf := it_t c_4 hf
            refine lv_aload_n hx hb dL_wrongOrder_24 rfl (lv_at hl 0 rfl) ?_
            refine lv_iload_n hx hb dL_wrongOrder_25 rfl (lv_at hl 1 rfl) ?_
            refine lv_iload_n hx hb dL_wrongOrder_26 rfl (lv_at hl 2 rfl) ?_
            refine lv_iconst (v := 1) hx hb dL_wrongOrder_27 (by decide) ?_
            refine lv_iadd hx hb dL_wrongOrder_28 ?_
            obtain ⟨r_5, hc_5, hf⟩ := bn1_ok hf
            refine gc_i (wc := (cf_yw cI hyw syw)) (wr := ([] : va_W)) (w1 := (cf_yw cI hyw syw)) (ws' := (cf_yw cI hyw syw)) hP hD hS hA [0] [] [0] rfl rfl (by decide) (by decide) rfl (by decide) (va_runS (As := [.ref hyw, .int a1, .int (x2 + 1)]) (rest := []) ⟨hx, hb, hml, hown, hts⟩ (ktL_part l dC dI cI hyw _ syw a1 (x2 + 1) r_5 hc_5) (va_cwS 3 hts gL_wrongOrder_L_part rfl rfl rfl (by decide +kernel) ⟨Nat.le_of_ble_eq_true rfl, Nat.le_of_ble_eq_true rfl⟩) (gc_S (hP.sub (ws' := (cf_yw cI hyw syw)) [0] rfl) (hK.sub (tys' := [(cI, .int)]) [0] rfl) (hD.sub (ws' := (cf_yw cI hyw syw)) [0] (by decide) rfl) hN) rfl rfl hl.1 rfl (lv_room (Nat.le_of_ble_eq_true rfl)) dL_wrongOrder_29 ⟨by show (0) + 0 ≤ 0; omega, by show (0) + 0 ≤ 0; omega⟩) (fun H locs hP hD hS => ?_)
            refine lv_istore_n (lv' := [(2, .int r_5), (0, .ref hyw), (1, .int a1)]) hx hb dL_wrongOrder_32 rfl hl (by decide) rfl (fun ls hl => ?_)
            refine lv_goto (tgt := 7) hx hb dL_wrongOrder_33 (by decide) ?_
            exact ih r_5 _ _ hP hD hS _ (lv_sub hl [1, 2, 0] rfl) hf
  unfold fL_wrongOrder at hf
  refine lv_aload_n hx hb dL_wrongOrder_0 rfl (lv_at hl 0 rfl) ?_
  refine lv_iload_n hx hb dL_wrongOrder_1 rfl (lv_at hl 1 rfl) ?_
  refine lv_iconst (v := 1) hx hb dL_wrongOrder_2 (by decide) ?_
  obtain ⟨r_1, hc_1, hf⟩ := bn1_ok hf
  refine gc_i (wc := (cf_yw cI hyw syw)) (wr := ([] : va_W)) (w1 := (cf_yw cI hyw syw)) (ws' := (cf_yw cI hyw syw)) hP hD hS hA [0] [] [0] rfl rfl (by decide) (by decide) rfl (by decide) (va_runS (As := [.ref hyw, .int a1, .int 1]) (rest := []) ⟨hx, hb, hml, hown, hts⟩ (ktL_part l dC dI cI hyw _ syw a1 1 r_1 hc_1) (va_cwS 3 hts gL_wrongOrder_L_part rfl rfl rfl (by decide +kernel) ⟨Nat.le_of_ble_eq_true rfl, Nat.le_of_ble_eq_true rfl⟩) (gc_S (hP.sub (ws' := (cf_yw cI hyw syw)) [0] rfl) (hK.sub (tys' := [(cI, .int)]) [0] rfl) (hD.sub (ws' := (cf_yw cI hyw syw)) [0] (by decide) rfl) hN) rfl rfl hl.1 rfl (lv_room (Nat.le_of_ble_eq_true rfl)) dL_wrongOrder_3 ⟨by show (0) + 0 ≤ 0; omega, by show (0) + 0 ≤ 0; omega⟩) (fun H locs hP hD hS => ?_)
  refine lv_istore_n (lv' := [(2, .int r_1), (0, .ref hyw), (1, .int a1)]) hx hb dL_wrongOrder_6 rfl hl (by decide) rfl (fun ls hl => ?_)
  exact J7 64 r_1 _ _ hP hD hS _ (lv_sub hl [1, 2, 0] rfl) hf
abbrev rmL_wrongAnswer : Room := { frames := 1, cells := 0, slots := 0, locals := 20 }
set_option maxHeartbeats 4000000 in
set_option maxRecDepth 100000 in
theorem ktL_wrongAnswer (l : Launch) (dC : Nat → ClassId) (dI : Nat → Nat → Nat) (cI : ClassId) (hyw : Nat) (sz : Nat) (syw : Syw) (a1 : Int32) (r : Int32) (hf : fL_wrongAnswer syw a1 = some r) : Met l yL_wrongAnswer wsL_wrongAnswer rmL_wrongAnswer (va_Pc [.ref hyw, .int a1] (pre_w (dC, dI) (cf_yw cI hyw syw) [(cI, .int)] sz)) (va_Qi (fun (r' : Int32) (_ : Unit) => r' = r) (post_w (dC, dI) (cf_yw cI hyw syw) [(cI, .int)] (va_A (cf_yw cI hyw syw) sz)) (va_A (cf_yw cI hyw syw) sz)) 0 0 (va_A (cf_yw cI hyw syw) sz) := by
  refine gmw (mc := 0) (ms := 0) (ty := .int) (cc := cL_wrongAnswer) (maxL := 5) (by decide) rfl (Nat.le_of_ble_eq_true rfl) ?_
  intro p e s m below meth c A QQ ls hx hb hml hown hts hK hN hA hP hD hS hl hret
  have hown : s.vm.findClass RL = some m.cls := hown
  have hl : lv_has ls 5 [(0, .ref hyw), (1, .int a1)] := hl
  have J97 : ∀ (t0 : Int32) (H : Heap) (locs : List Loc), va_P (dC, dI) vwCl (cf_yw cI hyw syw) H → va_D A (cf_yw cI hyw syw) → va_S A s.heap H locs → ∀ (ls : Array Slot), lv_has ls 5 [] → fL_wrongAnswer_97 syw a1 t0 = some r → W p l e rmL_wrongAnswer s m ([.ref hyw, .int a1] : List Value).toArray below meth c H locs (0) (0) QQ (F0 m 97 ls [.int t0]) := by
    intro t0 H locs hP hD hS ls hl hf
    unfold fL_wrongAnswer_97 at hf
    have hf : (some t0 : Option (Int32)) = some r := hf
    have he := Option.some.inj hf
    have he0 : t0 = r := he
    exact hret _ _ _ _ _ _ rfl he0 rfl dL_wrongAnswer_97 hP hD hS
  have J76 : ∀ (x3 : Int32) (t0 : Int32) (t1 : Int32) (H : Heap) (locs : List Loc), va_P (dC, dI) vwCl (cf_yw cI hyw syw) H → va_D A (cf_yw cI hyw syw) → va_S A s.heap H locs → ∀ (ls : Array Slot), lv_has ls 5 [(1, .int a1), (3, .int x3)] → fL_wrongAnswer_76 syw a1 x3 t0 t1 = some r → W p l e rmL_wrongAnswer s m ([.ref hyw, .int a1] : List Value).toArray below meth c H locs (0) (0) QQ (F0 m 76 ls [.int t1, .int t0]) := by
    intro x3 t0 t1 H locs hP hD hS ls hl hf
    unfold fL_wrongAnswer_76 at hf
    refine lv_iadd hx hb dL_wrongAnswer_76 ?_
    refine lv_istore_n (lv' := [(2, .int (t0 + t1)), (1, .int a1), (3, .int x3)]) hx hb dL_wrongAnswer_77 rfl hl (by decide) rfl (fun ls hl => ?_)
    refine lv_iload_n hx hb dL_wrongAnswer_78 rfl (lv_at hl 0 rfl) ?_
    refine lv_iload_n hx hb dL_wrongAnswer_79 rfl (lv_at hl 1 rfl) ?_
    refine lv_icmp_ge (tgt := 87) hx hb dL_wrongAnswer_80 (by decide) (fun c_1 => ?_) (fun c_1 => ?_)
    · have hf := it_t c_1 hf
      refine lv_iload_n hx hb dL_wrongAnswer_87 rfl (lv_at hl 0 rfl) ?_
      refine lv_iload_n hx hb dL_wrongAnswer_88 rfl (lv_at hl 2 rfl) ?_
      refine lv_icmp_ne (tgt := 96) hx hb dL_wrongAnswer_89 (by decide) (fun c_2 => ?_) (fun c_2 => ?_)
      · have hf := it_f c_2 hf
        refine lv_iconst (v := (-1)) hx hb dL_wrongAnswer_96 (by decide) ?_
        exact J97 (-1) _ _ hP hD hS _ (lv_sub hl [] rfl) hf
      · have hf := it_t c_2 hf
        refine lv_iload_n hx hb dL_wrongAnswer_92 rfl (lv_at hl 1 rfl) ?_
        refine lv_goto (tgt := 97) hx hb dL_wrongAnswer_93 (by decide) ?_
        exact J97 a1 _ _ hP hD hS _ (lv_sub hl [] rfl) hf
    · have hf := it_f c_1 hf
      refine lv_iload_n hx hb dL_wrongAnswer_83 rfl (lv_at hl 0 rfl) ?_
      refine lv_goto (tgt := 97) hx hb dL_wrongAnswer_84 (by decide) ?_
      exact J97 (t0 + t1) _ _ hP hD hS _ (lv_sub hl [] rfl) hf
  have J63 : ∀ (x2 : Int32) (x3 : Int32) (t0 : Int32) (H : Heap) (locs : List Loc), va_P (dC, dI) vwCl (cf_yw cI hyw syw) H → va_D A (cf_yw cI hyw syw) → va_S A s.heap H locs → ∀ (ls : Array Slot), lv_has ls 5 [(1, .int a1), (2, .int x2), (3, .int x3)] → fL_wrongAnswer_63 syw a1 x2 x3 t0 = some r → W p l e rmL_wrongAnswer s m ([.ref hyw, .int a1] : List Value).toArray below meth c H locs (0) (0) QQ (F0 m 63 ls [.int t0]) := by
    intro x2 x3 t0 H locs hP hD hS ls hl hf
    unfold fL_wrongAnswer_63 at hf
    refine lv_istore (lv' := [(4, .int t0), (1, .int a1), (2, .int x2), (3, .int x3)]) hx hb dL_wrongAnswer_63 hl (by decide) rfl (fun ls hl => ?_)
    refine lv_iload_n hx hb dL_wrongAnswer_65 rfl (lv_at hl 2 rfl) ?_
    refine lv_iload hx hb dL_wrongAnswer_66 (lv_at hl 0 rfl) ?_
    refine lv_if_eq (tgt := 75) hx hb dL_wrongAnswer_68 (by decide) (fun c_1 => ?_) (fun c_1 => ?_)
    · have hf := it_t c_1 hf
      refine lv_iconst (v := 0) hx hb dL_wrongAnswer_75 (by decide) ?_
      exact J76 x3 x2 0 _ _ hP hD hS _ (lv_sub hl [1, 3] rfl) hf
    · have hf := it_f c_1 hf
      refine lv_iconst (v := 1) hx hb dL_wrongAnswer_71 (by decide) ?_
      refine lv_goto (tgt := 76) hx hb dL_wrongAnswer_72 (by decide) ?_
      exact J76 x3 x2 1 _ _ hP hD hS _ (lv_sub hl [1, 3] rfl) hf
  have J62 : ∀ (x2 : Int32) (x3 : Int32) (H : Heap) (locs : List Loc), va_P (dC, dI) vwCl (cf_yw cI hyw syw) H → va_D A (cf_yw cI hyw syw) → va_S A s.heap H locs → ∀ (ls : Array Slot), lv_has ls 5 [(1, .int a1), (2, .int x2), (3, .int x3)] → fL_wrongAnswer_62 syw a1 x2 x3 = some r → W p l e rmL_wrongAnswer s m ([.ref hyw, .int a1] : List Value).toArray below meth c H locs (0) (0) QQ (F0 m 62 ls []) := by
    intro x2 x3 H locs hP hD hS ls hl hf
    unfold fL_wrongAnswer_62 at hf
    refine lv_iconst (v := 0) hx hb dL_wrongAnswer_62 (by decide) ?_
    exact J63 x2 x3 0 _ _ hP hD hS _ (lv_sub hl [0, 1, 2] rfl) hf
  have J58 : ∀ (x2 : Int32) (x3 : Int32) (H : Heap) (locs : List Loc), va_P (dC, dI) vwCl (cf_yw cI hyw syw) H → va_D A (cf_yw cI hyw syw) → va_S A s.heap H locs → ∀ (ls : Array Slot), lv_has ls 5 [(1, .int a1), (2, .int x2), (3, .int x3)] → fL_wrongAnswer_58 syw a1 x2 x3 = some r → W p l e rmL_wrongAnswer s m ([.ref hyw, .int a1] : List Value).toArray below meth c H locs (0) (0) QQ (F0 m 58 ls []) := by
    intro x2 x3 H locs hP hD hS ls hl hf
    unfold fL_wrongAnswer_58 at hf
    refine lv_iconst (v := 1) hx hb dL_wrongAnswer_58 (by decide) ?_
    refine lv_goto (tgt := 63) hx hb dL_wrongAnswer_59 (by decide) ?_
    exact J63 x2 x3 1 _ _ hP hD hS _ (lv_sub hl [0, 1, 2] rfl) hf
  have J36 : ∀ (x2 : Int32) (x3 : Int32) (H : Heap) (locs : List Loc), va_P (dC, dI) vwCl (cf_yw cI hyw syw) H → va_D A (cf_yw cI hyw syw) → va_S A s.heap H locs → ∀ (ls : Array Slot), lv_has ls 5 [(0, .ref hyw), (1, .int a1), (2, .int x2), (3, .int x3)] → fL_wrongAnswer_36 syw a1 x2 x3 = some r → W p l e rmL_wrongAnswer s m ([.ref hyw, .int a1] : List Value).toArray below meth c H locs (0) (0) QQ (F0 m 36 ls []) := by
    intro x2 x3 H locs hP hD hS ls hl hf
    unfold fL_wrongAnswer_36 at hf
    refine lv_iload_n hx hb dL_wrongAnswer_36 rfl (lv_at hl 2 rfl) ?_
    refine lv_iload_n hx hb dL_wrongAnswer_37 rfl (lv_at hl 1 rfl) ?_
    refine lv_icmp_ge (tgt := 62) hx hb dL_wrongAnswer_38 (by decide) (fun c_1 => ?_) (fun c_1 => ?_)
    · have hf := it_t c_1 hf
      exact J62 x2 x3 _ _ hP hD hS _ (lv_sub hl [1, 2, 3] rfl) hf
    · have hf := it_f c_1 hf
      refine lv_aload_n hx hb dL_wrongAnswer_41 rfl (lv_at hl 0 rfl) ?_
      refine lv_iload_n hx hb dL_wrongAnswer_42 rfl (lv_at hl 2 rfl) ?_
      obtain ⟨hi_2, hf⟩ := ai_ok hf
      refine va_iald (n := 24) (f := syw) hx hb hK hP 0 0 rfl rfl hi_2 dL_wrongAnswer_43 ?_
      obtain ⟨r_3, hc_3, hf⟩ := bn1_ok hf
      refine gc_i (wc := ([] : va_W)) (wr := (cf_yw cI hyw syw)) (w1 := ([] : va_W)) (ws' := (cf_yw cI hyw syw)) hP hD hS hA [] [0] [0] rfl rfl (by decide) (by decide) rfl (by decide) (va_runS (As := [.int (syw x2.toNatClampNeg)]) (rest := []) ⟨hx, hb, hml, hown, hts⟩ (ktL_isNoun l dC dI _ (syw x2.toNatClampNeg) r_3 hc_3) (va_cwS 1 hts gL_wrongAnswer_L_isNoun rfl rfl rfl (by decide +kernel) ⟨Nat.le_of_ble_eq_true rfl, Nat.le_of_ble_eq_true rfl⟩) (gc_S (hP.sub (ws' := ([] : va_W)) [] rfl) (hK.sub (tys' := []) [] rfl) (hD.sub (ws' := ([] : va_W)) [] (by decide) rfl) hN) rfl rfl hl.1 rfl (lv_room (Nat.le_of_ble_eq_true rfl)) dL_wrongAnswer_44 ⟨by show (0) + 0 ≤ 0; omega, by show (0) + 0 ≤ 0; omega⟩) (fun H locs hP hD hS => ?_)
      refine lv_if_ne (tgt := 58) hx hb dL_wrongAnswer_47 (by decide) (fun c_4 => ?_) (fun c_4 => ?_)
      · have hf := it_f c_4 hf
        exact J58 x2 x3 _ _ hP hD hS _ (lv_sub hl [1, 2, 3] rfl) hf
      · have hf := it_t c_4 hf
        refine lv_aload_n hx hb dL_wrongAnswer_50 rfl (lv_at hl 0 rfl) ?_
        refine lv_iload_n hx hb dL_wrongAnswer_51 rfl (lv_at hl 2 rfl) ?_
        obtain ⟨hi_5, hf⟩ := ai_ok hf
        refine va_iald (n := 24) (f := syw) hx hb hK hP 0 0 rfl rfl hi_5 dL_wrongAnswer_52 ?_
        refine lv_bipush (v := 17) hx hb dL_wrongAnswer_53 (by decide) ?_
        refine lv_icmp_ne (tgt := 62) hx hb dL_wrongAnswer_55 (by decide) (fun c_6 => ?_) (fun c_6 => ?_)
        · have hf := it_f c_6 hf
          exact J62 x2 x3 _ _ hP hD hS _ (lv_sub hl [1, 2, 3] rfl) hf
        · have hf := it_t c_6 hf
          exact J58 x2 x3 _ _ hP hD hS _ (lv_sub hl [1, 2, 3] rfl) hf
  have J16 : ∀ (n : Nat) (x2 : Int32) (x3 : Int32) (H : Heap) (locs : List Loc), va_P (dC, dI) vwCl (cf_yw cI hyw syw) H → va_D A (cf_yw cI hyw syw) → va_S A s.heap H locs → ∀ (ls : Array Slot), lv_has ls 5 [(0, .ref hyw), (1, .int a1), (2, .int x2), (3, .int x3)] → fL_wrongAnswer_16 syw a1 n x2 x3 = some r → W p l e rmL_wrongAnswer s m ([.ref hyw, .int a1] : List Value).toArray below meth c H locs (0) (0) QQ (F0 m 16 ls []) := by
    intro n
    induction n with
    | zero =>
      intro x2 x3 H locs hP hD hS ls hl hf
      cases hf
    | succ n ih =>
      intro x2 x3 H locs hP hD hS ls hl hf
      rw [fL_wrongAnswer_16] at hf
      refine lv_iload_n hx hb dL_wrongAnswer_16 rfl (lv_at hl 2 rfl) ?_
      refine lv_iload_n hx hb dL_wrongAnswer_17 rfl (lv_at hl 1 rfl) ?_
      refine lv_icmp_ge (tgt := 36) hx hb dL_wrongAnswer_18 (by decide) (fun c_1 => ?_) (fun c_1 => ?_)
      · have hf := it_t c_1 hf
        exact J36 x2 x3 _ _ hP hD hS _ (lv_sub hl [0, 1, 2, 3] rfl) hf
      · have hf := it_f c_1 hf
        refine lv_aload_n hx hb dL_wrongAnswer_21 rfl (lv_at hl 0 rfl) ?_
        refine lv_iload_n hx hb dL_wrongAnswer_22 rfl (lv_at hl 2 rfl) ?_
        obtain ⟨hi_2, hf⟩ := ai_ok hf
        refine va_iald (n := 24) (f := syw) hx hb hK hP 0 0 rfl rfl hi_2 dL_wrongAnswer_23 ?_
        obtain ⟨r_3, hc_3, hf⟩ := bn1_ok hf
        refine gc_i (wc := ([] : va_W)) (wr := (cf_yw cI hyw syw)) (w1 := ([] : va_W)) (ws' := (cf_yw cI hyw syw)) hP hD hS hA [] [0] [0] rfl rfl (by decide) (by decide) rfl (by decide) (va_runS (As := [.int (syw x2.toNatClampNeg)]) (rest := []) ⟨hx, hb, hml, hown, hts⟩ (ktL_isAdjective l dC dI _ (syw x2.toNatClampNeg) r_3 hc_3) (va_cwS 1 hts gL_wrongAnswer_L_isAdjective rfl rfl rfl (by decide +kernel) ⟨Nat.le_of_ble_eq_true rfl, Nat.le_of_ble_eq_true rfl⟩) (gc_S (hP.sub (ws' := ([] : va_W)) [] rfl) (hK.sub (tys' := []) [] rfl) (hD.sub (ws' := ([] : va_W)) [] (by decide) rfl) hN) rfl rfl hl.1 rfl (lv_room (Nat.le_of_ble_eq_true rfl)) dL_wrongAnswer_24 ⟨by show (0) + 0 ≤ 0; omega, by show (0) + 0 ≤ 0; omega⟩) (fun H locs hP hD hS => ?_)
        refine lv_if_eq (tgt := 36) hx hb dL_wrongAnswer_27 (by decide) (fun c_4 => ?_) (fun c_4 => ?_)
        · have hf := it_t c_4 hf
          exact J36 x2 x3 _ _ hP hD hS _ (lv_sub hl [0, 1, 2, 3] rfl) hf
        · have hf := it_f c_4 hf
          refine lv_iinc (v := (x2 + 1)) (lv' := [(2, .int (x2 + 1)), (0, .ref hyw), (1, .int a1), (3, .int x3)]) hx hb dL_wrongAnswer_30 hl (k := 2) rfl rfl (by decide) rfl (fun ls hl => ?_)
          refine lv_goto (tgt := 16) hx hb dL_wrongAnswer_33 (by decide) ?_
          exact ih (x2 + 1) x3 _ _ hP hD hS _ (lv_sub hl [1, 2, 0, 3] rfl) hf
  have J13 : ∀ (t0 : Int32) (H : Heap) (locs : List Loc), va_P (dC, dI) vwCl (cf_yw cI hyw syw) H → va_D A (cf_yw cI hyw syw) → va_S A s.heap H locs → ∀ (ls : Array Slot), lv_has ls 5 [(0, .ref hyw), (1, .int a1)] → fL_wrongAnswer_13 syw a1 t0 = some r → W p l e rmL_wrongAnswer s m ([.ref hyw, .int a1] : List Value).toArray below meth c H locs (0) (0) QQ (F0 m 13 ls [.int t0]) := by
    intro t0 H locs hP hD hS ls hl hf
    unfold fL_wrongAnswer_13 at hf
    refine lv_istore_n (lv' := [(2, .int t0), (0, .ref hyw), (1, .int a1)]) hx hb dL_wrongAnswer_13 rfl hl (by decide) rfl (fun ls hl => ?_)
    refine lv_iload_n hx hb dL_wrongAnswer_14 rfl (lv_at hl 0 rfl) ?_
    refine lv_istore_n (lv' := [(3, .int t0), (2, .int t0), (0, .ref hyw), (1, .int a1)]) hx hb dL_wrongAnswer_15 rfl hl (by decide) rfl (fun ls hl => ?_)
    exact J16 64 t0 t0 _ _ hP hD hS _ (lv_sub hl [2, 3, 1, 0] rfl) hf
  unfold fL_wrongAnswer at hf
  refine lv_aload_n hx hb dL_wrongAnswer_0 rfl (lv_at hl 0 rfl) ?_
  refine lv_iconst (v := 0) hx hb dL_wrongAnswer_1 (by decide) ?_
  obtain ⟨hi_1, hf⟩ := ai_ok hf
  refine va_iald (n := 24) (f := syw) hx hb hK hP 0 0 rfl rfl hi_1 dL_wrongAnswer_2 ?_
  refine lv_bipush (v := 10) hx hb dL_wrongAnswer_3 (by decide) ?_
  refine lv_icmp_ne (tgt := 12) hx hb dL_wrongAnswer_5 (by decide) (fun c_2 => ?_) (fun c_2 => ?_)
  · have hf := it_f c_2 hf
    refine lv_iconst (v := 0) hx hb dL_wrongAnswer_12 (by decide) ?_
    exact J13 0 _ _ hP hD hS _ (lv_sub hl [0, 1] rfl) hf
  · have hf := it_t c_2 hf
    refine lv_iconst (v := 1) hx hb dL_wrongAnswer_8 (by decide) ?_
    refine lv_goto (tgt := 13) hx hb dL_wrongAnswer_9 (by decide) ?_
    exact J13 1 _ _ hP hD hS _ (lv_sub hl [0, 1] rfl) hf
