abbrev Syt : Type := Nat → Int32
abbrev Syz : Type := Nat → Int32
abbrev Syw : Type := Nat → Int32
abbrev Syu : Type := Nat → Int32
abbrev Syv : Type := Nat → Int32
abbrev Syf : Type := Nat → Int32
abbrev Syo : Type := Nat → Int32
abbrev Syk : Type := Nat → Int32
def nz {β : Type} (y : Int32) (x : Option β) : Option β := if y = 0 then none else x
theorem nz_ok {β : Type} {y : Int32} {x : Option β} {r : β} (h : nz y x = some r) : ¬ y = 0 ∧ x = some r := by
  unfold nz at h
  by_cases q : y = 0
  · rw [if_pos q] at h; cases h
  · rw [if_neg q] at h; exact ⟨q, h⟩
def nk {β : Type} (k : Int32) (x : Option β) : Option β := if k = 0 then x else none
theorem nk_ok {β : Type} {k : Int32} {x : Option β} {r : β} (h : nk k x = some r) : k = 0 ∧ x = some r := by
  unfold nk at h
  by_cases q : k = 0
  · rw [if_pos q] at h; exact ⟨q, h⟩
  · rw [if_neg q] at h; cases h
def fL_worded (s3 : S3) (s5 : S5) (a1 : Int32) : Option (Int32 × S3) :=
  bn3 (fX5_word s3 s5 a1) fun k r s3n =>
  some (if k = 0 then r else if k = 1 then (-101) else (-102), if k = 0 then s3n else s3)
def fL_backed (s3 : S3) (s5 : S5) : Option (Int32 × S3) :=
  bn3 (fX5_back s3 s5) fun k r s3n =>
  some (if k = 0 then r else (-101), if k = 0 then s3n else s3)
def fL_placed (s4 : S4) (s5 : S5) (a1 : Int32) : Option (Int32) :=
  bn2 (fX5_placeOf s4 s5 a1) fun k r =>
  some (if k = 0 then r else (-101))
def fL_opened (s4 : S4) (s5 : S5) (a1 : Int32) : Option (Int32) :=
  bn2 (fX5_isOpen s4 s5 a1) fun k r =>
  some (if k = 0 then (if r = 0 then 0 else 1) else (-101))
def fL_cell_25 (L : Nat) (xs : Nat → Int32) (a1 : Int32) (t0 : Int32) : Option (Int32) :=
    some t0
def fL_cell (L : Nat) (xs : Nat → Int32) (a1 : Int32) : Option (Int32) :=
  if (Int32.ofNat L) ≤ a1 then
    fL_cell_25 L xs a1 (((((3935559001 : Int64) * ((a1 + 12).toInt64)).toUInt64 >>> ((8 : Int32).toInt64.toUInt64 &&& Int64.toUInt64 63)).toInt64).toInt32)
  else
    ai L a1 <|
    fL_cell_25 L xs a1 (xs a1.toNatClampNeg)
def fL_some (a0 : Int32) (a1 : Int32) : Option (Int32) :=
  nz a1 <|
  some (((a0.toUInt32 >>> ((2 : Int32).toUInt32 &&& Int32.toUInt32 31)).toInt32) - ((a0.toUInt32 >>> ((2 : Int32).toUInt32 &&& Int32.toUInt32 31)).toInt32) / a1 * a1)
def fL_isAdjective_17 (a0 : Int32) (t0 : Int32) : Option (Int32) :=
    bo t0 <|
    some t0
def fL_isAdjective_16 (a0 : Int32) : Option (Int32) :=
    fL_isAdjective_17 a0 0
def fL_isAdjective (a0 : Int32) : Option (Int32) :=
  if a0 ≤ 19 then
    fL_isAdjective_16 a0
  else
    if 26 ≤ a0 then
      fL_isAdjective_16 a0
    else
      fL_isAdjective_17 a0 1
def fL_isNoun_17 (a0 : Int32) (t0 : Int32) : Option (Int32) :=
    bo t0 <|
    some t0
def fL_isNoun_16 (a0 : Int32) : Option (Int32) :=
    fL_isNoun_17 a0 0
def fL_isNoun (a0 : Int32) : Option (Int32) :=
  if a0 ≤ 29 then
    fL_isNoun_16 a0
  else
    if 38 ≤ a0 then
      fL_isNoun_16 a0
    else
      fL_isNoun_17 a0 1
def fL_isPlural_17 (a0 : Int32) (t0 : Int32) : Option (Int32) :=
    bo t0 <|
    some t0
def fL_isPlural_16 (a0 : Int32) : Option (Int32) :=
    fL_isPlural_17 a0 0
def fL_isPlural (a0 : Int32) : Option (Int32) :=
  if a0 ≤ 39 then
    fL_isPlural_16 a0
  else
    if 48 ≤ a0 then
      fL_isPlural_16 a0
    else
      fL_isPlural_17 a0 1
def fL_reach_65 (syt : Syt) (syz : Syz) (k4 : Int32 → Int32 → Option (Int32)) (k13 : Int32 → Int32 → Int32 → Option (Int32)) (x3 : Int32) (x4 : Int32) (t0 : Int32) (t1 : Int32) : Option (Int32) :=
    k13 (t0 ||| t1) x3 (x4 + 1)
def fL_reach_57 (syt : Syt) (syz : Syz) (k4 : Int32 → Int32 → Option (Int32)) (k13 : Int32 → Int32 → Int32 → Option (Int32)) (x3 : Int32) (x4 : Int32) (t0 : Int32) : Option (Int32) :=
    fL_reach_65 syt syz k4 k13 x3 x4 t0 ((1 : Int32) <<< (x4 &&& 31))
def fL_reach_64 (syt : Syt) (syz : Syz) (k4 : Int32 → Int32 → Option (Int32)) (k13 : Int32 → Int32 → Int32 → Option (Int32)) (x3 : Int32) (x4 : Int32) (t0 : Int32) : Option (Int32) :=
    fL_reach_65 syt syz k4 k13 x3 x4 t0 0
def fL_reach_13 (syt : Syt) (syz : Syz) (k4 : Int32 → Int32 → Option (Int32)) : Nat → Int32 → Int32 → Int32 → Option (Int32)
  | 0, _, _, _ => none
  | n + 1, x2, x3, x4 =>
      ai 13 0 <|
      if (syz (0 : Int32).toNatClampNeg) ≤ x4 then
        k4 x2 (x3 + 1)
      else
        ai 30 (24 + x4) <|
        if (syt (24 + x4).toNatClampNeg) < 0 then
          fL_reach_57 syt syz k4 (fun x2 x3 x4 => fL_reach_13 syt syz k4 n x2 x3 x4) x3 x4 x2
        else
          ai 30 (18 + (syt (24 + x4).toNatClampNeg)) <|
          if (syt (18 + (syt (24 + x4).toNatClampNeg)).toNatClampNeg) = 1 then
            if ((x2 >>> ((syt (24 + x4).toNatClampNeg) &&& 31)) &&& 1) = 1 then
              fL_reach_57 syt syz k4 (fun x2 x3 x4 => fL_reach_13 syt syz k4 n x2 x3 x4) x3 x4 x2
            else
              fL_reach_64 syt syz k4 (fun x2 x3 x4 => fL_reach_13 syt syz k4 n x2 x3 x4) x3 x4 x2
          else
            fL_reach_64 syt syz k4 (fun x2 x3 x4 => fL_reach_13 syt syz k4 n x2 x3 x4) x3 x4 x2
def fL_reach_4 (syt : Syt) (syz : Syz) : Nat → Int32 → Int32 → Option (Int32)
  | 0, _, _ => none
  | n + 1, x2, x3 =>
      if 7 ≤ x3 then
        some x2
      else
        fL_reach_13 syt syz (fun x2 x3 => fL_reach_4 syt syz n x2 x3) 64 x2 x3 0
def fL_reach (syt : Syt) (syz : Syz) : Option (Int32) :=
  fL_reach_4 syt syz 64 0 0
def fL_held_30 (syt : Syt) (syz : Syz) (k4 : Int32 → Int32 → Option (Int32)) (x3 : Int32) (t0 : Int32) (t1 : Int32) : Option (Int32) :=
    k4 (t0 ||| t1) (x3 + 1)
def fL_held_4 (syt : Syt) (syz : Syz) : Nat → Int32 → Int32 → Option (Int32)
  | 0, _, _ => none
  | n + 1, x2, x3 =>
      ai 13 0 <|
      if (syz (0 : Int32).toNatClampNeg) ≤ x3 then
        some x2
      else
        ai 30 (24 + x3) <|
        if (syt (24 + x3).toNatClampNeg) = (-3) then
          fL_held_30 syt syz (fun x2 x3 => fL_held_4 syt syz n x2 x3) x3 x2 ((1 : Int32) <<< (x3 &&& 31))
        else
          fL_held_30 syt syz (fun x2 x3 => fL_held_4 syt syz n x2 x3) x3 x2 0
def fL_held (syt : Syt) (syz : Syz) : Option (Int32) :=
  fL_held_4 syt syz 64 0 0
def fL_suited_93 (syt : Syt) (syz : Syz) (a2 : Int32) (t0 : Int32) : Option (Int32) :=
    bn1 (fL_reach syt syz) fun r_1 =>
    some (r_1 &&& t0)
def fL_suited_8 (syt : Syt) (syz : Syz) (a2 : Int32) : Nat → Int32 → Int32 → Int32 → Option (Int32)
  | 0, _, _, _ => none
  | n + 1, x3, x4, x5 =>
      ai 13 0 <|
      if (syz (0 : Int32).toNatClampNeg) ≤ x5 then
        bn1 (fL_held syt syz) fun r_3 =>
        if a2 = 0 then
          fL_suited_93 syt syz a2 (r_3 ^^^ (-1))
        else
          if 3 ≤ a2 then
            if a2 = 3 then
              fL_suited_93 syt syz a2 (x4 &&& (x3 ^^^ (-1)))
            else
              fL_suited_93 syt syz a2 x3
          else
            fL_suited_93 syt syz a2 r_3
      else
        ai 30 (18 + x5) <|
        ai 30 (12 + x5) <|
        fL_suited_8 syt syz a2 n (x3 ||| ((syt (18 + x5).toNatClampNeg) <<< (x5 &&& 31))) (x4 ||| ((syt (12 + x5).toNatClampNeg) <<< (x5 &&& 31))) (x5 + 1)
def fL_suited (syt : Syt) (syz : Syz) (a2 : Int32) : Option (Int32) :=
  fL_suited_8 syt syz a2 64 0 0 0
def fL_bits_4 (a0 : Int32) : Nat → Int32 → Int32 → Option (Int32)
  | 0, _, _ => none
  | n + 1, x1, x2 =>
      if 6 ≤ x2 then
        some x1
      else
        fL_bits_4 a0 n (x1 + ((a0 >>> (x2 &&& 31)) &&& 1)) (x2 + 1)
def fL_bits (a0 : Int32) : Option (Int32) :=
  fL_bits_4 a0 64 0 0
def fL_only_24 (a0 : Int32) (k4 : Int32 → Int32 → Option (Int32)) (x2 : Int32) (t0 : Int32) : Option (Int32) :=
    k4 t0 (x2 + 1)
def fL_only_4 (a0 : Int32) : Nat → Int32 → Int32 → Option (Int32)
  | 0, _, _ => none
  | n + 1, x1, x2 =>
      if 6 ≤ x2 then
        some x1
      else
        if ((a0 >>> (x2 &&& 31)) &&& 1) = 1 then
          fL_only_24 a0 (fun x1 x2 => fL_only_4 a0 n x1 x2) x2 x2
        else
          fL_only_24 a0 (fun x1 x2 => fL_only_4 a0 n x1 x2) x2 x1
def fL_only (a0 : Int32) : Option (Int32) :=
  fL_only_4 a0 64 (-1) 0
def fL_fitting_85 (syt : Syt) (syw : Syw) (a1 : Int32) (a3 : Int32) (a4 : Int32) (a5 : Int32) (k6 : Int32 → Int32 → Option (Int32)) (k37 : Int32 → Int32 → Int32 → Int32 → Option (Int32)) (x6 : Int32) (x7 : Int32) (x9 : Int32) (t0 : Int32) : Option (Int32) :=
    k37 x6 x7 t0 (x9 + 1)
def fL_fitting_84 (syt : Syt) (syw : Syw) (a1 : Int32) (a3 : Int32) (a4 : Int32) (a5 : Int32) (k6 : Int32 → Int32 → Option (Int32)) (k37 : Int32 → Int32 → Int32 → Int32 → Option (Int32)) (x6 : Int32) (x7 : Int32) (x9 : Int32) : Option (Int32) :=
    fL_fitting_85 syt syw a1 a3 a4 a5 k6 k37 x6 x7 x9 0
def fL_fitting_80 (syt : Syt) (syw : Syw) (a1 : Int32) (a3 : Int32) (a4 : Int32) (a5 : Int32) (k6 : Int32 → Int32 → Option (Int32)) (k37 : Int32 → Int32 → Int32 → Int32 → Option (Int32)) (x6 : Int32) (x7 : Int32) (x9 : Int32) : Option (Int32) :=
    fL_fitting_85 syt syw a1 a3 a4 a5 k6 k37 x6 x7 x9 1
def fL_fitting_110 (syt : Syt) (syw : Syw) (a1 : Int32) (a3 : Int32) (a4 : Int32) (a5 : Int32) (k6 : Int32 → Int32 → Option (Int32)) (x7 : Int32) (t0 : Int32) (t1 : Int32) : Option (Int32) :=
    k6 (t0 &&& t1) (x7 + 1)
def fL_fitting_37 (syt : Syt) (syw : Syw) (a1 : Int32) (a3 : Int32) (a4 : Int32) (a5 : Int32) (k6 : Int32 → Int32 → Option (Int32)) : Nat → Int32 → Int32 → Int32 → Int32 → Option (Int32)
  | 0, _, _, _, _ => none
  | n + 1, x6, x7, x8, x9 =>
      if a4 < x9 then
        if x8 = 0 then
          fL_fitting_110 syt syw a1 a3 a4 a5 k6 x7 x6 (((1 : Int32) <<< (x7 &&& 31)) ^^^ (-1))
        else
          fL_fitting_110 syt syw a1 a3 a4 a5 k6 x7 x6 (-1)
      else
        if x8 = 0 then
          fL_fitting_84 syt syw a1 a3 a4 a5 k6 (fun x6 x7 x8 x9 => fL_fitting_37 syt syw a1 a3 a4 a5 k6 n x6 x7 x8 x9) x6 x7 x9
        else
          ai 24 x9 <|
          bn1 (fL_isAdjective (syw x9.toNatClampNeg)) fun r_5 =>
          if r_5 = 0 then
            fL_fitting_80 syt syw a1 a3 a4 a5 k6 (fun x6 x7 x8 x9 => fL_fitting_37 syt syw a1 a3 a4 a5 k6 n x6 x7 x8 x9) x6 x7 x9
          else
            ai 30 (6 + x7) <|
            ai 24 x9 <|
            if (((syt (6 + x7).toNatClampNeg) >>> (((syw x9.toNatClampNeg) - 20) &&& 31)) &&& 1) = 1 then
              fL_fitting_80 syt syw a1 a3 a4 a5 k6 (fun x6 x7 x8 x9 => fL_fitting_37 syt syw a1 a3 a4 a5 k6 n x6 x7 x8 x9) x6 x7 x9
            else
              fL_fitting_84 syt syw a1 a3 a4 a5 k6 (fun x6 x7 x8 x9 => fL_fitting_37 syt syw a1 a3 a4 a5 k6 n x6 x7 x8 x9) x6 x7 x9
def fL_fitting_32 (syt : Syt) (syw : Syw) (a1 : Int32) (a3 : Int32) (a4 : Int32) (a5 : Int32) (k6 : Int32 → Int32 → Option (Int32)) (x6 : Int32) (x7 : Int32) (t0 : Int32) : Option (Int32) :=
    fL_fitting_37 syt syw a1 a3 a4 a5 k6 64 x6 x7 t0 a3
def fL_fitting_27 (syt : Syt) (syw : Syw) (a1 : Int32) (a3 : Int32) (a4 : Int32) (a5 : Int32) (k6 : Int32 → Int32 → Option (Int32)) (x6 : Int32) (x7 : Int32) : Option (Int32) :=
    fL_fitting_32 syt syw a1 a3 a4 a5 k6 x6 x7 1
def fL_fitting_6 (syt : Syt) (syw : Syw) (a1 : Int32) (a3 : Int32) (a4 : Int32) (a5 : Int32) : Nat → Int32 → Int32 → Option (Int32)
  | 0, _, _ => none
  | n + 1, x6, x7 =>
      if 6 ≤ x7 then
        some x6
      else
        if a5 < 0 then
          fL_fitting_27 syt syw a1 a3 a4 a5 (fun x6 x7 => fL_fitting_6 syt syw a1 a3 a4 a5 n x6 x7) x6 x7
        else
          ai 30 x7 <|
          if (syt x7.toNatClampNeg) = a5 then
            fL_fitting_27 syt syw a1 a3 a4 a5 (fun x6 x7 => fL_fitting_6 syt syw a1 a3 a4 a5 n x6 x7) x6 x7
          else
            fL_fitting_32 syt syw a1 a3 a4 a5 (fun x6 x7 => fL_fitting_6 syt syw a1 a3 a4 a5 n x6 x7) x6 x7 0
def fL_fitting (syt : Syt) (syw : Syw) (a1 : Int32) (a3 : Int32) (a4 : Int32) (a5 : Int32) : Option (Int32) :=
  fL_fitting_6 syt syw a1 a3 a4 a5 64 a1 0
def fL_described_144 (syw : Syw) (a1 : Int32) (a2 : Int32) (a3 : Int32) (t0 : Int32) : Option (Int32) :=
    some t0
def fL_described_126 (syw : Syw) (a1 : Int32) (a2 : Int32) (a3 : Int32) (x4 : Int32) (t0 : Int32) : Option (Int32) :=
    if t0 = 0 then
      fL_described_144 syw a1 a2 a3 ((-1) - x4)
    else
      fL_described_144 syw a1 a2 a3 (x4 + 1)
def fL_described_125 (syw : Syw) (a1 : Int32) (a2 : Int32) (a3 : Int32) (x4 : Int32) : Option (Int32) :=
    fL_described_126 syw a1 a2 a3 x4 0
def fL_described_121 (syw : Syw) (a1 : Int32) (a2 : Int32) (a3 : Int32) (x4 : Int32) : Option (Int32) :=
    fL_described_126 syw a1 a2 a3 x4 1
def fL_described_106 (syw : Syw) (a1 : Int32) (a2 : Int32) (a3 : Int32) (x4 : Int32) : Option (Int32) :=
    if a3 = 1 then
      ai 24 x4 <|
      bn1 (fL_isPlural (syw x4.toNatClampNeg)) fun r_3 =>
      if r_3 = 0 then
        fL_described_125 syw a1 a2 a3 x4
      else
        fL_described_121 syw a1 a2 a3 x4
    else
      fL_described_125 syw a1 a2 a3 x4
def fL_described_74 (syw : Syw) (a1 : Int32) (a2 : Int32) (a3 : Int32) (x4 : Int32) (x5 : Int32) : Option (Int32) :=
    if a1 ≤ x4 then
      fL_described_125 syw a1 a2 a3 x4
    else
      ai 24 x4 <|
      bn1 (fL_isNoun (syw x4.toNatClampNeg)) fun r_3 =>
      if r_3 = 0 then
        ai 24 x4 <|
        if (syw x4.toNatClampNeg) = 17 then
          if x5 < x4 then
            fL_described_121 syw a1 a2 a3 x4
          else
            fL_described_106 syw a1 a2 a3 x4
        else
          fL_described_106 syw a1 a2 a3 x4
      else
        fL_described_121 syw a1 a2 a3 x4
def fL_described_52 (syw : Syw) (a1 : Int32) (a2 : Int32) (a3 : Int32) : Nat → Int32 → Int32 → Option (Int32)
  | 0, _, _ => none
  | n + 1, x4, x5 =>
      if a1 ≤ x4 then
        fL_described_74 syw a1 a2 a3 x4 x5
      else
        ai 24 x4 <|
        bn1 (fL_isAdjective (syw x4.toNatClampNeg)) fun r_3 =>
        if r_3 = 0 then
          fL_described_74 syw a1 a2 a3 x4 x5
        else
          fL_described_52 syw a1 a2 a3 n (x4 + 1) x5
def fL_described_45 (syw : Syw) (a1 : Int32) (a2 : Int32) (a3 : Int32) (t0 : Int32) (t1 : Int32) : Option (Int32) :=
    fL_described_52 syw a1 a2 a3 64 (t0 + t1) (t0 + t1)
def fL_described_44 (syw : Syw) (a1 : Int32) (a2 : Int32) (a3 : Int32) (t0 : Int32) : Option (Int32) :=
    fL_described_45 syw a1 a2 a3 t0 0
def fL_described_23 (syw : Syw) (a1 : Int32) (a2 : Int32) (a3 : Int32) (x4 : Int32) : Option (Int32) :=
    if a1 ≤ x4 then
      fL_described_44 syw a1 a2 a3 x4
    else
      ai 24 x4 <|
      if (syw x4.toNatClampNeg) = 10 then
        fL_described_45 syw a1 a2 a3 x4 1
      else
        fL_described_44 syw a1 a2 a3 x4
def fL_described (syw : Syw) (a1 : Int32) (a2 : Int32) (a3 : Int32) : Option (Int32) :=
  if a1 ≤ a2 then
    fL_described_23 syw a1 a2 a3 a2
  else
    ai 24 a2 <|
    if (syw a2.toNatClampNeg) = 14 then
      some (a2 + 1)
    else
      fL_described_23 syw a1 a2 a3 a2
def fL_leftOut_49 (syw : Syw) (a1 : Int32) (a2 : Int32) (x3 : Int32) : Option (Int32) :=
    some x3
def fL_leftOut_8 (syw : Syw) (a1 : Int32) (a2 : Int32) : Nat → Int32 → Option (Int32)
  | 0, _ => none
  | n + 1, x3 =>
      if x3 ≤ 0 then
        fL_leftOut_49 syw a1 a2 x3
      else
        if a1 ≤ x3 then
          fL_leftOut_49 syw a1 a2 x3
        else
          ai 24 x3 <|
          if (syw x3.toNatClampNeg) = 13 then
            bn1 (fL_described syw a1 (x3 + 1) 0) fun r_5 =>
            if 0 ≤ r_5 then
              fL_leftOut_8 syw a1 a2 n r_5
            else
              some x3
          else
            fL_leftOut_49 syw a1 a2 x3
def fL_leftOut (syw : Syw) (a1 : Int32) (a2 : Int32) : Option (Int32) :=
  bn1 (fL_described syw a1 a2 0) fun r_1 =>
  fL_leftOut_8 syw a1 a2 64 r_1
def fL_part_156 (syw : Syw) (a1 : Int32) (a2 : Int32) (t0 : Int32) : Option (Int32) :=
    some t0
def fL_part_155 (syw : Syw) (a1 : Int32) (a2 : Int32) (x3 : Int32) : Option (Int32) :=
    fL_part_156 syw a1 a2 x3
def fL_part_131 (syw : Syw) (a1 : Int32) (a2 : Int32) (x3 : Int32) : Option (Int32) :=
    if a1 ≤ x3 then
      fL_part_155 syw a1 a2 x3
    else
      ai 24 x3 <|
      if (syw x3.toNatClampNeg) = 12 then
        bn1 (fL_leftOut syw a1 (x3 + 1)) fun r_4 =>
        fL_part_156 syw a1 a2 r_4
      else
        fL_part_155 syw a1 a2 x3
def fL_part_101 (syw : Syw) (a1 : Int32) (a2 : Int32) (t0 : Int32) (t1 : Int32) : Option (Int32) :=
    fL_part_131 syw a1 a2 (t0 + t1)
def fL_part_90 (syw : Syw) (a1 : Int32) (a2 : Int32) (x3 : Int32) (x4 : Int32) : Option (Int32) :=
    if x4 = 0 then
      fL_part_101 syw a1 a2 x3 0
    else
      fL_part_101 syw a1 a2 x3 1
def fL_part_72 (syw : Syw) (a1 : Int32) (a2 : Int32) (x3 : Int32) (t0 : Int32) : Option (Int32) :=
    if t0 = 0 then
      if x3 ≤ (a2 + 1) then
        fL_part_90 syw a1 a2 x3 t0
      else
        some ((-1) - x3)
    else
      fL_part_90 syw a1 a2 x3 t0
def fL_part_71 (syw : Syw) (a1 : Int32) (a2 : Int32) (x3 : Int32) : Option (Int32) :=
    fL_part_72 syw a1 a2 x3 0
def fL_part_53 (syw : Syw) (a1 : Int32) (a2 : Int32) (x3 : Int32) : Option (Int32) :=
    if a1 ≤ x3 then
      fL_part_71 syw a1 a2 x3
    else
      ai 24 x3 <|
      bn1 (fL_isPlural (syw x3.toNatClampNeg)) fun r_3 =>
      if r_3 = 0 then
        fL_part_71 syw a1 a2 x3
      else
        fL_part_72 syw a1 a2 x3 1
def fL_part_33 (syw : Syw) (a1 : Int32) (a2 : Int32) : Nat → Int32 → Option (Int32)
  | 0, _ => none
  | n + 1, x3 =>
      if a1 ≤ x3 then
        fL_part_53 syw a1 a2 x3
      else
        ai 24 x3 <|
        bn1 (fL_isAdjective (syw x3.toNatClampNeg)) fun r_3 =>
        if r_3 = 0 then
          fL_part_53 syw a1 a2 x3
        else
          fL_part_33 syw a1 a2 n (x3 + 1)
def fL_part_129 (syw : Syw) (a1 : Int32) (a2 : Int32) (x3 : Int32) : Option (Int32) :=
    some x3
def fL_part (syw : Syw) (a1 : Int32) (a2 : Int32) : Option (Int32) :=
  if a2 = a1 then
    some ((-1) - a1)
  else
    ai 24 a2 <|
    if (syw a2.toNatClampNeg) = 15 then
      some (a2 + 1)
    else
      ai 24 a2 <|
      if (syw a2.toNatClampNeg) = 11 then
        fL_part_33 syw a1 a2 64 (a2 + 1)
      else
        bn1 (fL_described syw a1 a2 1) fun r_6 =>
        if r_6 < 0 then
          fL_part_129 syw a1 a2 r_6
        else
          ai 24 (r_6 - 1) <|
          bn1 (fL_isPlural (syw (r_6 - 1).toNatClampNeg)) fun r_9 =>
          if r_9 = 0 then
            fL_part_129 syw a1 a2 r_6
          else
            fL_part_131 syw a1 a2 r_6
def fL_wrongOrder_96 (syw : Syw) (a1 : Int32) (t0 : Int32) : Option (Int32) :=
    some t0
def fL_wrongOrder_76 (syw : Syw) (a1 : Int32) (x2 : Int32) : Option (Int32) :=
    if 0 ≤ x2 then
      if a1 ≤ x2 then
        fL_wrongOrder_96 syw a1 (-1)
      else
        fL_wrongOrder_96 syw a1 x2
    else
      fL_wrongOrder_96 syw a1 ((-1) - x2)
def fL_wrongOrder_75 (syw : Syw) (a1 : Int32) (t0 : Int32) : Option (Int32) :=
    fL_wrongOrder_76 syw a1 t0
def fL_wrongOrder_72 (syw : Syw) (a1 : Int32) (x2 : Int32) : Option (Int32) :=
    fL_wrongOrder_75 syw a1 ((-1) - x2)
def fL_wrongOrder_36 (syw : Syw) (a1 : Int32) (x2 : Int32) : Option (Int32) :=
    if x2 ≤ 0 then
      fL_wrongOrder_76 syw a1 x2
    else
      ai 24 0 <|
      if (syw (0 : Int32).toNatClampNeg) = 2 then
        if a1 ≤ x2 then
          fL_wrongOrder_72 syw a1 x2
        else
          ai 24 x2 <|
          if (syw x2.toNatClampNeg) = 16 then
            bn1 (fL_described syw a1 (x2 + 1) 0) fun r_7 =>
            fL_wrongOrder_75 syw a1 r_7
          else
            fL_wrongOrder_72 syw a1 x2
      else
        fL_wrongOrder_76 syw a1 x2
def fL_wrongOrder_7 (syw : Syw) (a1 : Int32) : Nat → Int32 → Option (Int32)
  | 0, _ => none
  | n + 1, x2 =>
      if x2 ≤ 0 then
        fL_wrongOrder_36 syw a1 x2
      else
        if a1 ≤ x2 then
          fL_wrongOrder_36 syw a1 x2
        else
          ai 24 x2 <|
          if (syw x2.toNatClampNeg) = 13 then
            bn1 (fL_part syw a1 (x2 + 1)) fun r_5 =>
            fL_wrongOrder_7 syw a1 n r_5
          else
            fL_wrongOrder_36 syw a1 x2
def fL_wrongOrder (syw : Syw) (a1 : Int32) : Option (Int32) :=
  bn1 (fL_part syw a1 1) fun r_1 =>
  fL_wrongOrder_7 syw a1 64 r_1
def fL_wrongAnswer_97 (syw : Syw) (a1 : Int32) (t0 : Int32) : Option (Int32) :=
    some t0
def fL_wrongAnswer_76 (syw : Syw) (a1 : Int32) (x3 : Int32) (t0 : Int32) (t1 : Int32) : Option (Int32) :=
    if a1 ≤ (t0 + t1) then
      if (t0 + t1) = x3 then
        fL_wrongAnswer_97 syw a1 a1
      else
        fL_wrongAnswer_97 syw a1 (-1)
    else
      fL_wrongAnswer_97 syw a1 (t0 + t1)
def fL_wrongAnswer_63 (syw : Syw) (a1 : Int32) (x2 : Int32) (x3 : Int32) (t0 : Int32) : Option (Int32) :=
    if t0 = 0 then
      fL_wrongAnswer_76 syw a1 x3 x2 0
    else
      fL_wrongAnswer_76 syw a1 x3 x2 1
def fL_wrongAnswer_62 (syw : Syw) (a1 : Int32) (x2 : Int32) (x3 : Int32) : Option (Int32) :=
    fL_wrongAnswer_63 syw a1 x2 x3 0
def fL_wrongAnswer_58 (syw : Syw) (a1 : Int32) (x2 : Int32) (x3 : Int32) : Option (Int32) :=
    fL_wrongAnswer_63 syw a1 x2 x3 1
def fL_wrongAnswer_36 (syw : Syw) (a1 : Int32) (x2 : Int32) (x3 : Int32) : Option (Int32) :=
    if a1 ≤ x2 then
      fL_wrongAnswer_62 syw a1 x2 x3
    else
      ai 24 x2 <|
      bn1 (fL_isNoun (syw x2.toNatClampNeg)) fun r_3 =>
      if r_3 = 0 then
        ai 24 x2 <|
        if (syw x2.toNatClampNeg) = 17 then
          fL_wrongAnswer_58 syw a1 x2 x3
        else
          fL_wrongAnswer_62 syw a1 x2 x3
      else
        fL_wrongAnswer_58 syw a1 x2 x3
def fL_wrongAnswer_16 (syw : Syw) (a1 : Int32) : Nat → Int32 → Int32 → Option (Int32)
  | 0, _, _ => none
  | n + 1, x2, x3 =>
      if a1 ≤ x2 then
        fL_wrongAnswer_36 syw a1 x2 x3
      else
        ai 24 x2 <|
        bn1 (fL_isAdjective (syw x2.toNatClampNeg)) fun r_3 =>
        if r_3 = 0 then
          fL_wrongAnswer_36 syw a1 x2 x3
        else
          fL_wrongAnswer_16 syw a1 n (x2 + 1) x3
def fL_wrongAnswer_13 (syw : Syw) (a1 : Int32) (t0 : Int32) : Option (Int32) :=
    fL_wrongAnswer_16 syw a1 64 t0 t0
def fL_wrongAnswer (syw : Syw) (a1 : Int32) : Option (Int32) :=
  ai 24 0 <|
  if (syw (0 : Int32).toNatClampNeg) = 10 then
    fL_wrongAnswer_13 syw a1 1
  else
    fL_wrongAnswer_13 syw a1 0
def fL_phrases_322 (syw : Syw) (a1 : Int32) (syf : Syf) (syo : Syo) (syk : Syk) (x5 : Int32) : Option (Int32 × Syf × Syo × Syk) :=
    some (x5, syf, syo, syk)
def fL_phrases_292 (syw : Syw) (a1 : Int32) (syf : Syf) (syo : Syo) (syk : Syk) (x5 : Int32) (x6 : Int32) : Option (Int32 × Syf × Syo × Syk) :=
    if a1 ≤ x6 then
      fL_phrases_322 syw a1 syf syo syk x5
    else
      ai 24 x5 <|
      ai 24 x5 <|
      ai 24 x5 <|
      fL_phrases_322 syw a1 (upd syf x5.toNatClampNeg (x6 + 1)) (upd syo x5.toNatClampNeg (a1 - 1)) (upd syk x5.toNatClampNeg 4) (x5 + 1)
def fL_phrases_273 (syw : Syw) (a1 : Int32) (k6 : Syf → Syo → Syk → Int32 → Int32 → Option (Int32 × Syf × Syo × Syk)) (syf : Syf) (syo : Syo) (syk : Syk) (x5 : Int32) (x6 : Int32) (t1 : Int32) (t2 : Int32) : Option (Int32 × Syf × Syo × Syk) :=
    ai 24 t1 <|
    if a1 ≤ x6 then
      fL_phrases_292 syw a1 syf syo (upd syk t1.toNatClampNeg t2) (x5 + 1) x6
    else
      ai 24 x6 <|
      if (syw x6.toNatClampNeg) = 13 then
        k6 syf syo (upd syk t1.toNatClampNeg t2) (x5 + 1) x6
      else
        fL_phrases_292 syw a1 syf syo (upd syk t1.toNatClampNeg t2) (x5 + 1) x6
def fL_phrases_268 (syw : Syw) (a1 : Int32) (k6 : Syf → Syo → Syk → Int32 → Int32 → Option (Int32 × Syf × Syo × Syk)) (syf : Syf) (syo : Syo) (syk : Syk) (x5 : Int32) (x6 : Int32) (t1 : Int32) : Option (Int32 × Syf × Syo × Syk) :=
    fL_phrases_273 syw a1 k6 syf syo syk x5 x6 t1 1
def fL_phrases_220 (syw : Syw) (a1 : Int32) (k6 : Syf → Syo → Syk → Int32 → Int32 → Option (Int32 × Syf × Syo × Syk)) (syf : Syf) (syo : Syo) (syk : Syk) (x5 : Int32) (x6 : Int32) (x7 : Int32) (x8 : Int32) : Option (Int32 × Syf × Syo × Syk) :=
    ai 24 x5 <|
    ai 24 x5 <|
    ai 24 x8 <|
    if (syw x8.toNatClampNeg) = 15 then
      fL_phrases_273 syw a1 k6 (upd syf x5.toNatClampNeg x7) (upd syo x5.toNatClampNeg x8) syk x5 x6 x5 2
    else
      ai 24 x8 <|
      if (syw x8.toNatClampNeg) = 11 then
        fL_phrases_268 syw a1 k6 (upd syf x5.toNatClampNeg x7) (upd syo x5.toNatClampNeg x8) syk x5 x6 x5
      else
        ai 24 x8 <|
        bn1 (fL_isPlural (syw x8.toNatClampNeg)) fun r_8 =>
        if r_8 = 0 then
          fL_phrases_273 syw a1 k6 (upd syf x5.toNatClampNeg x7) (upd syo x5.toNatClampNeg x8) syk x5 x6 x5 0
        else
          fL_phrases_268 syw a1 k6 (upd syf x5.toNatClampNeg x7) (upd syo x5.toNatClampNeg x8) syk x5 x6 x5
def fL_phrases_215 (syw : Syw) (a1 : Int32) (k6 : Syf → Syo → Syk → Int32 → Int32 → Option (Int32 × Syf × Syo × Syk)) (k136 : Syf → Syo → Syk → Int32 → Int32 → Int32 → Int32 → Int32 → Option (Int32 × Syf × Syo × Syk)) (syf : Syf) (syo : Syo) (syk : Syk) (x5 : Int32) (x6 : Int32) (x7 : Int32) (x8 : Int32) (t0 : Int32) : Option (Int32 × Syf × Syo × Syk) :=
    k136 syf syo syk x5 x6 x7 x8 t0
def fL_phrases_214 (syw : Syw) (a1 : Int32) (k6 : Syf → Syo → Syk → Int32 → Int32 → Option (Int32 × Syf × Syo × Syk)) (k136 : Syf → Syo → Syk → Int32 → Int32 → Int32 → Int32 → Int32 → Option (Int32 × Syf × Syo × Syk)) (syf : Syf) (syo : Syo) (syk : Syk) (x5 : Int32) (x6 : Int32) (x7 : Int32) (x8 : Int32) : Option (Int32 × Syf × Syo × Syk) :=
    fL_phrases_215 syw a1 k6 k136 syf syo syk x5 x6 x7 x8 0
def fL_phrases_136 (syw : Syw) (a1 : Int32) (k6 : Syf → Syo → Syk → Int32 → Int32 → Option (Int32 × Syf × Syo × Syk)) : Nat → Syf → Syo → Syk → Int32 → Int32 → Int32 → Int32 → Int32 → Option (Int32 × Syf × Syo × Syk)
  | 0, _, _, _, _, _, _, _, _ => none
  | n + 1, syf, syo, syk, x5, x6, x7, x8, x9 =>
      if x9 = 0 then
        fL_phrases_220 syw a1 k6 syf syo syk x5 x6 x7 x8
      else
        bn1 (fL_described syw a1 (x6 + 1) 0) fun r_2 =>
        ai 24 x5 <|
        ai 24 x5 <|
        ai 24 x5 <|
        if a1 ≤ r_2 then
          fL_phrases_214 syw a1 k6 (fun syf syo syk x5 x6 x7 x8 x9 => fL_phrases_136 syw a1 k6 n syf syo syk x5 x6 x7 x8 x9) (upd syf x5.toNatClampNeg (x6 + 1)) (upd syo x5.toNatClampNeg (r_2 - 1)) (upd syk x5.toNatClampNeg 3) (x5 + 1) r_2 x7 x8
        else
          ai 24 r_2 <|
          if (syw r_2.toNatClampNeg) = 13 then
            bn1 (fL_described syw a1 (r_2 + 1) 0) fun r_9 =>
            if r_9 ≤ 0 then
              fL_phrases_214 syw a1 k6 (fun syf syo syk x5 x6 x7 x8 x9 => fL_phrases_136 syw a1 k6 n syf syo syk x5 x6 x7 x8 x9) (upd syf x5.toNatClampNeg (x6 + 1)) (upd syo x5.toNatClampNeg (r_2 - 1)) (upd syk x5.toNatClampNeg 3) (x5 + 1) r_2 x7 x8
            else
              fL_phrases_215 syw a1 k6 (fun syf syo syk x5 x6 x7 x8 x9 => fL_phrases_136 syw a1 k6 n syf syo syk x5 x6 x7 x8 x9) (upd syf x5.toNatClampNeg (x6 + 1)) (upd syo x5.toNatClampNeg (r_2 - 1)) (upd syk x5.toNatClampNeg 3) (x5 + 1) r_2 x7 x8 1
          else
            fL_phrases_214 syw a1 k6 (fun syf syo syk x5 x6 x7 x8 x9 => fL_phrases_136 syw a1 k6 n syf syo syk x5 x6 x7 x8 x9) (upd syf x5.toNatClampNeg (x6 + 1)) (upd syo x5.toNatClampNeg (r_2 - 1)) (upd syk x5.toNatClampNeg 3) (x5 + 1) r_2 x7 x8
def fL_phrases_134 (syw : Syw) (a1 : Int32) (k6 : Syf → Syo → Syk → Int32 → Int32 → Option (Int32 × Syf × Syo × Syk)) (syf : Syf) (syo : Syo) (syk : Syk) (x5 : Int32) (x6 : Int32) (x7 : Int32) (x8 : Int32) (t0 : Int32) : Option (Int32 × Syf × Syo × Syk) :=
    fL_phrases_136 syw a1 k6 64 syf syo syk x5 x6 x7 x8 t0
def fL_phrases_133 (syw : Syw) (a1 : Int32) (k6 : Syf → Syo → Syk → Int32 → Int32 → Option (Int32 × Syf × Syo × Syk)) (syf : Syf) (syo : Syo) (syk : Syk) (x5 : Int32) (x6 : Int32) (x7 : Int32) (x8 : Int32) : Option (Int32 × Syf × Syo × Syk) :=
    fL_phrases_134 syw a1 k6 syf syo syk x5 x6 x7 x8 0
def fL_phrases_114 (syw : Syw) (a1 : Int32) (k6 : Syf → Syo → Syk → Int32 → Int32 → Option (Int32 × Syf × Syo × Syk)) (syf : Syf) (syo : Syo) (syk : Syk) (x5 : Int32) (x6 : Int32) (x7 : Int32) (x8 : Int32) : Option (Int32 × Syf × Syo × Syk) :=
    if a1 ≤ x6 then
      fL_phrases_133 syw a1 k6 syf syo syk x5 x6 x7 x8
    else
      ai 24 x6 <|
      if (syw x6.toNatClampNeg) = 12 then
        fL_phrases_134 syw a1 k6 syf syo syk x5 x6 x7 x8 1
      else
        fL_phrases_133 syw a1 k6 syf syo syk x5 x6 x7 x8
def fL_phrases_88 (syw : Syw) (a1 : Int32) (k6 : Syf → Syo → Syk → Int32 → Int32 → Option (Int32 × Syf × Syo × Syk)) (syf : Syf) (syo : Syo) (syk : Syk) (x5 : Int32) (x6 : Int32) (x7 : Int32) : Option (Int32 × Syf × Syo × Syk) :=
    ai 24 x6 <|
    if (syw x6.toNatClampNeg) = 11 then
      fL_phrases_114 syw a1 k6 syf syo syk x5 (x6 + 1) x7 x6
    else
      ai 24 x6 <|
      bn1 (fL_isPlural (syw x6.toNatClampNeg)) fun r_4 =>
      if r_4 = 0 then
        fL_phrases_220 syw a1 k6 syf syo syk x5 (x6 + 1) x7 x6
      else
        fL_phrases_114 syw a1 k6 syf syo syk x5 (x6 + 1) x7 x6
def fL_phrases_82 (syw : Syw) (a1 : Int32) (k6 : Syf → Syo → Syk → Int32 → Int32 → Option (Int32 × Syf × Syo × Syk)) (k13 : Syf → Syo → Syk → Int32 → Int32 → Int32 → Option (Int32 × Syf × Syo × Syk)) (syf : Syf) (syo : Syo) (syk : Syk) (x5 : Int32) (x6 : Int32) (x7 : Int32) : Option (Int32 × Syf × Syo × Syk) :=
    k13 syf syo syk x5 (x6 + 1) x7
def fL_phrases_49 (syw : Syw) (a1 : Int32) (k6 : Syf → Syo → Syk → Int32 → Int32 → Option (Int32 × Syf × Syo × Syk)) (k13 : Syf → Syo → Syk → Int32 → Int32 → Int32 → Option (Int32 × Syf × Syo × Syk)) (syf : Syf) (syo : Syo) (syk : Syk) (x5 : Int32) (x6 : Int32) (x7 : Int32) : Option (Int32 × Syf × Syo × Syk) :=
    ai 24 x6 <|
    if (syw x6.toNatClampNeg) = 11 then
      ai 24 (x6 + 1) <|
      bn1 (fL_isAdjective (syw (x6 + 1).toNatClampNeg)) fun r_4 =>
      if r_4 = 0 then
        ai 24 (x6 + 1) <|
        bn1 (fL_isPlural (syw (x6 + 1).toNatClampNeg)) fun r_7 =>
        if r_7 = 0 then
          fL_phrases_88 syw a1 k6 syf syo syk x5 x6 x7
        else
          fL_phrases_82 syw a1 k6 k13 syf syo syk x5 x6 x7
      else
        fL_phrases_82 syw a1 k6 k13 syf syo syk x5 x6 x7
    else
      fL_phrases_82 syw a1 k6 k13 syf syo syk x5 x6 x7
def fL_phrases_13 (syw : Syw) (a1 : Int32) (k6 : Syf → Syo → Syk → Int32 → Int32 → Option (Int32 × Syf × Syo × Syk)) : Nat → Syf → Syo → Syk → Int32 → Int32 → Int32 → Option (Int32 × Syf × Syo × Syk)
  | 0, _, _, _, _, _, _ => none
  | n + 1, syf, syo, syk, x5, x6, x7 =>
      if a1 ≤ (x6 + 1) then
        fL_phrases_88 syw a1 k6 syf syo syk x5 x6 x7
      else
        ai 24 x6 <|
        if (syw x6.toNatClampNeg) = 10 then
          fL_phrases_49 syw a1 k6 (fun syf syo syk x5 x6 x7 => fL_phrases_13 syw a1 k6 n syf syo syk x5 x6 x7) syf syo syk x5 x6 x7
        else
          ai 24 x6 <|
          if (syw x6.toNatClampNeg) = 11 then
            fL_phrases_49 syw a1 k6 (fun syf syo syk x5 x6 x7 => fL_phrases_13 syw a1 k6 n syf syo syk x5 x6 x7) syf syo syk x5 x6 x7
          else
            ai 24 x6 <|
            bn1 (fL_isAdjective (syw x6.toNatClampNeg)) fun r_7 =>
            if r_7 = 0 then
              fL_phrases_88 syw a1 k6 syf syo syk x5 x6 x7
            else
              fL_phrases_49 syw a1 k6 (fun syf syo syk x5 x6 x7 => fL_phrases_13 syw a1 k6 n syf syo syk x5 x6 x7) syf syo syk x5 x6 x7
def fL_phrases_6 (syw : Syw) (a1 : Int32) : Nat → Syf → Syo → Syk → Int32 → Int32 → Option (Int32 × Syf × Syo × Syk)
  | 0, _, _, _, _, _ => none
  | n + 1, syf, syo, syk, x5, x6 =>
      fL_phrases_13 syw a1 (fun syf syo syk x5 x6 => fL_phrases_6 syw a1 n syf syo syk x5 x6) 64 syf syo syk x5 (x6 + 1) (x6 + 1)
def fL_phrases (syw : Syw) (syf : Syf) (syo : Syo) (syk : Syk) (a1 : Int32) : Option (Int32 × Syf × Syo × Syk) :=
  fL_phrases_6 syw a1 64 syf syo syk 0 0
def fL_does_384 (syu : Syu) (syv : Syv) (syt : Syt) (syz : Syz) (syf : Syf) (syo : Syo) (syk : Syk) (t0 : Int32) : Option (Int32 × Syt × Syz) :=
    some (t0, syt, syz)
def fL_does_373 (syu : Syu) (syv : Syv) (syt : Syt) (syz : Syz) (syf : Syf) (syo : Syo) (syk : Syk) (x15 : Int32) (t1 : Int32) (t2 : Int32) : Option (Int32 × Syt × Syz) :=
    ai 13 t1 <|
    if x15 = 0 then
      fL_does_384 syu syv syt (upd syz t1.toNatClampNeg t2) syf syo syk 5
    else
      fL_does_384 syu syv syt (upd syz t1.toNatClampNeg t2) syf syo syk 1
def fL_does_352 (syu : Syu) (syv : Syv) (syt : Syt) (syz : Syz) (syf : Syf) (syo : Syo) (syk : Syk) (x12 : Int32) (x15 : Int32) (t1 : Int32) (t2 : Int32) : Option (Int32 × Syt × Syz) :=
    ai 13 t1 <|
    ai 13 9 <|
    if x15 = 0 then
      fL_does_373 syu syv syt (upd (upd syz t1.toNatClampNeg t2) (9 : Int32).toNatClampNeg x15) syf syo syk x15 10 (-1)
    else
      fL_does_373 syu syv syt (upd (upd syz t1.toNatClampNeg t2) (9 : Int32).toNatClampNeg x15) syf syo syk x15 10 x12
def fL_does_444 (syu : Syu) (syv : Syv) (k56 : Syt → Syz → Syf → Syo → Syk → Int32 → Int32 → Int32 → Int32 → Int32 → Option (Int32 × Syt × Syz)) (syt : Syt) (syz : Syz) (syf : Syf) (syo : Syo) (syk : Syk) (x7 : Int32) (x8 : Int32) (x9 : Int32) (x11 : Int32) (t0 : Int32) : Option (Int32 × Syt × Syz) :=
    k56 syt syz syf syo syk x7 x8 x9 t0 (x11 + 1)
def fL_does_422 (syu : Syu) (syv : Syv) (k56 : Syt → Syz → Syf → Syo → Syk → Int32 → Int32 → Int32 → Int32 → Int32 → Option (Int32 × Syt × Syz)) (syt : Syt) (syz : Syz) (syf : Syf) (syo : Syo) (syk : Syk) (x7 : Int32) (x8 : Int32) (x10 : Int32) (x11 : Int32) (x14 : Int32) (t0 : Int32) (t1 : Int32) : Option (Int32 × Syt × Syz) :=
    ai 24 x11 <|
    if (syk x11.toNatClampNeg) = 4 then
      bn1 (fL_only x14) fun r_3 =>
      fL_does_444 syu syv k56 syt syz syf syo syk x7 x8 (t0 ||| t1) x11 r_3
    else
      fL_does_444 syu syv k56 syt syz syf syo syk x7 x8 (t0 ||| t1) x11 x10
def fL_does_402 (syu : Syu) (syv : Syv) (k56 : Syt → Syz → Syf → Syo → Syk → Int32 → Int32 → Int32 → Int32 → Int32 → Option (Int32 × Syt × Syz)) (syt : Syt) (syz : Syz) (syf : Syf) (syo : Syo) (syk : Syk) (x7 : Int32) (x9 : Int32) (x10 : Int32) (x11 : Int32) (x14 : Int32) (t0 : Int32) (t1 : Int32) : Option (Int32 × Syt × Syz) :=
    ai 24 x11 <|
    if (syk x11.toNatClampNeg) = 3 then
      fL_does_422 syu syv k56 syt syz syf syo syk x7 (t0 ||| t1) x10 x11 x14 x9 x14
    else
      fL_does_422 syu syv k56 syt syz syf syo syk x7 (t0 ||| t1) x10 x11 x14 x9 0
def fL_does_334 (syu : Syu) (syv : Syv) (k56 : Syt → Syz → Syf → Syo → Syk → Int32 → Int32 → Int32 → Int32 → Int32 → Option (Int32 × Syt × Syz)) (syt : Syt) (syz : Syz) (syf : Syf) (syo : Syo) (syk : Syk) (x7 : Int32) (x8 : Int32) (x9 : Int32) (x10 : Int32) (x11 : Int32) (x12 : Int32) (x14 : Int32) (x15 : Int32) : Option (Int32 × Syt × Syz) :=
    if x14 = 0 then
      if x15 = 0 then
        fL_does_352 syu syv syt syz syf syo syk x12 x15 3 x12
      else
        fL_does_352 syu syv syt syz syf syo syk x12 x15 3 (-1)
    else
      ai 24 x11 <|
      if 3 ≤ (syk x11.toNatClampNeg) then
        fL_does_402 syu syv k56 syt syz syf syo syk x7 x9 x10 x11 x14 x8 0
      else
        fL_does_402 syu syv k56 syt syz syf syo syk x7 x9 x10 x11 x14 x8 x14
def fL_does_148 (syu : Syu) (syv : Syv) (k56 : Syt → Syz → Syf → Syo → Syk → Int32 → Int32 → Int32 → Int32 → Int32 → Option (Int32 × Syt × Syz)) (syt : Syt) (syz : Syz) (syf : Syf) (syo : Syo) (syk : Syk) (x7 : Int32) (x8 : Int32) (x9 : Int32) (x10 : Int32) (x11 : Int32) (x12 : Int32) (x15 : Int32) (t1 : Int32) (t3 : Int32) (t4 : Int32) (t5 : Int32) : Option (Int32 × Syt × Syz) :=
    bn1 (fL_fitting syt syu t1 t3 t4 t5) fun r_1 =>
    fL_does_334 syu syv k56 syt syz syf syo syk x7 x8 0 x10 x11 x12 (r_1 &&& (x9 ^^^ (-1))) x15
def fL_does_212 (syu : Syu) (syv : Syv) (k56 : Syt → Syz → Syf → Syo → Syk → Int32 → Int32 → Int32 → Int32 → Int32 → Option (Int32 × Syt × Syz)) (syt : Syt) (syz : Syz) (syf : Syf) (syo : Syo) (syk : Syk) (x7 : Int32) (x8 : Int32) (x9 : Int32) (x10 : Int32) (x11 : Int32) (x12 : Int32) (x15 : Int32) (t0 : Int32) : Option (Int32 × Syt × Syz) :=
    fL_does_334 syu syv k56 syt syz syf syo syk x7 x8 x9 x10 x11 x12 t0 x15
def fL_does_332 (syu : Syu) (syv : Syv) (k56 : Syt → Syz → Syf → Syo → Syk → Int32 → Int32 → Int32 → Int32 → Int32 → Option (Int32 × Syt × Syz)) (syt : Syt) (syz : Syz) (syf : Syf) (syo : Syo) (syk : Syk) (x7 : Int32) (x8 : Int32) (x9 : Int32) (x10 : Int32) (x11 : Int32) (x12 : Int32) (x14 : Int32) (t0 : Int32) : Option (Int32 × Syt × Syz) :=
    fL_does_334 syu syv k56 syt syz syf syo syk x7 x8 x9 x10 x11 x12 x14 t0
def fL_does_309 (syu : Syu) (syv : Syv) (k56 : Syt → Syz → Syf → Syo → Syk → Int32 → Int32 → Int32 → Int32 → Int32 → Option (Int32 × Syt × Syz)) (syt : Syt) (syz : Syz) (syf : Syf) (syo : Syo) (syk : Syk) (x7 : Int32) (x8 : Int32) (x9 : Int32) (x10 : Int32) (x11 : Int32) (x12 : Int32) (x16 : Int32) (x17 : Int32) (t0 : Int32) : Option (Int32 × Syt × Syz) :=
    if t0 ≤ 0 then
      if x17 ≤ 0 then
        fL_does_332 syu syv k56 syt syz syf syo syk x7 x8 x9 x10 x11 x12 t0 x16
      else
        fL_does_332 syu syv k56 syt syz syf syo syk x7 x8 x9 x10 x11 x12 t0 x17
    else
      fL_does_332 syu syv k56 syt syz syf syo syk x7 x8 x9 x10 x11 x12 t0 0
def fL_does_274 (syu : Syu) (syv : Syv) (k56 : Syt → Syz → Syf → Syo → Syk → Int32 → Int32 → Int32 → Int32 → Int32 → Option (Int32 × Syt × Syz)) (syt : Syt) (syz : Syz) (syf : Syf) (syo : Syo) (syk : Syk) (x7 : Int32) (x8 : Int32) (x9 : Int32) (x10 : Int32) (x11 : Int32) (x12 : Int32) (x16 : Int32) (t0 : Int32) (t3 : Int32) : Option (Int32 × Syt × Syz) :=
    bn1 (fL_suited syt syz t3) fun r_1 =>
    bn1 (fL_bits x16) fun r_2 =>
    if r_2 = 1 then
      fL_does_309 syu syv k56 syt syz syf syo syk x7 x8 x9 x10 x11 x12 x16 (t0 &&& r_1) x16
    else
      bn1 (fL_bits (t0 &&& r_1)) fun r_4 =>
      if r_4 = 1 then
        fL_does_309 syu syv k56 syt syz syf syo syk x7 x8 x9 x10 x11 x12 x16 (t0 &&& r_1) (t0 &&& r_1)
      else
        fL_does_309 syu syv k56 syt syz syf syo syk x7 x8 x9 x10 x11 x12 x16 (t0 &&& r_1) 0
def fL_does_248 (syu : Syu) (syv : Syv) (k56 : Syt → Syz → Syf → Syo → Syk → Int32 → Int32 → Int32 → Int32 → Int32 → Option (Int32 × Syt × Syz)) (syt : Syt) (syz : Syz) (syf : Syf) (syo : Syo) (syk : Syk) (x7 : Int32) (x8 : Int32) (x9 : Int32) (x10 : Int32) (x11 : Int32) (x12 : Int32) (t1 : Int32) (t3 : Int32) (t4 : Int32) (t5 : Int32) : Option (Int32 × Syt × Syz) :=
    bn1 (fL_fitting syt syu t1 t3 t4 t5) fun r_1 =>
    ai 24 x11 <|
    if (syk x11.toNatClampNeg) = 4 then
      fL_does_274 syu syv k56 syt syz syf syo syk x7 x8 x9 x10 x11 x12 r_1 r_1 16
    else
      ai 24 0 <|
      fL_does_274 syu syv k56 syt syz syf syo syk x7 x8 x9 x10 x11 x12 r_1 r_1 (syu (0 : Int32).toNatClampNeg)
def fL_does_715 (syu : Syu) (syv : Syv) (k502 : Syt → Syz → Syf → Syo → Syk → Int32 → Int32 → Int32 → Option (Int32 × Syt × Syz)) (syt : Syt) (syz : Syz) (syf : Syf) (syo : Syo) (syk : Syk) (x8 : Int32) (x10 : Int32) (x11 : Int32) : Option (Int32 × Syt × Syz) :=
    k502 syt syz syf syo syk x8 x10 (x11 + 1)
def fL_does_714 (syu : Syu) (syv : Syv) (k502 : Syt → Syz → Syf → Syo → Syk → Int32 → Int32 → Int32 → Option (Int32 × Syt × Syz)) (syt : Syt) (syz : Syz) (syf : Syf) (syo : Syo) (syk : Syk) (x8 : Int32) (x10 : Int32) (x11 : Int32) (t1 : Int32) (t2 : Int32) : Option (Int32 × Syt × Syz) :=
    ai 30 t1 <|
    fL_does_715 syu syv k502 (upd syt t1.toNatClampNeg t2) syz syf syo syk x8 x10 x11
def fL_does_678 (syu : Syu) (syv : Syv) (k502 : Syt → Syz → Syf → Syo → Syk → Int32 → Int32 → Int32 → Option (Int32 × Syt × Syz)) (syt : Syt) (syz : Syz) (syf : Syf) (syo : Syo) (syk : Syk) (x8 : Int32) (x10 : Int32) (x11 : Int32) (t1 : Int32) (t2 : Int32) : Option (Int32 × Syt × Syz) :=
    ai 30 t1 <|
    ai 24 0 <|
    if (syu (0 : Int32).toNatClampNeg) = 3 then
      fL_does_714 syu syv k502 (upd syt t1.toNatClampNeg t2) syz syf syo syk x8 x10 x11 (18 + x11) 1
    else
      ai 24 0 <|
      if (syu (0 : Int32).toNatClampNeg) = 4 then
        fL_does_714 syu syv k502 (upd syt t1.toNatClampNeg t2) syz syf syo syk x8 x10 x11 (18 + x11) 0
      else
        ai 30 (18 + x11) <|
        fL_does_714 syu syv k502 (upd syt t1.toNatClampNeg t2) syz syf syo syk x8 x10 x11 (18 + x11) ((upd syt t1.toNatClampNeg t2) (18 + x11).toNatClampNeg)
def fL_does_614 (syu : Syu) (syv : Syv) (k502 : Syt → Syz → Syf → Syo → Syk → Int32 → Int32 → Int32 → Option (Int32 × Syt × Syz)) (syt : Syt) (syz : Syz) (syf : Syf) (syo : Syo) (syk : Syk) (x8 : Int32) (x10 : Int32) (x11 : Int32) (x12 : Int32) : Option (Int32 × Syt × Syz) :=
    if x12 = 0 then
      fL_does_715 syu syv k502 syt syz syf syo syk x8 x10 x11
    else
      ai 13 6 <|
      ai 13 6 <|
      ai 24 0 <|
      if (syu (0 : Int32).toNatClampNeg) = 0 then
        fL_does_678 syu syv k502 syt (upd syz (6 : Int32).toNatClampNeg ((syz (6 : Int32).toNatClampNeg) ||| ((1 : Int32) <<< (x11 &&& 31)))) syf syo syk x8 x10 x11 (24 + x11) (-3)
      else
        ai 24 0 <|
        if (syu (0 : Int32).toNatClampNeg) = 1 then
          fL_does_678 syu syv k502 syt (upd syz (6 : Int32).toNatClampNeg ((syz (6 : Int32).toNatClampNeg) ||| ((1 : Int32) <<< (x11 &&& 31)))) syf syo syk x8 x10 x11 (24 + x11) (-2)
        else
          ai 24 0 <|
          if (syu (0 : Int32).toNatClampNeg) = 2 then
            fL_does_678 syu syv k502 syt (upd syz (6 : Int32).toNatClampNeg ((syz (6 : Int32).toNatClampNeg) ||| ((1 : Int32) <<< (x11 &&& 31)))) syf syo syk x8 x10 x11 (24 + x11) x10
          else
            ai 30 (24 + x11) <|
            fL_does_678 syu syv k502 syt (upd syz (6 : Int32).toNatClampNeg ((syz (6 : Int32).toNatClampNeg) ||| ((1 : Int32) <<< (x11 &&& 31)))) syf syo syk x8 x10 x11 (24 + x11) (syt (24 + x11).toNatClampNeg)
def fL_does_612 (syu : Syu) (syv : Syv) (k502 : Syt → Syz → Syf → Syo → Syk → Int32 → Int32 → Int32 → Option (Int32 × Syt × Syz)) (syt : Syt) (syz : Syz) (syf : Syf) (syo : Syo) (syk : Syk) (x8 : Int32) (x10 : Int32) (x11 : Int32) (t0 : Int32) : Option (Int32 × Syt × Syz) :=
    fL_does_614 syu syv k502 syt syz syf syo syk x8 x10 x11 t0
def fL_does_611 (syu : Syu) (syv : Syv) (k502 : Syt → Syz → Syf → Syo → Syk → Int32 → Int32 → Int32 → Option (Int32 × Syt × Syz)) (syt : Syt) (syz : Syz) (syf : Syf) (syo : Syo) (syk : Syk) (x8 : Int32) (x10 : Int32) (x11 : Int32) : Option (Int32 × Syt × Syz) :=
    fL_does_612 syu syv k502 syt syz syf syo syk x8 x10 x11 0
def fL_does_584 (syu : Syu) (syv : Syv) (k502 : Syt → Syz → Syf → Syo → Syk → Int32 → Int32 → Int32 → Option (Int32 × Syt × Syz)) (syt : Syt) (syz : Syz) (syf : Syf) (syo : Syo) (syk : Syk) (x8 : Int32) (x10 : Int32) (x11 : Int32) (x13 : Int32) : Option (Int32 × Syt × Syz) :=
    if x13 = x11 then
      fL_does_611 syu syv k502 syt syz syf syo syk x8 x10 x11
    else
      bn1 (fL_suited syt syz 16) fun r_2 =>
      if ((r_2 >>> (x10 &&& 31)) &&& 1) = 1 then
        fL_does_612 syu syv k502 syt syz syf syo syk x8 x10 x11 1
      else
        fL_does_611 syu syv k502 syt syz syf syo syk x8 x10 x11
def fL_does_560 (syu : Syu) (syv : Syv) (k502 : Syt → Syz → Syf → Syo → Syk → Int32 → Int32 → Int32 → Option (Int32 × Syt × Syz)) : Nat → Syt → Syz → Syf → Syo → Syk → Int32 → Int32 → Int32 → Int32 → Option (Int32 × Syt × Syz)
  | 0, _, _, _, _, _, _, _, _, _ => none
  | n + 1, syt, syz, syf, syo, syk, x8, x10, x11, x13 =>
      if x13 < 0 then
        fL_does_584 syu syv k502 syt syz syf syo syk x8 x10 x11 x13
      else
        if x13 = x11 then
          fL_does_584 syu syv k502 syt syz syf syo syk x8 x10 x11 x13
        else
          ai 30 (24 + x13) <|
          fL_does_560 syu syv k502 n syt syz syf syo syk x8 x10 x11 (syt (24 + x13).toNatClampNeg)
def fL_does_542 (syu : Syu) (syv : Syv) (k502 : Syt → Syz → Syf → Syo → Syk → Int32 → Int32 → Int32 → Option (Int32 × Syt × Syz)) (syt : Syt) (syz : Syz) (syf : Syf) (syo : Syo) (syk : Syk) (x8 : Int32) (x10 : Int32) (x11 : Int32) (t0 : Int32) : Option (Int32 × Syt × Syz) :=
    if t0 = 0 then
      fL_does_614 syu syv k502 syt syz syf syo syk x8 x10 x11 t0
    else
      ai 24 0 <|
      if (syu (0 : Int32).toNatClampNeg) = 2 then
        fL_does_560 syu syv k502 64 syt syz syf syo syk x8 x10 x11 x10
      else
        fL_does_614 syu syv k502 syt syz syf syo syk x8 x10 x11 t0
def fL_does_541 (syu : Syu) (syv : Syv) (k502 : Syt → Syz → Syf → Syo → Syk → Int32 → Int32 → Int32 → Option (Int32 × Syt × Syz)) (syt : Syt) (syz : Syz) (syf : Syf) (syo : Syo) (syk : Syk) (x8 : Int32) (x10 : Int32) (x11 : Int32) : Option (Int32 × Syt × Syz) :=
    fL_does_542 syu syv k502 syt syz syf syo syk x8 x10 x11 0
def fL_does_502 (syu : Syu) (syv : Syv) : Nat → Syt → Syz → Syf → Syo → Syk → Int32 → Int32 → Int32 → Option (Int32 × Syt × Syz)
  | 0, _, _, _, _, _, _, _, _ => none
  | n + 1, syt, syz, syf, syo, syk, x8, x10, x11 =>
      if 6 ≤ x11 then
        some (0, syt, syz)
      else
        if ((x8 >>> (x11 &&& 31)) &&& 1) = 1 then
          ai 24 0 <|
          bn1 (fL_suited syt syz (syu (0 : Int32).toNatClampNeg)) fun r_4 =>
          if ((r_4 >>> (x11 &&& 31)) &&& 1) = 1 then
            fL_does_542 syu syv (fun syt syz syf syo syk x8 x10 x11 => fL_does_502 syu syv n syt syz syf syo syk x8 x10 x11) syt syz syf syo syk x8 x10 x11 1
          else
            fL_does_541 syu syv (fun syt syz syf syo syk x8 x10 x11 => fL_does_502 syu syv n syt syz syf syo syk x8 x10 x11) syt syz syf syo syk x8 x10 x11
        else
          fL_does_541 syu syv (fun syt syz syf syo syk x8 x10 x11 => fL_does_502 syu syv n syt syz syf syo syk x8 x10 x11) syt syz syf syo syk x8 x10 x11
def fL_does_498 (syu : Syu) (syv : Syv) (syt : Syt) (syz : Syz) (syf : Syf) (syo : Syo) (syk : Syk) (x8 : Int32) (x10 : Int32) (t1 : Int32) (t2 : Int32) : Option (Int32 × Syt × Syz) :=
    ai 13 t1 <|
    fL_does_502 syu syv 64 syt (upd syz t1.toNatClampNeg t2) syf syo syk x8 x10 0
def fL_does_56 (syu : Syu) (syv : Syv) : Nat → Syt → Syz → Syf → Syo → Syk → Int32 → Int32 → Int32 → Int32 → Int32 → Option (Int32 × Syt × Syz)
  | 0, _, _, _, _, _, _, _, _, _, _ => none
  | n + 1, syt, syz, syf, syo, syk, x7, x8, x9, x10, x11 =>
      if x7 ≤ x11 then
        ai 24 0 <|
        ai 13 4 <|
        ai 13 5 <|
        ai 13 6 <|
        bl (upd (upd (upd syz (4 : Int32).toNatClampNeg (syu (0 : Int32).toNatClampNeg)) (5 : Int32).toNatClampNeg x8) (6 : Int32).toNatClampNeg 0) fun y_6 =>
        ai 13 7 <|
        bn1 (fL_bits x8) fun r_8 =>
        if r_8 = 1 then
          bn1 (fL_only x8) fun r_11 =>
          fL_does_498 syu syv syt (upd y_6 (7 : Int32).toNatClampNeg x10) syf syo syk x8 x10 8 r_11
        else
          ai 13 8 <|
          fL_does_498 syu syv syt (upd y_6 (7 : Int32).toNatClampNeg x10) syf syo syk x8 x10 8 ((upd y_6 (7 : Int32).toNatClampNeg x10) (8 : Int32).toNatClampNeg)
      else
        ai 24 x11 <|
        ai 24 (syo x11.toNatClampNeg) <|
        ai 24 x11 <|
        if (syk x11.toNatClampNeg) = 2 then
          ai 13 5 <|
          bn1 (fL_reach syt syz) fun r_36 =>
          fL_does_334 syu syv (fun syt syz syf syo syk x7 x8 x9 x10 x11 => fL_does_56 syu syv n syt syz syf syo syk x7 x8 x9 x10 x11) syt syz syf syo syk x7 x8 x9 x10 x11 (syo x11.toNatClampNeg) ((syz (5 : Int32).toNatClampNeg) &&& r_36) 0
        else
          ai 24 x11 <|
          if (syk x11.toNatClampNeg) = 1 then
            ai 24 0 <|
            bn1 (fL_suited syt syz (syu (0 : Int32).toNatClampNeg)) fun r_31 =>
            ai 24 x11 <|
            bn1 (fL_isPlural (syu (syo x11.toNatClampNeg).toNatClampNeg)) fun r_33 =>
            if r_33 = 0 then
              fL_does_148 syu syv (fun syt syz syf syo syk x7 x8 x9 x10 x11 => fL_does_56 syu syv n syt syz syf syo syk x7 x8 x9 x10 x11) syt syz syf syo syk x7 x8 x9 x10 x11 (syo x11.toNatClampNeg) 0 r_31 (syf x11.toNatClampNeg) (syo x11.toNatClampNeg) (-1)
            else
              fL_does_148 syu syv (fun syt syz syf syo syk x7 x8 x9 x10 x11 => fL_does_56 syu syv n syt syz syf syo syk x7 x8 x9 x10 x11) syt syz syf syo syk x7 x8 x9 x10 x11 (syo x11.toNatClampNeg) 0 r_31 (syf x11.toNatClampNeg) (syo x11.toNatClampNeg) ((syu (syo x11.toNatClampNeg).toNatClampNeg) - 40)
          else
            ai 24 (syo x11.toNatClampNeg) <|
            if (syv (syo x11.toNatClampNeg).toNatClampNeg) < 0 then
              if (syu (syo x11.toNatClampNeg).toNatClampNeg) = 14 then
                ai 13 8 <|
                if 0 ≤ (syz (8 : Int32).toNatClampNeg) then
                  ai 13 8 <|
                  bn1 (fL_reach syt syz) fun r_28 =>
                  fL_does_212 syu syv (fun syt syz syf syo syk x7 x8 x9 x10 x11 => fL_does_56 syu syv n syt syz syf syo syk x7 x8 x9 x10 x11) syt syz syf syo syk x7 x8 x9 x10 x11 (syo x11.toNatClampNeg) 0 (((1 : Int32) <<< ((syz (8 : Int32).toNatClampNeg) &&& 31)) &&& r_28)
                else
                  fL_does_212 syu syv (fun syt syz syf syo syk x7 x8 x9 x10 x11 => fL_does_56 syu syv n syt syz syf syo syk x7 x8 x9 x10 x11) syt syz syf syo syk x7 x8 x9 x10 x11 (syo x11.toNatClampNeg) 0 0
              else
                bn1 (fL_reach syt syz) fun r_21 =>
                ai 24 x11 <|
                bn1 (fL_isNoun (syu (syo x11.toNatClampNeg).toNatClampNeg)) fun r_23 =>
                if r_23 = 0 then
                  fL_does_248 syu syv (fun syt syz syf syo syk x7 x8 x9 x10 x11 => fL_does_56 syu syv n syt syz syf syo syk x7 x8 x9 x10 x11) syt syz syf syo syk x7 x8 x9 x10 x11 (syo x11.toNatClampNeg) r_21 (syf x11.toNatClampNeg) (syo x11.toNatClampNeg) (-1)
                else
                  fL_does_248 syu syv (fun syt syz syf syo syk x7 x8 x9 x10 x11 => fL_does_56 syu syv n syt syz syf syo syk x7 x8 x9 x10 x11) syt syz syf syo syk x7 x8 x9 x10 x11 (syo x11.toNatClampNeg) r_21 (syf x11.toNatClampNeg) (syo x11.toNatClampNeg) ((syu (syo x11.toNatClampNeg).toNatClampNeg) - 30)
            else
              ai 24 (syo x11.toNatClampNeg) <|
              fL_does_334 syu syv (fun syt syz syf syo syk x7 x8 x9 x10 x11 => fL_does_56 syu syv n syt syz syf syo syk x7 x8 x9 x10 x11) syt syz syf syo syk x7 x8 x9 x10 x11 (syo x11.toNatClampNeg) ((1 : Int32) <<< ((syv (syo x11.toNatClampNeg).toNatClampNeg) &&& 31)) 0
def fL_does (syt : Syt) (syz : Syz) (syu : Syu) (syv : Syv) : Option (Int32 × Syt × Syz) :=
  ai 13 12 <|
  bn4 (fL_phrases syu (fun _ => 0) (fun _ => 0) (fun _ => 0) (syz (12 : Int32).toNatClampNeg)) fun r_2 syf_2 syo_2 syk_2 =>
  ai 13 9 <|
  ai 13 10 <|
  fL_does_56 syu syv 64 syt (upd (upd syz (9 : Int32).toNatClampNeg 0) (10 : Int32).toNatClampNeg (-1)) syf_2 syo_2 syk_2 r_2 0 0 (-1) 0
def fL_said_59 (syw : Syw) : Nat → Syt → Syz → Syu → Syv → Int32 → Int32 → Option (Int32 × Syt × Syz × Syu × Syv)
  | 0, _, _, _, _, _, _ => none
  | n + 1, syt, syz, syu, syv, x5, x6 =>
      if x5 ≤ x6 then
        bn3 (fL_does syt syz syu syv) fun r_2 syt_2 syz_2 =>
        some (r_2, syt_2, syz_2, syu, syv)
      else
        ai 24 x6 <|
        ai 24 x6 <|
        ai 24 x6 <|
        fL_said_59 syw n syt syz (upd syu x6.toNatClampNeg (syw x6.toNatClampNeg)) (upd syv x6.toNatClampNeg (-1)) x5 (x6 + 1)
def fL_said_157 (syw : Syw) (syt : Syt) (syz : Syz) (syu : Syu) (syv : Syv) (t1 : Int32) (t3 : Int32) (t4 : Int32) (t5 : Int32) : Option (Int32 × Syt × Syz × Syu × Syv) :=
    bn1 (fL_fitting syt syw t1 t3 t4 t5) fun r_1 =>
    if r_1 = 0 then
      some (5, syt, syz, syu, syv)
    else
      bn1 (fL_bits r_1) fun r_3 =>
      if r_3 ≤ 1 then
        ai 13 10 <|
        bn1 (fL_only r_1) fun r_6 =>
        ai 24 (syz (10 : Int32).toNatClampNeg) <|
        bn3 (fL_does syt syz syu (upd syv (syz (10 : Int32).toNatClampNeg).toNatClampNeg r_6)) fun r_8 syt_8 syz_8 =>
        some (r_8, syt_8, syz_8, syu, (upd syv (syz (10 : Int32).toNatClampNeg).toNatClampNeg r_6))
      else
        ai 13 9 <|
        some (1, syt, (upd syz (9 : Int32).toNatClampNeg r_1), syu, syv)
def fL_said (syt : Syt) (syz : Syz) (syw : Syw) (syu : Syu) (syv : Syv) : Option (Int32 × Syt × Syz × Syu × Syv) :=
  ai 13 1 <|
  ai 13 3 <|
  if (syz (1 : Int32).toNatClampNeg) = 0 then
    some (2, syt, (upd syz (3 : Int32).toNatClampNeg (-1)), syu, syv)
  else
    ai 24 0 <|
    if 5 ≤ (syw (0 : Int32).toNatClampNeg) then
      ai 13 9 <|
      if ((upd syz (3 : Int32).toNatClampNeg (-1)) (9 : Int32).toNatClampNeg) = 0 then
        some (3, syt, (upd syz (3 : Int32).toNatClampNeg (-1)), syu, syv)
      else
        bn1 (fL_wrongAnswer syw (syz (1 : Int32).toNatClampNeg)) fun r_8 =>
        ai 13 3 <|
        ai 13 3 <|
        if ((upd (upd syz (3 : Int32).toNatClampNeg (-1)) (3 : Int32).toNatClampNeg r_8) (3 : Int32).toNatClampNeg) < 0 then
          ai 13 9 <|
          ai 24 ((syz (1 : Int32).toNatClampNeg) - 1) <|
          bn1 (fL_isNoun (syw ((syz (1 : Int32).toNatClampNeg) - 1).toNatClampNeg)) fun r_14 =>
          if r_14 = 0 then
            fL_said_157 syw syt (upd (upd syz (3 : Int32).toNatClampNeg (-1)) (3 : Int32).toNatClampNeg r_8) syu syv ((upd (upd syz (3 : Int32).toNatClampNeg (-1)) (3 : Int32).toNatClampNeg r_8) (9 : Int32).toNatClampNeg) 0 ((syz (1 : Int32).toNatClampNeg) - 1) (-1)
          else
            ai 24 ((syz (1 : Int32).toNatClampNeg) - 1) <|
            fL_said_157 syw syt (upd (upd syz (3 : Int32).toNatClampNeg (-1)) (3 : Int32).toNatClampNeg r_8) syu syv ((upd (upd syz (3 : Int32).toNatClampNeg (-1)) (3 : Int32).toNatClampNeg r_8) (9 : Int32).toNatClampNeg) 0 ((syz (1 : Int32).toNatClampNeg) - 1) ((syw ((syz (1 : Int32).toNatClampNeg) - 1).toNatClampNeg) - 30)
        else
          some (4, syt, (upd (upd syz (3 : Int32).toNatClampNeg (-1)) (3 : Int32).toNatClampNeg r_8), syu, syv)
    else
      ai 13 9 <|
      ai 13 10 <|
      bn1 (fL_wrongOrder syw (syz (1 : Int32).toNatClampNeg)) fun r_19 =>
      ai 13 3 <|
      bl (upd (upd (upd (upd syz (3 : Int32).toNatClampNeg (-1)) (9 : Int32).toNatClampNeg 0) (10 : Int32).toNatClampNeg (-1)) (3 : Int32).toNatClampNeg r_19) fun y_21 =>
      ai 13 3 <|
      if (y_21 (3 : Int32).toNatClampNeg) < 0 then
        ai 13 12 <|
        fL_said_59 syw 64 syt (upd y_21 (12 : Int32).toNatClampNeg (syz (1 : Int32).toNatClampNeg)) syu syv (syz (1 : Int32).toNatClampNeg) 0
      else
        some (4, syt, y_21, syu, syv)
def fL_adds_23 (s5 : S5) (a3 : Int32) (s3 : S3) (syz : Syz) (syw : Syw) (t0 : Int32) : Option (Int32 × S3 × Syz × Syw) :=
    bo t0 <|
    some (t0, s3, syz, syw)
def fL_adds_53 (s5 : S5) (a3 : Int32) (s3 : S3) (syz : Syz) (syw : Syw) (t0 : Int32) : Option (Int32 × S3 × Syz × Syw) :=
    bo t0 <|
    some (t0, s3, syz, syw)
def fL_adds (s3 : S3) (s5 : S5) (syz : Syz) (syw : Syw) (a3 : Int32) : Option (Int32 × S3 × Syz × Syw) :=
  ai 13 1 <|
  if (syz (1 : Int32).toNatClampNeg) = 24 then
    bn2 (fL_worded s3 s5 a3) fun r_10 s3_10 =>
    if r_10 = (-102) then
      fL_adds_23 s5 a3 s3_10 syz syw 1
    else
      fL_adds_23 s5 a3 s3_10 syz syw 0
  else
    ai 13 1 <|
    ai 24 (syz (1 : Int32).toNatClampNeg) <|
    ai 13 1 <|
    ai 13 1 <|
    bn2 (fL_worded s3 s5 a3) fun r_7 s3_7 =>
    ai 13 1 <|
    if r_7 = ((upd syz (1 : Int32).toNatClampNeg ((syz (1 : Int32).toNatClampNeg) + 1)) (1 : Int32).toNatClampNeg) then
      fL_adds_53 s5 a3 s3_7 (upd syz (1 : Int32).toNatClampNeg ((syz (1 : Int32).toNatClampNeg) + 1)) (upd syw (syz (1 : Int32).toNatClampNeg).toNatClampNeg a3) 1
    else
      fL_adds_53 s5 a3 s3_7 (upd syz (1 : Int32).toNatClampNeg ((syz (1 : Int32).toNatClampNeg) + 1)) (upd syw (syz (1 : Int32).toNatClampNeg).toNatClampNeg a3) 0
def fL_phrase_239 (s5 : S5) (a1 : Int32) (a4 : Int32) (s3 : S3) (syz : Syz) (syw : Syw) (t0 : Int32) : Option (Int32 × S3 × Syz × Syw) :=
    bo t0 <|
    some (t0, s3, syz, syw)
def fL_phrase_238 (s5 : S5) (a1 : Int32) (a4 : Int32) (s3 : S3) (syz : Syz) (syw : Syw) : Option (Int32 × S3 × Syz × Syw) :=
    fL_phrase_239 s5 a1 a4 s3 syz syw 0
def fL_phrase_228 (s5 : S5) (a1 : Int32) (a4 : Int32) (s3 : S3) (syz : Syz) (syw : Syw) (t3 : Int32) : Option (Int32 × S3 × Syz × Syw) :=
    bn4 (fL_adds s3 s5 syz syw t3) fun r_1 s3_1 syz_1 syw_1 =>
    if r_1 = 0 then
      fL_phrase_238 s5 a1 a4 s3_1 syz_1 syw_1
    else
      fL_phrase_239 s5 a1 a4 s3_1 syz_1 syw_1 1
def fL_phrase_217 (s5 : S5) (a1 : Int32) (a4 : Int32) (s3 : S3) (syz : Syz) (syw : Syw) : Option (Int32 × S3 × Syz × Syw) :=
    bn1 (fL_some (a1 >>> (12 &&& 31)) 2) fun r_1 =>
    fL_phrase_228 s5 a1 a4 s3 syz syw (30 + r_1)
def fL_phrase_196 (s5 : S5) (a1 : Int32) (a4 : Int32) (s3 : S3) (syz : Syz) (syw : Syw) (x7 : Int32) : Option (Int32 × S3 × Syz × Syw) :=
    if x7 = 0 then
      fL_phrase_217 s5 a1 a4 s3 syz syw
    else
      bn1 (fL_some (a1 >>> (14 &&& 31)) 3) fun r_2 =>
      if r_2 = 0 then
        fL_phrase_228 s5 a1 a4 s3 syz syw 17
      else
        fL_phrase_217 s5 a1 a4 s3 syz syw
def fL_phrase_182 (s5 : S5) (a1 : Int32) (a4 : Int32) (s3 : S3) (syz : Syz) (syw : Syw) : Option (Int32 × S3 × Syz × Syw) :=
    bn1 (fL_some (a1 >>> (12 &&& 31)) 2) fun r_1 =>
    fL_phrase_228 s5 a1 a4 s3 syz syw (40 + r_1)
def fL_phrase_156 (s5 : S5) (a1 : Int32) (a4 : Int32) (s3 : S3) (syz : Syz) (syw : Syw) (x5 : Int32) (x6 : Int32) (x7 : Int32) : Option (Int32 × S3 × Syz × Syw) :=
    if x6 = 0 then
      fL_phrase_238 s5 a1 a4 s3 syz syw
    else
      if a4 = 0 then
        if x5 = 2 then
          fL_phrase_182 s5 a1 a4 s3 syz syw
        else
          if 6 ≤ x5 then
            fL_phrase_196 s5 a1 a4 s3 syz syw x7
          else
            fL_phrase_182 s5 a1 a4 s3 syz syw
      else
        fL_phrase_196 s5 a1 a4 s3 syz syw x7
def fL_phrase_154 (s5 : S5) (a1 : Int32) (a4 : Int32) (s3 : S3) (syz : Syz) (syw : Syw) (x5 : Int32) (x7 : Int32) (t0 : Int32) : Option (Int32 × S3 × Syz × Syw) :=
    fL_phrase_156 s5 a1 a4 s3 syz syw x5 t0 x7
def fL_phrase_153 (s5 : S5) (a1 : Int32) (a4 : Int32) (s3 : S3) (syz : Syz) (syw : Syw) (x5 : Int32) (x7 : Int32) : Option (Int32 × S3 × Syz × Syw) :=
    fL_phrase_154 s5 a1 a4 s3 syz syw x5 x7 0
def fL_phrase_117 (s5 : S5) (a1 : Int32) (a4 : Int32) (s3 : S3) (syz : Syz) (syw : Syw) (x5 : Int32) (x6 : Int32) (t0 : Int32) : Option (Int32 × S3 × Syz × Syw) :=
    if t0 = 0 then
      fL_phrase_156 s5 a1 a4 s3 syz syw x5 x6 t0
    else
      if x6 = 0 then
        fL_phrase_153 s5 a1 a4 s3 syz syw x5 t0
      else
        bn1 (fL_some (a1 >>> (9 &&& 31)) 2) fun r_3 =>
        bn4 (fL_adds s3 s5 syz syw (20 + r_3)) fun r_4 s3_4 syz_4 syw_4 =>
        if r_4 = 0 then
          fL_phrase_153 s5 a1 a4 s3_4 syz_4 syw_4 x5 t0
        else
          fL_phrase_154 s5 a1 a4 s3_4 syz_4 syw_4 x5 t0 1
def fL_phrase_101 (s5 : S5) (a1 : Int32) (a4 : Int32) (s3 : S3) (syz : Syz) (syw : Syw) (x5 : Int32) (x6 : Int32) : Option (Int32 × S3 × Syz × Syw) :=
    bn1 (fL_some (a1 >>> (7 &&& 31)) 2) fun r_1 =>
    if r_1 = 0 then
      fL_phrase_117 s5 a1 a4 s3 syz syw x5 x6 1
    else
      fL_phrase_117 s5 a1 a4 s3 syz syw x5 x6 0
def fL_phrase_81 (s5 : S5) (a1 : Int32) (a4 : Int32) (s3 : S3) (syz : Syz) (syw : Syw) (x5 : Int32) (x6 : Int32) : Option (Int32 × S3 × Syz × Syw) :=
    bn1 (fL_some (a1 >>> (4 &&& 31)) 2) fun r_1 =>
    if r_1 = 0 then
      bn4 (fL_adds s3 s5 syz syw 10) fun r_3 s3_3 syz_3 syw_3 =>
      fL_phrase_101 s5 a1 a4 s3_3 syz_3 syw_3 x5 r_3
    else
      fL_phrase_101 s5 a1 a4 s3 syz syw x5 x6
def fL_phrase_62 (s5 : S5) (a1 : Int32) (a4 : Int32) (s3 : S3) (syz : Syz) (syw : Syw) (x5 : Int32) : Option (Int32 × S3 × Syz × Syw) :=
    bn4 (fL_adds s3 s5 syz syw 11) fun r_1 s3_1 syz_1 syw_1 =>
    if x5 = 3 then
      bo r_1 <|
      some (r_1, s3_1, syz_1, syw_1)
    else
      fL_phrase_101 s5 a1 a4 s3_1 syz_1 syw_1 x5 r_1
def fL_phrase_45 (s5 : S5) (a1 : Int32) (a4 : Int32) (s3 : S3) (syz : Syz) (syw : Syw) (x5 : Int32) (x6 : Int32) : Option (Int32 × S3 × Syz × Syw) :=
    if a4 = 0 then
      if x5 = 2 then
        fL_phrase_62 s5 a1 a4 s3 syz syw x5
      else
        if x5 = 3 then
          fL_phrase_62 s5 a1 a4 s3 syz syw x5
        else
          fL_phrase_81 s5 a1 a4 s3 syz syw x5 x6
    else
      fL_phrase_81 s5 a1 a4 s3 syz syw x5 x6
def fL_phrase (s3 : S3) (s5 : S5) (syz : Syz) (syw : Syw) (a1 : Int32) (a4 : Int32) : Option (Int32 × S3 × Syz × Syw) :=
  bn1 (fL_some a1 12) fun r_1 =>
  if r_1 = 0 then
    bn4 (fL_adds s3 s5 syz syw 14) fun r_7 s3_7 syz_7 syw_7 =>
    bo r_7 <|
    some (r_7, s3_7, syz_7, syw_7)
  else
    if a4 = 0 then
      if r_1 = 1 then
        bn4 (fL_adds s3 s5 syz syw 15) fun r_5 s3_5 syz_5 syw_5 =>
        bo r_5 <|
        some (r_5, s3_5, syz_5, syw_5)
      else
        fL_phrase_45 s5 a1 a4 s3 syz syw r_1 1
    else
      fL_phrase_45 s5 a1 a4 s3 syz syw r_1 1
def fL_speaks_524 (L : Nat) (xs : Nat → Int32) (s5 : S5) (a2 : Int32) (s3 : S3) (syz : Syz) (syw : Syw) (t0 : Int32) : Option (Int32 × S3 × Syz × Syw) :=
    bo t0 <|
    some (t0, s3, syz, syw)
def fL_speaks_523 (L : Nat) (xs : Nat → Int32) (s5 : S5) (a2 : Int32) (s3 : S3) (syz : Syz) (syw : Syw) : Option (Int32 × S3 × Syz × Syw) :=
    fL_speaks_524 L xs s5 a2 s3 syz syw 0
def fL_speaks_519 (L : Nat) (xs : Nat → Int32) (s5 : S5) (a2 : Int32) (s3 : S3) (syz : Syz) (syw : Syw) : Option (Int32 × S3 × Syz × Syw) :=
    fL_speaks_524 L xs s5 a2 s3 syz syw 1
def fL_speaks_485 (L : Nat) (xs : Nat → Int32) (s5 : S5) (a2 : Int32) (s3 : S3) (syz : Syz) (syw : Syw) (x5 : Int32) (x6 : Int32) (x8 : Int32) : Option (Int32 × S3 × Syz × Syw) :=
    if x6 = 0 then
      fL_speaks_523 L xs s5 a2 s3 syz syw
    else
      if x8 = 1 then
        bn1 (fL_some (x5 >>> (10 &&& 31)) 8) fun r_3 =>
        bn4 (fL_adds s3 s5 syz syw (10 + r_3)) fun r_4 s3_4 syz_4 syw_4 =>
        if r_4 = 0 then
          fL_speaks_523 L xs s5 a2 s3_4 syz_4 syw_4
        else
          fL_speaks_519 L xs s5 a2 s3_4 syz_4 syw_4
      else
        fL_speaks_519 L xs s5 a2 s3 syz syw
def fL_speaks_483 (L : Nat) (xs : Nat → Int32) (s5 : S5) (a2 : Int32) (s3 : S3) (syz : Syz) (syw : Syw) (x5 : Int32) (x8 : Int32) (t0 : Int32) : Option (Int32 × S3 × Syz × Syw) :=
    fL_speaks_485 L xs s5 a2 s3 syz syw x5 t0 x8
def fL_speaks_482 (L : Nat) (xs : Nat → Int32) (s5 : S5) (a2 : Int32) (s3 : S3) (syz : Syz) (syw : Syw) (x5 : Int32) (x8 : Int32) : Option (Int32 × S3 × Syz × Syw) :=
    fL_speaks_483 L xs s5 a2 s3 syz syw x5 x8 0
def fL_speaks_435 (L : Nat) (xs : Nat → Int32) (s5 : S5) (a2 : Int32) (s3 : S3) (syz : Syz) (syw : Syw) (x5 : Int32) (x6 : Int32) : Option (Int32 × S3 × Syz × Syw) :=
    bn1 (fL_some (x5 >>> (15 &&& 31)) 12) fun r_1 =>
    if r_1 = 0 then
      ai 13 1 <|
      ai 13 1 <|
      if x6 = 0 then
        fL_speaks_482 L xs s5 a2 s3 (upd syz (1 : Int32).toNatClampNeg ((syz (1 : Int32).toNatClampNeg) - 1)) syw x5 r_1
      else
        bn2 (fL_backed s3 s5) fun r_6 s3_6 =>
        ai 13 1 <|
        ai 24 ((upd syz (1 : Int32).toNatClampNeg ((syz (1 : Int32).toNatClampNeg) - 1)) (1 : Int32).toNatClampNeg) <|
        if r_6 = (syw ((upd syz (1 : Int32).toNatClampNeg ((syz (1 : Int32).toNatClampNeg) - 1)) (1 : Int32).toNatClampNeg).toNatClampNeg) then
          fL_speaks_483 L xs s5 a2 s3_6 (upd syz (1 : Int32).toNatClampNeg ((syz (1 : Int32).toNatClampNeg) - 1)) syw x5 r_1 1
        else
          fL_speaks_482 L xs s5 a2 s3_6 (upd syz (1 : Int32).toNatClampNeg ((syz (1 : Int32).toNatClampNeg) - 1)) syw x5 r_1
    else
      fL_speaks_485 L xs s5 a2 s3 syz syw x5 x6 r_1
def fL_speaks_433 (L : Nat) (xs : Nat → Int32) (s5 : S5) (a2 : Int32) (s3 : S3) (syz : Syz) (syw : Syw) (x5 : Int32) (t0 : Int32) : Option (Int32 × S3 × Syz × Syw) :=
    fL_speaks_435 L xs s5 a2 s3 syz syw x5 t0
def fL_speaks_432 (L : Nat) (xs : Nat → Int32) (s5 : S5) (a2 : Int32) (s3 : S3) (syz : Syz) (syw : Syw) (x5 : Int32) : Option (Int32 × S3 × Syz × Syw) :=
    fL_speaks_433 L xs s5 a2 s3 syz syw x5 0
def fL_speaks_374 (L : Nat) (xs : Nat → Int32) (s5 : S5) (a2 : Int32) (s3 : S3) (syz : Syz) (syw : Syw) (x5 : Int32) (x6 : Int32) (x7 : Int32) : Option (Int32 × S3 × Syz × Syw) :=
    if x7 = 2 then
      bn1 (fL_some (x5 >>> (14 &&& 31)) 9) fun r_2 =>
      if r_2 ≤ 0 then
        fL_speaks_435 L xs s5 a2 s3 syz syw x5 x6
      else
        if x6 = 0 then
          fL_speaks_432 L xs s5 a2 s3 syz syw x5
        else
          bn4 (fL_adds s3 s5 syz syw 16) fun r_5 s3_5 syz_5 syw_5 =>
          if r_5 = 0 then
            fL_speaks_432 L xs s5 a2 s3_5 syz_5 syw_5 x5
          else
            bn1 (fL_cell L xs (a2 + 4)) fun r_7 =>
            bn4 (fL_phrase s3_5 s5 syz_5 syw_5 r_7 1) fun r_8 s3_8 syz_8 syw_8 =>
            if r_8 = 0 then
              fL_speaks_432 L xs s5 a2 s3_8 syz_8 syw_8 x5
            else
              fL_speaks_433 L xs s5 a2 s3_8 syz_8 syw_8 x5 1
    else
      fL_speaks_435 L xs s5 a2 s3 syz syw x5 x6
def fL_speaks_372 (L : Nat) (xs : Nat → Int32) (s5 : S5) (a2 : Int32) (s3 : S3) (syz : Syz) (syw : Syw) (x5 : Int32) (x7 : Int32) (t0 : Int32) : Option (Int32 × S3 × Syz × Syw) :=
    fL_speaks_374 L xs s5 a2 s3 syz syw x5 t0 x7
def fL_speaks_371 (L : Nat) (xs : Nat → Int32) (s5 : S5) (a2 : Int32) (s3 : S3) (syz : Syz) (syw : Syw) (x5 : Int32) (x7 : Int32) : Option (Int32 × S3 × Syz × Syw) :=
    fL_speaks_372 L xs s5 a2 s3 syz syw x5 x7 0
def fL_speaks_361 (L : Nat) (xs : Nat → Int32) (s5 : S5) (a2 : Int32) (s3 : S3) (syz : Syz) (syw : Syw) (x5 : Int32) (x7 : Int32) (t1 : Int32) (t4 : Int32) : Option (Int32 × S3 × Syz × Syw) :=
    bn4 (fL_phrase s3 s5 syz syw t1 t4) fun r_1 s3_1 syz_1 syw_1 =>
    if r_1 = 0 then
      fL_speaks_371 L xs s5 a2 s3_1 syz_1 syw_1 x5 x7
    else
      fL_speaks_372 L xs s5 a2 s3_1 syz_1 syw_1 x5 x7 1
def fL_speaks_302 (L : Nat) (xs : Nat → Int32) (s5 : S5) (a2 : Int32) (s3 : S3) (syz : Syz) (syw : Syw) (x5 : Int32) (x7 : Int32) (t0 : Int32) : Option (Int32 × S3 × Syz × Syw) :=
    bn1 (fL_some (x5 >>> (11 &&& 31)) 2) fun r_1 =>
    if r_1 = 0 then
      if t0 = 0 then
        fL_speaks_371 L xs s5 a2 s3 syz syw x5 x7
      else
        bn4 (fL_adds s3 s5 syz syw 13) fun r_4 s3_4 syz_4 syw_4 =>
        if r_4 = 0 then
          fL_speaks_371 L xs s5 a2 s3_4 syz_4 syw_4 x5 x7
        else
          bn1 (fL_cell L xs (a2 + 3)) fun r_6 =>
          bn1 (fL_some (x5 >>> (12 &&& 31)) 2) fun r_7 =>
          if r_7 = 0 then
            fL_speaks_361 L xs s5 a2 s3_4 syz_4 syw_4 x5 x7 r_6 1
          else
            fL_speaks_361 L xs s5 a2 s3_4 syz_4 syw_4 x5 x7 r_6 0
    else
      fL_speaks_374 L xs s5 a2 s3 syz syw x5 t0 x7
def fL_speaks_301 (L : Nat) (xs : Nat → Int32) (s5 : S5) (a2 : Int32) (s3 : S3) (syz : Syz) (syw : Syw) (x5 : Int32) (x7 : Int32) : Option (Int32 × S3 × Syz × Syw) :=
    fL_speaks_302 L xs s5 a2 s3 syz syw x5 x7 0
def fL_speaks_291 (L : Nat) (xs : Nat → Int32) (s5 : S5) (a2 : Int32) (s3 : S3) (syz : Syz) (syw : Syw) (x5 : Int32) (x7 : Int32) (t1 : Int32) (t4 : Int32) : Option (Int32 × S3 × Syz × Syw) :=
    bn4 (fL_phrase s3 s5 syz syw t1 t4) fun r_1 s3_1 syz_1 syw_1 =>
    if r_1 = 0 then
      fL_speaks_301 L xs s5 a2 s3_1 syz_1 syw_1 x5 x7
    else
      fL_speaks_302 L xs s5 a2 s3_1 syz_1 syw_1 x5 x7 1
def fL_speaks_257 (L : Nat) (xs : Nat → Int32) (s5 : S5) (a2 : Int32) (s3 : S3) (syz : Syz) (syw : Syw) (x5 : Int32) (x7 : Int32) (t3 : Int32) : Option (Int32 × S3 × Syz × Syw) :=
    bn4 (fL_adds s3 s5 syz syw t3) fun r_1 s3_1 syz_1 syw_1 =>
    if r_1 = 0 then
      fL_speaks_301 L xs s5 a2 s3_1 syz_1 syw_1 x5 x7
    else
      bn1 (fL_cell L xs (a2 + 2)) fun r_3 =>
      bn1 (fL_some (x5 >>> (9 &&& 31)) 2) fun r_4 =>
      if r_4 = 0 then
        fL_speaks_291 L xs s5 a2 s3_1 syz_1 syw_1 x5 x7 r_3 1
      else
        fL_speaks_291 L xs s5 a2 s3_1 syz_1 syw_1 x5 x7 r_3 0
def fL_speaks_215 (L : Nat) (xs : Nat → Int32) (s5 : S5) (a2 : Int32) (s3 : S3) (syz : Syz) (syw : Syw) (x5 : Int32) (x7 : Int32) (t0 : Int32) : Option (Int32 × S3 × Syz × Syw) :=
    bn1 (fL_some (x5 >>> (6 &&& 31)) 3) fun r_1 =>
    if r_1 = 0 then
      if t0 = 0 then
        fL_speaks_301 L xs s5 a2 s3 syz syw x5 x7
      else
        bn1 (fL_some (x5 >>> (8 &&& 31)) 2) fun r_4 =>
        if r_4 = 0 then
          fL_speaks_257 L xs s5 a2 s3 syz syw x5 x7 13
        else
          fL_speaks_257 L xs s5 a2 s3 syz syw x5 x7 12
    else
      fL_speaks_374 L xs s5 a2 s3 syz syw x5 t0 x7
def fL_speaks_214 (L : Nat) (xs : Nat → Int32) (s5 : S5) (a2 : Int32) (s3 : S3) (syz : Syz) (syw : Syw) (x5 : Int32) (x7 : Int32) : Option (Int32 × S3 × Syz × Syw) :=
    fL_speaks_215 L xs s5 a2 s3 syz syw x5 x7 0
def fL_speaks_170 (L : Nat) (xs : Nat → Int32) (s5 : S5) (a2 : Int32) (s3 : S3) (syz : Syz) (syw : Syw) (x5 : Int32) : Option (Int32 × S3 × Syz × Syw) :=
    bn1 (fL_some (x5 >>> (3 &&& 31)) 5) fun r_1 =>
    bn4 (fL_adds s3 s5 syz syw r_1) fun r_2 s3_2 syz_2 syw_2 =>
    if r_2 = 0 then
      fL_speaks_214 L xs s5 a2 s3_2 syz_2 syw_2 x5 r_1
    else
      bn1 (fL_cell L xs (a2 + 1)) fun r_4 =>
      bn4 (fL_phrase s3_2 s5 syz_2 syw_2 r_4 0) fun r_5 s3_5 syz_5 syw_5 =>
      if r_5 = 0 then
        fL_speaks_214 L xs s5 a2 s3_5 syz_5 syw_5 x5 r_1
      else
        fL_speaks_215 L xs s5 a2 s3_5 syz_5 syw_5 x5 r_1 1
def fL_speaks_169 (L : Nat) (xs : Nat → Int32) (s5 : S5) (a2 : Int32) (s3 : S3) (syz : Syz) (syw : Syw) (t0 : Int32) : Option (Int32 × S3 × Syz × Syw) :=
    bo t0 <|
    some (t0, s3, syz, syw)
def fL_speaks_168 (L : Nat) (xs : Nat → Int32) (s5 : S5) (a2 : Int32) (s3 : S3) (syz : Syz) (syw : Syw) : Option (Int32 × S3 × Syz × Syw) :=
    fL_speaks_169 L xs s5 a2 s3 syz syw 0
def fL_speaks_164 (L : Nat) (xs : Nat → Int32) (s5 : S5) (a2 : Int32) (s3 : S3) (syz : Syz) (syw : Syw) : Option (Int32 × S3 × Syz × Syw) :=
    fL_speaks_169 L xs s5 a2 s3 syz syw 1
def fL_speaks_158 (L : Nat) (xs : Nat → Int32) (s5 : S5) (a2 : Int32) (s3 : S3) (syz : Syz) (syw : Syw) (t3 : Int32) : Option (Int32 × S3 × Syz × Syw) :=
    bn4 (fL_adds s3 s5 syz syw t3) fun r_1 s3_1 syz_1 syw_1 =>
    if r_1 = 0 then
      fL_speaks_168 L xs s5 a2 s3_1 syz_1 syw_1
    else
      fL_speaks_164 L xs s5 a2 s3_1 syz_1 syw_1
def fL_speaks_106 (L : Nat) (xs : Nat → Int32) (s5 : S5) (a2 : Int32) (s3 : S3) (syz : Syz) (syw : Syw) (x7 : Int32) (t0 : Int32) : Option (Int32 × S3 × Syz × Syw) :=
    if t0 = 0 then
      fL_speaks_168 L xs s5 a2 s3 syz syw
    else
      bn1 (fL_some (x7 >>> (6 &&& 31)) 3) fun r_2 =>
      if r_2 = 0 then
        fL_speaks_164 L xs s5 a2 s3 syz syw
      else
        bn1 (fL_some (x7 >>> (8 &&& 31)) 4) fun r_4 =>
        if r_4 = 0 then
          fL_speaks_158 L xs s5 a2 s3 syz syw 17
        else
          bn1 (fL_some (x7 >>> (8 &&& 31)) 2) fun r_6 =>
          fL_speaks_158 L xs s5 a2 s3 syz syw (30 + r_6)
def fL_speaks_105 (L : Nat) (xs : Nat → Int32) (s5 : S5) (a2 : Int32) (s3 : S3) (syz : Syz) (syw : Syw) (x7 : Int32) : Option (Int32 × S3 × Syz × Syw) :=
    fL_speaks_106 L xs s5 a2 s3 syz syw x7 0
def fL_speaks_101 (L : Nat) (xs : Nat → Int32) (s5 : S5) (a2 : Int32) (s3 : S3) (syz : Syz) (syw : Syw) (x7 : Int32) : Option (Int32 × S3 × Syz × Syw) :=
    fL_speaks_106 L xs s5 a2 s3 syz syw x7 1
def fL_speaks_62 (L : Nat) (xs : Nat → Int32) (s5 : S5) (a2 : Int32) (s3 : S3) (syz : Syz) (syw : Syw) (x7 : Int32) (t0 : Int32) : Option (Int32 × S3 × Syz × Syw) :=
    if t0 = 0 then
      fL_speaks_105 L xs s5 a2 s3 syz syw x7
    else
      bn1 (fL_some (x7 >>> (2 &&& 31)) 2) fun r_2 =>
      if r_2 = 0 then
        fL_speaks_101 L xs s5 a2 s3 syz syw x7
      else
        bn1 (fL_some (x7 >>> (4 &&& 31)) 3) fun r_4 =>
        bn4 (fL_adds s3 s5 syz syw (20 + r_4)) fun r_5 s3_5 syz_5 syw_5 =>
        if r_5 = 0 then
          fL_speaks_105 L xs s5 a2 s3_5 syz_5 syw_5 x7
        else
          fL_speaks_101 L xs s5 a2 s3_5 syz_5 syw_5 x7
def fL_speaks_57 (L : Nat) (xs : Nat → Int32) (s5 : S5) (a2 : Int32) (s3 : S3) (syz : Syz) (syw : Syw) (x7 : Int32) : Option (Int32 × S3 × Syz × Syw) :=
    fL_speaks_62 L xs s5 a2 s3 syz syw x7 1
def fL_speaks (L : Nat) (xs : Nat → Int32) (s3 : S3) (s5 : S5) (syz : Syz) (syw : Syw) (a2 : Int32) : Option (Int32 × S3 × Syz × Syw) :=
  bn1 (fL_cell L xs a2) fun r_1 =>
  ai 13 9 <|
  if (syz (9 : Int32).toNatClampNeg) ≤ 0 then
    fL_speaks_170 L xs s5 a2 s3 syz syw r_1
  else
    bn1 (fL_some r_1 4) fun r_4 =>
    if r_4 ≤ 0 then
      fL_speaks_170 L xs s5 a2 s3 syz syw r_1
    else
      bn1 (fL_cell L xs (a2 + 1)) fun r_6 =>
      bn1 (fL_some r_6 3) fun r_7 =>
      if 0 < r_7 then
        fL_speaks_57 L xs s5 a2 s3 syz syw r_6
      else
        bn4 (fL_adds s3 s5 syz syw 10) fun r_9 s3_9 syz_9 syw_9 =>
        if r_9 = 0 then
          fL_speaks_62 L xs s5 a2 s3_9 syz_9 syw_9 r_6 0
        else
          fL_speaks_57 L xs s5 a2 s3_9 syz_9 syw_9 r_6
def fL_tells_61 (s1 : S1) (s2 : S2) (s4 : S4) (s5 : S5) (syt : Syt) (syz : Syz) : Option (Int32) :=
    some 0
def fL_tells_58 (s1 : S1) (s2 : S2) (s4 : S4) (s5 : S5) (syt : Syt) (syz : Syz) (k2 : Int32 → Option (Int32)) (x3 : Int32) (t0 : Int32) (t1 : Int32) : Option (Int32) :=
    if t0 = t1 then
      k2 (x3 + 1)
    else
      fL_tells_61 s1 s2 s4 s5 syt syz
def fL_tells_32 (s1 : S1) (s2 : S2) (s4 : S4) (s5 : S5) (syt : Syt) (syz : Syz) (k2 : Int32 → Option (Int32)) (x3 : Int32) (t0 : Int32) (t1 : Int32) : Option (Int32) :=
    if t0 = t1 then
      bn1 (fL_opened s4 s5 x3) fun r_2 =>
      ai 13 0 <|
      if (syz (0 : Int32).toNatClampNeg) ≤ x3 then
        fL_tells_58 s1 s2 s4 s5 syt syz k2 x3 r_2 (-101)
      else
        ai 30 (18 + x3) <|
        fL_tells_58 s1 s2 s4 s5 syt syz k2 x3 r_2 (syt (18 + x3).toNatClampNeg)
    else
      fL_tells_61 s1 s2 s4 s5 syt syz
def fL_tells_181 (s1 : S1) (s2 : S2) (s4 : S4) (s5 : S5) (syt : Syt) (syz : Syz) (t0 : Int32) : Option (Int32) :=
    bo t0 <|
    some t0
def fL_tells_180 (s1 : S1) (s2 : S2) (s4 : S4) (s5 : S5) (syt : Syt) (syz : Syz) : Option (Int32) :=
    fL_tells_181 s1 s2 s4 s5 syt syz 0
def fL_tells_2 (s1 : S1) (s2 : S2) (s4 : S4) (s5 : S5) (syt : Syt) (syz : Syz) : Nat → Int32 → Option (Int32)
  | 0, _ => none
  | n + 1, x3 =>
      ai 13 0 <|
      if (syz (0 : Int32).toNatClampNeg) < x3 then
        bn1 (fX5_inReach s4 s5) fun r_3 =>
        bn1 (fL_reach syt syz) fun r_4 =>
        if r_3 = r_4 then
          bn1 (fX5_outcome s5) fun r_6 =>
          ai 13 2 <|
          if r_6 = (syz (2 : Int32).toNatClampNeg) then
            bn1 (fX5_wrongAt s5) fun r_9 =>
            ai 13 3 <|
            if r_9 = (syz (3 : Int32).toNatClampNeg) then
              bn1 (fX5_verb s1 s5) fun r_12 =>
              ai 13 4 <|
              if r_12 = (syz (4 : Int32).toNatClampNeg) then
                bn1 (fX5_meant s1 s5) fun r_15 =>
                ai 13 5 <|
                if r_15 = (syz (5 : Int32).toNatClampNeg) then
                  bn1 (fX5_done s1 s5) fun r_18 =>
                  ai 13 6 <|
                  if r_18 = (syz (6 : Int32).toNatClampNeg) then
                    bn1 (fX5_into s1 s5) fun r_21 =>
                    ai 13 7 <|
                    if r_21 = (syz (7 : Int32).toNatClampNeg) then
                      bn1 (fX5_asked s5) fun r_24 =>
                      ai 13 9 <|
                      if r_24 = (syz (9 : Int32).toNatClampNeg) then
                        bn1 (fX5_askedAt s2 s5) fun r_27 =>
                        ai 13 10 <|
                        if r_27 = (syz (10 : Int32).toNatClampNeg) then
                          bn1 (fX5_questions s5) fun r_30 =>
                          ai 13 11 <|
                          if r_30 = (syz (11 : Int32).toNatClampNeg) then
                            fL_tells_181 s1 s2 s4 s5 syt syz 1
                          else
                            fL_tells_180 s1 s2 s4 s5 syt syz
                        else
                          fL_tells_180 s1 s2 s4 s5 syt syz
                      else
                        fL_tells_180 s1 s2 s4 s5 syt syz
                    else
                      fL_tells_180 s1 s2 s4 s5 syt syz
                  else
                    fL_tells_180 s1 s2 s4 s5 syt syz
                else
                  fL_tells_180 s1 s2 s4 s5 syt syz
              else
                fL_tells_180 s1 s2 s4 s5 syt syz
            else
              fL_tells_180 s1 s2 s4 s5 syt syz
          else
            fL_tells_180 s1 s2 s4 s5 syt syz
        else
          fL_tells_180 s1 s2 s4 s5 syt syz
      else
        bn1 (fL_placed s4 s5 x3) fun r_33 =>
        ai 13 0 <|
        if (syz (0 : Int32).toNatClampNeg) ≤ x3 then
          fL_tells_32 s1 s2 s4 s5 syt syz (fun x3 => fL_tells_2 s1 s2 s4 s5 syt syz n x3) x3 r_33 (-101)
        else
          ai 30 (24 + x3) <|
          fL_tells_32 s1 s2 s4 s5 syt syz (fun x3 => fL_tells_2 s1 s2 s4 s5 syt syz n x3) x3 r_33 (syt (24 + x3).toNatClampNeg)
def fL_tells (s1 : S1) (s2 : S2) (s4 : S4) (s5 : S5) (syt : Syt) (syz : Syz) : Option (Int32) :=
  fL_tells_2 s1 s2 s4 s5 syt syz 64 0
def fL_law_304 (L : Nat) (xs : Nat → Int32) (s0 : S0) (s1 : S1) (s2 : S2) (s3 : S3) (s4 : S4) (s5 : S5) (syt : Syt) (syz : Syz) (syw : Syw) (syu : Syu) (syv : Syv) : Option Int32 :=
    some 0
def fL_law_274 (L : Nat) (xs : Nat → Int32) (k66 : S0 → S1 → S2 → S3 → S4 → S5 → Syt → Syz → Syw → Syu → Syv → Int32 → Option Int32) (s0 : S0) (s1 : S1) (s2 : S2) (s3 : S3) (s4 : S4) (s5 : S5) (syt : Syt) (syz : Syz) (syw : Syw) (syu : Syu) (syv : Syv) (x7 : Int32) (t1 : Int32) (t2 : Int32) (t3 : Int32) : Option Int32 :=
    ai 13 t1 <|
    bn7 (fX5_say s0 s1 s2 s3 s4 s5) fun r_2 s0_2 s1_2 s2_2 s3_2 s4_2 s5_2 =>
    ai 13 2 <|
    if r_2 = ((upd syz t1.toNatClampNeg (t2 + t3)) (2 : Int32).toNatClampNeg) then
      bn1 (fL_tells s1_2 s2_2 s4_2 s5_2 syt (upd syz t1.toNatClampNeg (t2 + t3))) fun r_5 =>
      if r_5 = 0 then
        fL_law_304 L xs s0_2 s1_2 s2_2 s3_2 s4_2 s5_2 syt (upd syz t1.toNatClampNeg (t2 + t3)) syw syu syv
      else
        bn2 (fL_backed s3_2 s5_2) fun r_7 s3_7 =>
        if r_7 = (-101) then
          k66 s0_2 s1_2 s2_2 s3_7 s4_2 s5_2 syt (upd syz t1.toNatClampNeg (t2 + t3)) syw syu syv (x7 + 1)
        else
          fL_law_304 L xs s0_2 s1_2 s2_2 s3_7 s4_2 s5_2 syt (upd syz t1.toNatClampNeg (t2 + t3)) syw syu syv
    else
      fL_law_304 L xs s0_2 s1_2 s2_2 s3_2 s4_2 s5_2 syt (upd syz t1.toNatClampNeg (t2 + t3)) syw syu syv
def fL_law_219 (L : Nat) (xs : Nat → Int32) (k66 : S0 → S1 → S2 → S3 → S4 → S5 → Syt → Syz → Syw → Syu → Syv → Int32 → Option Int32) (s0 : S0) (s1 : S1) (s2 : S2) (s3 : S3) (s4 : S4) (s5 : S5) (syt : Syt) (syz : Syz) (syw : Syw) (syu : Syu) (syv : Syv) (x7 : Int32) : Option Int32 :=
    ai 13 1 <|
    bn4 (fL_speaks L xs s3 s5 (upd syz (1 : Int32).toNatClampNeg 0) syw ((6 * x7) + 1)) fun r_2 s3_2 syz_2 syw_2 =>
    if r_2 = 0 then
      some 0
    else
      bn5 (fL_said syt syz_2 syw_2 syu syv) fun r_4 syt_4 syz_4 syu_4 syv_4 =>
      ai 13 2 <|
      ai 13 11 <|
      ai 13 2 <|
      if ((upd syz_4 (2 : Int32).toNatClampNeg r_4) (2 : Int32).toNatClampNeg) = 1 then
        fL_law_274 L xs k66 s0 s1 s2 s3_2 s4 s5 syt_4 (upd syz_4 (2 : Int32).toNatClampNeg r_4) syw_2 syu_4 syv_4 x7 11 ((upd syz_4 (2 : Int32).toNatClampNeg r_4) (11 : Int32).toNatClampNeg) 1
      else
        fL_law_274 L xs k66 s0 s1 s2 s3_2 s4 s5 syt_4 (upd syz_4 (2 : Int32).toNatClampNeg r_4) syw_2 syu_4 syv_4 x7 11 ((upd syz_4 (2 : Int32).toNatClampNeg r_4) (11 : Int32).toNatClampNeg) 0
def fL_law_209 (L : Nat) (xs : Nat → Int32) (k66 : S0 → S1 → S2 → S3 → S4 → S5 → Syt → Syz → Syw → Syu → Syv → Int32 → Option Int32) (s0 : S0) (s1 : S1) (s2 : S2) (s3 : S3) (s4 : S4) (s5 : S5) (syt : Syt) (syz : Syz) (syw : Syw) (syu : Syu) (syv : Syv) (x7 : Int32) (x9 : Int32) (t1 : Int32) (t2 : Int32) (t3 : Int32) : Option Int32 :=
    bn3 (fX5_thing s4 s5 t1 t2 t3) fun k_1 r_1 s4_1 =>
    nk k_1 <|
    if r_1 = x9 then
      fL_law_219 L xs k66 s0 s1 s2 s3 s4_1 s5 syt syz syw syu syv x7
    else
      some 0
def fL_law_164 (L : Nat) (xs : Nat → Int32) (k66 : S0 → S1 → S2 → S3 → S4 → S5 → Syt → Syz → Syw → Syu → Syv → Int32 → Option Int32) (s0 : S0) (s1 : S1) (s2 : S2) (s3 : S3) (s4 : S4) (s5 : S5) (syt : Syt) (syz : Syz) (syw : Syw) (syu : Syu) (syv : Syv) (x7 : Int32) (x9 : Int32) (t1 : Int32) (t2 : Int32) : Option Int32 :=
    ai 30 t1 <|
    ai 30 (24 + x9) <|
    ai 13 0 <|
    ai 13 0 <|
    ai 30 x9 <|
    ai 30 (6 + x9) <|
    ai 30 (12 + x9) <|
    if ((upd (upd syt t1.toNatClampNeg t2) (24 + x9).toNatClampNeg (-2)) (12 + x9).toNatClampNeg) = 1 then
      fL_law_209 L xs k66 s0 s1 s2 s3 s4 s5 (upd (upd syt t1.toNatClampNeg t2) (24 + x9).toNatClampNeg (-2)) (upd syz (0 : Int32).toNatClampNeg ((syz (0 : Int32).toNatClampNeg) + 1)) syw syu syv x7 x9 ((upd (upd syt t1.toNatClampNeg t2) (24 + x9).toNatClampNeg (-2)) x9.toNatClampNeg) ((upd (upd syt t1.toNatClampNeg t2) (24 + x9).toNatClampNeg (-2)) (6 + x9).toNatClampNeg) 1
    else
      fL_law_209 L xs k66 s0 s1 s2 s3 s4 s5 (upd (upd syt t1.toNatClampNeg t2) (24 + x9).toNatClampNeg (-2)) (upd syz (0 : Int32).toNatClampNeg ((syz (0 : Int32).toNatClampNeg) + 1)) syw syu syv x7 x9 ((upd (upd syt t1.toNatClampNeg t2) (24 + x9).toNatClampNeg (-2)) x9.toNatClampNeg) ((upd (upd syt t1.toNatClampNeg t2) (24 + x9).toNatClampNeg (-2)) (6 + x9).toNatClampNeg) 0
def fL_law_108 (L : Nat) (xs : Nat → Int32) (k66 : S0 → S1 → S2 → S3 → S4 → S5 → Syt → Syz → Syw → Syu → Syv → Int32 → Option Int32) (s0 : S0) (s1 : S1) (s2 : S2) (s3 : S3) (s4 : S4) (s5 : S5) (syt : Syt) (syz : Syz) (syw : Syw) (syu : Syu) (syv : Syv) (x7 : Int32) (x8 : Int32) : Option Int32 :=
    ai 13 0 <|
    bn1 (fL_some (x8 >>> (4 &&& 31)) 2) fun r_2 =>
    ai 30 (syz (0 : Int32).toNatClampNeg) <|
    bn1 (fL_some (x8 >>> (6 &&& 31)) 4) fun r_4 =>
    ai 30 (6 + (syz (0 : Int32).toNatClampNeg)) <|
    bl (upd (upd syt (syz (0 : Int32).toNatClampNeg).toNatClampNeg r_2) (6 + (syz (0 : Int32).toNatClampNeg)).toNatClampNeg r_4) fun y_6 =>
    bn1 (fL_some (x8 >>> (9 &&& 31)) 3) fun r_7 =>
    if r_7 ≤ 0 then
      fL_law_164 L xs k66 s0 s1 s2 s3 s4 s5 y_6 syz syw syu syv x7 (syz (0 : Int32).toNatClampNeg) (12 + (syz (0 : Int32).toNatClampNeg)) 0
    else
      fL_law_164 L xs k66 s0 s1 s2 s3 s4 s5 y_6 syz syw syu syv x7 (syz (0 : Int32).toNatClampNeg) (12 + (syz (0 : Int32).toNatClampNeg)) 1
def fL_law_66 (L : Nat) (xs : Nat → Int32) : Nat → S0 → S1 → S2 → S3 → S4 → S5 → Syt → Syz → Syw → Syu → Syv → Int32 → Option Int32
  | 0, _, _, _, _, _, _, _, _, _, _, _, _ => none
  | n + 1, s0, s1, s2, s3, s4, s5, syt, syz, syw, syu, syv, x7 =>
      if 40 ≤ x7 then
        some 1
      else
        bn1 (fL_cell L xs (6 * x7)) fun r_2 =>
        ai 13 0 <|
        if 6 ≤ (syz (0 : Int32).toNatClampNeg) then
          fL_law_219 L xs (fun s0 s1 s2 s3 s4 s5 syt syz syw syu syv x7 => fL_law_66 L xs n s0 s1 s2 s3 s4 s5 syt syz syw syu syv x7) s0 s1 s2 s3 s4 s5 syt syz syw syu syv x7
        else
          if x7 < 3 then
            fL_law_108 L xs (fun s0 s1 s2 s3 s4 s5 syt syz syw syu syv x7 => fL_law_66 L xs n s0 s1 s2 s3 s4 s5 syt syz syw syu syv x7) s0 s1 s2 s3 s4 s5 syt syz syw syu syv x7 r_2
          else
            bn1 (fL_some r_2 11) fun r_6 =>
            if r_6 = 0 then
              fL_law_108 L xs (fun s0 s1 s2 s3 s4 s5 syt syz syw syu syv x7 => fL_law_66 L xs n s0 s1 s2 s3 s4 s5 syt syz syw syu syv x7) s0 s1 s2 s3 s4 s5 syt syz syw syu syv x7 r_2
            else
              fL_law_219 L xs (fun s0 s1 s2 s3 s4 s5 syt syz syw syu syv x7 => fL_law_66 L xs n s0 s1 s2 s3 s4 s5 syt syz syw syu syv x7) s0 s1 s2 s3 s4 s5 syt syz syw syu syv x7
