def fX5_thing (s4 : S4) (s5 : S5) (a1 : Int32) (a2 : Int32) (a3 : Int32) : Option (Int32 × Int32 × S4) :=
  if a1 < 0 then
    some (1, 0, s4)
  else
    if a1 < 8 then
      if a2 < 0 then
        some (1, 0, s4)
      else
        if a2 < 64 then
          if (S4_count s4) < 12 then
            bn2 (fX4_add s4 a1 a2 a3) fun r_6 s4_6 =>
            some (0, r_6, s4_6)
          else
            some (2, 0, s4)
        else
          some (1, 0, s4)
    else
      some (1, 0, s4)
def fX5_placeOf (s4 : S4) (s5 : S5) (a1 : Int32) : Option (Int32 × Int32) :=
  bn1 (fX4_has s4 a1) fun r_1 =>
  if r_1 = 0 then
    some (1, 0)
  else
    bn1 (fX4_holderOf s4 a1) fun r_3 =>
    some (0, r_3)
def fX5_isOpen (s4 : S4) (s5 : S5) (a1 : Int32) : Option (Int32 × Int32) :=
  bn1 (fX4_has s4 a1) fun r_1 =>
  if r_1 = 0 then
    some (1, 0)
  else
    bn1 (fX5_contains (S4_openBoxes s4) a1) fun r_3 =>
    bo r_3 <|
    some (0, r_3)
def fX5_word (s3 : S3) (s5 : S5) (a1 : Int32) : Option (Int32 × Int32 × S3) :=
  bn1 (fX5_isWord a1) fun r_1 =>
  if r_1 = 0 then
    some (1, 0, s3)
  else
    if (S3_count s3) < 24 then
      bn1 (fX3_add s3 a1) fun s3_4 =>
      some (0, (S3_count s3_4), s3_4)
    else
      some (2, 0, s3)
def fX5_back (s3 : S3) (s5 : S5) : Option (Int32 × Int32 × S3) :=
  if 0 < (S3_count s3) then
    bn2 (fX3_removeLast s3) fun r_2 s3_2 =>
    some (0, r_2, s3_2)
  else
    some (1, 0, s3)
abbrev SO : Type := Nat → Int64
def fL_law_574 (L : Nat) (xs : Nat → Int32) (k23 : S0 → S1 → S2 → S3 → S4 → S5 → S6 → SO → Int32 → Option Int32) (s0 : S0) (s1 : S1) (s2 : S2) (s3 : S3) (s4 : S4) (s5 : S5) (s6 : S6) (sO : SO) (x4 : Int32) : Option Int32 :=
    k23 s0 s1 s2 s3 s4 s5 s6 sO (x4 + 4)
def fL_law_441 (L : Nat) (xs : Nat → Int32) (k23 : S0 → S1 → S2 → S3 → S4 → S5 → S6 → SO → Int32 → Option Int32) (s0 : S0) (s1 : S1) (s2 : S2) (s3 : S3) (s4 : S4) (s5 : S5) (s6 : S6) (sO : SO) (x4 : Int32) : Option Int32 :=
    fL_law_574 L xs k23 s0 s1 s2 s3 s4 s5 s6 sO x4
def fL_law_397 (L : Nat) (xs : Nat → Int32) (k23 : S0 → S1 → S2 → S3 → S4 → S5 → S6 → SO → Int32 → Option Int32) (s0 : S0) (s1 : S1) (s2 : S2) (s3 : S3) (s4 : S4) (s5 : S5) (s6 : S6) (sO : SO) (x4 : Int32) : Option Int32 :=
    fL_law_574 L xs k23 s0 s1 s2 s3 s4 s5 s6 sO x4
def fL_law_328 (L : Nat) (xs : Nat → Int32) (k23 : S0 → S1 → S2 → S3 → S4 → S5 → S6 → SO → Int32 → Option Int32) (s0 : S0) (s1 : S1) (s2 : S2) (s3 : S3) (s4 : S4) (s5 : S5) (s6 : S6) (sO : SO) (x4 : Int32) : Option Int32 :=
    fL_law_574 L xs k23 s0 s1 s2 s3 s4 s5 s6 sO x4
def fL_law_265 (L : Nat) (xs : Nat → Int32) (k23 : S0 → S1 → S2 → S3 → S4 → S5 → S6 → SO → Int32 → Option Int32) (s0 : S0) (s1 : S1) (s2 : S2) (s3 : S3) (s4 : S4) (s5 : S5) (s6 : S6) (sO : SO) (x4 : Int32) : Option Int32 :=
    fL_law_574 L xs k23 s0 s1 s2 s3 s4 s5 s6 sO x4
def fL_law_209 (L : Nat) (xs : Nat → Int32) (k23 : S0 → S1 → S2 → S3 → S4 → S5 → S6 → SO → Int32 → Option Int32) (s0 : S0) (s1 : S1) (s2 : S2) (s3 : S3) (s4 : S4) (s5 : S5) (s6 : S6) (sO : SO) (x4 : Int32) : Option Int32 :=
    fL_law_574 L xs k23 s0 s1 s2 s3 s4 s5 s6 sO x4
def fL_law_176 (L : Nat) (xs : Nat → Int32) (k23 : S0 → S1 → S2 → S3 → S4 → S5 → S6 → SO → Int32 → Option Int32) (s0 : S0) (s1 : S1) (s2 : S2) (s3 : S3) (s4 : S4) (s5 : S5) (s6 : S6) (sO : SO) (x4 : Int32) (x5 : Int32) (t1 : Int32) (t2 : Int32) (t3 : Int32) : Option Int32 :=
    bn2 (fX6_thing s6 t1 t2 t3) fun r_1 s6_1 =>
    bn1 (fX6_thrown s6_1) fun r_2 =>
    if r_2 = x5 then
      if x5 = 0 then
        if (lg_cmp (sO (0 : Int32).toNatClampNeg) r_1.toInt64) = 0 then
          fL_law_209 L xs k23 s0 s1 s2 s3 s4 s5 s6_1 sO x4
        else
          some 0
      else
        fL_law_209 L xs k23 s0 s1 s2 s3 s4 s5 s6_1 sO x4
    else
      some 0
def fL_law_143 (L : Nat) (xs : Nat → Int32) (k23 : S0 → S1 → S2 → S3 → S4 → S5 → S6 → SO → Int32 → Option Int32) (s0 : S0) (s1 : S1) (s2 : S2) (s3 : S3) (s4 : S4) (s5 : S5) (s6 : S6) (sO : SO) (x4 : Int32) (t1 : Int32) (t2 : Int32) (t3 : Int32) : Option Int32 :=
    bn3 (fX5_thing s4 s5 t1 t2 t3) fun k_1 r_1 s4_1 =>
    ai L (x4 + 1) <|
    ai L (x4 + 2) <|
    ai L (x4 + 3) <|
    if (xs (x4 + 3).toNatClampNeg) = 0 then
      fL_law_176 L xs k23 s0 s1 s2 s3 (if k_1 = 0 then s4_1 else s4) s5 s6 (if k_1 = 0 then vp_updL sO 0 r_1.toInt64 else sO) x4 k_1 (xs (x4 + 1).toNatClampNeg) (xs (x4 + 2).toNatClampNeg) 0
    else
      fL_law_176 L xs k23 s0 s1 s2 s3 (if k_1 = 0 then s4_1 else s4) s5 s6 (if k_1 = 0 then vp_updL sO 0 r_1.toInt64 else sO) x4 k_1 (xs (x4 + 1).toNatClampNeg) (xs (x4 + 2).toNatClampNeg) 1
def fL_law_23 (L : Nat) (xs : Nat → Int32) : Nat → S0 → S1 → S2 → S3 → S4 → S5 → S6 → SO → Int32 → Option Int32
  | 0, _, _, _, _, _, _, _, _, _ => none
  | n + 1, s0, s1, s2, s3, s4, s5, s6, sO, x4 =>
      if ((Int32.ofNat L) - 4) < x4 then
        some 1
      else
        ai L x4 <|
        if ((xs x4.toNatClampNeg) &&& 15) = 0 then
          ai L (x4 + 1) <|
          ai L (x4 + 2) <|
          ai L (x4 + 3) <|
          if (xs (x4 + 3).toNatClampNeg) = 0 then
            fL_law_143 L xs (fun s0 s1 s2 s3 s4 s5 s6 sO x4 => fL_law_23 L xs n s0 s1 s2 s3 s4 s5 s6 sO x4) s0 s1 s2 s3 s4 s5 s6 sO x4 (xs (x4 + 1).toNatClampNeg) (xs (x4 + 2).toNatClampNeg) 0
          else
            fL_law_143 L xs (fun s0 s1 s2 s3 s4 s5 s6 sO x4 => fL_law_23 L xs n s0 s1 s2 s3 s4 s5 s6 sO x4) s0 s1 s2 s3 s4 s5 s6 sO x4 (xs (x4 + 1).toNatClampNeg) (xs (x4 + 2).toNatClampNeg) 1
        else
        if ((xs x4.toNatClampNeg) &&& 15) = 1 then
          ai L (x4 + 1) <|
          bn2 (fX5_placeOf s4 s5 (xs (x4 + 1).toNatClampNeg)) fun k_10 r_10 =>
          ai L (x4 + 1) <|
          bn2 (fX6_placeOf s6 (xs (x4 + 1).toNatClampNeg)) fun r_12 s6_12 =>
          bn1 (fX6_thrown s6_12) fun r_13 =>
          if r_13 = k_10 then
            if k_10 = 0 then
              if (lg_cmp ((if k_10 = 0 then vp_updL sO 0 r_10.toInt64 else sO) (0 : Int32).toNatClampNeg) r_12.toInt64) = 0 then
                fL_law_265 L xs (fun s0 s1 s2 s3 s4 s5 s6 sO x4 => fL_law_23 L xs n s0 s1 s2 s3 s4 s5 s6 sO x4) s0 s1 s2 s3 s4 s5 s6_12 (if k_10 = 0 then vp_updL sO 0 r_10.toInt64 else sO) x4
              else
                some 0
            else
              fL_law_265 L xs (fun s0 s1 s2 s3 s4 s5 s6 sO x4 => fL_law_23 L xs n s0 s1 s2 s3 s4 s5 s6 sO x4) s0 s1 s2 s3 s4 s5 s6_12 (if k_10 = 0 then vp_updL sO 0 r_10.toInt64 else sO) x4
          else
            some 0
        else
        if ((xs x4.toNatClampNeg) &&& 15) = 2 then
          ai L (x4 + 1) <|
          bn2 (fX5_isOpen s4 s5 (xs (x4 + 1).toNatClampNeg)) fun k_19 r_19 =>
          ai L (x4 + 1) <|
          bn2 (fX6_isOpen s6 (xs (x4 + 1).toNatClampNeg)) fun r_21 s6_21 =>
          bn1 (fX6_thrown s6_21) fun r_22 =>
          if r_22 = k_19 then
            if k_19 = 0 then
              if r_21 = 0 then
                if (lg_cmp ((if k_19 = 0 then vp_updL sO 0 (if r_19 = 0 then 0 else 1) else sO) (0 : Int32).toNatClampNeg) 0) = 0 then
                  fL_law_328 L xs (fun s0 s1 s2 s3 s4 s5 s6 sO x4 => fL_law_23 L xs n s0 s1 s2 s3 s4 s5 s6 sO x4) s0 s1 s2 s3 s4 s5 s6_21 (if k_19 = 0 then vp_updL sO 0 (if r_19 = 0 then 0 else 1) else sO) x4
                else
                  some 0
              else
                if (lg_cmp ((if k_19 = 0 then vp_updL sO 0 (if r_19 = 0 then 0 else 1) else sO) (0 : Int32).toNatClampNeg) 1) = 0 then
                  fL_law_328 L xs (fun s0 s1 s2 s3 s4 s5 s6 sO x4 => fL_law_23 L xs n s0 s1 s2 s3 s4 s5 s6 sO x4) s0 s1 s2 s3 s4 s5 s6_21 (if k_19 = 0 then vp_updL sO 0 (if r_19 = 0 then 0 else 1) else sO) x4
                else
                  some 0
            else
              fL_law_328 L xs (fun s0 s1 s2 s3 s4 s5 s6 sO x4 => fL_law_23 L xs n s0 s1 s2 s3 s4 s5 s6 sO x4) s0 s1 s2 s3 s4 s5 s6_21 (if k_19 = 0 then vp_updL sO 0 (if r_19 = 0 then 0 else 1) else sO) x4
          else
            some 0
        else
        if ((xs x4.toNatClampNeg) &&& 15) = 3 then
          bn1 (fX5_inReach s4 s5) fun r_29 =>
          bn2 (fX6_inReach s6) fun r_30 s6_30 =>
          if r_29 = r_30 then
            fL_law_574 L xs (fun s0 s1 s2 s3 s4 s5 s6 sO x4 => fL_law_23 L xs n s0 s1 s2 s3 s4 s5 s6 sO x4) s0 s1 s2 s3 s4 s5 s6_30 sO x4
          else
            some 0
        else
        if ((xs x4.toNatClampNeg) &&& 15) = 4 then
          ai L (x4 + 1) <|
          bn3 (fX5_word s3 s5 (xs (x4 + 1).toNatClampNeg)) fun k_34 r_34 s3_34 =>
          ai L (x4 + 1) <|
          bn2 (fX6_word s6 (xs (x4 + 1).toNatClampNeg)) fun r_36 s6_36 =>
          bn1 (fX6_thrown s6_36) fun r_37 =>
          if r_37 = k_34 then
            if k_34 = 0 then
              if (lg_cmp ((if k_34 = 0 then vp_updL sO 0 r_34.toInt64 else sO) (0 : Int32).toNatClampNeg) r_36.toInt64) = 0 then
                fL_law_397 L xs (fun s0 s1 s2 s3 s4 s5 s6 sO x4 => fL_law_23 L xs n s0 s1 s2 s3 s4 s5 s6 sO x4) s0 s1 s2 (if k_34 = 0 then s3_34 else s3) s4 s5 s6_36 (if k_34 = 0 then vp_updL sO 0 r_34.toInt64 else sO) x4
              else
                some 0
            else
              fL_law_397 L xs (fun s0 s1 s2 s3 s4 s5 s6 sO x4 => fL_law_23 L xs n s0 s1 s2 s3 s4 s5 s6 sO x4) s0 s1 s2 (if k_34 = 0 then s3_34 else s3) s4 s5 s6_36 (if k_34 = 0 then vp_updL sO 0 r_34.toInt64 else sO) x4
          else
            some 0
        else
        if ((xs x4.toNatClampNeg) &&& 15) = 5 then
          bn3 (fX5_back s3 s5) fun k_42 r_42 s3_42 =>
          bn2 (fX6_back s6) fun r_43 s6_43 =>
          bn1 (fX6_thrown s6_43) fun r_44 =>
          if r_44 = k_42 then
            if k_42 = 0 then
              if (lg_cmp ((if k_42 = 0 then vp_updL sO 0 r_42.toInt64 else sO) (0 : Int32).toNatClampNeg) r_43.toInt64) = 0 then
                fL_law_441 L xs (fun s0 s1 s2 s3 s4 s5 s6 sO x4 => fL_law_23 L xs n s0 s1 s2 s3 s4 s5 s6 sO x4) s0 s1 s2 (if k_42 = 0 then s3_42 else s3) s4 s5 s6_43 (if k_42 = 0 then vp_updL sO 0 r_42.toInt64 else sO) x4
              else
                some 0
            else
              fL_law_441 L xs (fun s0 s1 s2 s3 s4 s5 s6 sO x4 => fL_law_23 L xs n s0 s1 s2 s3 s4 s5 s6 sO x4) s0 s1 s2 (if k_42 = 0 then s3_42 else s3) s4 s5 s6_43 (if k_42 = 0 then vp_updL sO 0 r_42.toInt64 else sO) x4
          else
            some 0
        else
        if ((xs x4.toNatClampNeg) &&& 15) = 6 then
          bn7 (fX5_say s0 s1 s2 s3 s4 s5) fun r_49 s0_49 s1_49 s2_49 s3_49 s4_49 s5_49 =>
          bn2 (fX6_say s6) fun r_50 s6_50 =>
          if r_49 = r_50 then
            fL_law_574 L xs (fun s0 s1 s2 s3 s4 s5 s6 sO x4 => fL_law_23 L xs n s0 s1 s2 s3 s4 s5 s6 sO x4) s0_49 s1_49 s2_49 s3_49 s4_49 s5_49 s6_50 sO x4
          else
            some 0
        else
        if ((xs x4.toNatClampNeg) &&& 15) = 7 then
          bn1 (fX5_outcome s5) fun r_53 =>
          bn2 (fX6_outcome s6) fun r_54 s6_54 =>
          if r_53 = r_54 then
            fL_law_574 L xs (fun s0 s1 s2 s3 s4 s5 s6 sO x4 => fL_law_23 L xs n s0 s1 s2 s3 s4 s5 s6 sO x4) s0 s1 s2 s3 s4 s5 s6_54 sO x4
          else
            some 0
        else
        if ((xs x4.toNatClampNeg) &&& 15) = 8 then
          bn1 (fX5_wrongAt s5) fun r_57 =>
          bn2 (fX6_wrongAt s6) fun r_58 s6_58 =>
          if r_57 = r_58 then
            fL_law_574 L xs (fun s0 s1 s2 s3 s4 s5 s6 sO x4 => fL_law_23 L xs n s0 s1 s2 s3 s4 s5 s6 sO x4) s0 s1 s2 s3 s4 s5 s6_58 sO x4
          else
            some 0
        else
        if ((xs x4.toNatClampNeg) &&& 15) = 9 then
          bn1 (fX5_verb s1 s5) fun r_61 =>
          bn2 (fX6_verb s6) fun r_62 s6_62 =>
          if r_61 = r_62 then
            fL_law_574 L xs (fun s0 s1 s2 s3 s4 s5 s6 sO x4 => fL_law_23 L xs n s0 s1 s2 s3 s4 s5 s6 sO x4) s0 s1 s2 s3 s4 s5 s6_62 sO x4
          else
            some 0
        else
        if ((xs x4.toNatClampNeg) &&& 15) = 10 then
          bn1 (fX5_meant s1 s5) fun r_65 =>
          bn2 (fX6_meant s6) fun r_66 s6_66 =>
          if r_65 = r_66 then
            fL_law_574 L xs (fun s0 s1 s2 s3 s4 s5 s6 sO x4 => fL_law_23 L xs n s0 s1 s2 s3 s4 s5 s6 sO x4) s0 s1 s2 s3 s4 s5 s6_66 sO x4
          else
            some 0
        else
        if ((xs x4.toNatClampNeg) &&& 15) = 11 then
          bn1 (fX5_done s1 s5) fun r_69 =>
          bn2 (fX6_done s6) fun r_70 s6_70 =>
          if r_69 = r_70 then
            fL_law_574 L xs (fun s0 s1 s2 s3 s4 s5 s6 sO x4 => fL_law_23 L xs n s0 s1 s2 s3 s4 s5 s6 sO x4) s0 s1 s2 s3 s4 s5 s6_70 sO x4
          else
            some 0
        else
        if ((xs x4.toNatClampNeg) &&& 15) = 12 then
          bn1 (fX5_into s1 s5) fun r_73 =>
          bn2 (fX6_into s6) fun r_74 s6_74 =>
          if r_73 = r_74 then
            fL_law_574 L xs (fun s0 s1 s2 s3 s4 s5 s6 sO x4 => fL_law_23 L xs n s0 s1 s2 s3 s4 s5 s6 sO x4) s0 s1 s2 s3 s4 s5 s6_74 sO x4
          else
            some 0
        else
        if ((xs x4.toNatClampNeg) &&& 15) = 13 then
          bn1 (fX5_asked s5) fun r_77 =>
          bn2 (fX6_asked s6) fun r_78 s6_78 =>
          if r_77 = r_78 then
            fL_law_574 L xs (fun s0 s1 s2 s3 s4 s5 s6 sO x4 => fL_law_23 L xs n s0 s1 s2 s3 s4 s5 s6 sO x4) s0 s1 s2 s3 s4 s5 s6_78 sO x4
          else
            some 0
        else
        if ((xs x4.toNatClampNeg) &&& 15) = 14 then
          bn1 (fX5_askedAt s2 s5) fun r_81 =>
          bn2 (fX6_askedAt s6) fun r_82 s6_82 =>
          if r_81 = r_82 then
            fL_law_574 L xs (fun s0 s1 s2 s3 s4 s5 s6 sO x4 => fL_law_23 L xs n s0 s1 s2 s3 s4 s5 s6 sO x4) s0 s1 s2 s3 s4 s5 s6_82 sO x4
          else
            some 0
        else
        if ((xs x4.toNatClampNeg) &&& 15) = 15 then
          bn1 (fX5_questions s5) fun r_85 =>
          bn2 (fX6_questions s6) fun r_86 s6_86 =>
          if r_85 = r_86 then
            fL_law_574 L xs (fun s0 s1 s2 s3 s4 s5 s6 sO x4 => fL_law_23 L xs n s0 s1 s2 s3 s4 s5 s6 sO x4) s0 s1 s2 s3 s4 s5 s6_86 sO x4
          else
            some 0
        else
          fL_law_574 L xs (fun s0 s1 s2 s3 s4 s5 s6 sO x4 => fL_law_23 L xs n s0 s1 s2 s3 s4 s5 s6 sO x4) s0 s1 s2 s3 s4 s5 s6 sO x4
