def fX4_holderOf_29 (s4 : S4) (a1 : Int32) (t0 : Int32) : Option (Int32) :=
    some t0
def fX4_holderOf_27 (s4 : S4) (a1 : Int32) : Option (Int32) :=
    fX4_holderOf_29 s4 a1 (-2)
def fX4_holderOf (s4 : S4) (a1 : Int32) : Option (Int32) :=
  if a1 < 0 then
    fX4_holderOf_27 s4 a1
  else
    if (S4_count s4) ≤ a1 then
      fX4_holderOf_27 s4 a1
    else
      if 12 ≤ a1 then
        fX4_holderOf_27 s4 a1
      else
        ai 12 a1 <|
        fX4_holderOf_29 s4 a1 ((S4_holders s4) a1.toNatClampNeg)
def fX5_contains_23 (a0 : Int32) (a1 : Int32) (t0 : Int32) : Option (Int32) :=
    bo t0 <|
    some t0
def fX5_contains_22 (a0 : Int32) (a1 : Int32) : Option (Int32) :=
    fX5_contains_23 a0 a1 0
def fX5_contains (a0 : Int32) (a1 : Int32) : Option (Int32) :=
  if a1 < 0 then
    fX5_contains_22 a0 a1
  else
    if 12 ≤ a1 then
      fX5_contains_22 a0 a1
    else
      if ((a0 >>> (a1 &&& 31)) &&& 1) = 0 then
        fX5_contains_22 a0 a1
      else
        fX5_contains_23 a0 a1 1
def fX4_reachable_61 (s4 : S4) (k4 : Int32 → Int32 → Option (Int32)) (x1 : Int32) (x2 : Int32) : Option (Int32) :=
    k4 x1 (x2 + 1)
def fX4_reachable_51 (s4 : S4) (k4 : Int32 → Int32 → Option (Int32)) (x1 : Int32) (x2 : Int32) (x3 : Int32) : Option (Int32) :=
    if 0 ≤ x3 then
      fX4_reachable_61 s4 k4 x1 x2
    else
      fX4_reachable_61 s4 k4 (x1 ||| ((1 : Int32) <<< (x2 &&& 31))) x2
def fX4_reachable_21 (s4 : S4) (k4 : Int32 → Int32 → Option (Int32)) : Nat → Int32 → Int32 → Int32 → Int32 → Option (Int32)
  | 0, _, _, _, _ => none
  | n + 1, x1, x2, x3, x4 =>
      if 12 ≤ x4 then
        fX4_reachable_51 s4 k4 x1 x2 x3
      else
        bn1 (fX5_contains (S4_openBoxes s4) x3) fun r_2 =>
        if r_2 = 0 then
          fX4_reachable_51 s4 k4 x1 x2 x3
        else
          bn1 (fX4_holderOf s4 x3) fun r_4 =>
          fX4_reachable_21 s4 k4 n x1 x2 r_4 (x4 + 1)
def fX4_reachable_4 (s4 : S4) : Nat → Int32 → Int32 → Option (Int32)
  | 0, _, _ => none
  | n + 1, x1, x2 =>
      if (S4_count s4) ≤ x2 then
        some x1
      else
        bn1 (fX4_holderOf s4 x2) fun r_2 =>
        fX4_reachable_21 s4 (fun x1 x2 => fX4_reachable_4 s4 n x1 x2) 64 x1 x2 r_2 0
def fX4_reachable (s4 : S4) : Option (Int32) :=
  fX4_reachable_4 s4 64 0 0
def fX5_inReach (s4 : S4) (s5 : S5) : Option (Int32) :=
  bn1 (fX4_reachable s4) fun r_1 =>
  some r_1
def fX3_clear (s3 : S3) : Option (S3) :=
  some (S3_set_place (S3_set_count s3 0) 0)
def fX3_peek_40 (s3 : S3) (t0 : Int32) : Option (Int32) :=
    some t0
def fX3_peek_39 (s3 : S3) : Option (Int32) :=
    fX3_peek_40 s3 (-1)
def fX3_peek (s3 : S3) : Option (Int32) :=
  if (S3_place s3) < 0 then
    fX3_peek_39 s3
  else
    if (S3_count s3) ≤ (S3_place s3) then
      fX3_peek_39 s3
    else
      if 24 ≤ (S3_place s3) then
        fX3_peek_39 s3
      else
        ai 24 (S3_place s3) <|
        fX3_peek_40 s3 ((S3_given s3) (S3_place s3).toNatClampNeg)
def fJ6_bitCount (a0 : Int32) : Option (Int32) :=
  bl (((a0 - (((a0.toUInt32 >>> ((1 : Int32).toUInt32 &&& Int32.toUInt32 31)).toInt32) &&& 1431655765)) &&& 858993459) + ((((a0 - (((a0.toUInt32 >>> ((1 : Int32).toUInt32 &&& Int32.toUInt32 31)).toInt32) &&& 1431655765)).toUInt32 >>> ((2 : Int32).toUInt32 &&& Int32.toUInt32 31)).toInt32) &&& 858993459)) fun y_1 =>
  bl (((y_1 + ((y_1.toUInt32 >>> ((4 : Int32).toUInt32 &&& Int32.toUInt32 31)).toInt32)) &&& 252645135) + ((((y_1 + ((y_1.toUInt32 >>> ((4 : Int32).toUInt32 &&& Int32.toUInt32 31)).toInt32)) &&& 252645135).toUInt32 >>> ((8 : Int32).toUInt32 &&& Int32.toUInt32 31)).toInt32)) fun y_2 =>
  some ((y_2 + ((y_2.toUInt32 >>> ((16 : Int32).toUInt32 &&& Int32.toUInt32 31)).toInt32)) &&& 63)
def fX2_hasPhrase_23 (s2 : S2) (a1 : Int32) (t0 : Int32) : Option (Int32) :=
    bo t0 <|
    some t0
def fX2_hasPhrase_22 (s2 : S2) (a1 : Int32) : Option (Int32) :=
    fX2_hasPhrase_23 s2 a1 0
def fX2_hasPhrase (s2 : S2) (a1 : Int32) : Option (Int32) :=
  if a1 < 0 then
    fX2_hasPhrase_22 s2 a1
  else
    if (S2_count s2) ≤ a1 then
      fX2_hasPhrase_22 s2 a1
    else
      if 24 ≤ a1 then
        fX2_hasPhrase_22 s2 a1
      else
        fX2_hasPhrase_23 s2 a1 1
def fX2_answer_15 (a1 : Int32) (a2 : Int32) (s2 : S2) : Option (S2) :=
    some s2
def fX2_answer (s2 : S2) (a1 : Int32) (a2 : Int32) : Option (S2) :=
  bn1 (fX2_hasPhrase s2 a1) fun r_1 =>
  if r_1 = 0 then
    fX2_answer_15 a1 a2 s2
  else
    ai 24 a1 <|
    fX2_answer_15 a1 a2 (S2_set_answers s2 (upd (S2_answers s2) a1.toNatClampNeg a2))
def fX3_accept (s3 : S3) (a1 : Int32) : Option (Int32 × S3) :=
  bn1 (fX3_peek s3) fun r_1 =>
  if r_1 = a1 then
    some (1, (S3_set_place s3 ((S3_place s3) + 1)))
  else
    some (0, s3)
def fX5_isBetween_17 (a0 : Int32) (a1 : Int32) (a2 : Int32) (t0 : Int32) : Option (Int32) :=
    bo t0 <|
    some t0
def fX5_isBetween_16 (a0 : Int32) (a1 : Int32) (a2 : Int32) : Option (Int32) :=
    fX5_isBetween_17 a0 a1 a2 0
def fX5_isBetween (a0 : Int32) (a1 : Int32) (a2 : Int32) : Option (Int32) :=
  if a0 < a1 then
    fX5_isBetween_16 a0 a1 a2
  else
    if (a1 + a2) ≤ a0 then
      fX5_isBetween_16 a0 a1 a2
    else
      fX5_isBetween_17 a0 a1 a2 1
def fX3_acceptNoun (s3 : S3) (a1 : Int32) : Option (Int32 × S3) :=
  bn1 (fX3_peek s3) fun r_1 =>
  bn1 (fX5_isBetween r_1 a1 8) fun r_2 =>
  if r_2 = 0 then
    some (0, s3)
  else
    bn1 (fX3_peek s3) fun r_4 =>
    some (1, (S3_set_place (S3_set_noun s3 (r_4 - a1)) ((S3_place s3) + 1)))
def fX3_atEnd_16 (s3 : S3) (t0 : Int32) : Option (Int32) :=
    bo t0 <|
    some t0
def fX3_atEnd (s3 : S3) : Option (Int32) :=
  if (S3_place s3) = (S3_count s3) then
    fX3_atEnd_16 s3 1
  else
    fX3_atEnd_16 s3 0
def fX3_readAdjectives_66 (s3 : S3) : Option (S3) :=
    some s3
def fX3_readAdjectives_12 : Nat → S3 → Int32 → Option (S3)
  | 0, _, _ => none
  | n + 1, s3, x1 =>
      if 24 ≤ x1 then
        fX3_readAdjectives_66 s3
      else
        bn1 (fX3_peek s3) fun r_2 =>
        bn1 (fX5_isBetween r_2 20 6) fun r_3 =>
        if r_3 = 0 then
          fX3_readAdjectives_66 s3
        else
          bn1 (fX3_peek s3) fun r_5 =>
          fX3_readAdjectives_12 n (S3_set_place (S3_set_adjectives s3 ((S3_adjectives s3) ||| ((1 : Int32) <<< ((r_5 - 20) &&& 31)))) ((S3_place s3) + 1)) (x1 + 1)
def fX3_readAdjectives (s3 : S3) : Option (S3) :=
  fX3_readAdjectives_12 64 (S3_set_noun (S3_set_adjectives s3 0) (-1)) 0
def fX3_readAnswer_58 (s3 : S3) (t0 : Int32) : Option (Int32 × S3) :=
    bo t0 <|
    some (t0, s3)
def fX3_readAnswer_57 (s3 : S3) : Option (Int32 × S3) :=
    fX3_readAnswer_58 s3 0
def fX3_readAnswer_53 (s3 : S3) : Option (Int32 × S3) :=
    fX3_readAnswer_58 s3 1
def fX3_readAnswer_34 (s3 : S3) (t0 : Int32) : Option (Int32 × S3) :=
    bn1 (fX3_atEnd s3) fun r_1 =>
    if r_1 = 0 then
      fX3_readAnswer_57 s3
    else
      if t0 = 0 then
        if (S3_adjectives s3) = 0 then
          fX3_readAnswer_57 s3
        else
          fX3_readAnswer_53 s3
      else
        fX3_readAnswer_53 s3
def fX3_readAnswer_29 (s3 : S3) : Option (Int32 × S3) :=
    fX3_readAnswer_34 s3 1
def fX3_readAnswer (s3 : S3) : Option (Int32 × S3) :=
  bn2 (fX3_accept s3 10) fun r_1 s3_1 =>
  bn1 (fX3_readAdjectives s3_1) fun s3_2 =>
  bn2 (fX3_acceptNoun s3_2 30) fun r_3 s3_3 =>
  if r_3 = 0 then
    bn2 (fX3_accept s3_3 17) fun r_5 s3_5 =>
    if r_5 = 0 then
      fX3_readAnswer_34 s3_5 0
    else
      fX3_readAnswer_29 s3_5
  else
    fX3_readAnswer_29 s3_3
def fX4_described_88 (s4 : S4) (a1 : Int32) (a2 : Int32) (a3 : Int32) (x4 : Int32) : Option (Int32) :=
    some x4
def fX4_described_82 (s4 : S4) (a1 : Int32) (a2 : Int32) (a3 : Int32) (k6 : Int32 → Int32 → Option (Int32)) (x4 : Int32) (x5 : Int32) : Option (Int32) :=
    k6 x4 (x5 + 1)
def fX4_described_43 (s4 : S4) (a1 : Int32) (a2 : Int32) (a3 : Int32) (k6 : Int32 → Int32 → Option (Int32)) (x4 : Int32) (x5 : Int32) (t0 : Int32) : Option (Int32) :=
    if ((a1 >>> (x5 &&& 31)) &&& 1) = 0 then
      fX4_described_82 s4 a1 a2 a3 k6 x4 x5
    else
      if t0 = 0 then
        fX4_described_82 s4 a1 a2 a3 k6 x4 x5
      else
        ai 12 x5 <|
        if (a2 &&& (((S4_adjectiveSets s4) x5.toNatClampNeg) ^^^ (-1))) = 0 then
          fX4_described_82 s4 a1 a2 a3 k6 (x4 ||| ((1 : Int32) <<< (x5 &&& 31))) x5
        else
          fX4_described_82 s4 a1 a2 a3 k6 x4 x5
def fX4_described_38 (s4 : S4) (a1 : Int32) (a2 : Int32) (a3 : Int32) (k6 : Int32 → Int32 → Option (Int32)) (x4 : Int32) (x5 : Int32) : Option (Int32) :=
    fX4_described_43 s4 a1 a2 a3 k6 x4 x5 1
def fX4_described_6 (s4 : S4) (a1 : Int32) (a2 : Int32) (a3 : Int32) : Nat → Int32 → Int32 → Option (Int32)
  | 0, _, _ => none
  | n + 1, x4, x5 =>
      if (S4_count s4) ≤ x5 then
        fX4_described_88 s4 a1 a2 a3 x4
      else
        if 12 ≤ x5 then
          fX4_described_88 s4 a1 a2 a3 x4
        else
          if a3 = (-1) then
            fX4_described_38 s4 a1 a2 a3 (fun x4 x5 => fX4_described_6 s4 a1 a2 a3 n x4 x5) x4 x5
          else
            ai 12 x5 <|
            if ((S4_nouns s4) x5.toNatClampNeg) = a3 then
              fX4_described_38 s4 a1 a2 a3 (fun x4 x5 => fX4_described_6 s4 a1 a2 a3 n x4 x5) x4 x5
            else
              fX4_described_43 s4 a1 a2 a3 (fun x4 x5 => fX4_described_6 s4 a1 a2 a3 n x4 x5) x4 x5 0
def fX4_described (s4 : S4) (a1 : Int32) (a2 : Int32) (a3 : Int32) : Option (Int32) :=
  fX4_described_6 s4 a1 a2 a3 64 0 0
def fX5_dropQuestion (s5 : S5) : Option (S5) :=
  some (S5_set_askedPhrase (S5_set_askedThings s5 0) (-1))
def fX0_ask (s0 : S0) (a1 : Int32) (a2 : Int32) : Option (Int32 × S0) :=
  some (0, (S0_set_choice (S0_set_openPhrase (S0_set_result s0 1) a2) a1))
def fX0_fitting (s0 : S0) (s2 : S2) (s4 : S4) (a1 : Int32) : Option (Int32) :=
  bn1 (fX2_hasPhrase s2 a1) fun r_1 =>
  if r_1 = 0 then
    some 0
  else
    ai 24 a1 <|
    ai 24 a1 <|
    bn1 (fX4_described s4 (S0_reach s0) ((S2_adjectiveSets s2) a1.toNatClampNeg) ((S2_nouns s2) a1.toNatClampNeg)) fun r_5 =>
    some r_5
def fX0_orNothing_14 (a1 : Int32) (a2 : Int32) (s0 : S0) : Option (Int32 × S0) :=
    some (a1, s0)
def fX0_orNothing (s0 : S0) (a1 : Int32) (a2 : Int32) : Option (Int32 × S0) :=
  if a1 = 0 then
    fX0_orNothing_14 a1 a2 (S0_set_openPhrase (S0_set_result s0 5) a2)
  else
    fX0_orNothing_14 a1 a2 s0
def fX0_findSingle_123 (s1 : S1) (s2 : S2) (s4 : S4) (a1 : Int32) (a2 : Int32) (s0 : S0) (t0 : Int32) : Option (Int32 × S0) :=
    some (t0, s0)
def fX0_findSingle_119 (s1 : S1) (s2 : S2) (s4 : S4) (a1 : Int32) (a2 : Int32) (s0 : S0) (t1 : Int32) : Option (Int32 × S0) :=
    bn2 (fX0_ask s0 t1 a1) fun r_1 s0_1 =>
    fX0_findSingle_123 s1 s2 s4 a1 a2 s0_1 r_1
def fX0_findSingle (s0 : S0) (s1 : S1) (s2 : S2) (s4 : S4) (a1 : Int32) (a2 : Int32) : Option (Int32 × S0) :=
  bn1 (fX2_hasPhrase s2 a1) fun r_1 =>
  if r_1 = 0 then
    some (0, s0)
  else
    ai 24 a1 <|
    if ((S2_answers s2) a1.toNatClampNeg) = 0 then
      ai 24 a1 <|
      if ((S2_kinds s2) a1.toNatClampNeg) = 14 then
        bn2 (fX0_orNothing s0 ((S1_lastAlone s1) &&& (S0_reach s0)) a1) fun r_14 s0_14 =>
        some (r_14, s0_14)
      else
        bn1 (fX0_fitting s0 s2 s4 a1) fun r_7 =>
        bn1 (fJ6_bitCount r_7) fun r_8 =>
        if 1 < r_8 then
          bn1 (fJ6_bitCount (r_7 &&& a2)) fun r_10 =>
          if r_10 = 1 then
            fX0_findSingle_123 s1 s2 s4 a1 a2 s0 (r_7 &&& a2)
          else
            if (r_7 &&& a2) = 0 then
              fX0_findSingle_119 s1 s2 s4 a1 a2 s0 r_7
            else
              fX0_findSingle_119 s1 s2 s4 a1 a2 s0 (r_7 &&& a2)
        else
          bn2 (fX0_orNothing s0 r_7 a1) fun r_13 s0_13 =>
          some (r_13, s0_13)
    else
      ai 24 a1 <|
      some (((S2_answers s2) a1.toNatClampNeg), s0)
def fX2_roleOf_18 (s2 : S2) (a1 : Int32) (t0 : Int32) : Option (Int32) :=
    some t0
def fX2_roleOf (s2 : S2) (a1 : Int32) : Option (Int32) :=
  bn1 (fX2_hasPhrase s2 a1) fun r_1 =>
  if r_1 = 0 then
    fX2_roleOf_18 s2 a1 0
  else
    ai 24 a1 <|
    fX2_roleOf_18 s2 a1 ((S2_roles s2) a1.toNatClampNeg)
def fX0_findPart_76 (s1 : S1) (s2 : S2) (s4 : S4) (a1 : Int32) (a2 : Int32) (s0 : S0) : Option (Int32 × S0) :=
    some (0, s0)
def fX0_findPart_58 (s1 : S1) (s2 : S2) (s4 : S4) (a1 : Int32) (a2 : Int32) (s0 : S0) (x3 : Int32) : Option (Int32 × S0) :=
    if (S0_result s0) = 0 then
      bn1 (fX2_hasPhrase s2 a1) fun r_2 =>
      if r_2 = 0 then
        fX0_findPart_76 s1 s2 s4 a1 a2 s0
      else
        ai 24 a1 <|
        if ((S2_kinds s2) a1.toNatClampNeg) = 11 then
          bn1 (fX0_fitting s0 s2 s4 a1) fun r_6 =>
          bn2 (fX0_orNothing s0 ((r_6 &&& a2) &&& (x3 ^^^ (-1))) a1) fun r_7 s0_7 =>
          some (r_7, s0_7)
        else
        if ((S2_kinds s2) a1.toNatClampNeg) = 15 then
          bn2 (fX0_orNothing s0 ((S1_lastMeant s1) &&& (S0_reach s0)) a1) fun r_9 s0_9 =>
          some (r_9, s0_9)
        else
          bn2 (fX0_findSingle s0 s1 s2 s4 a1 a2) fun r_10 s0_10 =>
          some (r_10, s0_10)
    else
      fX0_findPart_76 s1 s2 s4 a1 a2 s0
def fX0_findPart_7 (s1 : S1) (s2 : S2) (s4 : S4) (a1 : Int32) (a2 : Int32) : Nat → S0 → Int32 → Int32 → Option (Int32 × S0)
  | 0, _, _, _ => none
  | n + 1, s0, x3, x4 =>
      if (S2_count s2) ≤ x4 then
        fX0_findPart_58 s1 s2 s4 a1 a2 s0 x3
      else
        if (S0_result s0) = 0 then
          bn1 (fX2_roleOf s2 x4) fun r_3 =>
          if r_3 = 1 then
            bn2 (fX0_findSingle s0 s1 s2 s4 x4 a2) fun r_5 s0_5 =>
            fX0_findPart_7 s1 s2 s4 a1 a2 n s0_5 (x3 ||| r_5) (x4 + 1)
          else
            fX0_findPart_58 s1 s2 s4 a1 a2 s0 x3
        else
          fX0_findPart_58 s1 s2 s4 a1 a2 s0 x3
def fX0_findPart (s0 : S0) (s1 : S1) (s2 : S2) (s4 : S4) (a1 : Int32) (a2 : Int32) : Option (Int32 × S0) :=
  fX0_findPart_7 s1 s2 s4 a1 a2 64 s0 0 (a1 + 1)
def fX0_onlyOf_2 (s0 : S0) (a1 : Int32) : Nat → Int32 → Option (Int32)
  | 0, _ => none
  | n + 1, x2 =>
      if 12 ≤ x2 then
        some (-1)
      else
        bn1 (fX5_contains a1 x2) fun r_2 =>
        if r_2 = 0 then
          fX0_onlyOf_2 s0 a1 n (x2 + 1)
        else
          some x2
def fX0_onlyOf (s0 : S0) (a1 : Int32) : Option (Int32) :=
  fX0_onlyOf_2 s0 a1 64 0
def fX0_start (s0 : S0) (a1 : Int32) : Option (S0) :=
  some (S0_set_choice (S0_set_openPhrase (S0_set_target (S0_set_group (S0_set_result (S0_set_reach s0 a1) 0) 0) (-1)) (-1)) 0)
def fX4_held_41 (s4 : S4) (x1 : Int32) : Option (Int32) :=
    some x1
def fX4_held_35 (s4 : S4) (k4 : Int32 → Int32 → Option (Int32)) (x1 : Int32) (x2 : Int32) : Option (Int32) :=
    k4 x1 (x2 + 1)
def fX4_held_4 (s4 : S4) : Nat → Int32 → Int32 → Option (Int32)
  | 0, _, _ => none
  | n + 1, x1, x2 =>
      if (S4_count s4) ≤ x2 then
        fX4_held_41 s4 x1
      else
        if 12 ≤ x2 then
          fX4_held_41 s4 x1
        else
          ai 12 x2 <|
          if ((S4_holders s4) x2.toNatClampNeg) = (-3) then
            fX4_held_35 s4 (fun x1 x2 => fX4_held_4 s4 n x1 x2) (x1 ||| ((1 : Int32) <<< (x2 &&& 31))) x2
          else
            fX4_held_35 s4 (fun x1 x2 => fX4_held_4 s4 n x1 x2) x1 x2
def fX4_held (s4 : S4) : Option (Int32) :=
  fX4_held_4 s4 64 0 0
def fX4_suited (s4 : S4) (a1 : Int32) : Option (Int32) :=
  bn1 (fX4_reachable s4) fun r_1 =>
  if a1 = 0 then
    bn1 (fX4_held s4) fun r_3 =>
    some (r_1 &&& (r_3 ^^^ (-1)))
  else
  if a1 = 1 then
    bn1 (fX4_held s4) fun r_5 =>
    some (r_1 &&& r_5)
  else
  if a1 = 2 then
    bn1 (fX4_held s4) fun r_7 =>
    some (r_1 &&& r_7)
  else
  if a1 = 3 then
    some ((r_1 &&& (S4_boxes s4)) &&& ((S4_openBoxes s4) ^^^ (-1)))
  else
  if a1 = 4 then
    some (r_1 &&& (S4_openBoxes s4))
  else
  if a1 = 16 then
    some (r_1 &&& (S4_openBoxes s4))
  else
    some 0
def fX0_find_110 (s1 : S1) (s2 : S2) (s4 : S4) (s0 : S0) : Option (Int32 × S0) :=
    some ((S0_result s0), s0)
def fX0_find_104 (s1 : S1) (s2 : S2) (s4 : S4) (k28 : S0 → Int32 → Int32 → Option (Int32 × S0)) (s0 : S0) (x1 : Int32) (x2 : Int32) : Option (Int32 × S0) :=
    k28 s0 x1 (x2 + 1)
def fX0_find_28 (s1 : S1) (s2 : S2) (s4 : S4) : Nat → S0 → Int32 → Int32 → Option (Int32 × S0)
  | 0, _, _, _ => none
  | n + 1, s0, x1, x2 =>
      if (S2_count s2) ≤ x2 then
        fX0_find_110 s1 s2 s4 s0
      else
        if (S0_result s0) = 0 then
          bn1 (fX2_roleOf s2 x2) fun r_3 =>
          if r_3 = 0 then
            bn2 (fX0_findPart s0 s1 s2 s4 x2 x1) fun r_9 s0_9 =>
            fX0_find_104 s1 s2 s4 (fun s0 x1 x2 => fX0_find_28 s1 s2 s4 n s0 x1 x2) (S0_set_group s0_9 ((S0_group s0) ||| r_9)) x1 x2
          else
            if r_3 = 2 then
              bn1 (fX4_suited s4 16) fun r_6 =>
              bn2 (fX0_findSingle s0 s1 s2 s4 x2 r_6) fun r_7 s0_7 =>
              bn1 (fX0_onlyOf s0_7 r_7) fun r_8 =>
              fX0_find_104 s1 s2 s4 (fun s0 x1 x2 => fX0_find_28 s1 s2 s4 n s0 x1 x2) (S0_set_target s0_7 r_8) x1 x2
            else
              fX0_find_104 s1 s2 s4 (fun s0 x1 x2 => fX0_find_28 s1 s2 s4 n s0 x1 x2) s0 x1 x2
        else
          fX0_find_110 s1 s2 s4 s0
def fX0_find (s0 : S0) (s1 : S1) (s2 : S2) (s4 : S4) : Option (Int32 × S0) :=
  bn1 (fX4_reachable s4) fun r_1 =>
  bn1 (fX0_start s0 r_1) fun s0_2 =>
  bn1 (fX4_suited s4 (S2_orderVerb s2)) fun r_3 =>
  fX0_find_28 s1 s2 s4 64 s0_2 r_3 0
def fX2_lastPlaceOf_18 (s2 : S2) (a1 : Int32) (t0 : Int32) : Option (Int32) :=
    some t0
def fX2_lastPlaceOf (s2 : S2) (a1 : Int32) : Option (Int32) :=
  bn1 (fX2_hasPhrase s2 a1) fun r_1 =>
  if r_1 = 0 then
    fX2_lastPlaceOf_18 s2 a1 (-1)
  else
    ai 24 a1 <|
    fX2_lastPlaceOf_18 s2 a1 ((S2_lastPlaces s2) a1.toNatClampNeg)
def fX1_keep_34 (a1 : Int32) (a2 : Int32) (a3 : Int32) (a4 : Int32) (s1 : S1) : Option (S1) :=
    some s1
def fX1_keep (s1 : S1) (a1 : Int32) (a2 : Int32) (a3 : Int32) (a4 : Int32) : Option (S1) :=
  bn1 (fJ6_bitCount a2) fun r_1 =>
  if r_1 = 1 then
    fX1_keep_34 a1 a2 a3 a4 (S1_set_lastAlone (S1_set_lastTarget (S1_set_lastDone (S1_set_lastMeant (S1_set_lastVerb s1 a1) a2) a3) a4) a2)
  else
    fX1_keep_34 a1 a2 a3 a4 (S1_set_lastTarget (S1_set_lastDone (S1_set_lastMeant (S1_set_lastVerb s1 a1) a2) a3) a4)
def fX4_has_23 (s4 : S4) (a1 : Int32) (t0 : Int32) : Option (Int32) :=
    bo t0 <|
    some t0
def fX4_has_22 (s4 : S4) (a1 : Int32) : Option (Int32) :=
    fX4_has_23 s4 a1 0
def fX4_has (s4 : S4) (a1 : Int32) : Option (Int32) :=
  if a1 < 0 then
    fX4_has_22 s4 a1
  else
    if (S4_count s4) ≤ a1 then
      fX4_has_22 s4 a1
    else
      if 12 ≤ a1 then
        fX4_has_22 s4 a1
      else
        fX4_has_23 s4 a1 1
def fX4_isWithin_43 (s4 : S4) (a1 : Int32) (a2 : Int32) (t0 : Int32) : Option (Int32) :=
    bo t0 <|
    some t0
def fX4_isWithin_33 (s4 : S4) (a1 : Int32) (a2 : Int32) (x3 : Int32) : Option (Int32) :=
    if x3 = a2 then
      fX4_isWithin_43 s4 a1 a2 1
    else
      fX4_isWithin_43 s4 a1 a2 0
def fX4_isWithin_5 (s4 : S4) (a1 : Int32) (a2 : Int32) : Nat → Int32 → Int32 → Option (Int32)
  | 0, _, _ => none
  | n + 1, x3, x4 =>
      if 12 ≤ x4 then
        fX4_isWithin_33 s4 a1 a2 x3
      else
        if x3 < 0 then
          fX4_isWithin_33 s4 a1 a2 x3
        else
          if x3 = a2 then
            fX4_isWithin_33 s4 a1 a2 x3
          else
            bn1 (fX4_holderOf s4 x3) fun r_4 =>
            fX4_isWithin_5 s4 a1 a2 n r_4 (x4 + 1)
def fX4_isWithin (s4 : S4) (a1 : Int32) (a2 : Int32) : Option (Int32) :=
  fX4_isWithin_5 s4 a1 a2 64 a1 0
def fX4_perform_20 (a1 : Int32) (a2 : Int32) (a3 : Int32) (s4 : S4) : Option (Int32 × S4) :=
    some (0, s4)
def fX4_perform_98 (a1 : Int32) (a2 : Int32) (a3 : Int32) (s4 : S4) : Option (Int32 × S4) :=
    some (0, s4)
def fX4_perform (s4 : S4) (a1 : Int32) (a2 : Int32) (a3 : Int32) : Option (Int32 × S4) :=
  bn1 (fX4_has s4 a2) fun r_1 =>
  if r_1 = 0 then
    fX4_perform_20 a1 a2 a3 s4
  else
    bn1 (fX4_suited s4 a1) fun r_3 =>
    bn1 (fX5_contains r_3 a2) fun r_4 =>
    if r_4 = 0 then
      fX4_perform_20 a1 a2 a3 s4
    else
      if a1 = 0 then
        ai 12 a2 <|
        some (1, (S4_set_holders s4 (upd (S4_holders s4) a2.toNatClampNeg (-3))))
      else
      if a1 = 1 then
        ai 12 a2 <|
        some (1, (S4_set_holders s4 (upd (S4_holders s4) a2.toNatClampNeg (-2))))
      else
      if a1 = 2 then
        bn1 (fX4_suited s4 16) fun r_11 =>
        bn1 (fX5_contains r_11 a3) fun r_12 =>
        if r_12 = 0 then
          fX4_perform_98 a1 a2 a3 s4
        else
          bn1 (fX4_isWithin s4 a3 a2) fun r_14 =>
          if r_14 = 0 then
            ai 12 a2 <|
            some (1, (S4_set_holders s4 (upd (S4_holders s4) a2.toNatClampNeg a3)))
          else
            fX4_perform_98 a1 a2 a3 s4
      else
      if a1 = 3 then
        some (1, (S4_set_openBoxes s4 ((S4_openBoxes s4) ||| ((1 : Int32) <<< (a2 &&& 31)))))
      else
      if a1 = 4 then
        some (1, (S4_set_openBoxes s4 ((S4_openBoxes s4) &&& (((1 : Int32) <<< (a2 &&& 31)) ^^^ (-1)))))
      else
        some (0, s4)
def fX5_carryOut_55 (s0 : S0) (s2 : S2) (s5 : S5) (k4 : S1 → S4 → Int32 → Int32 → Option (S1 × S4)) (s1 : S1) (s4 : S4) (x1 : Int32) (x2 : Int32) : Option (S1 × S4) :=
    k4 s1 s4 x1 (x2 + 1)
def fX5_carryOut_4 (s0 : S0) (s2 : S2) (s5 : S5) : Nat → S1 → S4 → Int32 → Int32 → Option (S1 × S4)
  | 0, _, _, _, _ => none
  | n + 1, s1, s4, x1, x2 =>
      if 12 ≤ x2 then
        bn1 (fX1_keep s1 (S2_orderVerb s2) (S0_group s0) x1 (S0_target s0)) fun s1_2 =>
        some (s1_2, s4)
      else
        bn1 (fX5_contains (S0_group s0) x2) fun r_3 =>
        if r_3 = 0 then
          fX5_carryOut_55 s0 s2 s5 (fun s1 s4 x1 x2 => fX5_carryOut_4 s0 s2 s5 n s1 s4 x1 x2) s1 s4 x1 x2
        else
          bn2 (fX4_perform s4 (S2_orderVerb s2) x2 (S0_target s0)) fun r_5 s4_5 =>
          if r_5 = 0 then
            fX5_carryOut_55 s0 s2 s5 (fun s1 s4 x1 x2 => fX5_carryOut_4 s0 s2 s5 n s1 s4 x1 x2) s1 s4_5 x1 x2
          else
            fX5_carryOut_55 s0 s2 s5 (fun s1 s4 x1 x2 => fX5_carryOut_4 s0 s2 s5 n s1 s4 x1 x2) s1 s4_5 (x1 ||| ((1 : Int32) <<< (x2 &&& 31))) x2
def fX5_carryOut (s0 : S0) (s1 : S1) (s2 : S2) (s4 : S4) (s5 : S5) : Option (S1 × S4) :=
  fX5_carryOut_4 s0 s2 s5 64 s1 s4 0 0
def fX5_lookAtOrder_68 (s2 : S2) (s0 : S0) (s1 : S1) (s4 : S4) (s5 : S5) (x1 : Int32) : Option (Int32 × S0 × S1 × S4 × S5) :=
    some (x1, s0, s1, s4, s5)
def fX5_lookAtOrder (s0 : S0) (s1 : S1) (s2 : S2) (s4 : S4) (s5 : S5) : Option (Int32 × S0 × S1 × S4 × S5) :=
  bn2 (fX0_find s0 s1 s2 s4) fun r_1 s0_1 =>
  if r_1 = 5 then
    bn1 (fX2_lastPlaceOf s2 (S0_openPhrase s0_1)) fun r_5 =>
    fX5_lookAtOrder_68 s2 s0_1 s1 s4 (S5_set_wrongPlace s5 r_5) r_1
  else
    if r_1 = 1 then
      fX5_lookAtOrder_68 s2 s0_1 s1 s4 (S5_set_askedPhrase (S5_set_askedThings s5 (S0_choice s0_1)) (S0_openPhrase s0_1)) r_1
    else
      bn2 (fX5_carryOut s0_1 s1 s2 s4 s5) fun s1_4 s4_4 =>
      fX5_lookAtOrder_68 s2 s0_1 s1_4 s4_4 s5 r_1
def fX5_hearAnswer (s0 : S0) (s1 : S1) (s2 : S2) (s3 : S3) (s4 : S4) (s5 : S5) : Option (Int32 × S0 × S1 × S2 × S3 × S4 × S5) :=
  bn2 (fX3_readAnswer s3) fun r_1 s3_1 =>
  if r_1 = 0 then
    some (4, s0, s1, s2, s3_1, s4, (S5_set_wrongPlace s5 (S3_place s3_1)))
  else
    bn1 (fX4_described s4 (S5_askedThings s5) (S3_adjectives s3_1) (S3_noun s3_1)) fun r_3 =>
    if r_3 = 0 then
      some (5, s0, s1, s2, s3_1, s4, s5)
    else
      bn1 (fJ6_bitCount r_3) fun r_5 =>
      if r_5 ≤ 1 then
        bn1 (fX2_answer s2 (S5_askedPhrase s5) r_3) fun s2_7 =>
        bn1 (fX5_dropQuestion s5) fun s5_8 =>
        bn5 (fX5_lookAtOrder s0 s1 s2_7 s4 s5_8) fun r_9 s0_9 s1_9 s4_9 s5_9 =>
        some (r_9, s0_9, s1_9, s2_7, s3_1, s4_9, s5_9)
      else
        some (1, s0, s1, s2, s3_1, s4, (S5_set_askedThings s5 r_3))
def fX2_add_16 (s3 : S3) (a1 : Int32) (a2 : Int32) (s2 : S2) : Option (Int32 × S2) :=
    some (0, s2)
def fX2_add (s2 : S2) (s3 : S3) (a1 : Int32) (a2 : Int32) : Option (Int32 × S2) :=
  if (S2_count s2) < 0 then
    fX2_add_16 s3 a1 a2 s2
  else
    if (S2_count s2) < 24 then
      ai 24 (S2_count s2) <|
      ai 24 (S2_count s2) <|
      ai 24 (S2_count s2) <|
      ai 24 (S2_count s2) <|
      ai 24 (S2_count s2) <|
      ai 24 (S2_count s2) <|
      some (1, (S2_set_count (S2_set_answers (S2_set_lastPlaces (S2_set_nouns (S2_set_adjectiveSets (S2_set_kinds (S2_set_roles s2 (upd (S2_roles s2) (S2_count s2).toNatClampNeg a2)) (upd (S2_kinds s2) (S2_count s2).toNatClampNeg a1)) (upd (S2_adjectiveSets s2) (S2_count s2).toNatClampNeg (S3_adjectives s3))) (upd (S2_nouns s2) (S2_count s2).toNatClampNeg (S3_noun s3))) (upd (S2_lastPlaces s2) (S2_count s2).toNatClampNeg ((S3_place s3) - 1))) (upd (S2_answers s2) (S2_count s2).toNatClampNeg 0)) ((S2_count s2) + 1)))
    else
      fX2_add_16 s3 a1 a2 s2
def fX2_nextSingleRole_19 (s2 : S2) (t0 : Int32) : Option (Int32) :=
    some t0
def fX2_nextSingleRole (s2 : S2) : Option (Int32) :=
  bn1 (fX2_roleOf s2 ((S2_count s2) - 1)) fun r_1 =>
  if r_1 = 1 then
    fX2_nextSingleRole_19 s2 1
  else
    fX2_nextSingleRole_19 s2 0
def fX2_readHead_25 (a2 : Int32) (s2 : S2) (s3 : S3) : Option (Int32 × S2 × S3) :=
    bn2 (fX2_add s2 s3 17 a2) fun r_1 s2_1 =>
    bo r_1 <|
    some (r_1, s2_1, s3)
def fX2_readHead_34 (a2 : Int32) (s2 : S2) (s3 : S3) : Option (Int32 × S2 × S3) :=
    some (0, s2, s3)
def fX2_readHead (s2 : S2) (s3 : S3) (a2 : Int32) : Option (Int32 × S2 × S3) :=
  bn2 (fX3_acceptNoun s3 30) fun r_1 s3_1 =>
  if r_1 = 0 then
    if (S3_adjectives s3_1) = 0 then
      fX2_readHead_34 a2 s2 s3_1
    else
      bn2 (fX3_accept s3_1 17) fun r_4 s3_4 =>
      if r_4 = 0 then
        fX2_readHead_34 a2 s2 s3_4
      else
        fX2_readHead_25 a2 s2 s3_4
  else
    fX2_readHead_25 a2 s2 s3_1
def fX2_readSingle (s2 : S2) (s3 : S3) (a2 : Int32) : Option (Int32 × S2 × S3) :=
  bn2 (fX3_accept s3 14) fun r_1 s3_1 =>
  if r_1 = 0 then
    bn2 (fX3_accept s3_1 10) fun r_3 s3_3 =>
    bn1 (fX3_readAdjectives s3_3) fun s3_4 =>
    bn3 (fX2_readHead s2 s3_4 a2) fun r_5 s2_5 s3_5 =>
    bo r_5 <|
    some (r_5, s2_5, s3_5)
  else
    bn2 (fX2_add s2 s3_1 14 a2) fun r_7 s2_7 =>
    bo r_7 <|
    some (r_7, s2_7, s3_1)
def fX2_readPart_145 (s2 : S2) (s3 : S3) (t0 : Int32) : Option (Int32 × S2 × S3) :=
    bo t0 <|
    some (t0, s2, s3)
def fX2_readPart_144 (s2 : S2) (s3 : S3) : Option (Int32 × S2 × S3) :=
    fX2_readPart_145 s2 s3 0
def fX2_readPart_140 (s2 : S2) (s3 : S3) : Option (Int32 × S2 × S3) :=
    fX2_readPart_145 s2 s3 1
def fX2_readPart_111 (s2 : S2) (s3 : S3) : Option (Int32 × S2 × S3) :=
    bn2 (fX2_add s2 s3 11 0) fun r_1 s2_1 =>
    if r_1 = 0 then
      fX2_readPart_144 s2_1 s3
    else
      bn2 (fX3_accept s3 12) fun r_3 s3_3 =>
      if r_3 = 0 then
        fX2_readPart_140 s2_1 s3_3
      else
        bn3 (fX2_readSingle s2_1 s3_3 1) fun r_5 s2_5 s3_5 =>
        if r_5 = 0 then
          fX2_readPart_144 s2_5 s3_5
        else
          fX2_readPart_140 s2_5 s3_5
def fX2_readPart_110 (s2 : S2) (s3 : S3) (t0 : Int32) : Option (Int32 × S2 × S3) :=
    bo t0 <|
    some (t0, s2, s3)
def fX2_readPart_109 (s2 : S2) (s3 : S3) : Option (Int32 × S2 × S3) :=
    fX2_readPart_110 s2 s3 0
def fX2_readPart_75 (s2 : S2) (s3 : S3) (x2 : Int32) (t0 : Int32) : Option (Int32 × S2 × S3) :=
    bn2 (fX3_acceptNoun s3 40) fun r_1 s3_1 =>
    if r_1 = 0 then
      if t0 = 0 then
        if x2 = 0 then
          bn1 (fX2_nextSingleRole s2) fun r_5 =>
          bn3 (fX2_readHead s2 s3_1 r_5) fun r_6 s2_6 s3_6 =>
          if r_6 = 0 then
            fX2_readPart_109 s2_6 s3_6
          else
            fX2_readPart_110 s2_6 s3_6 1
        else
          fX2_readPart_109 s2 s3_1
      else
        fX2_readPart_111 s2 s3_1
    else
      fX2_readPart_111 s2 s3_1
def fX2_readPart_74 (s2 : S2) (s3 : S3) (x2 : Int32) : Option (Int32 × S2 × S3) :=
    fX2_readPart_75 s2 s3 x2 0
def fX2_readPart_55 (s2 : S2) (s3 : S3) (x2 : Int32) : Option (Int32 × S2 × S3) :=
    bn1 (fX3_readAdjectives s3) fun s3_1 =>
    if x2 = 0 then
      fX2_readPart_74 s2 s3_1 x2
    else
      if (S3_adjectives s3_1) = 0 then
        fX2_readPart_75 s2 s3_1 x2 1
      else
        fX2_readPart_74 s2 s3_1 x2
def fX2_readPart (s2 : S2) (s3 : S3) : Option (Int32 × S2 × S3) :=
  bn2 (fX3_accept s3 15) fun r_1 s3_1 =>
  if r_1 = 0 then
    bn1 (fX3_peek s3_1) fun r_3 =>
    if r_3 = 14 then
      bn1 (fX2_nextSingleRole s2) fun r_8 =>
      bn3 (fX2_readSingle s2 s3_1 r_8) fun r_9 s2_9 s3_9 =>
      bo r_9 <|
      some (r_9, s2_9, s3_9)
    else
      bn2 (fX3_accept s3_1 11) fun r_5 s3_5 =>
      if r_5 = 0 then
        bn2 (fX3_accept s3_5 10) fun r_7 s3_7 =>
        fX2_readPart_55 s2 s3_7 r_5
      else
        fX2_readPart_55 s2 s3_5 r_5
  else
    bn2 (fX2_add s2 s3_1 15 0) fun r_11 s2_11 =>
    bo r_11 <|
    some (r_11, s2_11, s3_1)
def fX2_read_87 (s2 : S2) (s3 : S3) : Option (Int32 × S2 × S3) :=
    bn1 (fX3_atEnd s3) fun r_1 =>
    bo r_1 <|
    some (r_1, s2, s3)
def fX2_read_85 (s2 : S2) (s3 : S3) : Option (Int32 × S2 × S3) :=
    some (0, s2, s3)
def fX2_read_59 (s2 : S2) (s3 : S3) : Option (Int32 × S2 × S3) :=
    if (S2_orderVerb s2) = 2 then
      bn2 (fX3_accept s3 16) fun r_2 s3_2 =>
      if r_2 = 0 then
        fX2_read_85 s2 s3_2
      else
        bn3 (fX2_readSingle s2 s3_2 2) fun r_4 s2_4 s3_4 =>
        if r_4 = 0 then
          fX2_read_85 s2_4 s3_4
        else
          fX2_read_87 s2_4 s3_4
    else
      fX2_read_87 s2 s3
def fX2_read_26 : Nat → S2 → S3 → Int32 → Int32 → Option (Int32 × S2 × S3)
  | 0, _, _, _, _ => none
  | n + 1, s2, s3, x2, x3 =>
      if 24 ≤ x3 then
        fX2_read_59 s2 s3
      else
        if x2 = 0 then
          fX2_read_59 s2 s3
        else
          bn3 (fX2_readPart s2 s3) fun r_3 s2_3 s3_3 =>
          if r_3 = 0 then
            some (0, s2_3, s3_3)
          else
            bn2 (fX3_accept s3_3 13) fun r_5 s3_5 =>
            fX2_read_26 n s2_3 s3_5 r_5 (x3 + 1)
def fX2_read (s2 : S2) (s3 : S3) : Option (Int32 × S2 × S3) :=
  bn1 (fX3_peek s3) fun r_1 =>
  bn2 (fX3_accept s3 r_1) fun r_2 s3_2 =>
  fX2_read_26 64 (S2_set_orderVerb (S2_set_count s2 0) r_1) s3_2 1 0
def fX5_hearOrder (s0 : S0) (s1 : S1) (s2 : S2) (s3 : S3) (s4 : S4) (s5 : S5) : Option (Int32 × S0 × S1 × S2 × S3 × S4 × S5) :=
  bn1 (fX5_dropQuestion s5) fun s5_1 =>
  bn3 (fX2_read s2 s3) fun r_2 s2_2 s3_2 =>
  if r_2 = 0 then
    some (4, s0, s1, s2_2, s3_2, s4, (S5_set_wrongPlace s5_1 (S3_place s3_2)))
  else
    bn5 (fX5_lookAtOrder s0 s1 s2_2 s4 s5_1) fun r_4 s0_4 s1_4 s4_4 s5_4 =>
    some (r_4, s0_4, s1_4, s2_2, s3_2, s4_4, s5_4)
def fX5_isVerb_14 (a0 : Int32) (t0 : Int32) : Option (Int32) :=
    bo t0 <|
    some t0
def fX5_isVerb_13 (a0 : Int32) : Option (Int32) :=
    fX5_isVerb_14 a0 0
def fX5_isVerb (a0 : Int32) : Option (Int32) :=
  if a0 < 0 then
    fX5_isVerb_13 a0
  else
    if 4 < a0 then
      fX5_isVerb_13 a0
    else
      fX5_isVerb_14 a0 1
def fX5_say_88 (s0 : S0) (s1 : S1) (s2 : S2) (s3 : S3) (s4 : S4) (s5 : S5) : Option (Int32 × S0 × S1 × S2 × S3 × S4 × S5) :=
    bn1 (fX3_clear s3) fun s3_1 =>
    some ((S5_lastOutcome s5), s0, s1, s2, s3_1, s4, s5)
def fX5_say_70 (s0 : S0) (s1 : S1) (s2 : S2) (s3 : S3) (s4 : S4) (s5 : S5) : Option (Int32 × S0 × S1 × S2 × S3 × S4 × S5) :=
    if (S5_lastOutcome s5) = 1 then
      fX5_say_88 s0 s1 s2 s3 s4 (S5_set_questionCount s5 ((S5_questionCount s5) + 1))
    else
      fX5_say_88 s0 s1 s2 s3 s4 s5
def fX5_say (s0 : S0) (s1 : S1) (s2 : S2) (s3 : S3) (s4 : S4) (s5 : S5) : Option (Int32 × S0 × S1 × S2 × S3 × S4 × S5) :=
  if (S3_count s3) = 0 then
    fX5_say_70 s0 s1 s2 s3 s4 (S5_set_lastOutcome (S5_set_wrongPlace s5 (-1)) 2)
  else
    bn1 (fX3_peek s3) fun r_2 =>
    bn1 (fX5_isVerb r_2) fun r_3 =>
    if r_3 = 0 then
      if (S5_askedThings s5) = 0 then
        fX5_say_70 s0 s1 s2 s3 s4 (S5_set_lastOutcome (S5_set_wrongPlace s5 (-1)) 3)
      else
        bn7 (fX5_hearAnswer s0 s1 s2 s3 s4 (S5_set_wrongPlace s5 (-1))) fun r_6 s0_6 s1_6 s2_6 s3_6 s4_6 s5_6 =>
        fX5_say_70 s0_6 s1_6 s2_6 s3_6 s4_6 (S5_set_lastOutcome s5_6 r_6)
    else
      bn7 (fX5_hearOrder s0 s1 s2 s3 s4 (S5_set_wrongPlace s5 (-1))) fun r_7 s0_7 s1_7 s2_7 s3_7 s4_7 s5_7 =>
      fX5_say_70 s0_7 s1_7 s2_7 s3_7 s4_7 (S5_set_lastOutcome s5_7 r_7)
def fX5_outcome (s5 : S5) : Option (Int32) :=
  some (S5_lastOutcome s5)
def fX5_wrongAt (s5 : S5) : Option (Int32) :=
  some (S5_wrongPlace s5)
def fX5_verb (s1 : S1) (s5 : S5) : Option (Int32) :=
  some (S1_lastVerb s1)
def fX5_meant (s1 : S1) (s5 : S5) : Option (Int32) :=
  some (S1_lastMeant s1)
def fX5_done (s1 : S1) (s5 : S5) : Option (Int32) :=
  some (S1_lastDone s1)
def fX5_into (s1 : S1) (s5 : S5) : Option (Int32) :=
  some (S1_lastTarget s1)
def fX5_asked (s5 : S5) : Option (Int32) :=
  some (S5_askedThings s5)
def fX5_askedAt_22 (s2 : S2) (s5 : S5) (t0 : Int32) : Option (Int32) :=
    some t0
def fX5_askedAt (s2 : S2) (s5 : S5) : Option (Int32) :=
  if (S5_askedThings s5) = 0 then
    fX5_askedAt_22 s2 s5 (-1)
  else
    bn1 (fX2_lastPlaceOf s2 (S5_askedPhrase s5)) fun r_2 =>
    fX5_askedAt_22 s2 s5 r_2
def fX5_questions (s5 : S5) : Option (Int32) :=
  some (S5_questionCount s5)
def fX5_isWord_57 (a0 : Int32) (t0 : Int32) : Option (Int32) :=
    bo t0 <|
    some t0
def fX5_isWord_52 (a0 : Int32) : Option (Int32) :=
    fX5_isWord_57 a0 1
def fX5_isWord_19 (a0 : Int32) : Option (Int32) :=
    bn1 (fX5_isBetween a0 20 6) fun r_1 =>
    if r_1 = 0 then
      bn1 (fX5_isBetween a0 30 8) fun r_3 =>
      if r_3 = 0 then
        bn1 (fX5_isBetween a0 40 8) fun r_5 =>
        if r_5 = 0 then
          fX5_isWord_57 a0 0
        else
          fX5_isWord_52 a0
      else
        fX5_isWord_52 a0
    else
      fX5_isWord_52 a0
def fX5_isWord (a0 : Int32) : Option (Int32) :=
  bn1 (fX5_isVerb a0) fun r_1 =>
  if r_1 = 0 then
    if a0 < 10 then
      fX5_isWord_19 a0
    else
      if a0 ≤ 17 then
        fX5_isWord_52 a0
      else
        fX5_isWord_19 a0
  else
    fX5_isWord_52 a0
def fX6_thrown (s6 : S6) : Option (Int32) :=
  some (S6_thrown s6)
def fX6_may_10 (a1 : Int32) (s6 : S6) (t1 : Int32) : Option (Int32 × S6) :=
    bo a1 <|
    some (a1, (S6_set_thrown s6 t1))
def fX6_may (s6 : S6) (a1 : Int32) : Option (Int32 × S6) :=
  if a1 = 0 then
    fX6_may_10 a1 s6 1
  else
    fX6_may_10 a1 s6 0
def fX6_mayBoth_33 (a1 : Int32) (a2 : Int32) (s6 : S6) (t0 : Int32) : Option (Int32 × S6) :=
    bo t0 <|
    some (t0, s6)
def fX6_mayBoth_18 (a1 : Int32) (a2 : Int32) (s6 : S6) (t1 : Int32) : Option (Int32 × S6) :=
    if (S6_thrown (S6_set_thrown s6 t1)) = 0 then
      fX6_mayBoth_33 a1 a2 (S6_set_thrown s6 t1) 1
    else
      fX6_mayBoth_33 a1 a2 (S6_set_thrown s6 t1) 0
def fX6_mayBoth (s6 : S6) (a1 : Int32) (a2 : Int32) : Option (Int32 × S6) :=
  if a1 = 0 then
    fX6_mayBoth_18 a1 a2 s6 1
  else
    if a2 = 0 then
      fX6_mayBoth_18 a1 a2 s6 2
    else
      fX6_mayBoth_18 a1 a2 s6 0
def fX6_thing_40 (a1 : Int32) (a2 : Int32) (a3 : Int32) (s6 : S6) (t1 : Int32) (t2 : Int32) : Option (Int32 × S6) :=
    bn2 (fX6_mayBoth s6 t1 t2) fun r_1 s6_1 =>
    if r_1 = 0 then
      some (0, s6_1)
    else
      ai 12 (S6_things s6_1) <|
      ai 12 (S6_things (S6_set_noun s6_1 (upd (S6_noun s6_1) (S6_things s6_1).toNatClampNeg a1))) <|
      ai 12 (S6_things (S6_set_adjectives (S6_set_noun s6_1 (upd (S6_noun s6_1) (S6_things s6_1).toNatClampNeg a1)) (upd (S6_adjectives (S6_set_noun s6_1 (upd (S6_noun s6_1) (S6_things s6_1).toNatClampNeg a1))) (S6_things (S6_set_noun s6_1 (upd (S6_noun s6_1) (S6_things s6_1).toNatClampNeg a1))).toNatClampNeg a2))) <|
      ai 12 (S6_things (S6_set_box (S6_set_adjectives (S6_set_noun s6_1 (upd (S6_noun s6_1) (S6_things s6_1).toNatClampNeg a1)) (upd (S6_adjectives (S6_set_noun s6_1 (upd (S6_noun s6_1) (S6_things s6_1).toNatClampNeg a1))) (S6_things (S6_set_noun s6_1 (upd (S6_noun s6_1) (S6_things s6_1).toNatClampNeg a1))).toNatClampNeg a2)) (upd (S6_box (S6_set_adjectives (S6_set_noun s6_1 (upd (S6_noun s6_1) (S6_things s6_1).toNatClampNeg a1)) (upd (S6_adjectives (S6_set_noun s6_1 (upd (S6_noun s6_1) (S6_things s6_1).toNatClampNeg a1))) (S6_things (S6_set_noun s6_1 (upd (S6_noun s6_1) (S6_things s6_1).toNatClampNeg a1))).toNatClampNeg a2))) (S6_things (S6_set_adjectives (S6_set_noun s6_1 (upd (S6_noun s6_1) (S6_things s6_1).toNatClampNeg a1)) (upd (S6_adjectives (S6_set_noun s6_1 (upd (S6_noun s6_1) (S6_things s6_1).toNatClampNeg a1))) (S6_things (S6_set_noun s6_1 (upd (S6_noun s6_1) (S6_things s6_1).toNatClampNeg a1))).toNatClampNeg a2))).toNatClampNeg (vp_nar .boolean a3)))) <|
      some (((S6_things (S6_set_things (S6_set_place (S6_set_box (S6_set_adjectives (S6_set_noun s6_1 (upd (S6_noun s6_1) (S6_things s6_1).toNatClampNeg a1)) (upd (S6_adjectives (S6_set_noun s6_1 (upd (S6_noun s6_1) (S6_things s6_1).toNatClampNeg a1))) (S6_things (S6_set_noun s6_1 (upd (S6_noun s6_1) (S6_things s6_1).toNatClampNeg a1))).toNatClampNeg a2)) (upd (S6_box (S6_set_adjectives (S6_set_noun s6_1 (upd (S6_noun s6_1) (S6_things s6_1).toNatClampNeg a1)) (upd (S6_adjectives (S6_set_noun s6_1 (upd (S6_noun s6_1) (S6_things s6_1).toNatClampNeg a1))) (S6_things (S6_set_noun s6_1 (upd (S6_noun s6_1) (S6_things s6_1).toNatClampNeg a1))).toNatClampNeg a2))) (S6_things (S6_set_adjectives (S6_set_noun s6_1 (upd (S6_noun s6_1) (S6_things s6_1).toNatClampNeg a1)) (upd (S6_adjectives (S6_set_noun s6_1 (upd (S6_noun s6_1) (S6_things s6_1).toNatClampNeg a1))) (S6_things (S6_set_noun s6_1 (upd (S6_noun s6_1) (S6_things s6_1).toNatClampNeg a1))).toNatClampNeg a2))).toNatClampNeg (vp_nar .boolean a3))) (upd (S6_place (S6_set_box (S6_set_adjectives (S6_set_noun s6_1 (upd (S6_noun s6_1) (S6_things s6_1).toNatClampNeg a1)) (upd (S6_adjectives (S6_set_noun s6_1 (upd (S6_noun s6_1) (S6_things s6_1).toNatClampNeg a1))) (S6_things (S6_set_noun s6_1 (upd (S6_noun s6_1) (S6_things s6_1).toNatClampNeg a1))).toNatClampNeg a2)) (upd (S6_box (S6_set_adjectives (S6_set_noun s6_1 (upd (S6_noun s6_1) (S6_things s6_1).toNatClampNeg a1)) (upd (S6_adjectives (S6_set_noun s6_1 (upd (S6_noun s6_1) (S6_things s6_1).toNatClampNeg a1))) (S6_things (S6_set_noun s6_1 (upd (S6_noun s6_1) (S6_things s6_1).toNatClampNeg a1))).toNatClampNeg a2))) (S6_things (S6_set_adjectives (S6_set_noun s6_1 (upd (S6_noun s6_1) (S6_things s6_1).toNatClampNeg a1)) (upd (S6_adjectives (S6_set_noun s6_1 (upd (S6_noun s6_1) (S6_things s6_1).toNatClampNeg a1))) (S6_things (S6_set_noun s6_1 (upd (S6_noun s6_1) (S6_things s6_1).toNatClampNeg a1))).toNatClampNeg a2))).toNatClampNeg (vp_nar .boolean a3)))) (S6_things (S6_set_box (S6_set_adjectives (S6_set_noun s6_1 (upd (S6_noun s6_1) (S6_things s6_1).toNatClampNeg a1)) (upd (S6_adjectives (S6_set_noun s6_1 (upd (S6_noun s6_1) (S6_things s6_1).toNatClampNeg a1))) (S6_things (S6_set_noun s6_1 (upd (S6_noun s6_1) (S6_things s6_1).toNatClampNeg a1))).toNatClampNeg a2)) (upd (S6_box (S6_set_adjectives (S6_set_noun s6_1 (upd (S6_noun s6_1) (S6_things s6_1).toNatClampNeg a1)) (upd (S6_adjectives (S6_set_noun s6_1 (upd (S6_noun s6_1) (S6_things s6_1).toNatClampNeg a1))) (S6_things (S6_set_noun s6_1 (upd (S6_noun s6_1) (S6_things s6_1).toNatClampNeg a1))).toNatClampNeg a2))) (S6_things (S6_set_adjectives (S6_set_noun s6_1 (upd (S6_noun s6_1) (S6_things s6_1).toNatClampNeg a1)) (upd (S6_adjectives (S6_set_noun s6_1 (upd (S6_noun s6_1) (S6_things s6_1).toNatClampNeg a1))) (S6_things (S6_set_noun s6_1 (upd (S6_noun s6_1) (S6_things s6_1).toNatClampNeg a1))).toNatClampNeg a2))).toNatClampNeg (vp_nar .boolean a3)))).toNatClampNeg (-2))) ((S6_things (S6_set_place (S6_set_box (S6_set_adjectives (S6_set_noun s6_1 (upd (S6_noun s6_1) (S6_things s6_1).toNatClampNeg a1)) (upd (S6_adjectives (S6_set_noun s6_1 (upd (S6_noun s6_1) (S6_things s6_1).toNatClampNeg a1))) (S6_things (S6_set_noun s6_1 (upd (S6_noun s6_1) (S6_things s6_1).toNatClampNeg a1))).toNatClampNeg a2)) (upd (S6_box (S6_set_adjectives (S6_set_noun s6_1 (upd (S6_noun s6_1) (S6_things s6_1).toNatClampNeg a1)) (upd (S6_adjectives (S6_set_noun s6_1 (upd (S6_noun s6_1) (S6_things s6_1).toNatClampNeg a1))) (S6_things (S6_set_noun s6_1 (upd (S6_noun s6_1) (S6_things s6_1).toNatClampNeg a1))).toNatClampNeg a2))) (S6_things (S6_set_adjectives (S6_set_noun s6_1 (upd (S6_noun s6_1) (S6_things s6_1).toNatClampNeg a1)) (upd (S6_adjectives (S6_set_noun s6_1 (upd (S6_noun s6_1) (S6_things s6_1).toNatClampNeg a1))) (S6_things (S6_set_noun s6_1 (upd (S6_noun s6_1) (S6_things s6_1).toNatClampNeg a1))).toNatClampNeg a2))).toNatClampNeg (vp_nar .boolean a3))) (upd (S6_place (S6_set_box (S6_set_adjectives (S6_set_noun s6_1 (upd (S6_noun s6_1) (S6_things s6_1).toNatClampNeg a1)) (upd (S6_adjectives (S6_set_noun s6_1 (upd (S6_noun s6_1) (S6_things s6_1).toNatClampNeg a1))) (S6_things (S6_set_noun s6_1 (upd (S6_noun s6_1) (S6_things s6_1).toNatClampNeg a1))).toNatClampNeg a2)) (upd (S6_box (S6_set_adjectives (S6_set_noun s6_1 (upd (S6_noun s6_1) (S6_things s6_1).toNatClampNeg a1)) (upd (S6_adjectives (S6_set_noun s6_1 (upd (S6_noun s6_1) (S6_things s6_1).toNatClampNeg a1))) (S6_things (S6_set_noun s6_1 (upd (S6_noun s6_1) (S6_things s6_1).toNatClampNeg a1))).toNatClampNeg a2))) (S6_things (S6_set_adjectives (S6_set_noun s6_1 (upd (S6_noun s6_1) (S6_things s6_1).toNatClampNeg a1)) (upd (S6_adjectives (S6_set_noun s6_1 (upd (S6_noun s6_1) (S6_things s6_1).toNatClampNeg a1))) (S6_things (S6_set_noun s6_1 (upd (S6_noun s6_1) (S6_things s6_1).toNatClampNeg a1))).toNatClampNeg a2))).toNatClampNeg (vp_nar .boolean a3)))) (S6_things (S6_set_box (S6_set_adjectives (S6_set_noun s6_1 (upd (S6_noun s6_1) (S6_things s6_1).toNatClampNeg a1)) (upd (S6_adjectives (S6_set_noun s6_1 (upd (S6_noun s6_1) (S6_things s6_1).toNatClampNeg a1))) (S6_things (S6_set_noun s6_1 (upd (S6_noun s6_1) (S6_things s6_1).toNatClampNeg a1))).toNatClampNeg a2)) (upd (S6_box (S6_set_adjectives (S6_set_noun s6_1 (upd (S6_noun s6_1) (S6_things s6_1).toNatClampNeg a1)) (upd (S6_adjectives (S6_set_noun s6_1 (upd (S6_noun s6_1) (S6_things s6_1).toNatClampNeg a1))) (S6_things (S6_set_noun s6_1 (upd (S6_noun s6_1) (S6_things s6_1).toNatClampNeg a1))).toNatClampNeg a2))) (S6_things (S6_set_adjectives (S6_set_noun s6_1 (upd (S6_noun s6_1) (S6_things s6_1).toNatClampNeg a1)) (upd (S6_adjectives (S6_set_noun s6_1 (upd (S6_noun s6_1) (S6_things s6_1).toNatClampNeg a1))) (S6_things (S6_set_noun s6_1 (upd (S6_noun s6_1) (S6_things s6_1).toNatClampNeg a1))).toNatClampNeg a2))).toNatClampNeg (vp_nar .boolean a3)))).toNatClampNeg (-2)))) + 1))) - 1), (S6_set_things (S6_set_place (S6_set_box (S6_set_adjectives (S6_set_noun s6_1 (upd (S6_noun s6_1) (S6_things s6_1).toNatClampNeg a1)) (upd (S6_adjectives (S6_set_noun s6_1 (upd (S6_noun s6_1) (S6_things s6_1).toNatClampNeg a1))) (S6_things (S6_set_noun s6_1 (upd (S6_noun s6_1) (S6_things s6_1).toNatClampNeg a1))).toNatClampNeg a2)) (upd (S6_box (S6_set_adjectives (S6_set_noun s6_1 (upd (S6_noun s6_1) (S6_things s6_1).toNatClampNeg a1)) (upd (S6_adjectives (S6_set_noun s6_1 (upd (S6_noun s6_1) (S6_things s6_1).toNatClampNeg a1))) (S6_things (S6_set_noun s6_1 (upd (S6_noun s6_1) (S6_things s6_1).toNatClampNeg a1))).toNatClampNeg a2))) (S6_things (S6_set_adjectives (S6_set_noun s6_1 (upd (S6_noun s6_1) (S6_things s6_1).toNatClampNeg a1)) (upd (S6_adjectives (S6_set_noun s6_1 (upd (S6_noun s6_1) (S6_things s6_1).toNatClampNeg a1))) (S6_things (S6_set_noun s6_1 (upd (S6_noun s6_1) (S6_things s6_1).toNatClampNeg a1))).toNatClampNeg a2))).toNatClampNeg (vp_nar .boolean a3))) (upd (S6_place (S6_set_box (S6_set_adjectives (S6_set_noun s6_1 (upd (S6_noun s6_1) (S6_things s6_1).toNatClampNeg a1)) (upd (S6_adjectives (S6_set_noun s6_1 (upd (S6_noun s6_1) (S6_things s6_1).toNatClampNeg a1))) (S6_things (S6_set_noun s6_1 (upd (S6_noun s6_1) (S6_things s6_1).toNatClampNeg a1))).toNatClampNeg a2)) (upd (S6_box (S6_set_adjectives (S6_set_noun s6_1 (upd (S6_noun s6_1) (S6_things s6_1).toNatClampNeg a1)) (upd (S6_adjectives (S6_set_noun s6_1 (upd (S6_noun s6_1) (S6_things s6_1).toNatClampNeg a1))) (S6_things (S6_set_noun s6_1 (upd (S6_noun s6_1) (S6_things s6_1).toNatClampNeg a1))).toNatClampNeg a2))) (S6_things (S6_set_adjectives (S6_set_noun s6_1 (upd (S6_noun s6_1) (S6_things s6_1).toNatClampNeg a1)) (upd (S6_adjectives (S6_set_noun s6_1 (upd (S6_noun s6_1) (S6_things s6_1).toNatClampNeg a1))) (S6_things (S6_set_noun s6_1 (upd (S6_noun s6_1) (S6_things s6_1).toNatClampNeg a1))).toNatClampNeg a2))).toNatClampNeg (vp_nar .boolean a3)))) (S6_things (S6_set_box (S6_set_adjectives (S6_set_noun s6_1 (upd (S6_noun s6_1) (S6_things s6_1).toNatClampNeg a1)) (upd (S6_adjectives (S6_set_noun s6_1 (upd (S6_noun s6_1) (S6_things s6_1).toNatClampNeg a1))) (S6_things (S6_set_noun s6_1 (upd (S6_noun s6_1) (S6_things s6_1).toNatClampNeg a1))).toNatClampNeg a2)) (upd (S6_box (S6_set_adjectives (S6_set_noun s6_1 (upd (S6_noun s6_1) (S6_things s6_1).toNatClampNeg a1)) (upd (S6_adjectives (S6_set_noun s6_1 (upd (S6_noun s6_1) (S6_things s6_1).toNatClampNeg a1))) (S6_things (S6_set_noun s6_1 (upd (S6_noun s6_1) (S6_things s6_1).toNatClampNeg a1))).toNatClampNeg a2))) (S6_things (S6_set_adjectives (S6_set_noun s6_1 (upd (S6_noun s6_1) (S6_things s6_1).toNatClampNeg a1)) (upd (S6_adjectives (S6_set_noun s6_1 (upd (S6_noun s6_1) (S6_things s6_1).toNatClampNeg a1))) (S6_things (S6_set_noun s6_1 (upd (S6_noun s6_1) (S6_things s6_1).toNatClampNeg a1))).toNatClampNeg a2))).toNatClampNeg (vp_nar .boolean a3)))).toNatClampNeg (-2))) ((S6_things (S6_set_place (S6_set_box (S6_set_adjectives (S6_set_noun s6_1 (upd (S6_noun s6_1) (S6_things s6_1).toNatClampNeg a1)) (upd (S6_adjectives (S6_set_noun s6_1 (upd (S6_noun s6_1) (S6_things s6_1).toNatClampNeg a1))) (S6_things (S6_set_noun s6_1 (upd (S6_noun s6_1) (S6_things s6_1).toNatClampNeg a1))).toNatClampNeg a2)) (upd (S6_box (S6_set_adjectives (S6_set_noun s6_1 (upd (S6_noun s6_1) (S6_things s6_1).toNatClampNeg a1)) (upd (S6_adjectives (S6_set_noun s6_1 (upd (S6_noun s6_1) (S6_things s6_1).toNatClampNeg a1))) (S6_things (S6_set_noun s6_1 (upd (S6_noun s6_1) (S6_things s6_1).toNatClampNeg a1))).toNatClampNeg a2))) (S6_things (S6_set_adjectives (S6_set_noun s6_1 (upd (S6_noun s6_1) (S6_things s6_1).toNatClampNeg a1)) (upd (S6_adjectives (S6_set_noun s6_1 (upd (S6_noun s6_1) (S6_things s6_1).toNatClampNeg a1))) (S6_things (S6_set_noun s6_1 (upd (S6_noun s6_1) (S6_things s6_1).toNatClampNeg a1))).toNatClampNeg a2))).toNatClampNeg (vp_nar .boolean a3))) (upd (S6_place (S6_set_box (S6_set_adjectives (S6_set_noun s6_1 (upd (S6_noun s6_1) (S6_things s6_1).toNatClampNeg a1)) (upd (S6_adjectives (S6_set_noun s6_1 (upd (S6_noun s6_1) (S6_things s6_1).toNatClampNeg a1))) (S6_things (S6_set_noun s6_1 (upd (S6_noun s6_1) (S6_things s6_1).toNatClampNeg a1))).toNatClampNeg a2)) (upd (S6_box (S6_set_adjectives (S6_set_noun s6_1 (upd (S6_noun s6_1) (S6_things s6_1).toNatClampNeg a1)) (upd (S6_adjectives (S6_set_noun s6_1 (upd (S6_noun s6_1) (S6_things s6_1).toNatClampNeg a1))) (S6_things (S6_set_noun s6_1 (upd (S6_noun s6_1) (S6_things s6_1).toNatClampNeg a1))).toNatClampNeg a2))) (S6_things (S6_set_adjectives (S6_set_noun s6_1 (upd (S6_noun s6_1) (S6_things s6_1).toNatClampNeg a1)) (upd (S6_adjectives (S6_set_noun s6_1 (upd (S6_noun s6_1) (S6_things s6_1).toNatClampNeg a1))) (S6_things (S6_set_noun s6_1 (upd (S6_noun s6_1) (S6_things s6_1).toNatClampNeg a1))).toNatClampNeg a2))).toNatClampNeg (vp_nar .boolean a3)))) (S6_things (S6_set_box (S6_set_adjectives (S6_set_noun s6_1 (upd (S6_noun s6_1) (S6_things s6_1).toNatClampNeg a1)) (upd (S6_adjectives (S6_set_noun s6_1 (upd (S6_noun s6_1) (S6_things s6_1).toNatClampNeg a1))) (S6_things (S6_set_noun s6_1 (upd (S6_noun s6_1) (S6_things s6_1).toNatClampNeg a1))).toNatClampNeg a2)) (upd (S6_box (S6_set_adjectives (S6_set_noun s6_1 (upd (S6_noun s6_1) (S6_things s6_1).toNatClampNeg a1)) (upd (S6_adjectives (S6_set_noun s6_1 (upd (S6_noun s6_1) (S6_things s6_1).toNatClampNeg a1))) (S6_things (S6_set_noun s6_1 (upd (S6_noun s6_1) (S6_things s6_1).toNatClampNeg a1))).toNatClampNeg a2))) (S6_things (S6_set_adjectives (S6_set_noun s6_1 (upd (S6_noun s6_1) (S6_things s6_1).toNatClampNeg a1)) (upd (S6_adjectives (S6_set_noun s6_1 (upd (S6_noun s6_1) (S6_things s6_1).toNatClampNeg a1))) (S6_things (S6_set_noun s6_1 (upd (S6_noun s6_1) (S6_things s6_1).toNatClampNeg a1))).toNatClampNeg a2))).toNatClampNeg (vp_nar .boolean a3)))).toNatClampNeg (-2)))) + 1)))
def fX6_thing_26 (a1 : Int32) (a2 : Int32) (a3 : Int32) (s6 : S6) (t1 : Int32) : Option (Int32 × S6) :=
    if 12 ≤ (S6_things s6) then
      fX6_thing_40 a1 a2 a3 s6 t1 0
    else
      fX6_thing_40 a1 a2 a3 s6 t1 1
def fX6_thing_25 (a1 : Int32) (a2 : Int32) (a3 : Int32) (s6 : S6) : Option (Int32 × S6) :=
    fX6_thing_26 a1 a2 a3 s6 0
def fX6_thing (s6 : S6) (a1 : Int32) (a2 : Int32) (a3 : Int32) : Option (Int32 × S6) :=
  if a1 < 0 then
    fX6_thing_25 a1 a2 a3 s6
  else
    if 7 < a1 then
      fX6_thing_25 a1 a2 a3 s6
    else
      if a2 < 0 then
        fX6_thing_25 a1 a2 a3 s6
      else
        if 63 < a2 then
          fX6_thing_25 a1 a2 a3 s6
        else
          fX6_thing_26 a1 a2 a3 s6 1
def fX6_isThing_17 (s6 : S6) (a1 : Int32) (t0 : Int32) : Option (Int32) :=
    bo t0 <|
    some t0
def fX6_isThing_16 (s6 : S6) (a1 : Int32) : Option (Int32) :=
    fX6_isThing_17 s6 a1 0
def fX6_isThing (s6 : S6) (a1 : Int32) : Option (Int32) :=
  if a1 < 0 then
    fX6_isThing_16 s6 a1
  else
    if (S6_things s6) ≤ a1 then
      fX6_isThing_16 s6 a1
    else
      fX6_isThing_17 s6 a1 1
def fX6_placeOf_22 (a1 : Int32) (s6 : S6) (t0 : Int32) : Option (Int32 × S6) :=
    some (t0, s6)
def fX6_placeOf (s6 : S6) (a1 : Int32) : Option (Int32 × S6) :=
  bn1 (fX6_isThing s6 a1) fun r_1 =>
  bn2 (fX6_may s6 r_1) fun r_2 s6_2 =>
  if r_2 = 0 then
    fX6_placeOf_22 a1 s6_2 0
  else
    ai 12 a1 <|
    fX6_placeOf_22 a1 s6_2 ((S6_place s6_2) a1.toNatClampNeg)
def fX6_isOpen_26 (a1 : Int32) (s6 : S6) (t0 : Int32) : Option (Int32 × S6) :=
    bo t0 <|
    some (t0, s6)
def fX6_isOpen_25 (a1 : Int32) (s6 : S6) : Option (Int32 × S6) :=
    fX6_isOpen_26 a1 s6 0
def fX6_isOpen (s6 : S6) (a1 : Int32) : Option (Int32 × S6) :=
  bn1 (fX6_isThing s6 a1) fun r_1 =>
  bn2 (fX6_may s6 r_1) fun r_2 s6_2 =>
  if r_2 = 0 then
    fX6_isOpen_25 a1 s6_2
  else
    ai 12 a1 <|
    if ((S6_open s6_2) a1.toNatClampNeg) = 0 then
      fX6_isOpen_25 a1 s6_2
    else
      fX6_isOpen_26 a1 s6_2 1
def fX6_reaches_7 (s6 : S6) (a1 : Int32) : Nat → Int32 → Option (Int32)
  | 0, _ => none
  | n + 1, x2 =>
      if x2 < 0 then
        some 1
      else
        ai 12 x2 <|
        if ((S6_open s6) x2.toNatClampNeg) = 0 then
          some 0
        else
          ai 12 x2 <|
          fX6_reaches_7 s6 a1 n ((S6_place s6) x2.toNatClampNeg)
def fX6_reaches (s6 : S6) (a1 : Int32) : Option (Int32) :=
  ai 12 a1 <|
  fX6_reaches_7 s6 a1 64 ((S6_place s6) a1.toNatClampNeg)
def fX6_isInside_36 (s6 : S6) (a1 : Int32) (a2 : Int32) (t0 : Int32) : Option (Int32) :=
    bo t0 <|
    some t0
def fX6_isInside_26 (s6 : S6) (a1 : Int32) (a2 : Int32) (x3 : Int32) : Option (Int32) :=
    if x3 = a2 then
      fX6_isInside_36 s6 a1 a2 1
    else
      fX6_isInside_36 s6 a1 a2 0
def fX6_isInside_7 (s6 : S6) (a1 : Int32) (a2 : Int32) : Nat → Int32 → Option (Int32)
  | 0, _ => none
  | n + 1, x3 =>
      if x3 < 0 then
        fX6_isInside_26 s6 a1 a2 x3
      else
        if x3 = a2 then
          fX6_isInside_26 s6 a1 a2 x3
        else
          ai 12 x3 <|
          fX6_isInside_7 s6 a1 a2 n ((S6_place s6) x3.toNatClampNeg)
def fX6_isInside (s6 : S6) (a1 : Int32) (a2 : Int32) : Option (Int32) :=
  ai 12 a1 <|
  fX6_isInside_7 s6 a1 a2 64 ((S6_place s6) a1.toNatClampNeg)
def fX6_reachable_28 (s6 : S6) (k4 : Int32 → Int32 → Option (Int32)) (x2 : Int32) (t0 : Int32) (t1 : Int32) : Option (Int32) :=
    k4 (t0 ||| t1) (x2 + 1)
def fX6_reachable_4 (s6 : S6) : Nat → Int32 → Int32 → Option (Int32)
  | 0, _, _ => none
  | n + 1, x1, x2 =>
      if (S6_things s6) ≤ x2 then
        some x1
      else
        bn1 (fX6_reaches s6 x2) fun r_2 =>
        if r_2 = 0 then
          fX6_reachable_28 s6 (fun x1 x2 => fX6_reachable_4 s6 n x1 x2) x2 x1 0
        else
          fX6_reachable_28 s6 (fun x1 x2 => fX6_reachable_4 s6 n x1 x2) x2 x1 ((1 : Int32) <<< (x2 &&& 31))
def fX6_reachable (s6 : S6) : Option (Int32) :=
  fX6_reachable_4 s6 64 0 0
def fX6_inReach (s6 : S6) : Option (Int32 × S6) :=
  bn1 (fX6_reachable (S6_set_thrown s6 0)) fun r_1 =>
  some (r_1, (S6_set_thrown s6 0))
def fX6_suits_94 (s6 : S6) (a1 : Int32) (a2 : Int32) (t0 : Int32) : Option (Int32) :=
    bo t0 <|
    some t0
def fX6_suits_53 (s6 : S6) (a1 : Int32) (a2 : Int32) (x3 : Int32) : Option (Int32) :=
    fX6_suits_94 s6 a1 a2 x3
def fX6_suits_84 (s6 : S6) (a1 : Int32) (a2 : Int32) : Option (Int32) :=
    fX6_suits_94 s6 a1 a2 0
def fX6_suits_26 (s6 : S6) (a1 : Int32) (a2 : Int32) (t0 : Int32) : Option (Int32) :=
    if a1 = 0 then
      if t0 = 0 then
        fX6_suits_94 s6 a1 a2 1
      else
        fX6_suits_94 s6 a1 a2 0
    else
      if a1 = 1 then
        fX6_suits_53 s6 a1 a2 t0
      else
        if a1 = 2 then
          fX6_suits_53 s6 a1 a2 t0
        else
          if a1 = 3 then
            ai 12 a2 <|
            if ((S6_box s6) a2.toNatClampNeg) = 0 then
              fX6_suits_84 s6 a1 a2
            else
              ai 12 a2 <|
              if ((S6_open s6) a2.toNatClampNeg) = 0 then
                fX6_suits_94 s6 a1 a2 1
              else
                fX6_suits_84 s6 a1 a2
          else
            ai 12 a2 <|
            fX6_suits_94 s6 a1 a2 ((S6_open s6) a2.toNatClampNeg)
def fX6_suits (s6 : S6) (a1 : Int32) (a2 : Int32) : Option (Int32) :=
  bn1 (fX6_reaches s6 a2) fun r_1 =>
  if r_1 = 0 then
    some 0
  else
    ai 12 a2 <|
    if ((S6_place s6) a2.toNatClampNeg) = (-3) then
      fX6_suits_26 s6 a1 a2 1
    else
      fX6_suits_26 s6 a1 a2 0
def fX6_suited_43 (s6 : S6) (a1 : Int32) (a2 : Int32) (k5 : Int32 → Int32 → Option (Int32)) (x4 : Int32) (t0 : Int32) (t1 : Int32) : Option (Int32) :=
    k5 (t0 ||| t1) (x4 + 1)
def fX6_suited_42 (s6 : S6) (a1 : Int32) (a2 : Int32) (k5 : Int32 → Int32 → Option (Int32)) (x4 : Int32) (t0 : Int32) : Option (Int32) :=
    fX6_suited_43 s6 a1 a2 k5 x4 t0 0
def fX6_suited_5 (s6 : S6) (a1 : Int32) (a2 : Int32) : Nat → Int32 → Int32 → Option (Int32)
  | 0, _, _ => none
  | n + 1, x3, x4 =>
      if (S6_things s6) ≤ x4 then
        some x3
      else
        if ((a2 >>> (x4 &&& 31)) &&& 1) = 1 then
          bn1 (fX6_suits s6 a1 x4) fun r_3 =>
          if r_3 = 0 then
            fX6_suited_42 s6 a1 a2 (fun x3 x4 => fX6_suited_5 s6 a1 a2 n x3 x4) x4 x3
          else
            fX6_suited_43 s6 a1 a2 (fun x3 x4 => fX6_suited_5 s6 a1 a2 n x3 x4) x4 x3 ((1 : Int32) <<< (x4 &&& 31))
        else
          fX6_suited_42 s6 a1 a2 (fun x3 x4 => fX6_suited_5 s6 a1 a2 n x3 x4) x4 x3
def fX6_suited (s6 : S6) (a1 : Int32) (a2 : Int32) : Option (Int32) :=
  fX6_suited_5 s6 a1 a2 64 0 0
def fX6_having_76 (s6 : S6) (a1 : Int32) (a2 : Int32) (a3 : Int32) (k6 : Int32 → Int32 → Option (Int32)) (x5 : Int32) (t0 : Int32) (t1 : Int32) : Option (Int32) :=
    k6 (t0 ||| t1) (x5 + 1)
def fX6_having_75 (s6 : S6) (a1 : Int32) (a2 : Int32) (a3 : Int32) (k6 : Int32 → Int32 → Option (Int32)) (x5 : Int32) (t0 : Int32) : Option (Int32) :=
    fX6_having_76 s6 a1 a2 a3 k6 x5 t0 0
def fX6_having_49 (s6 : S6) (a1 : Int32) (a2 : Int32) (a3 : Int32) (k6 : Int32 → Int32 → Option (Int32)) (x4 : Int32) (x5 : Int32) (t0 : Int32) : Option (Int32) :=
    if ((a1 >>> (x5 &&& 31)) &&& 1) = 1 then
      if t0 = 0 then
        fX6_having_75 s6 a1 a2 a3 k6 x5 x4
      else
        fX6_having_76 s6 a1 a2 a3 k6 x5 x4 ((1 : Int32) <<< (x5 &&& 31))
    else
      fX6_having_75 s6 a1 a2 a3 k6 x5 x4
def fX6_having_48 (s6 : S6) (a1 : Int32) (a2 : Int32) (a3 : Int32) (k6 : Int32 → Int32 → Option (Int32)) (x4 : Int32) (x5 : Int32) : Option (Int32) :=
    fX6_having_49 s6 a1 a2 a3 k6 x4 x5 0
def fX6_having_44 (s6 : S6) (a1 : Int32) (a2 : Int32) (a3 : Int32) (k6 : Int32 → Int32 → Option (Int32)) (x4 : Int32) (x5 : Int32) : Option (Int32) :=
    fX6_having_49 s6 a1 a2 a3 k6 x4 x5 1
def fX6_having_6 (s6 : S6) (a1 : Int32) (a2 : Int32) (a3 : Int32) : Nat → Int32 → Int32 → Option (Int32)
  | 0, _, _ => none
  | n + 1, x4, x5 =>
      if (S6_things s6) ≤ x5 then
        some x4
      else
        ai 12 x5 <|
        if (((S6_adjectives s6) x5.toNatClampNeg) &&& a2) = a2 then
          if a3 = (-1) then
            fX6_having_44 s6 a1 a2 a3 (fun x4 x5 => fX6_having_6 s6 a1 a2 a3 n x4 x5) x4 x5
          else
            ai 12 x5 <|
            if ((S6_noun s6) x5.toNatClampNeg) = a3 then
              fX6_having_44 s6 a1 a2 a3 (fun x4 x5 => fX6_having_6 s6 a1 a2 a3 n x4 x5) x4 x5
            else
              fX6_having_48 s6 a1 a2 a3 (fun x4 x5 => fX6_having_6 s6 a1 a2 a3 n x4 x5) x4 x5
        else
          fX6_having_48 s6 a1 a2 a3 (fun x4 x5 => fX6_having_6 s6 a1 a2 a3 n x4 x5) x4 x5
def fX6_having (s6 : S6) (a1 : Int32) (a2 : Int32) (a3 : Int32) : Option (Int32) :=
  fX6_having_6 s6 a1 a2 a3 64 0 0
def fX6_bits_4 (a0 : Int32) : Nat → Int32 → Int32 → Option (Int32)
  | 0, _, _ => none
  | n + 1, x1, x2 =>
      if x2 ≤ 0 then
        some x1
      else
        fX6_bits_4 a0 n (x1 + (x2 &&& 1)) (x2 >>> (1 &&& 31))
def fX6_bits (a0 : Int32) : Option (Int32) :=
  fX6_bits_4 a0 64 0 a0
def fX6_lowest_2 (a0 : Int32) : Nat → Int32 → Option (Int32)
  | 0, _ => none
  | n + 1, x1 =>
      if ((a0 >>> (x1 &&& 31)) &&& 1) = 0 then
        fX6_lowest_2 a0 n (x1 + 1)
      else
        some x1
def fX6_lowest (a0 : Int32) : Option (Int32) :=
  fX6_lowest_2 a0 64 0
def fX6_isVerb_14 (a0 : Int32) (t0 : Int32) : Option (Int32) :=
    bo t0 <|
    some t0
def fX6_isVerb_13 (a0 : Int32) : Option (Int32) :=
    fX6_isVerb_14 a0 0
def fX6_isVerb (a0 : Int32) : Option (Int32) :=
  if a0 < 0 then
    fX6_isVerb_13 a0
  else
    if 4 < a0 then
      fX6_isVerb_13 a0
    else
      fX6_isVerb_14 a0 1
def fX6_isAdjective_17 (a0 : Int32) (t0 : Int32) : Option (Int32) :=
    bo t0 <|
    some t0
def fX6_isAdjective_16 (a0 : Int32) : Option (Int32) :=
    fX6_isAdjective_17 a0 0
def fX6_isAdjective (a0 : Int32) : Option (Int32) :=
  if a0 < 20 then
    fX6_isAdjective_16 a0
  else
    if 26 ≤ a0 then
      fX6_isAdjective_16 a0
    else
      fX6_isAdjective_17 a0 1
def fX6_isNoun_17 (a0 : Int32) (t0 : Int32) : Option (Int32) :=
    bo t0 <|
    some t0
def fX6_isNoun_16 (a0 : Int32) : Option (Int32) :=
    fX6_isNoun_17 a0 0
def fX6_isNoun (a0 : Int32) : Option (Int32) :=
  if a0 < 30 then
    fX6_isNoun_16 a0
  else
    if 38 ≤ a0 then
      fX6_isNoun_16 a0
    else
      fX6_isNoun_17 a0 1
def fX6_isPlural_17 (a0 : Int32) (t0 : Int32) : Option (Int32) :=
    bo t0 <|
    some t0
def fX6_isPlural_16 (a0 : Int32) : Option (Int32) :=
    fX6_isPlural_17 a0 0
def fX6_isPlural (a0 : Int32) : Option (Int32) :=
  if a0 < 40 then
    fX6_isPlural_16 a0
  else
    if 48 ≤ a0 then
      fX6_isPlural_16 a0
    else
      fX6_isPlural_17 a0 1
def fX6_word_62 (a1 : Int32) (s6 : S6) (t1 : Int32) (t2 : Int32) : Option (Int32 × S6) :=
    bn2 (fX6_mayBoth s6 t1 t2) fun r_1 s6_1 =>
    if r_1 = 0 then
      some (0, s6_1)
    else
      ai 24 (S6_count s6_1) <|
      some ((S6_count (S6_set_count (S6_set_words s6_1 (upd (S6_words s6_1) (S6_count s6_1).toNatClampNeg a1)) ((S6_count (S6_set_words s6_1 (upd (S6_words s6_1) (S6_count s6_1).toNatClampNeg a1))) + 1))), (S6_set_count (S6_set_words s6_1 (upd (S6_words s6_1) (S6_count s6_1).toNatClampNeg a1)) ((S6_count (S6_set_words s6_1 (upd (S6_words s6_1) (S6_count s6_1).toNatClampNeg a1))) + 1)))
def fX6_word_45 (a1 : Int32) (s6 : S6) (t0 : Int32) : Option (Int32 × S6) :=
    if 24 ≤ (S6_count s6) then
      fX6_word_62 a1 s6 t0 0
    else
      fX6_word_62 a1 s6 t0 1
def fX6_word_40 (a1 : Int32) (s6 : S6) : Option (Int32 × S6) :=
    fX6_word_45 a1 s6 1
def fX6_word_19 (a1 : Int32) (s6 : S6) : Option (Int32 × S6) :=
    bn1 (fX6_isAdjective a1) fun r_1 =>
    if r_1 = 0 then
      bn1 (fX6_isNoun a1) fun r_3 =>
      if r_3 = 0 then
        bn1 (fX6_isPlural a1) fun r_5 =>
        if r_5 = 0 then
          fX6_word_45 a1 s6 0
        else
          fX6_word_40 a1 s6
      else
        fX6_word_40 a1 s6
    else
      fX6_word_40 a1 s6
def fX6_word (s6 : S6) (a1 : Int32) : Option (Int32 × S6) :=
  bn1 (fX6_isVerb a1) fun r_1 =>
  if r_1 = 0 then
    if a1 < 10 then
      fX6_word_19 a1 s6
    else
      if a1 ≤ 17 then
        fX6_word_40 a1 s6
      else
        fX6_word_19 a1 s6
  else
    fX6_word_40 a1 s6
def fX6_back_13 (s6 : S6) (t1 : Int32) : Option (Int32 × S6) :=
    bn2 (fX6_may s6 t1) fun r_1 s6_1 =>
    if r_1 = 0 then
      some (0, s6_1)
    else
      ai 24 (S6_count (S6_set_count s6_1 ((S6_count s6_1) - 1))) <|
      some (((S6_words (S6_set_count s6_1 ((S6_count s6_1) - 1))) (S6_count (S6_set_count s6_1 ((S6_count s6_1) - 1))).toNatClampNeg), (S6_set_count s6_1 ((S6_count s6_1) - 1)))
def fX6_back (s6 : S6) : Option (Int32 × S6) :=
  if (S6_count s6) ≤ 0 then
    fX6_back_13 s6 0
  else
    fX6_back_13 s6 1
def fX6_phrase_99 (a0 : Int32) (a1 : Int32) (a2 : Int32) (t0 : Int32) : Option (Int32) :=
    some t0
def fX6_phrase_129 (a0 : Int32) (a1 : Int32) (a2 : Int32) : Option (Int32) :=
    some a2
def fX6_phrase_183 (a0 : Int32) (a1 : Int32) (a2 : Int32) (t0 : Int32) : Option (Int32) :=
    some t0
def fX6_phrase_181 (a0 : Int32) (a1 : Int32) (a2 : Int32) : Option (Int32) :=
    fX6_phrase_183 a0 a1 a2 13
def fX6_phrase_165 (a0 : Int32) (a1 : Int32) (a2 : Int32) : Option (Int32) :=
    if a0 = 1 then
      if a1 = 15 then
        fX6_phrase_183 a0 a1 a2 7
      else
        fX6_phrase_181 a0 a1 a2
    else
      fX6_phrase_181 a0 a1 a2
def fX6_phrase_131 (a0 : Int32) (a1 : Int32) (a2 : Int32) (x3 : Int32) : Option (Int32) :=
    if x3 = 0 then
      bn1 (fX6_isPlural a1) fun r_2 =>
      if r_2 = 0 then
        if a0 = 1 then
          if a1 = 11 then
            fX6_phrase_183 a0 a1 a2 4
          else
            fX6_phrase_165 a0 a1 a2
        else
          fX6_phrase_165 a0 a1 a2
      else
        fX6_phrase_183 a0 a1 a2 6
    else
      some 13
def fX6_phrase_118 (a0 : Int32) (a1 : Int32) (a2 : Int32) (x3 : Int32) (x5 : Int32) : Option (Int32) :=
    if x5 = 0 then
      fX6_phrase_131 a0 a1 a2 x3
    else
      if a1 = 17 then
        fX6_phrase_129 a0 a1 a2
      else
        fX6_phrase_131 a0 a1 a2 x3
def fX6_phrase_82 (a0 : Int32) (a1 : Int32) (a2 : Int32) (x3 : Int32) (x4 : Int32) (x5 : Int32) : Option (Int32) :=
    bn1 (fX6_isAdjective a1) fun r_1 =>
    if r_1 = 0 then
      bn1 (fX6_isNoun a1) fun r_3 =>
      if r_3 = 0 then
        if x4 = 0 then
          fX6_phrase_118 a0 a1 a2 x3 x5
        else
          if a1 = 14 then
            fX6_phrase_129 a0 a1 a2
          else
            fX6_phrase_118 a0 a1 a2 x3 x5
      else
        fX6_phrase_129 a0 a1 a2
    else
      if x3 = 0 then
        fX6_phrase_99 a0 a1 a2 3
      else
        fX6_phrase_99 a0 a1 a2 10
def fX6_phrase_81 (a0 : Int32) (a1 : Int32) (a2 : Int32) (t0 : Int32) : Option (Int32) :=
    some t0
def fX6_phrase_58 (a0 : Int32) (a1 : Int32) (a2 : Int32) (x3 : Int32) (x4 : Int32) (t0 : Int32) : Option (Int32) :=
    if x4 = 0 then
      fX6_phrase_82 a0 a1 a2 x3 x4 t0
    else
      if a1 = 10 then
        if x3 = 0 then
          fX6_phrase_81 a0 a1 a2 2
        else
          fX6_phrase_81 a0 a1 a2 9
      else
        fX6_phrase_82 a0 a1 a2 x3 x4 t0
def fX6_phrase_53 (a0 : Int32) (a1 : Int32) (a2 : Int32) (x3 : Int32) (x4 : Int32) : Option (Int32) :=
    fX6_phrase_58 a0 a1 a2 x3 x4 1
def fX6_phrase_40 (a0 : Int32) (a1 : Int32) (a2 : Int32) (x3 : Int32) (t0 : Int32) : Option (Int32) :=
    if a0 = 3 then
      fX6_phrase_53 a0 a1 a2 x3 t0
    else
      if a0 = 10 then
        fX6_phrase_53 a0 a1 a2 x3 t0
      else
        fX6_phrase_58 a0 a1 a2 x3 t0 0
def fX6_phrase_35 (a0 : Int32) (a1 : Int32) (a2 : Int32) (x3 : Int32) : Option (Int32) :=
    fX6_phrase_40 a0 a1 a2 x3 1
def fX6_phrase_23 (a0 : Int32) (a1 : Int32) (a2 : Int32) (t0 : Int32) : Option (Int32) :=
    if a0 = 1 then
      fX6_phrase_35 a0 a1 a2 t0
    else
      if a0 = 8 then
        fX6_phrase_35 a0 a1 a2 t0
      else
        fX6_phrase_40 a0 a1 a2 t0 0
def fX6_phrase_18 (a0 : Int32) (a1 : Int32) (a2 : Int32) : Option (Int32) :=
    fX6_phrase_23 a0 a1 a2 1
def fX6_phrase (a0 : Int32) (a1 : Int32) (a2 : Int32) : Option (Int32) :=
  if a0 = 8 then
    fX6_phrase_18 a0 a1 a2
  else
    if a0 = 9 then
      fX6_phrase_18 a0 a1 a2
    else
      if a0 = 10 then
        fX6_phrase_18 a0 a1 a2
      else
        fX6_phrase_23 a0 a1 a2 0
def fX6_wrongOrder_234 (s6 : S6) (k9 : Int32 → Int32 → Int32 → Int32 → Option (Int32)) (x1 : Int32) (x2 : Int32) (x3 : Int32) (x4 : Int32) : Option (Int32) :=
    if x1 = 13 then
      some x4
    else
      k9 x1 x2 x3 (x4 + 1)
def fX6_wrongOrder_205 (s6 : S6) (k9 : Int32 → Int32 → Int32 → Int32 → Option (Int32)) (x2 : Int32) (x3 : Int32) (x4 : Int32) (t0 : Int32) : Option (Int32) :=
    fX6_wrongOrder_234 s6 k9 t0 x2 x3 x4
def fX6_wrongOrder_178 (s6 : S6) (k9 : Int32 → Int32 → Int32 → Int32 → Option (Int32)) (x2 : Int32) (x3 : Int32) (x4 : Int32) (x5 : Int32) : Option (Int32) :=
    bn1 (fX6_isAdjective x5) fun r_1 =>
    if r_1 = 0 then
      bn1 (fX6_isPlural x5) fun r_3 =>
      if r_3 = 0 then
        fX6_wrongOrder_205 s6 k9 x2 x3 x4 13
      else
        fX6_wrongOrder_205 s6 k9 x2 x3 x4 6
    else
      fX6_wrongOrder_205 s6 k9 x2 x3 x4 5
def fX6_wrongOrder_233 (s6 : S6) (k9 : Int32 → Int32 → Int32 → Int32 → Option (Int32)) (x2 : Int32) (x3 : Int32) (x4 : Int32) (t0 : Int32) : Option (Int32) :=
    fX6_wrongOrder_234 s6 k9 t0 x2 x3 x4
def fX6_wrongOrder_220 (s6 : S6) (k9 : Int32 → Int32 → Int32 → Int32 → Option (Int32)) (x2 : Int32) (x3 : Int32) (x4 : Int32) : Option (Int32) :=
    fX6_wrongOrder_233 s6 k9 x2 x3 x4 13
def fX6_wrongOrder_168 (s6 : S6) (k9 : Int32 → Int32 → Int32 → Int32 → Option (Int32)) (x1 : Int32) (x2 : Int32) (x3 : Int32) (x4 : Int32) (x5 : Int32) (x6 : Int32) (x7 : Int32) : Option (Int32) :=
    if x1 = 4 then
      fX6_wrongOrder_178 s6 k9 x2 x3 x4 x5
    else
      if x1 = 5 then
        fX6_wrongOrder_178 s6 k9 x2 x3 x4 x5
      else
        if x7 = 0 then
          if x1 = 12 then
            fX6_wrongOrder_220 s6 k9 x2 x3 x4
          else
            bn1 (fX6_phrase x1 x5 x6) fun r_5 =>
            fX6_wrongOrder_233 s6 k9 x2 x3 x4 r_5
        else
          fX6_wrongOrder_220 s6 k9 x2 x3 x4
def fX6_wrongOrder_155 (s6 : S6) (k9 : Int32 → Int32 → Int32 → Int32 → Option (Int32)) (x1 : Int32) (x2 : Int32) (x3 : Int32) (x4 : Int32) (x5 : Int32) (x6 : Int32) (x7 : Int32) : Option (Int32) :=
    if x5 = 12 then
      fX6_wrongOrder_234 s6 k9 8 x2 x3 x4
    else
      fX6_wrongOrder_168 s6 k9 x1 x2 x3 x4 x5 x6 x7
def fX6_wrongOrder_144 (s6 : S6) (k9 : Int32 → Int32 → Int32 → Int32 → Option (Int32)) (x1 : Int32) (x2 : Int32) (x3 : Int32) (x4 : Int32) (x5 : Int32) (x6 : Int32) (x7 : Int32) : Option (Int32) :=
    if x1 = 4 then
      fX6_wrongOrder_155 s6 k9 x1 x2 x3 x4 x5 x6 x7
    else
      if x1 = 6 then
        fX6_wrongOrder_155 s6 k9 x1 x2 x3 x4 x5 x6 x7
      else
        fX6_wrongOrder_168 s6 k9 x1 x2 x3 x4 x5 x6 x7
def fX6_wrongOrder_114 (s6 : S6) (k9 : Int32 → Int32 → Int32 → Int32 → Option (Int32)) (x1 : Int32) (x2 : Int32) (x3 : Int32) (x4 : Int32) (x5 : Int32) (x6 : Int32) (x7 : Int32) : Option (Int32) :=
    if x7 = 0 then
      fX6_wrongOrder_144 s6 k9 x1 x2 x3 x4 x5 x6 x7
    else
      if x5 = 16 then
        ai 24 0 <|
        if ((S6_words s6) (0 : Int32).toNatClampNeg) = 2 then
          fX6_wrongOrder_234 s6 k9 8 x2 1 x4
        else
          fX6_wrongOrder_144 s6 k9 x1 x2 x3 x4 x5 x6 x7
      else
        fX6_wrongOrder_144 s6 k9 x1 x2 x3 x4 x5 x6 x7
def fX6_wrongOrder_108 (s6 : S6) (k9 : Int32 → Int32 → Int32 → Int32 → Option (Int32)) (x3 : Int32) (x4 : Int32) (t0 : Int32) : Option (Int32) :=
    fX6_wrongOrder_234 s6 k9 1 t0 x3 x4
def fX6_wrongOrder_83 (s6 : S6) (k9 : Int32 → Int32 → Int32 → Int32 → Option (Int32)) (x1 : Int32) (x2 : Int32) (x3 : Int32) (x4 : Int32) (x5 : Int32) (x6 : Int32) (t0 : Int32) : Option (Int32) :=
    if t0 = 0 then
      fX6_wrongOrder_114 s6 k9 x1 x2 x3 x4 x5 x6 t0
    else
      if x5 = 13 then
        if x1 = 11 then
          fX6_wrongOrder_108 s6 k9 x3 x4 1
        else
          fX6_wrongOrder_108 s6 k9 x3 x4 0
      else
        fX6_wrongOrder_114 s6 k9 x1 x2 x3 x4 x5 x6 t0
def fX6_wrongOrder_78 (s6 : S6) (k9 : Int32 → Int32 → Int32 → Int32 → Option (Int32)) (x1 : Int32) (x2 : Int32) (x3 : Int32) (x4 : Int32) (x5 : Int32) (x6 : Int32) : Option (Int32) :=
    fX6_wrongOrder_83 s6 k9 x1 x2 x3 x4 x5 x6 1
def fX6_wrongOrder_53 (s6 : S6) (k9 : Int32 → Int32 → Int32 → Int32 → Option (Int32)) (x1 : Int32) (x2 : Int32) (x3 : Int32) (x4 : Int32) (x5 : Int32) (t0 : Int32) : Option (Int32) :=
    if x1 = 4 then
      fX6_wrongOrder_78 s6 k9 x1 x2 x3 x4 x5 t0
    else
      if x1 = 6 then
        fX6_wrongOrder_78 s6 k9 x1 x2 x3 x4 x5 t0
      else
        if x1 = 7 then
          fX6_wrongOrder_78 s6 k9 x1 x2 x3 x4 x5 t0
        else
          if x1 = 11 then
            fX6_wrongOrder_78 s6 k9 x1 x2 x3 x4 x5 t0
          else
            fX6_wrongOrder_83 s6 k9 x1 x2 x3 x4 x5 t0 0
def fX6_wrongOrder_46 (s6 : S6) (k9 : Int32 → Int32 → Int32 → Int32 → Option (Int32)) (x1 : Int32) (x2 : Int32) (x3 : Int32) (x4 : Int32) (x5 : Int32) : Option (Int32) :=
    fX6_wrongOrder_53 s6 k9 x1 x2 x3 x4 x5 11
def fX6_wrongOrder_319 (s6 : S6) (t0 : Int32) : Option (Int32) :=
    some t0
def fX6_wrongOrder_277 (s6 : S6) (x1 : Int32) (t0 : Int32) : Option (Int32) :=
    ai 24 0 <|
    if ((S6_words s6) (0 : Int32).toNatClampNeg) = 2 then
      if x1 = 12 then
        fX6_wrongOrder_319 s6 (-1)
      else
        fX6_wrongOrder_319 s6 (S6_count s6)
    else
      if t0 = 0 then
        fX6_wrongOrder_319 s6 (S6_count s6)
      else
        fX6_wrongOrder_319 s6 (-1)
def fX6_wrongOrder_272 (s6 : S6) (x1 : Int32) : Option (Int32) :=
    fX6_wrongOrder_277 s6 x1 1
def fX6_wrongOrder_9 (s6 : S6) : Nat → Int32 → Int32 → Int32 → Int32 → Option (Int32)
  | 0, _, _, _, _ => none
  | n + 1, x1, x2, x3, x4 =>
      if (S6_count s6) ≤ x4 then
        if x1 = 4 then
          fX6_wrongOrder_272 s6 x1
        else
          if x1 = 6 then
            fX6_wrongOrder_272 s6 x1
          else
            if x1 = 7 then
              fX6_wrongOrder_272 s6 x1
            else
              if x1 = 11 then
                fX6_wrongOrder_272 s6 x1
              else
                fX6_wrongOrder_277 s6 x1 0
      else
        ai 24 x4 <|
        if x3 = 0 then
          if 8 ≤ x1 then
            fX6_wrongOrder_46 s6 (fun x1 x2 x3 x4 => fX6_wrongOrder_9 s6 n x1 x2 x3 x4) x1 x2 x3 x4 ((S6_words s6) x4.toNatClampNeg)
          else
            if x2 = 0 then
              fX6_wrongOrder_53 s6 (fun x1 x2 x3 x4 => fX6_wrongOrder_9 s6 n x1 x2 x3 x4) x1 x2 x3 x4 ((S6_words s6) x4.toNatClampNeg) 7
            else
              fX6_wrongOrder_46 s6 (fun x1 x2 x3 x4 => fX6_wrongOrder_9 s6 n x1 x2 x3 x4) x1 x2 x3 x4 ((S6_words s6) x4.toNatClampNeg)
        else
          fX6_wrongOrder_53 s6 (fun x1 x2 x3 x4 => fX6_wrongOrder_9 s6 n x1 x2 x3 x4) x1 x2 x3 x4 ((S6_words s6) x4.toNatClampNeg) 12
def fX6_wrongOrder (s6 : S6) : Option (Int32) :=
  fX6_wrongOrder_9 s6 64 1 0 0 1
def fX6_wrongAnswer_111 (s6 : S6) (k6 : Int32 → Int32 → Int32 → Option (Int32)) (x1 : Int32) (x3 : Int32) (t0 : Int32) : Option (Int32) :=
    k6 x1 t0 (x3 + 1)
def fX6_wrongAnswer_106 (s6 : S6) (k6 : Int32 → Int32 → Int32 → Option (Int32)) (x1 : Int32) (x3 : Int32) : Option (Int32) :=
    fX6_wrongAnswer_111 s6 k6 x1 x3 1
def fX6_wrongAnswer_90 (s6 : S6) (k6 : Int32 → Int32 → Int32 → Option (Int32)) (x3 : Int32) (x4 : Int32) (t0 : Int32) : Option (Int32) :=
    bn1 (fX6_isNoun x4) fun r_1 =>
    if r_1 = 0 then
      if x4 = 17 then
        fX6_wrongAnswer_106 s6 k6 t0 x3
      else
        fX6_wrongAnswer_111 s6 k6 t0 x3 0
    else
      fX6_wrongAnswer_106 s6 k6 t0 x3
def fX6_wrongAnswer_85 (s6 : S6) (k6 : Int32 → Int32 → Int32 → Option (Int32)) (x3 : Int32) (x4 : Int32) : Option (Int32) :=
    fX6_wrongAnswer_90 s6 k6 x3 x4 1
def fX6_wrongAnswer_65 (s6 : S6) (k6 : Int32 → Int32 → Int32 → Option (Int32)) (x1 : Int32) (x3 : Int32) (x4 : Int32) (t0 : Int32) : Option (Int32) :=
    if t0 = 0 then
      some x3
    else
      if x1 = 0 then
        if x4 = 10 then
          fX6_wrongAnswer_90 s6 k6 x3 x4 0
        else
          fX6_wrongAnswer_85 s6 k6 x3 x4
      else
        fX6_wrongAnswer_85 s6 k6 x3 x4
def fX6_wrongAnswer_64 (s6 : S6) (k6 : Int32 → Int32 → Int32 → Option (Int32)) (x1 : Int32) (x3 : Int32) (x4 : Int32) : Option (Int32) :=
    fX6_wrongAnswer_65 s6 k6 x1 x3 x4 0
def fX6_wrongAnswer_60 (s6 : S6) (k6 : Int32 → Int32 → Int32 → Option (Int32)) (x1 : Int32) (x3 : Int32) (x4 : Int32) : Option (Int32) :=
    fX6_wrongAnswer_65 s6 k6 x1 x3 x4 1
def fX6_wrongAnswer_37 (s6 : S6) (k6 : Int32 → Int32 → Int32 → Option (Int32)) (x1 : Int32) (x3 : Int32) (x4 : Int32) : Option (Int32) :=
    bn1 (fX6_isAdjective x4) fun r_1 =>
    if r_1 = 0 then
      bn1 (fX6_isNoun x4) fun r_3 =>
      if r_3 = 0 then
        if x4 = 17 then
          fX6_wrongAnswer_60 s6 k6 x1 x3 x4
        else
          fX6_wrongAnswer_64 s6 k6 x1 x3 x4
      else
        fX6_wrongAnswer_60 s6 k6 x1 x3 x4
    else
      fX6_wrongAnswer_60 s6 k6 x1 x3 x4
def fX6_wrongAnswer_130 (s6 : S6) (t0 : Int32) : Option (Int32) :=
    some t0
def fX6_wrongAnswer_6 (s6 : S6) : Nat → Int32 → Int32 → Int32 → Option (Int32)
  | 0, _, _, _ => none
  | n + 1, x1, x2, x3 =>
      if (S6_count s6) ≤ x3 then
        if x1 = 0 then
          fX6_wrongAnswer_130 s6 (S6_count s6)
        else
          fX6_wrongAnswer_130 s6 (-1)
      else
        ai 24 x3 <|
        if x2 = 0 then
          if x3 = 0 then
            if ((S6_words s6) x3.toNatClampNeg) = 10 then
              fX6_wrongAnswer_60 s6 (fun x1 x2 x3 => fX6_wrongAnswer_6 s6 n x1 x2 x3) x1 x3 ((S6_words s6) x3.toNatClampNeg)
            else
              fX6_wrongAnswer_37 s6 (fun x1 x2 x3 => fX6_wrongAnswer_6 s6 n x1 x2 x3) x1 x3 ((S6_words s6) x3.toNatClampNeg)
          else
            fX6_wrongAnswer_37 s6 (fun x1 x2 x3 => fX6_wrongAnswer_6 s6 n x1 x2 x3) x1 x3 ((S6_words s6) x3.toNatClampNeg)
        else
          fX6_wrongAnswer_64 s6 (fun x1 x2 x3 => fX6_wrongAnswer_6 s6 n x1 x2 x3) x1 x3 ((S6_words s6) x3.toNatClampNeg)
def fX6_wrongAnswer (s6 : S6) : Option (Int32) :=
  fX6_wrongAnswer_6 s6 64 0 0 0
def fX6_is_29 (s6 : S6) (a1 : Int32) (t0 : Int32) : Option (Int32) :=
    bo t0 <|
    some t0
def fX6_is_28 (s6 : S6) (a1 : Int32) : Option (Int32) :=
    fX6_is_29 s6 a1 0
def fX6_is (s6 : S6) (a1 : Int32) : Option (Int32) :=
  if (S6_length s6) ≤ (S6_at s6) then
    fX6_is_28 s6 a1
  else
    ai 24 (S6_at s6) <|
    if ((S6_order s6) (S6_at s6).toNatClampNeg) = a1 then
      fX6_is_29 s6 a1 1
    else
      fX6_is_28 s6 a1
def fX6_endOf_25 (s6 : S6) (a1 : Int32) (k2 : Int32 → Option (Int32)) (x2 : Int32) : Option (Int32) :=
    k2 (x2 + 1)
def fX6_endOf_2 (s6 : S6) (a1 : Int32) : Nat → Int32 → Option (Int32)
  | 0, _ => none
  | n + 1, x2 =>
      ai 24 x2 <|
      if ((S6_order s6) x2.toNatClampNeg) = 10 then
        fX6_endOf_25 s6 a1 (fun x2 => fX6_endOf_2 s6 a1 n x2) x2
      else
        ai 24 x2 <|
        bn1 (fX6_isAdjective ((S6_order s6) x2.toNatClampNeg)) fun r_4 =>
        if r_4 = 0 then
          some x2
        else
          fX6_endOf_25 s6 a1 (fun x2 => fX6_endOf_2 s6 a1 n x2) x2
def fX6_endOf (s6 : S6) (a1 : Int32) : Option (Int32) :=
  fX6_endOf_2 s6 a1 64 a1
def fX6_adjectivesUpTo_41 (s6 : S6) (a1 : Int32) (a2 : Int32) (k5 : Int32 → Int32 → Option (Int32)) (x4 : Int32) (t0 : Int32) (t1 : Int32) : Option (Int32) :=
    k5 (t0 ||| t1) (x4 + 1)
def fX6_adjectivesUpTo_5 (s6 : S6) (a1 : Int32) (a2 : Int32) : Nat → Int32 → Int32 → Option (Int32)
  | 0, _, _ => none
  | n + 1, x3, x4 =>
      if a2 ≤ x4 then
        some x3
      else
        ai 24 x4 <|
        bn1 (fX6_isAdjective ((S6_order s6) x4.toNatClampNeg)) fun r_3 =>
        if r_3 = 0 then
          fX6_adjectivesUpTo_41 s6 a1 a2 (fun x3 x4 => fX6_adjectivesUpTo_5 s6 a1 a2 n x3 x4) x4 x3 0
        else
          ai 24 x4 <|
          fX6_adjectivesUpTo_41 s6 a1 a2 (fun x3 x4 => fX6_adjectivesUpTo_5 s6 a1 a2 n x3 x4) x4 x3 ((1 : Int32) <<< ((((S6_order s6) x4.toNatClampNeg) - 20) &&& 31))
def fX6_adjectivesUpTo (s6 : S6) (a1 : Int32) (a2 : Int32) : Option (Int32) :=
  fX6_adjectivesUpTo_5 s6 a1 a2 64 0 a1
def fX6_fail (s6 : S6) (a1 : Int32) (a2 : Int32) : Option (Int32 × S6) :=
  some ((-1), (S6_set_choice (S6_set_failedAt s6 a1) a2))
def fX6_single_78 (a1 : Int32) (s6 : S6) (t0 : Int32) : Option (Int32 × S6) :=
    some (t0, s6)
def fX6_single_72 (a1 : Int32) (s6 : S6) (x3 : Int32) : Option (Int32 × S6) :=
    bn2 (fX6_fail s6 x3 0) fun r_1 s6_1 =>
    fX6_single_78 a1 s6_1 r_1
def fX6_single_172 (a1 : Int32) (s6 : S6) (t1 : Int32) (t2 : Int32) : Option (Int32 × S6) :=
    bn2 (fX6_fail s6 t1 t2) fun r_1 s6_1 =>
    some (r_1, s6_1)
def fX6_single_114 (a1 : Int32) (s6 : S6) (x3 : Int32) (t1 : Int32) (t2 : Int32) (t3 : Int32) : Option (Int32 × S6) :=
    bn1 (fX6_having s6 t1 t2 t3) fun r_1 =>
    bn1 (fX6_bits r_1) fun r_2 =>
    if r_2 = 1 then
      bn1 (fX6_lowest r_1) fun r_9 =>
      some (r_9, s6)
    else
      bn1 (fX6_suited s6 a1 r_1) fun r_4 =>
      bn1 (fX6_bits r_4) fun r_5 =>
      if r_5 = 1 then
        bn1 (fX6_lowest r_4) fun r_8 =>
        some (r_8, s6)
      else
        if r_4 = 0 then
          fX6_single_172 a1 s6 x3 r_1
        else
          fX6_single_172 a1 s6 x3 r_4
def fX6_single (s6 : S6) (a1 : Int32) : Option (Int32 × S6) :=
  bn1 (fX6_endOf s6 (S6_at s6)) fun r_1 =>
  ai 24 r_1 <|
  if ((S6_answer (S6_set_at s6 (r_1 + 1))) r_1.toNatClampNeg) = (-1) then
    ai 24 r_1 <|
    if ((S6_order (S6_set_at s6 (r_1 + 1))) r_1.toNatClampNeg) = 14 then
      if (S6_it (S6_set_at s6 (r_1 + 1))) = (-1) then
        fX6_single_72 a1 (S6_set_at s6 (r_1 + 1)) r_1
      else
        bn1 (fX6_reaches (S6_set_at s6 (r_1 + 1)) (S6_it (S6_set_at s6 (r_1 + 1)))) fun r_12 =>
        if r_12 = 0 then
          fX6_single_72 a1 (S6_set_at s6 (r_1 + 1)) r_1
        else
          fX6_single_78 a1 (S6_set_at s6 (r_1 + 1)) (S6_it (S6_set_at s6 (r_1 + 1)))
    else
      bn1 (fX6_reachable (S6_set_at s6 (r_1 + 1))) fun r_6 =>
      bn1 (fX6_adjectivesUpTo (S6_set_at s6 (r_1 + 1)) (S6_at s6) r_1) fun r_7 =>
      ai 24 r_1 <|
      if ((S6_order (S6_set_at s6 (r_1 + 1))) r_1.toNatClampNeg) = 17 then
        fX6_single_114 a1 (S6_set_at s6 (r_1 + 1)) r_1 r_6 r_7 (-1)
      else
        ai 24 r_1 <|
        fX6_single_114 a1 (S6_set_at s6 (r_1 + 1)) r_1 r_6 r_7 (((S6_order (S6_set_at s6 (r_1 + 1))) r_1.toNatClampNeg) - 30)
  else
    ai 24 r_1 <|
    some (((S6_answer (S6_set_at s6 (r_1 + 1))) r_1.toNatClampNeg), (S6_set_at s6 (r_1 + 1)))
def fX6_isSingleAt_35 (s6 : S6) (a1 : Int32) (t0 : Int32) : Option (Int32) :=
    bo t0 <|
    some t0
def fX6_isSingleAt_30 (s6 : S6) (a1 : Int32) : Option (Int32) :=
    fX6_isSingleAt_35 s6 a1 1
def fX6_isSingleAt (s6 : S6) (a1 : Int32) : Option (Int32) :=
  bn1 (fX6_endOf s6 a1) fun r_1 =>
  ai 24 r_1 <|
  bn1 (fX6_isNoun ((S6_order s6) r_1.toNatClampNeg)) fun r_3 =>
  if r_3 = 0 then
    if ((S6_order s6) r_1.toNatClampNeg) = 17 then
      fX6_isSingleAt_30 s6 a1
    else
      if ((S6_order s6) r_1.toNatClampNeg) = 14 then
        fX6_isSingleAt_30 s6 a1
      else
        fX6_isSingleAt_35 s6 a1 0
  else
    fX6_isSingleAt_30 s6 a1
def fX6_part_45 (s6 : S6) (x1 : Int32) : Option (Int32 × S6) :=
    some (x1, s6)
def fX6_part_269 (k200 : S6 → Int32 → Int32 → Int32 → Int32 → Option (Int32 × S6)) (s6 : S6) (x1 : Int32) (x2 : Int32) (x3 : Int32) (t0 : Int32) : Option (Int32 × S6) :=
    k200 s6 x1 x2 x3 t0
def fX6_part_268 (k200 : S6 → Int32 → Int32 → Int32 → Int32 → Option (Int32 × S6)) (s6 : S6) (x1 : Int32) (x2 : Int32) (x3 : Int32) : Option (Int32 × S6) :=
    fX6_part_269 k200 s6 x1 x2 x3 0
def fX6_part_345 (s6 : S6) (x6 : Int32) : Option (Int32 × S6) :=
    some (x6, s6)
def fX6_part_299 (s6 : S6) (x1 : Int32) (x2 : Int32) (x3 : Int32) (t0 : Int32) : Option (Int32 × S6) :=
    ai 24 0 <|
    bn1 (fX6_reachable s6) fun r_2 =>
    bn1 (fX6_adjectivesUpTo s6 x1 x2) fun r_3 =>
    bn1 (fX6_having s6 r_2 r_3 t0) fun r_4 =>
    bn1 (fX6_suited s6 ((S6_order s6) (0 : Int32).toNatClampNeg) r_4) fun r_5 =>
    if (r_5 &&& (x3 ^^^ (-1))) = 0 then
      bn2 (fX6_fail s6 x2 0) fun r_7 s6_7 =>
      fX6_part_345 s6_7 (r_5 &&& (x3 ^^^ (-1)))
    else
      fX6_part_345 s6 (r_5 &&& (x3 ^^^ (-1)))
def fX6_part_200 : Nat → S6 → Int32 → Int32 → Int32 → Int32 → Option (Int32 × S6)
  | 0, _, _, _, _, _ => none
  | n + 1, s6, x1, x2, x3, x4 =>
      if x4 = 0 then
        ai 24 x2 <|
        bn1 (fX6_isPlural ((S6_order s6) x2.toNatClampNeg)) fun r_3 =>
        if r_3 = 0 then
          fX6_part_299 s6 x1 x2 x3 (-1)
        else
          ai 24 x2 <|
          fX6_part_299 s6 x1 x2 x3 (((S6_order s6) x2.toNatClampNeg) - 40)
      else
        ai 24 0 <|
        bn2 (fX6_single (S6_set_at s6 ((S6_at s6) + 1)) ((S6_order (S6_set_at s6 ((S6_at s6) + 1))) (0 : Int32).toNatClampNeg)) fun r_7 s6_7 =>
        if r_7 = (-1) then
          some (0, s6_7)
        else
          bn1 (fX6_is s6_7 13) fun r_9 =>
          if r_9 = 0 then
            fX6_part_268 (fun s6 x1 x2 x3 x4 => fX6_part_200 n s6 x1 x2 x3 x4) s6_7 x1 x2 (x3 ||| ((1 : Int32) <<< (r_7 &&& 31)))
          else
            bn1 (fX6_isSingleAt s6_7 ((S6_at s6_7) + 1)) fun r_11 =>
            if r_11 = 0 then
              fX6_part_268 (fun s6 x1 x2 x3 x4 => fX6_part_200 n s6 x1 x2 x3 x4) s6_7 x1 x2 (x3 ||| ((1 : Int32) <<< (r_7 &&& 31)))
            else
              fX6_part_269 (fun s6 x1 x2 x3 x4 => fX6_part_200 n s6 x1 x2 x3 x4) s6_7 x1 x2 (x3 ||| ((1 : Int32) <<< (r_7 &&& 31))) 1
def fX6_part_183 (s6 : S6) (x1 : Int32) (x2 : Int32) : Option (Int32 × S6) :=
    bn1 (fX6_is (S6_set_at s6 (x2 + 1)) 12) fun r_1 =>
    fX6_part_200 64 (S6_set_at s6 (x2 + 1)) x1 x2 0 r_1
def fX6_part_182 (s6 : S6) (t0 : Int32) : Option (Int32 × S6) :=
    some (t0, s6)
def fX6_part_136 (s6 : S6) (x1 : Int32) (x2 : Int32) : Option (Int32 × S6) :=
    ai 24 x2 <|
    if ((S6_order s6) x2.toNatClampNeg) = 11 then
      fX6_part_183 s6 x1 x2
    else
      ai 24 x2 <|
      bn1 (fX6_isPlural ((S6_order s6) x2.toNatClampNeg)) fun r_4 =>
      if r_4 = 0 then
        ai 24 0 <|
        bn2 (fX6_single s6 ((S6_order s6) (0 : Int32).toNatClampNeg)) fun r_7 s6_7 =>
        if r_7 = (-1) then
          fX6_part_182 s6_7 0
        else
          fX6_part_182 s6_7 ((1 : Int32) <<< (r_7 &&& 31))
      else
        fX6_part_183 s6 x1 x2
def fX6_part_135 (s6 : S6) (x1 : Int32) (t0 : Int32) : Option (Int32 × S6) :=
    fX6_part_136 s6 x1 t0
def fX6_part_134 (s6 : S6) (x1 : Int32) : Option (Int32 × S6) :=
    fX6_part_135 s6 x1 x1
def fX6_part_110 (s6 : S6) (x1 : Int32) (x3 : Int32) : Option (Int32 × S6) :=
    if (S6_length s6) ≤ x3 then
      fX6_part_134 s6 x1
    else
      ai 24 x3 <|
      bn1 (fX6_isPlural ((S6_order s6) x3.toNatClampNeg)) fun r_3 =>
      if r_3 = 0 then
        fX6_part_134 s6 x1
      else
        fX6_part_135 s6 x1 x3
def fX6_part_84 : Nat → S6 → Int32 → Int32 → Option (Int32 × S6)
  | 0, _, _, _ => none
  | n + 1, s6, x1, x3 =>
      if (S6_length s6) ≤ x3 then
        fX6_part_110 s6 x1 x3
      else
        ai 24 x3 <|
        bn1 (fX6_isAdjective ((S6_order s6) x3.toNatClampNeg)) fun r_3 =>
        if r_3 = 0 then
          fX6_part_110 s6 x1 x3
        else
          fX6_part_84 n s6 x1 (x3 + 1)
def fX6_part_70 (s6 : S6) (x1 : Int32) (t0 : Int32) : Option (Int32 × S6) :=
    bn1 (fX6_is s6 11) fun r_1 =>
    if r_1 = 0 then
      fX6_part_136 s6 x1 t0
    else
      fX6_part_84 64 s6 x1 (x1 + 1)
def fX6_part (s6 : S6) : Option (Int32 × S6) :=
  bn1 (fX6_is s6 15) fun r_1 =>
  if r_1 = 0 then
    bn1 (fX6_is s6 11) fun r_3 =>
    if r_3 = 0 then
      bn1 (fX6_endOf s6 (S6_at s6)) fun r_5 =>
      fX6_part_70 s6 (S6_at s6) r_5
    else
      fX6_part_70 s6 (S6_at s6) (S6_at s6)
  else
    bn1 (fX6_reachable (S6_set_at s6 ((S6_at s6) + 1))) fun r_6 =>
    if ((S6_meant (S6_set_at s6 ((S6_at s6) + 1))) &&& r_6) = 0 then
      bn2 (fX6_fail (S6_set_at s6 ((S6_at s6) + 1)) ((S6_at (S6_set_at s6 ((S6_at s6) + 1))) - 1) 0) fun r_8 s6_8 =>
      fX6_part_45 s6_8 ((S6_meant (S6_set_at s6 ((S6_at s6) + 1))) &&& r_6)
    else
      fX6_part_45 (S6_set_at s6 ((S6_at s6) + 1)) ((S6_meant (S6_set_at s6 ((S6_at s6) + 1))) &&& r_6)
def fX6_acts_41 (a1 : Int32) (s6 : S6) : Option (Int32 × S6) :=
    some (0, s6)
def fX6_acts_112 (a1 : Int32) (s6 : S6) : Option (Int32 × S6) :=
    some (1, s6)
def fX6_acts_111 (a1 : Int32) (s6 : S6) (t1 : Int32) (t2 : Int32) : Option (Int32 × S6) :=
    ai 12 t1 <|
    fX6_acts_112 a1 (S6_set_open s6 (upd (S6_open s6) t1.toNatClampNeg (vp_nar .boolean t2)))
def fX6_acts (s6 : S6) (a1 : Int32) : Option (Int32 × S6) :=
  if (S6_verb s6) = 2 then
    bn1 (fX6_suits s6 16 (S6_into s6)) fun r_7 =>
    if r_7 = 0 then
      fX6_acts_41 a1 s6
    else
      if (S6_into s6) = a1 then
        fX6_acts_41 a1 s6
      else
        bn1 (fX6_isInside s6 (S6_into s6) a1) fun r_10 =>
        if r_10 = 0 then
          ai 12 a1 <|
          fX6_acts_112 a1 (S6_set_place s6 (upd (S6_place s6) a1.toNatClampNeg (S6_into s6)))
        else
          fX6_acts_41 a1 s6
  else
    if (S6_verb s6) = 0 then
      ai 12 a1 <|
      fX6_acts_112 a1 (S6_set_place s6 (upd (S6_place s6) a1.toNatClampNeg (-3)))
    else
      if (S6_verb s6) = 1 then
        ai 12 a1 <|
        fX6_acts_112 a1 (S6_set_place s6 (upd (S6_place s6) a1.toNatClampNeg (-2)))
      else
        if (S6_verb s6) = 3 then
          fX6_acts_111 a1 s6 a1 1
        else
          fX6_acts_111 a1 s6 a1 0
def fX6_failed (s6 : S6) : Option (Int32 × S6) :=
  if (S6_choice s6) = 0 then
    some (5, (S6_set_wrongAt s6 (S6_failedAt s6)))
  else
    some (1, (S6_set_askedAt (S6_set_asked s6 (S6_choice s6)) (S6_failedAt (S6_set_asked s6 (S6_choice s6)))))
def fX6_perform_195 (k142 : S6 → Int32 → Int32 → Option (Int32 × S6)) (s6 : S6) (x1 : Int32) (x3 : Int32) : Option (Int32 × S6) :=
    k142 s6 x1 (x3 + 1)
def fX6_perform_191 (k142 : S6 → Int32 → Int32 → Option (Int32 × S6)) (s6 : S6) (x1 : Int32) (x3 : Int32) (t1 : Int32) (t2 : Int32) : Option (Int32 × S6) :=
    fX6_perform_195 k142 (S6_set_done s6 (t1 ||| t2)) x1 x3
def fX6_perform_142 : Nat → S6 → Int32 → Int32 → Option (Int32 × S6)
  | 0, _, _, _ => none
  | n + 1, s6, x1, x3 =>
      if (S6_things s6) ≤ x3 then
        some (0, s6)
      else
        if ((x1 >>> (x3 &&& 31)) &&& 1) = 1 then
          bn1 (fX6_suits s6 (S6_verb s6) x3) fun r_3 =>
          if r_3 = 0 then
            fX6_perform_195 (fun s6 x1 x3 => fX6_perform_142 n s6 x1 x3) s6 x1 x3
          else
            bn2 (fX6_acts s6 x3) fun r_5 s6_5 =>
            if r_5 = 0 then
              fX6_perform_191 (fun s6 x1 x3 => fX6_perform_142 n s6 x1 x3) s6_5 x1 x3 (S6_done s6) 0
            else
              fX6_perform_191 (fun s6 x1 x3 => fX6_perform_142 n s6 x1 x3) s6_5 x1 x3 (S6_done s6) ((1 : Int32) <<< (x3 &&& 31))
        else
          fX6_perform_195 (fun s6 x1 x3 => fX6_perform_142 n s6 x1 x3) s6 x1 x3
def fX6_perform_132 (s6 : S6) (x1 : Int32) (t1 : Int32) : Option (Int32 × S6) :=
    fX6_perform_142 64 (S6_set_done (S6_set_it s6 t1) 0) x1 0
def fX6_perform_92 (s6 : S6) (x1 : Int32) (x2 : Int32) : Option (Int32 × S6) :=
    ai 24 0 <|
    bn1 (fX6_bits x1) fun r_2 =>
    if r_2 = 1 then
      bn1 (fX6_lowest x1) fun r_4 =>
      fX6_perform_132 (S6_set_into (S6_set_meant (S6_set_verb s6 ((S6_order s6) (0 : Int32).toNatClampNeg)) x1) x2) x1 r_4
    else
      fX6_perform_132 (S6_set_into (S6_set_meant (S6_set_verb s6 ((S6_order s6) (0 : Int32).toNatClampNeg)) x1) x2) x1 (S6_it (S6_set_into (S6_set_meant (S6_set_verb s6 ((S6_order s6) (0 : Int32).toNatClampNeg)) x1) x2))
def fX6_perform_19 : Nat → S6 → Int32 → Int32 → Option (Int32 × S6)
  | 0, _, _, _ => none
  | n + 1, s6, x1, x2 =>
      bn2 (fX6_part (S6_set_at s6 ((S6_at s6) + 1))) fun r_1 s6_1 =>
      if r_1 = 0 then
        bn2 (fX6_failed s6_1) fun r_10 s6_10 =>
        some (r_10, s6_10)
      else
        bn1 (fX6_is s6_1 13) fun r_3 =>
        if r_3 = 0 then
          bn1 (fX6_is s6_1 16) fun r_5 =>
          if r_5 = 0 then
            fX6_perform_92 s6_1 (x1 ||| r_1) x2
          else
            bn2 (fX6_single (S6_set_at s6_1 ((S6_at s6_1) + 1)) 16) fun r_7 s6_7 =>
            if r_7 = (-1) then
              bn2 (fX6_failed s6_7) fun r_9 s6_9 =>
              some (r_9, s6_9)
            else
              fX6_perform_92 s6_7 (x1 ||| r_1) r_7
        else
          fX6_perform_19 n s6_1 (x1 ||| r_1) x2
def fX6_perform (s6 : S6) : Option (Int32 × S6) :=
  fX6_perform_19 64 (S6_set_at (S6_set_askedAt (S6_set_asked s6 0) (-1)) 0) 0 (-1)
def fX6_understand_59 : Nat → S6 → Int32 → Option (Int32 × S6)
  | 0, _, _ => none
  | n + 1, s6, x1 =>
      if (S6_count s6) ≤ x1 then
        bn2 (fX6_perform s6) fun r_2 s6_2 =>
        some (r_2, s6_2)
      else
        ai 24 x1 <|
        ai 24 x1 <|
        ai 24 x1 <|
        fX6_understand_59 n (S6_set_answer (S6_set_order s6 (upd (S6_order s6) x1.toNatClampNeg ((S6_words s6) x1.toNatClampNeg))) (upd (S6_answer (S6_set_order s6 (upd (S6_order s6) x1.toNatClampNeg ((S6_words s6) x1.toNatClampNeg)))) x1.toNatClampNeg (-1))) (x1 + 1)
def fX6_understand_193 (k130 : S6 → Int32 → Int32 → Int32 → Option (Int32 × S6)) (s6 : S6) (x1 : Int32) (x3 : Int32) (t0 : Int32) : Option (Int32 × S6) :=
    k130 s6 x1 t0 (x3 + 1)
def fX6_understand_166 (k130 : S6 → Int32 → Int32 → Int32 → Option (Int32 × S6)) (s6 : S6) (x2 : Int32) (x3 : Int32) (t0 : Int32) (t1 : Int32) : Option (Int32 × S6) :=
    ai 24 x3 <|
    bn1 (fX6_isNoun ((S6_words s6) x3.toNatClampNeg)) fun r_2 =>
    if r_2 = 0 then
      fX6_understand_193 k130 s6 (t0 ||| t1) x3 x2
    else
      ai 24 x3 <|
      fX6_understand_193 k130 s6 (t0 ||| t1) x3 (((S6_words s6) x3.toNatClampNeg) - 30)
def fX6_understand_130 : Nat → S6 → Int32 → Int32 → Int32 → Option (Int32 × S6)
  | 0, _, _, _, _ => none
  | n + 1, s6, x1, x2, x3 =>
      if (S6_count s6) ≤ x3 then
        bn1 (fX6_having s6 (S6_asked s6) x1 x2) fun r_2 =>
        if r_2 = 0 then
          some (5, s6)
        else
          bn1 (fX6_bits r_2) fun r_4 =>
          if r_4 ≤ 1 then
            bn1 (fX6_lowest r_2) fun r_6 =>
            ai 24 (S6_askedAt s6) <|
            bn2 (fX6_perform (S6_set_answer s6 (upd (S6_answer s6) (S6_askedAt s6).toNatClampNeg r_6))) fun r_8 s6_8 =>
            some (r_8, s6_8)
          else
            some (1, (S6_set_asked s6 r_2))
      else
        ai 24 x3 <|
        bn1 (fX6_isAdjective ((S6_words s6) x3.toNatClampNeg)) fun r_10 =>
        if r_10 = 0 then
          fX6_understand_166 (fun s6 x1 x2 x3 => fX6_understand_130 n s6 x1 x2 x3) s6 x2 x3 x1 0
        else
          ai 24 x3 <|
          fX6_understand_166 (fun s6 x1 x2 x3 => fX6_understand_130 n s6 x1 x2 x3) s6 x2 x3 x1 ((1 : Int32) <<< ((((S6_words s6) x3.toNatClampNeg) - 20) &&& 31))
def fX6_understand (s6 : S6) : Option (Int32 × S6) :=
  if (S6_count s6) = 0 then
    some (2, s6)
  else
    ai 24 0 <|
    bn1 (fX6_isVerb ((S6_words s6) (0 : Int32).toNatClampNeg)) fun r_3 =>
    if r_3 = 0 then
      if (S6_asked s6) = 0 then
        some (3, s6)
      else
        bn1 (fX6_wrongAnswer s6) fun r_6 =>
        if (S6_wrongAt (S6_set_wrongAt s6 r_6)) = (-1) then
          fX6_understand_130 64 (S6_set_wrongAt s6 r_6) 0 (-1) 0
        else
          some (4, (S6_set_wrongAt s6 r_6))
    else
      bn1 (fX6_wrongOrder (S6_set_askedAt (S6_set_asked s6 0) (-1))) fun r_8 =>
      if (S6_wrongAt (S6_set_wrongAt (S6_set_askedAt (S6_set_asked s6 0) (-1)) r_8)) = (-1) then
        fX6_understand_59 64 (S6_set_length (S6_set_wrongAt (S6_set_askedAt (S6_set_asked s6 0) (-1)) r_8) (S6_count (S6_set_wrongAt (S6_set_askedAt (S6_set_asked s6 0) (-1)) r_8))) 0
      else
        some (4, (S6_set_wrongAt (S6_set_askedAt (S6_set_asked s6 0) (-1)) r_8))
def fX6_say_36 (s6 : S6) (t1 : Int32) (t2 : Int32) : Option (Int32 × S6) :=
    some ((S6_outcome (S6_set_count (S6_set_questions s6 (t1 + t2)) 0)), (S6_set_count (S6_set_questions s6 (t1 + t2)) 0))
def fX6_say (s6 : S6) : Option (Int32 × S6) :=
  bn2 (fX6_understand (S6_set_wrongAt (S6_set_thrown s6 0) (-1))) fun r_1 s6_1 =>
  if (S6_outcome (S6_set_outcome s6_1 r_1)) = 1 then
    fX6_say_36 (S6_set_outcome s6_1 r_1) (S6_questions (S6_set_outcome s6_1 r_1)) 1
  else
    fX6_say_36 (S6_set_outcome s6_1 r_1) (S6_questions (S6_set_outcome s6_1 r_1)) 0
def fX6_outcome (s6 : S6) : Option (Int32 × S6) :=
  some ((S6_outcome (S6_set_thrown s6 0)), (S6_set_thrown s6 0))
def fX6_wrongAt (s6 : S6) : Option (Int32 × S6) :=
  some ((S6_wrongAt (S6_set_thrown s6 0)), (S6_set_thrown s6 0))
def fX6_verb (s6 : S6) : Option (Int32 × S6) :=
  some ((S6_verb (S6_set_thrown s6 0)), (S6_set_thrown s6 0))
def fX6_meant (s6 : S6) : Option (Int32 × S6) :=
  some ((S6_meant (S6_set_thrown s6 0)), (S6_set_thrown s6 0))
def fX6_done (s6 : S6) : Option (Int32 × S6) :=
  some ((S6_done (S6_set_thrown s6 0)), (S6_set_thrown s6 0))
def fX6_into (s6 : S6) : Option (Int32 × S6) :=
  some ((S6_into (S6_set_thrown s6 0)), (S6_set_thrown s6 0))
def fX6_asked (s6 : S6) : Option (Int32 × S6) :=
  some ((S6_asked (S6_set_thrown s6 0)), (S6_set_thrown s6 0))
def fX6_askedAt (s6 : S6) : Option (Int32 × S6) :=
  some ((S6_askedAt (S6_set_thrown s6 0)), (S6_set_thrown s6 0))
def fX6_questions (s6 : S6) : Option (Int32 × S6) :=
  some ((S6_questions (S6_set_thrown s6 0)), (S6_set_thrown s6 0))
def fX3_add_36 (a1 : Int32) (s3 : S3) : Option (S3) :=
    some s3
def fX3_add (s3 : S3) (a1 : Int32) : Option (S3) :=
  if (S3_count s3) < 0 then
    fX3_add_36 a1 s3
  else
    if 24 ≤ (S3_count s3) then
      fX3_add_36 a1 s3
    else
      ai 24 (S3_count s3) <|
      fX3_add_36 a1 (S3_set_count (S3_set_given s3 (upd (S3_given s3) (S3_count s3).toNatClampNeg a1)) ((S3_count s3) + 1))
def fX3_removeLast_16 (s3 : S3) : Option (Int32 × S3) :=
    some ((-1), s3)
def fX3_removeLast (s3 : S3) : Option (Int32 × S3) :=
  if (S3_count s3) ≤ 0 then
    fX3_removeLast_16 s3
  else
    if (S3_count s3) ≤ 24 then
      ai 24 ((S3_count s3) - 1) <|
      some (((S3_given s3) ((S3_count s3) - 1).toNatClampNeg), (S3_set_count s3 ((S3_count s3) - 1)))
    else
      fX3_removeLast_16 s3
def fX4_add_18 (a1 : Int32) (a2 : Int32) (a3 : Int32) (s4 : S4) : Option (Int32 × S4) :=
    some ((-1), s4)
def fX4_add_62 (a1 : Int32) (a2 : Int32) (a3 : Int32) (s4 : S4) (x4 : Int32) : Option (Int32 × S4) :=
    some (x4, (S4_set_count s4 ((S4_count s4) + 1)))
def fX4_add (s4 : S4) (a1 : Int32) (a2 : Int32) (a3 : Int32) : Option (Int32 × S4) :=
  if (S4_count s4) < 0 then
    fX4_add_18 a1 a2 a3 s4
  else
    if (S4_count s4) < 12 then
      ai 12 (S4_count s4) <|
      ai 12 (S4_count s4) <|
      ai 12 (S4_count s4) <|
      if a3 = 0 then
        fX4_add_62 a1 a2 a3 (S4_set_holders (S4_set_adjectiveSets (S4_set_nouns s4 (upd (S4_nouns s4) (S4_count s4).toNatClampNeg a1)) (upd (S4_adjectiveSets s4) (S4_count s4).toNatClampNeg a2)) (upd (S4_holders s4) (S4_count s4).toNatClampNeg (-2))) (S4_count s4)
      else
        fX4_add_62 a1 a2 a3 (S4_set_boxes (S4_set_holders (S4_set_adjectiveSets (S4_set_nouns s4 (upd (S4_nouns s4) (S4_count s4).toNatClampNeg a1)) (upd (S4_adjectiveSets s4) (S4_count s4).toNatClampNeg a2)) (upd (S4_holders s4) (S4_count s4).toNatClampNeg (-2))) ((S4_boxes s4) ||| ((1 : Int32) <<< ((S4_count s4) &&& 31)))) (S4_count s4)
    else
      fX4_add_18 a1 a2 a3 s4
