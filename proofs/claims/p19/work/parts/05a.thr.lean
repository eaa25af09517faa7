def fX5_thing (s4 : S4) (s5 : S5) (a1 : Int32) (a2 : Int32) (a3 : Int32) : Option (Int32 × Int32 × S4) :=
  if a1 < 0 then
    some (1, 0, s4)
  else
    if a1 < 8 then
      if a2 < 0 then
        some (1, 0, s4)
      else
        if a2 < 64 then
          if (S4_count s4) < 12 then
            bn2 (fX4_add s4 a1 a2 a3) fun r_6 s4_6 =>
            some (0, r_6, s4_6)
          else
            some (2, 0, s4)
        else
          some (1, 0, s4)
    else
      some (1, 0, s4)
def fX5_placeOf (s4 : S4) (s5 : S5) (a1 : Int32) : Option (Int32 × Int32) :=
  bn1 (fX4_has s4 a1) fun r_1 =>
  if r_1 = 0 then
    some (1, 0)
  else
    bn1 (fX4_holderOf s4 a1) fun r_3 =>
    some (0, r_3)
def fX5_isOpen (s4 : S4) (s5 : S5) (a1 : Int32) : Option (Int32 × Int32) :=
  bn1 (fX4_has s4 a1) fun r_1 =>
  if r_1 = 0 then
    some (1, 0)
  else
    bn1 (fX5_contains (S4_openBoxes s4) a1) fun r_3 =>
    bo r_3 <|
    some (0, r_3)
def fX5_word (s3 : S3) (s5 : S5) (a1 : Int32) : Option (Int32 × Int32 × S3) :=
  bn1 (fX5_isWord a1) fun r_1 =>
  if r_1 = 0 then
    some (1, 0, s3)
  else
    if (S3_count s3) < 24 then
      bn1 (fX3_add s3 a1) fun s3_4 =>
      some (0, (S3_count s3_4), s3_4)
    else
      some (2, 0, s3)
def fX5_back (s3 : S3) (s5 : S5) : Option (Int32 × Int32 × S3) :=
  if 0 < (S3_count s3) then
    bn2 (fX3_removeLast s3) fun r_2 s3_2 =>
    some (0, r_2, s3_2)
  else
    some (1, 0, s3)
