def fnc_MS_init (l0 : Nat) (L : List (Nat × Nat)) (I : Nat → Nat → Int32) (k0 : Nat) : Option (List (Nat × Nat) × (Nat → Nat → Int32)) :=
  fw_let (fw_up2 I k0 0 (0 : Int32)) fun I1 =>
  fw_let (fw_up2 I1 k0 1 (0 : Int32)) fun I2 =>
  fw_let (fw_up2 I2 k0 2 (0 : Int32)) fun I3 =>
  fw_let (fw_up2 I3 k0 3 (0 : Int32)) fun I4 =>
  fw_let (fw_up2 I4 k0 4 (0 : Int32)) fun I5 =>
  fw_let (fw_up2 I5 k0 5 (0 : Int32)) fun I6 =>
  fw_let (fw_up2 I6 k0 6 (0 : Int32)) fun I7 =>
  fw_gd (decide (L.length - l0 ≤ 0 ∧ fw_ss l0 L ≤ 0)) <|
  some (L, I7)
def fnc_CH_init_31 (l0 : Nat) : Nat → (List (Nat × Nat)) → (Nat → Nat → Int32) → Nat → Int32 → Option (List (Nat × Nat) × (Nat → Nat → Int32))
  | 0, _, _, _, _ => none
  | f + 1, L, I, k0, x1 =>
    if (20 : Int32) ≤ x1 then
      fw_gd (decide (L.length - l0 ≤ 22 ∧ fw_ss l0 L ≤ 167)) <|
      some (L, I)
    else
      fw_ld (fw_k L) (I k0 0) 24 fun a22 =>
      fw_nw l0 22 167 L (1, 0) fun a23 L24 =>
      fw_let (va_up I a23 (fw_d 1)) fun I25 =>
      fw_bc l0 22 167 0 0 L24 (fnc_MS_init L24.length L24 I25 a23) fun L29 I30 =>
      fw_gd (fw_ix x1 ((fw_k L29) a22).2) <|
      fw_let (fw_up2 I30 a22 x1.toNatClampNeg (Int32.ofNat a23)) fun I37 =>
      fnc_CH_init_31 l0 f L29 I37 k0 (x1 + 1)
def fnc_CH_init (l0 : Nat) (L : List (Nat × Nat)) (I : Nat → Nat → Int32) (k0 : Nat) : Option (List (Nat × Nat) × (Nat → Nat → Int32)) :=
  fw_nw l0 22 167 L (24, 20) fun a1 L2 =>
  fw_let (va_up I a1 (fun _ => -1)) fun I3 =>
  fw_let (fw_up2 I3 k0 0 (Int32.ofNat a1)) fun I6 =>
  fw_nw l0 22 167 L2 (1, 0) fun a7 L8 =>
  fw_let (va_up I6 a7 (fw_d 1)) fun I9 =>
  fw_bc l0 22 167 0 0 L8 (fnc_MS_init L8.length L8 I9 a7) fun L12 I13 =>
  fw_let (fw_up2 I13 k0 1 (Int32.ofNat a7)) fun I18 =>
  fw_let (fw_up2 I18 k0 2 (0 : Int32)) fun I19 =>
  fnc_CH_init_31 l0 200 L12 I19 k0 (0 : Int32)
def fn_CH_holds (K : Nat → Nat × Nat) (I : Nat → Nat → Int32) (k0 : Nat) (x1 : Int32) : Option (Int32 × (Nat → Nat → Int32)) :=
  if x1 < 0 then
    some ((0 : Int32), I)
  else
    if (I k0 2) ≤ x1 then
      some ((0 : Int32), I)
    else
      some ((1 : Int32), I)
def fn_CH_send (K : Nat → Nat × Nat) (I : Nat → Nat → Int32) (k0 : Nat) (x1 : Int32) (x2 : Int32) (x3 : Int32) (x4 : Int32) (x5 : Int32) (x6 : Int32) (x7 : Int32) : Option (Nat → Nat → Int32) :=
  if (I k0 2) < (20 : Int32) then
    fw_ld K (I k0 0) 24 fun a2 =>
    fw_gd (fw_ix (I k0 2) (K a2).2) <|
    fw_ld K (I a2 (I k0 2).toNatClampNeg) 1 fun a4 =>
    fw_let (fw_up2 I a4 0 x1) fun I5 =>
    fw_let (fw_up2 I5 a4 1 x2) fun I6 =>
    fw_let (fw_up2 I6 a4 2 x3) fun I7 =>
    fw_let (fw_up2 I7 a4 3 x4) fun I8 =>
    fw_let (fw_up2 I8 a4 4 x5) fun I9 =>
    fw_let (fw_up2 I9 a4 5 x6) fun I10 =>
    fw_let (fw_up2 I10 a4 6 x7) fun I11 =>
    fw_let (fw_up2 I11 k0 2 ((I11 k0 2) + (1 : Int32))) fun I12 =>
    some I12
  else
    some I
def fn_CH_takeOut_19 (K : Nat → Nat × Nat) : Nat → (Nat → Nat → Int32) → Nat → Int32 → Int32 → Option (Int32 × (Nat → Nat → Int32))
  | 0, _, _, _, _ => none
  | f + 1, I, k0, y2, x3 =>
    if (I k0 2) ≤ x3 then
      fw_let (fw_up2 I k0 2 ((I k0 2) - (1 : Int32))) fun I7 =>
      fw_ld K (I7 k0 0) 24 fun a8 =>
      fw_gd (fw_ix (I7 k0 2) (K a8).2) <|
      fw_let (fw_up2 I7 a8 (I7 k0 2).toNatClampNeg y2) fun I10 =>
      fw_ld K (I10 k0 1) 1 fun a11 =>
      some ((I10 k0 1), I10)
    else
      fw_ld K (I k0 0) 24 fun a12 =>
      fw_ld K (I k0 0) 24 fun a13 =>
      fw_gd (fw_ix x3 (K a13).2) <|
      fw_ld K (I a13 x3.toNatClampNeg) 1 fun a15 =>
      fw_gd (fw_ix (x3 - (1 : Int32)) (K a12).2) <|
      fw_let (fw_up2 I a12 (x3 - (1 : Int32)).toNatClampNeg (I a13 x3.toNatClampNeg)) fun I17 =>
      fn_CH_takeOut_19 K f I17 k0 y2 (x3 + 1)
def fn_CH_takeOut (K : Nat → Nat × Nat) (I : Nat → Nat → Int32) (k0 : Nat) (x1 : Int32) : Option (Int32 × (Nat → Nat → Int32)) :=
  fw_ld K (I k0 1) 1 fun a1 =>
  fw_ld K (I k0 0) 24 fun a2 =>
  fw_gd (fw_ix x1 (K a2).2) <|
  fw_ld K (I a2 x1.toNatClampNeg) 1 fun a4 =>
  fw_let (fw_up2 I k0 1 (I a2 x1.toNatClampNeg)) fun I5 =>
  fn_CH_takeOut_19 K 200 I5 k0 (I k0 1) (x1 + (1 : Int32))
def fn_MS_isToStore (K : Nat → Nat × Nat) (I : Nat → Nat → Int32) (k0 : Nat) : Option (Int32 × (Nat → Nat → Int32)) :=
  if (I k0 0) = 0 then
    some ((1 : Int32), I)
  else
    if (I k0 0) = (1 : Int32) then
      some ((1 : Int32), I)
    else
      if (I k0 0) = (2 : Int32) then
        some ((1 : Int32), I)
      else
        some ((0 : Int32), I)
def fn_MS_detail (K : Nat → Nat × Nat) (I : Nat → Nat → Int32) (k0 : Nat) (x1 : Int32) : Option (Int32 × (Nat → Nat → Int32)) :=
  if x1 = (0 : Int32) then
    some (I k0 0, I)
  else
    if x1 = (1 : Int32) then
      some (I k0 1, I)
    else
      if x1 = (2 : Int32) then
        some (I k0 2, I)
      else
        if x1 = (3 : Int32) then
          some (I k0 3, I)
        else
          if x1 = (4 : Int32) then
            some (I k0 4, I)
          else
            if x1 = (5 : Int32) then
              some (I k0 5, I)
            else
              if x1 = (6 : Int32) then
                some (I k0 6, I)
              else
                some ((-1 : Int32), I)
def fnc_RC_init (l0 : Nat) (L : List (Nat × Nat)) (I : Nat → Nat → Int32) (k0 : Nat) (x1 : Int32) : Option (List (Nat × Nat) × (Nat → Nat → Int32)) :=
  fw_let (fw_up2 I k0 1 (0 : Int32)) fun I1 =>
  fw_let (fw_up2 I1 k0 2 (0 : Int32)) fun I2 =>
  fw_let (fw_up2 I2 k0 3 (0 : Int32)) fun I3 =>
  fw_let (fw_up2 I3 k0 4 (0 : Int32)) fun I4 =>
  fw_let (fw_up2 I4 k0 5 (-1 : Int32)) fun I5 =>
  fw_let (fw_up2 I5 k0 6 (0 : Int32)) fun I6 =>
  fw_let (fw_up2 I6 k0 0 x1) fun I7 =>
  fw_gd (decide (L.length - l0 ≤ 0 ∧ fw_ss l0 L ≤ 0)) <|
  some (L, I7)
def fn_RC_isBusy (K : Nat → Nat × Nat) (I : Nat → Nat → Int32) (k0 : Nat) : Option (Int32 × (Nat → Nat → Int32)) :=
  if (I k0 1) = 0 then
    some ((0 : Int32), I)
  else
    if (I k0 1) = (4 : Int32) then
      some ((0 : Int32), I)
    else
      some ((1 : Int32), I)
def fn_RC_awaits (K : Nat → Nat × Nat) (I : Nat → Nat → Int32) (k0 : Nat) (x1 : Int32) (x2 : Int32) : Option (Int32 × (Nat → Nat → Int32)) :=
  if (I k0 1) = x1 then
    if (I k0 3) = x2 then
      some ((1 : Int32), I)
    else
      some ((0 : Int32), I)
  else
    some ((0 : Int32), I)
def fn_RC_beginFencing (K : Nat → Nat × Nat) (I : Nat → Nat → Int32) (k0 : Nat) (x1 : Int32) : Option (Nat → Nat → Int32) :=
  fw_let (fw_up2 I k0 2 x1) fun I1 =>
  fw_let (fw_up2 I1 k0 4 (0 : Int32)) fun I2 =>
  fw_let (fw_up2 I2 k0 5 (-1 : Int32)) fun I3 =>
  fw_let (fw_up2 I3 k0 1 (1 : Int32)) fun I4 =>
  some I4
def fn_RC_beginReading (K : Nat → Nat × Nat) (I : Nat → Nat → Int32) (k0 : Nat) (x1 : Int32) : Option (Nat → Nat → Int32) :=
  fw_let (fw_up2 I k0 3 x1) fun I1 =>
  fw_let (fw_up2 I1 k0 4 (0 : Int32)) fun I2 =>
  fw_let (fw_up2 I2 k0 1 (2 : Int32)) fun I3 =>
  some I3
def fn_RC_beginWritingBack (K : Nat → Nat × Nat) (I : Nat → Nat → Int32) (k0 : Nat) (x1 : Int32) : Option (Nat → Nat → Int32) :=
  fw_let (fw_up2 I k0 6 x1) fun I1 =>
  fw_let (fw_up2 I1 k0 4 (0 : Int32)) fun I2 =>
  fw_let (fw_up2 I2 k0 1 (3 : Int32)) fun I3 =>
  some I3
def fn_RC_noteAnswer (K : Nat → Nat × Nat) (I : Nat → Nat → Int32) (k0 : Nat) (x1 : Int32) : Option (Nat → Nat → Int32) :=
  fw_let (fw_up2 I k0 4 ((I k0 4) ||| ((1 : Int32) <<< (x1 &&& 31)))) fun I1 =>
  some I1
def fn_JI_bitCount (K : Nat → Nat × Nat) (I : Nat → Nat → Int32) (x0 : Int32) : Option (Int32 × (Nat → Nat → Int32)) :=
  some ((((((((x0 - (((x0.toUInt32 >>> ((1 : Int32).toUInt32 &&& Int32.toUInt32 31)).toInt32) &&& (1431655765 : Int32))) &&& (858993459 : Int32)) + ((((x0 - (((x0.toUInt32 >>> ((1 : Int32).toUInt32 &&& Int32.toUInt32 31)).toInt32) &&& (1431655765 : Int32))).toUInt32 >>> ((2 : Int32).toUInt32 &&& Int32.toUInt32 31)).toInt32) &&& (858993459 : Int32))) + (((((x0 - (((x0.toUInt32 >>> ((1 : Int32).toUInt32 &&& Int32.toUInt32 31)).toInt32) &&& (1431655765 : Int32))) &&& (858993459 : Int32)) + ((((x0 - (((x0.toUInt32 >>> ((1 : Int32).toUInt32 &&& Int32.toUInt32 31)).toInt32) &&& (1431655765 : Int32))).toUInt32 >>> ((2 : Int32).toUInt32 &&& Int32.toUInt32 31)).toInt32) &&& (858993459 : Int32))).toUInt32 >>> ((4 : Int32).toUInt32 &&& Int32.toUInt32 31)).toInt32)) &&& (252645135 : Int32)) + (((((((x0 - (((x0.toUInt32 >>> ((1 : Int32).toUInt32 &&& Int32.toUInt32 31)).toInt32) &&& (1431655765 : Int32))) &&& (858993459 : Int32)) + ((((x0 - (((x0.toUInt32 >>> ((1 : Int32).toUInt32 &&& Int32.toUInt32 31)).toInt32) &&& (1431655765 : Int32))).toUInt32 >>> ((2 : Int32).toUInt32 &&& Int32.toUInt32 31)).toInt32) &&& (858993459 : Int32))) + (((((x0 - (((x0.toUInt32 >>> ((1 : Int32).toUInt32 &&& Int32.toUInt32 31)).toInt32) &&& (1431655765 : Int32))) &&& (858993459 : Int32)) + ((((x0 - (((x0.toUInt32 >>> ((1 : Int32).toUInt32 &&& Int32.toUInt32 31)).toInt32) &&& (1431655765 : Int32))).toUInt32 >>> ((2 : Int32).toUInt32 &&& Int32.toUInt32 31)).toInt32) &&& (858993459 : Int32))).toUInt32 >>> ((4 : Int32).toUInt32 &&& Int32.toUInt32 31)).toInt32)) &&& (252645135 : Int32)).toUInt32 >>> ((8 : Int32).toUInt32 &&& Int32.toUInt32 31)).toInt32)) + ((((((((x0 - (((x0.toUInt32 >>> ((1 : Int32).toUInt32 &&& Int32.toUInt32 31)).toInt32) &&& (1431655765 : Int32))) &&& (858993459 : Int32)) + ((((x0 - (((x0.toUInt32 >>> ((1 : Int32).toUInt32 &&& Int32.toUInt32 31)).toInt32) &&& (1431655765 : Int32))).toUInt32 >>> ((2 : Int32).toUInt32 &&& Int32.toUInt32 31)).toInt32) &&& (858993459 : Int32))) + (((((x0 - (((x0.toUInt32 >>> ((1 : Int32).toUInt32 &&& Int32.toUInt32 31)).toInt32) &&& (1431655765 : Int32))) &&& (858993459 : Int32)) + ((((x0 - (((x0.toUInt32 >>> ((1 : Int32).toUInt32 &&& Int32.toUInt32 31)).toInt32) &&& (1431655765 : Int32))).toUInt32 >>> ((2 : Int32).toUInt32 &&& Int32.toUInt32 31)).toInt32) &&& (858993459 : Int32))).toUInt32 >>> ((4 : Int32).toUInt32 &&& Int32.toUInt32 31)).toInt32)) &&& (252645135 : Int32)) + (((((((x0 - (((x0.toUInt32 >>> ((1 : Int32).toUInt32 &&& Int32.toUInt32 31)).toInt32) &&& (1431655765 : Int32))) &&& (858993459 : Int32)) + ((((x0 - (((x0.toUInt32 >>> ((1 : Int32).toUInt32 &&& Int32.toUInt32 31)).toInt32) &&& (1431655765 : Int32))).toUInt32 >>> ((2 : Int32).toUInt32 &&& Int32.toUInt32 31)).toInt32) &&& (858993459 : Int32))) + (((((x0 - (((x0.toUInt32 >>> ((1 : Int32).toUInt32 &&& Int32.toUInt32 31)).toInt32) &&& (1431655765 : Int32))) &&& (858993459 : Int32)) + ((((x0 - (((x0.toUInt32 >>> ((1 : Int32).toUInt32 &&& Int32.toUInt32 31)).toInt32) &&& (1431655765 : Int32))).toUInt32 >>> ((2 : Int32).toUInt32 &&& Int32.toUInt32 31)).toInt32) &&& (858993459 : Int32))).toUInt32 >>> ((4 : Int32).toUInt32 &&& Int32.toUInt32 31)).toInt32)) &&& (252645135 : Int32)).toUInt32 >>> ((8 : Int32).toUInt32 &&& Int32.toUInt32 31)).toInt32)).toUInt32 >>> ((16 : Int32).toUInt32 &&& Int32.toUInt32 31)).toInt32)) &&& (63 : Int32), I)
def fn_RC_countAnswered (K : Nat → Nat × Nat) (I : Nat → Nat → Int32) (k0 : Nat) : Option (Int32 × (Nat → Nat → Int32)) :=
  fw_bd (fn_JI_bitCount K I (I k0 4)) fun r3 I1 =>
  some (r3, I1)
def fn_RC_detail (K : Nat → Nat × Nat) (I : Nat → Nat → Int32) (k0 : Nat) (x1 : Int32) : Option (Int32 × (Nat → Nat → Int32)) :=
  if x1 = (0 : Int32) then
    some (I k0 1, I)
  else
    if x1 = (1 : Int32) then
      some (I k0 2, I)
    else
      if x1 = (2 : Int32) then
        some (I k0 3, I)
      else
        if x1 = (3 : Int32) then
          fw_bd (fn_RC_countAnswered K I k0) fun r7 I5 =>
          some (r7, I5)
        else
          if x1 = (4 : Int32) then
            some (I k0 5, I)
          else
            some ((-1 : Int32), I)
def fnc_ST_init (l0 : Nat) (L : List (Nat × Nat)) (I : Nat → Nat → Int32) (k0 : Nat) : Option (List (Nat × Nat) × (Nat → Nat → Int32)) :=
  fw_nw l0 2 40 L (21, 20) fun a1 L2 =>
  fw_let (va_up I a1 (fun _ => 0)) fun I3 =>
  fw_let (fw_up2 I3 k0 0 (Int32.ofNat a1)) fun I6 =>
  fw_nw l0 2 40 L2 (20, 20) fun a7 L8 =>
  fw_let (va_up I6 a7 (fun _ => 0)) fun I9 =>
  fw_let (fw_up2 I9 k0 1 (Int32.ofNat a7)) fun I12 =>
  fw_let (fw_up2 I12 k0 2 (1 : Int32)) fun I13 =>
  fw_let (fw_up2 I13 k0 3 (0 : Int32)) fun I14 =>
  fw_let (fw_up2 I14 k0 4 (-1 : Int32)) fun I15 =>
  fw_let (fw_up2 I15 k0 5 (0 : Int32)) fun I16 =>
  fw_gd (decide (L8.length - l0 ≤ 2 ∧ fw_ss l0 L8 ≤ 40)) <|
  some (L8, I16)
def fn_ST_keep_26 (K : Nat → Nat × Nat) (I : Nat → Nat → Int32) (k0 : Nat) (x1 : Int32) (x2 : Int32) (x3 : Int32) : Option (Nat → Nat → Int32) :=
  fw_ld K (I k0 1) 20 fun a4 =>
  fw_gd (fw_ix x1 (K a4).2) <|
  fw_let (fw_up2 I a4 x1.toNatClampNeg x2) fun I6 =>
  fw_let (fw_up2 I6 k0 4 (if (I6 k0 4) < x3 then x3 else (I6 k0 4))) fun I7 =>
  some I7
def fn_ST_keep (K : Nat → Nat × Nat) (I : Nat → Nat → Int32) (k0 : Nat) (x1 : Int32) (x2 : Int32) (x3 : Int32) : Option (Nat → Nat → Int32) :=
  fw_ld K (I k0 0) 21 fun a1 =>
  fw_gd (fw_ix x1 (K a1).2) <|
  if (I a1 x1.toNatClampNeg) = 0 then
    fw_ld K (I k0 0) 21 fun a8 =>
    fw_gd (fw_ix x1 (K a8).2) <|
    fw_let (fw_up2 I a8 x1.toNatClampNeg (1 : Int32)) fun I10 =>
    fw_let (fw_up2 I10 k0 5 ((I10 k0 5) + (1 : Int32))) fun I11 =>
    fn_ST_keep_26 K I11 k0 x1 x2 x3
  else
    fn_ST_keep_26 K I k0 x1 x2 x3
def fn_ST_detail (K : Nat → Nat × Nat) (I : Nat → Nat → Int32) (k0 : Nat) (x1 : Int32) : Option (Int32 × (Nat → Nat → Int32)) :=
  if x1 = (0 : Int32) then
    if (I k0 2) = 0 then
      some ((0 : Int32), I)
    else
      some ((1 : Int32), I)
  else
    if x1 = (1 : Int32) then
      if (I k0 3) = 0 then
        some ((0 : Int32), I)
      else
        some ((1 : Int32), I)
    else
      if x1 = (2 : Int32) then
        some (I k0 4, I)
      else
        if x1 = (3 : Int32) then
          some (I k0 5, I)
        else
          some ((-1 : Int32), I)
def fnc_WR_init (l0 : Nat) (L : List (Nat × Nat)) (I : Nat → Nat → Int32) (k0 : Nat) : Option (List (Nat × Nat) × (Nat → Nat → Int32)) :=
  fw_nw l0 2 40 L (20, 20) fun a1 L2 =>
  fw_let (va_up I a1 (fun _ => 0)) fun I3 =>
  fw_let (fw_up2 I3 k0 0 (Int32.ofNat a1)) fun I6 =>
  fw_nw l0 2 40 L2 (20, 20) fun a7 L8 =>
  fw_let (va_up I6 a7 (fun _ => 0)) fun I9 =>
  fw_let (fw_up2 I9 k0 1 (Int32.ofNat a7)) fun I12 =>
  fw_let (fw_up2 I12 k0 2 (0 : Int32)) fun I13 =>
  fw_let (fw_up2 I13 k0 3 (0 : Int32)) fun I14 =>
  fw_let (fw_up2 I14 k0 4 (-1 : Int32)) fun I15 =>
  fw_gd (decide (L8.length - l0 ≤ 2 ∧ fw_ss l0 L8 ≤ 40)) <|
  some (L8, I15)
def fn_WR_isFull (K : Nat → Nat × Nat) (I : Nat → Nat → Int32) (k0 : Nat) : Option (Int32 × (Nat → Nat → Int32)) :=
  if (20 : Int32) ≤ (I k0 3) then
    some ((1 : Int32), I)
  else
    if ((I k0 3) - ((I k0 4) + (1 : Int32))) < (4 : Int32) then
      some ((0 : Int32), I)
    else
      some ((1 : Int32), I)
def fn_WR_knows (K : Nat → Nat × Nat) (I : Nat → Nat → Int32) (k0 : Nat) (x1 : Int32) : Option (Int32 × (Nat → Nat → Int32)) :=
  if x1 < 0 then
    some ((0 : Int32), I)
  else
    if (I k0 3) ≤ x1 then
      some ((0 : Int32), I)
    else
      some ((1 : Int32), I)
def fn_WR_append (K : Nat → Nat × Nat) (I : Nat → Nat → Int32) (k0 : Nat) (x1 : Int32) : Option (Int32 × (Nat → Nat → Int32)) :=
  fw_ld K (I k0 0) 20 fun a1 =>
  fw_gd (fw_ix (I k0 3) (K a1).2) <|
  fw_let (fw_up2 I a1 (I k0 3).toNatClampNeg x1) fun I3 =>
  fw_let (fw_up2 I3 k0 3 ((I3 k0 3) + (1 : Int32))) fun I4 =>
  some (I k0 3, I4)
def fn_WR_countAnswers (K : Nat → Nat × Nat) (I : Nat → Nat → Int32) (k0 : Nat) (x1 : Int32) : Option (Int32 × (Nat → Nat → Int32)) :=
  fw_ld K (I k0 1) 20 fun a1 =>
  fw_gd (fw_ix x1 (K a1).2) <|
  fw_bd (fn_JI_bitCount K I (I a1 x1.toNatClampNeg)) fun r5 I3 =>
  some (r5, I3)
def fn_WR_advanceLac_7 (K : Nat → Nat × Nat) : Nat → (Nat → Nat → Int32) → Nat → Int32 → Int32 → Option (Nat → Nat → Int32)
  | 0, _, _, _, _ => none
  | f + 1, I, k0, x1, x2 =>
    if (I k0 3) ≤ x2 then
      some I
    else
      fw_bd (fn_WR_countAnswers K I k0 x2) fun r4 I2 =>
      if r4 < x1 then
        some I2
      else
        fw_let (fw_up2 I2 k0 4 x2) fun I6 =>
        fn_WR_advanceLac_7 K f I6 k0 x1 (x2 + 1)
def fn_WR_advanceLac (K : Nat → Nat × Nat) (I : Nat → Nat → Int32) (k0 : Nat) (x1 : Int32) : Option (Nat → Nat → Int32) :=
  fn_WR_advanceLac_7 K 200 I k0 x1 ((I k0 4) + (1 : Int32))
def fn_WR_hear (K : Nat → Nat × Nat) (I : Nat → Nat → Int32) (k0 : Nat) (k1 : Nat) (x2 : Int32) : Option (Nat → Nat → Int32) :=
  if (I k0 2) = 0 then
    if (I k1 0) = (4 : Int32) then
      fw_let (fw_up2 I k0 2 (1 : Int32)) fun I9 =>
      some I9
    else
      fw_ld K (I k0 1) 20 fun a3 =>
      fw_gd (fw_ix (I k1 3) (K a3).2) <|
      fw_gd (fw_ix (I k1 3) (K a3).2) <|
      fw_let (fw_up2 I a3 (I k1 3).toNatClampNeg ((I a3 (I k1 3).toNatClampNeg) ||| ((1 : Int32) <<< ((I k1 2) &&& 31)))) fun I6 =>
      fw_bv (fn_WR_advanceLac K I6 k0 x2) fun I7 =>
      some I7
  else
    some I
def fn_FL_nearest (K : Nat → Nat × Nat) (I : Nat → Nat → Int32) (x0 : Int32) (x1 : Int32) (x2 : Int32) : Option (Int32 × (Nat → Nat → Int32)) :=
  some ((if x1 < (if x0 < x2 then x0 else x2) then (if x0 < x2 then x0 else x2) else x1), I)
def fnc_FL_init_116 (l0 : Nat) : Nat → (List (Nat × Nat)) → (Nat → Nat → Int32) → Nat → Int32 → Option (List (Nat × Nat) × (Nat → Nat → Int32))
  | 0, _, _, _, _ => none
  | f + 1, L, I, k0, x4 =>
    if (2 : Int32) ≤ x4 then
      fw_let (fw_up2 I k0 7 (0 : Int32)) fun I55 =>
      fw_let (fw_up2 I55 k0 8 (0 : Int32)) fun I56 =>
      fw_let (fw_up2 I56 k0 9 (-1 : Int32)) fun I57 =>
      fw_gd (decide (L.length - l0 ≤ 45 ∧ fw_ss l0 L ≤ 466)) <|
      some (L, I57)
    else
      fw_ld (fw_k L) (I k0 6) 25 fun a59 =>
      fw_nw l0 45 466 L (2, 0) fun a60 L61 =>
      fw_let (va_up I a60 (fw_d 2)) fun I62 =>
      fw_bc l0 45 466 0 0 L61 (fnc_RC_init L61.length L61 I62 a60 (x4 + (1 : Int32))) fun L66 I67 =>
      fw_gd (fw_ix x4 ((fw_k L66) a59).2) <|
      fw_let (fw_up2 I67 a59 x4.toNatClampNeg (Int32.ofNat a60)) fun I74 =>
      fnc_FL_init_116 l0 f L66 I74 k0 (x4 + 1)
def fnc_FL_init_54 (l0 : Nat) : Nat → (List (Nat × Nat)) → (Nat → Nat → Int32) → Nat → Int32 → Option (List (Nat × Nat) × (Nat → Nat → Int32))
  | 0, _, _, _, _ => none
  | f + 1, L, I, k0, x4 =>
    if (I k0 0) ≤ x4 then
      fw_nw l0 45 466 L (0, 0) fun a24 L25 =>
      fw_let (va_up I a24 (fw_d 0)) fun I26 =>
      fw_bc l0 45 466 22 167 L25 (fnc_CH_init L25.length L25 I26 a24) fun L29 I30 =>
      fw_let (fw_up2 I30 k0 4 (Int32.ofNat a24)) fun I35 =>
      fw_nw l0 45 466 L29 (4, 0) fun a36 L37 =>
      fw_let (va_up I35 a36 (fw_d 4)) fun I38 =>
      fw_bc l0 45 466 2 40 L37 (fnc_WR_init L37.length L37 I38 a36) fun L41 I42 =>
      fw_let (fw_up2 I42 k0 5 (Int32.ofNat a36)) fun I47 =>
      fw_nw l0 45 466 L41 (25, 2) fun a48 L49 =>
      fw_let (va_up I47 a48 (fun _ => -1)) fun I50 =>
      fw_let (fw_up2 I50 k0 6 (Int32.ofNat a48)) fun I53 =>
      fnc_FL_init_116 l0 200 L49 I53 k0 (0 : Int32)
    else
      fw_ld (fw_k L) (I k0 3) 23 fun a75 =>
      fw_nw l0 45 466 L (3, 0) fun a76 L77 =>
      fw_let (va_up I a76 (fw_d 3)) fun I78 =>
      fw_bc l0 45 466 2 40 L77 (fnc_ST_init L77.length L77 I78 a76) fun L82 I83 =>
      fw_gd (fw_ix x4 ((fw_k L82) a75).2) <|
      fw_let (fw_up2 I83 a75 x4.toNatClampNeg (Int32.ofNat a76)) fun I90 =>
      fnc_FL_init_54 l0 f L82 I90 k0 (x4 + 1)
def fnc_FL_init (l0 : Nat) (L : List (Nat × Nat)) (I : Nat → Nat → Int32) (k0 : Nat) (x1 : Int32) (x2 : Int32) (x3 : Int32) : Option (List (Nat × Nat) × (Nat → Nat → Int32)) :=
  fw_gd (decide (L.length - l0 ≤ 45 ∧ fw_ss l0 L ≤ 466)) <|
  fw_bd (fn_FL_nearest (fw_k L) I x1 (3 : Int32) (5 : Int32)) fun r4 I2 =>
  fw_let (fw_up2 I2 k0 0 r4) fun I5 =>
  fw_gd (decide (L.length - l0 ≤ 45 ∧ fw_ss l0 L ≤ 466)) <|
  fw_bd (fn_FL_nearest (fw_k L) I5 x2 (2 : Int32) (I5 k0 0)) fun r9 I7 =>
  fw_let (fw_up2 I7 k0 1 r9) fun I10 =>
  fw_gd (decide (L.length - l0 ≤ 45 ∧ fw_ss l0 L ≤ 466)) <|
  fw_bd (fn_FL_nearest (fw_k L) I10 x3 (1 : Int32) (I10 k0 1)) fun r14 I12 =>
  fw_let (fw_up2 I12 k0 2 r14) fun I15 =>
  fw_gd (decide (¬ (I15 k0 0) < 0 ∧ (I15 k0 0).toNatClampNeg ≤ 1000)) <|
  fw_nw l0 45 466 L (23, (I15 k0 0).toNatClampNeg) fun a16 L17 =>
  fw_let (va_up I15 a16 (fun _ => -1)) fun I18 =>
  fw_let (fw_up2 I18 k0 3 (Int32.ofNat a16)) fun I22 =>
  fnc_FL_init_54 l0 200 L17 I22 k0 (0 : Int32)
def fn_FL_setMember (K : Nat → Nat × Nat) (I : Nat → Nat → Int32) (k0 : Nat) (x1 : Int32) (x2 : Int32) : Option (Int32 × (Nat → Nat → Int32)) :=
  fw_gd (decide (¬ (I k0 0) = 0)) <|
  some ((x1 + x2) - (x1 + x2) / (I k0 0) * (I k0 0), I)
def fn_FL_sendToSet_6 (K : Nat → Nat × Nat) : Nat → (Nat → Nat → Int32) → Nat → Int32 → Int32 → Int32 → Int32 → Int32 → Int32 → Int32 → Int32 → Int32 → Option (Int32 × (Nat → Nat → Int32))
  | 0, _, _, _, _, _, _, _, _, _, _, _ => none
  | f + 1, I, k0, x1, x2, x3, x4, x5, x6, x7, x8, x9 =>
    if (I k0 1) ≤ x9 then
      some (x8, I)
    else
      fw_bd (fn_FL_setMember K I k0 x3 x9) fun r4 I2 =>
      if (x7 &&& ((1 : Int32) <<< (r4 &&& 31))) = 0 then
        fw_ld K (I2 k0 4) 0 fun a6 =>
        fw_bv (fn_CH_send K I2 a6 x1 x2 r4 x3 x4 x5 x6) fun I7 =>
        fn_FL_sendToSet_6 K f I7 k0 x1 x2 x3 x4 x5 x6 x7 (x8 + 1) (x9 + 1)
      else
        fn_FL_sendToSet_6 K f I2 k0 x1 x2 x3 x4 x5 x6 x7 x8 (x9 + 1)
def fn_FL_sendToSet (K : Nat → Nat × Nat) (I : Nat → Nat → Int32) (k0 : Nat) (x1 : Int32) (x2 : Int32) (x3 : Int32) (x4 : Int32) (x5 : Int32) (x6 : Int32) (x7 : Int32) : Option (Int32 × (Nat → Nat → Int32)) :=
  fn_FL_sendToSet_6 K 200 I k0 x1 x2 x3 x4 x5 x6 x7 (0 : Int32) (0 : Int32)
def fn_FL_sendWritersAdd (K : Nat → Nat × Nat) (I : Nat → Nat → Int32) (k0 : Nat) (x1 : Int32) : Option (Int32 × (Nat → Nat → Int32)) :=
  fw_ld K (I k0 5) 4 fun a1 =>
  fw_ld K (I a1 0) 20 fun a2 =>
  fw_gd (fw_ix x1 (K a2).2) <|
  fw_ld K (I k0 5) 4 fun a4 =>
  fw_ld K (I k0 5) 4 fun a5 =>
  fw_ld K (I a5 1) 20 fun a6 =>
  fw_gd (fw_ix x1 (K a6).2) <|
  fw_bd (fn_FL_sendToSet K I k0 (0 : Int32) (0 : Int32) x1 (I a2 x1.toNatClampNeg) (0 : Int32) (I a4 4) (I a6 x1.toNatClampNeg)) fun r10 I8 =>
  some (r10, I8)
def fn_FL_add (K : Nat → Nat × Nat) (I : Nat → Nat → Int32) (k0 : Nat) (x1 : Int32) : Option (Nat × Int32 × (Nat → Nat → Int32)) :=
  fw_ld K (I k0 5) 4 fun a1 =>
  if (I a1 2) = 0 then
    fw_ld K (I k0 5) 4 fun a3 =>
    fw_bd (fn_WR_isFull K I a3) fun r6 I4 =>
    if r6 = 0 then
      fw_ld K (I4 k0 5) 4 fun a8 =>
      fw_bd (fn_WR_append K I4 a8 x1) fun r11 I9 =>
      fw_bd (fn_FL_sendWritersAdd K I9 k0 r11) fun r14 I12 =>
      some (0, r11, I12)
    else
      some (2, (0 : Int32), I4)
  else
    some (1, (0 : Int32), I)
def fn_FL_resend (K : Nat → Nat × Nat) (I : Nat → Nat → Int32) (k0 : Nat) (x1 : Int32) : Option (Int32 × (Nat → Nat → Int32)) :=
  fw_ld K (I k0 5) 4 fun a1 =>
  if (I a1 2) = 0 then
    fw_ld K (I k0 5) 4 fun a3 =>
    fw_bd (fn_WR_knows K I a3 x1) fun r6 I4 =>
    if r6 = 0 then
      some ((-1 : Int32), I4)
    else
      fw_ld K (I4 k0 5) 4 fun a8 =>
      if (I4 a8 4) < x1 then
        fw_bd (fn_FL_sendWritersAdd K I4 k0 x1) fun r12 I10 =>
        some (r12, I10)
      else
        fw_ld K (I4 k0 5) 4 fun a13 =>
        fw_bd (fn_WR_countAnswers K I4 a13 x1) fun r16 I14 =>
        if r16 = (I14 k0 1) then
          some ((-1 : Int32), I14)
        else
          fw_bd (fn_FL_sendWritersAdd K I14 k0 x1) fun r20 I18 =>
          some (r20, I18)
  else
    some ((-1 : Int32), I)
def fn_FL_shutLedger (K : Nat → Nat × Nat) (I : Nat → Nat → Int32) (k0 : Nat) (x1 : Int32) : Option (Nat → Nat → Int32) :=
  fw_let (fw_up2 I k0 7 (2 : Int32)) fun I1 =>
  fw_let (fw_up2 I1 k0 9 x1) fun I2 =>
  fw_let (fw_up2 I2 k0 8 ((I2 k0 8) + (1 : Int32))) fun I3 =>
  some I3
def fn_FL_close (K : Nat → Nat × Nat) (I : Nat → Nat → Int32) (k0 : Nat) : Option (Int32 × (Nat → Nat → Int32)) :=
  fw_ld K (I k0 5) 4 fun a1 =>
  if (I a1 2) = 0 then
    if (I k0 7) = 0 then
      fw_ld K (I k0 5) 4 fun a4 =>
      fw_bv (fn_FL_shutLedger K I k0 (I a4 4)) fun I5 =>
      fw_ld K (I5 k0 5) 4 fun a7 =>
      fw_let (fw_up2 I5 a7 2 (2 : Int32)) fun I8 =>
      some ((1 : Int32), I8)
    else
      some ((0 : Int32), I)
  else
    some ((0 : Int32), I)
def fn_FL_leave (K : Nat → Nat × Nat) (I : Nat → Nat → Int32) (k0 : Nat) : Option (Int32 × (Nat → Nat → Int32)) :=
  fw_ld K (I k0 5) 4 fun a1 =>
  if (I a1 2) = (3 : Int32) then
    some ((0 : Int32), I)
  else
    fw_ld K (I k0 5) 4 fun a3 =>
    fw_let (fw_up2 I a3 2 (3 : Int32)) fun I4 =>
    some ((1 : Int32), I4)
def fn_FL_writer (K : Nat → Nat × Nat) (I : Nat → Nat → Int32) (k0 : Nat) (x1 : Int32) : Option (Int32 × (Nat → Nat → Int32)) :=
  if x1 = (0 : Int32) then
    fw_ld K (I k0 5) 4 fun a2 =>
    some (I a2 2, I)
  else
    if x1 = (1 : Int32) then
      fw_ld K (I k0 5) 4 fun a4 =>
      some (I a4 3, I)
    else
      if x1 = (2 : Int32) then
        fw_ld K (I k0 5) 4 fun a6 =>
        some (I a6 4, I)
      else
        some ((-1 : Int32), I)
def fn_FL_answers (K : Nat → Nat × Nat) (I : Nat → Nat → Int32) (k0 : Nat) (x1 : Int32) : Option (Int32 × (Nat → Nat → Int32)) :=
  fw_ld K (I k0 5) 4 fun a1 =>
  fw_bd (fn_WR_knows K I a1 x1) fun r4 I2 =>
  if r4 = 0 then
    some ((-1 : Int32), I2)
  else
    fw_ld K (I2 k0 5) 4 fun a6 =>
    fw_bd (fn_WR_countAnswers K I2 a6 x1) fun r9 I7 =>
    some (r9, I7)
def fn_FL_isRecoverer (K : Nat → Nat × Nat) (I : Nat → Nat → Int32) (x0 : Int32) : Option (Int32 × (Nat → Nat → Int32)) :=
  if x0 < (1 : Int32) then
    some ((0 : Int32), I)
  else
    if (2 : Int32) < x0 then
      some ((0 : Int32), I)
    else
      some ((1 : Int32), I)
def fn_FL_sendFences_4 (K : Nat → Nat × Nat) : Nat → (Nat → Nat → Int32) → Nat → Nat → Int32 → Int32 → Option (Int32 × (Nat → Nat → Int32))
  | 0, _, _, _, _, _ => none
  | f + 1, I, k0, k1, x2, x3 =>
    if (I k0 0) ≤ x3 then
      some (x2, I)
    else
      if ((I k1 4) &&& ((1 : Int32) <<< (x3 &&& 31))) = 0 then
        fw_ld K (I k0 4) 0 fun a3 =>
        fw_bv (fn_CH_send K I a3 (1 : Int32) (I k1 0) x3 (0 : Int32) (0 : Int32) (I k1 2) (0 : Int32)) fun I4 =>
        fn_FL_sendFences_4 K f I4 k0 k1 (x2 + 1) (x3 + 1)
      else
        fn_FL_sendFences_4 K f I k0 k1 x2 (x3 + 1)
def fn_FL_sendFences (K : Nat → Nat × Nat) (I : Nat → Nat → Int32) (k0 : Nat) (k1 : Nat) : Option (Int32 × (Nat → Nat → Int32)) :=
  fn_FL_sendFences_4 K 200 I k0 k1 (0 : Int32) (0 : Int32)
def fn_FL_sendStep (K : Nat → Nat × Nat) (I : Nat → Nat → Int32) (k0 : Nat) (k1 : Nat) : Option (Int32 × (Nat → Nat → Int32)) :=
  if (I k1 1) = (1 : Int32) then
    fw_bd (fn_FL_sendFences K I k0 k1) fun r4 I2 =>
    some (r4, I2)
  else
    if (I k1 1) = (2 : Int32) then
      fw_bd (fn_FL_sendToSet K I k0 (2 : Int32) (I k1 0) (I k1 3) (0 : Int32) (I k1 2) (0 : Int32) (I k1 4)) fun r8 I6 =>
      some (r8, I6)
    else
      fw_bd (fn_FL_sendToSet K I k0 (0 : Int32) (I k1 0) (I k1 3) (I k1 6) (I k1 2) ((I k1 3) - (1 : Int32)) (I k1 4)) fun r11 I9 =>
      some (r11, I9)
def fn_FL_recover (K : Nat → Nat × Nat) (I : Nat → Nat → Int32) (k0 : Nat) (x1 : Int32) : Option (Int32 × (Nat → Nat → Int32)) :=
  fw_bd (fn_FL_isRecoverer K I x1) fun r3 I1 =>
  if r3 = 0 then
    some ((0 : Int32), I1)
  else
    fw_ld K (I1 k0 6) 25 fun a5 =>
    fw_gd (fw_ix (x1 - (1 : Int32)) (K a5).2) <|
    fw_ld K (I1 a5 (x1 - (1 : Int32)).toNatClampNeg) 2 fun a7 =>
    if (I1 a7 1) = 0 then
      fw_ld K (I1 k0 6) 25 fun a9 =>
      fw_gd (fw_ix (x1 - (1 : Int32)) (K a9).2) <|
      fw_ld K (I1 a9 (x1 - (1 : Int32)).toNatClampNeg) 2 fun a11 =>
      if (I1 k0 7) = (2 : Int32) then
        fw_let (fw_up2 I1 a11 1 (4 : Int32)) fun I20 =>
        some ((1 : Int32), I20)
      else
        fw_let (fw_up2 I1 k0 7 (1 : Int32)) fun I13 =>
        fw_let (fw_up2 I13 k0 8 ((I13 k0 8) + (1 : Int32))) fun I14 =>
        fw_bv (fn_RC_beginFencing K I14 a11 (I14 k0 8)) fun I15 =>
        fw_bd (fn_FL_sendStep K I15 k0 a11) fun r19 I17 =>
        some ((1 : Int32), I17)
    else
      some ((0 : Int32), I1)
def fn_FL_retry (K : Nat → Nat × Nat) (I : Nat → Nat → Int32) (k0 : Nat) (x1 : Int32) : Option (Int32 × (Nat → Nat → Int32)) :=
  fw_bd (fn_FL_isRecoverer K I x1) fun r3 I1 =>
  if r3 = 0 then
    some ((-1 : Int32), I1)
  else
    fw_ld K (I1 k0 6) 25 fun a5 =>
    fw_gd (fw_ix (x1 - (1 : Int32)) (K a5).2) <|
    fw_ld K (I1 a5 (x1 - (1 : Int32)).toNatClampNeg) 2 fun a7 =>
    fw_bd (fn_RC_isBusy K I1 a7) fun r10 I8 =>
    if r10 = 0 then
      some ((-1 : Int32), I8)
    else
      fw_ld K (I8 k0 6) 25 fun a12 =>
      fw_gd (fw_ix (x1 - (1 : Int32)) (K a12).2) <|
      fw_ld K (I8 a12 (x1 - (1 : Int32)).toNatClampNeg) 2 fun a14 =>
      fw_bd (fn_FL_sendStep K I8 k0 a14) fun r17 I15 =>
      some (r17, I15)
def fn_FL_abandon (K : Nat → Nat × Nat) (I : Nat → Nat → Int32) (k0 : Nat) (x1 : Int32) : Option (Int32 × (Nat → Nat → Int32)) :=
  fw_bd (fn_FL_isRecoverer K I x1) fun r3 I1 =>
  if r3 = 0 then
    some ((0 : Int32), I1)
  else
    fw_ld K (I1 k0 6) 25 fun a5 =>
    fw_gd (fw_ix (x1 - (1 : Int32)) (K a5).2) <|
    fw_ld K (I1 a5 (x1 - (1 : Int32)).toNatClampNeg) 2 fun a7 =>
    fw_bd (fn_RC_isBusy K I1 a7) fun r10 I8 =>
    if r10 = 0 then
      some ((0 : Int32), I8)
    else
      fw_ld K (I8 k0 6) 25 fun a12 =>
      fw_gd (fw_ix (x1 - (1 : Int32)) (K a12).2) <|
      fw_ld K (I8 a12 (x1 - (1 : Int32)).toNatClampNeg) 2 fun a14 =>
      fw_let (fw_up2 I8 a14 1 (0 : Int32)) fun I15 =>
      some ((1 : Int32), I15)
def fn_FL_recoverer (K : Nat → Nat × Nat) (I : Nat → Nat → Int32) (k0 : Nat) (x1 : Int32) (x2 : Int32) : Option (Int32 × (Nat → Nat → Int32)) :=
  fw_bd (fn_FL_isRecoverer K I x1) fun r3 I1 =>
  if r3 = 0 then
    some ((-1 : Int32), I1)
  else
    fw_ld K (I1 k0 6) 25 fun a5 =>
    fw_gd (fw_ix (x1 - (1 : Int32)) (K a5).2) <|
    fw_ld K (I1 a5 (x1 - (1 : Int32)).toNatClampNeg) 2 fun a7 =>
    fw_bd (fn_RC_detail K I1 a7 x2) fun r10 I8 =>
    some (r10, I8)
def fn_FL_finish_24 (K : Nat → Nat × Nat) (I : Nat → Nat → Int32) (k0 : Nat) (k1 : Nat) : Option (Nat → Nat → Int32) :=
  if (I k0 7) = (2 : Int32) then
    fw_let (fw_up2 I k1 1 (4 : Int32)) fun I4 =>
    some I4
  else
    fw_let (fw_up2 I k1 1 (0 : Int32)) fun I3 =>
    some I3
def fn_FL_finish (K : Nat → Nat × Nat) (I : Nat → Nat → Int32) (k0 : Nat) (k1 : Nat) (x2 : Int32) : Option (Nat → Nat → Int32) :=
  if (I k0 7) = (1 : Int32) then
    if (I k0 8) = (I k1 2) then
      fw_bv (fn_FL_shutLedger K I k0 x2) fun I6 =>
      fn_FL_finish_24 K I6 k0 k1
    else
      fn_FL_finish_24 K I k0 k1
  else
    fn_FL_finish_24 K I k0 k1
def fn_FL_readOn (K : Nat → Nat × Nat) (I : Nat → Nat → Int32) (k0 : Nat) (k1 : Nat) (x2 : Int32) : Option (Nat → Nat → Int32) :=
  if x2 < (20 : Int32) then
    fw_bv (fn_RC_beginReading K I k1 x2) fun I2 =>
    fw_bd (fn_FL_sendStep K I2 k0 k1) fun r6 I4 =>
    some I4
  else
    fw_bv (fn_FL_finish K I k0 k1 (x2 - (1 : Int32))) fun I7 =>
    some I7
def fn_FL_hearAdded (K : Nat → Nat × Nat) (I : Nat → Nat → Int32) (k0 : Nat) (k1 : Nat) (k2 : Nat) : Option (Nat → Nat → Int32) :=
  fw_bv (fn_RC_noteAnswer K I k1 (I k2 2)) fun I1 =>
  fw_bd (fn_RC_countAnswered K I1 k1) fun r5 I3 =>
  if r5 < (I3 k0 2) then
    some I3
  else
    fw_bv (fn_FL_readOn K I3 k0 k1 ((I3 k1 3) + (1 : Int32))) fun I7 =>
    some I7
def fn_FL_hearMissing (K : Nat → Nat × Nat) (I : Nat → Nat → Int32) (k0 : Nat) (k1 : Nat) (k2 : Nat) : Option (Nat → Nat → Int32) :=
  fw_bv (fn_RC_noteAnswer K I k1 (I k2 2)) fun I1 =>
  fw_bd (fn_RC_countAnswered K I1 k1) fun r5 I3 =>
  if r5 < (((I3 k0 1) - (I3 k0 2)) + (1 : Int32)) then
    some I3
  else
    fw_bv (fn_FL_finish K I3 k0 k1 ((I3 k1 3) - (1 : Int32))) fun I7 =>
    some I7
def fn_FL_countSilent_5 (K : Nat → Nat × Nat) : Nat → (Nat → Nat → Int32) → Nat → Int32 → Int32 → Int32 → Int32 → Option (Int32 × (Nat → Nat → Int32))
  | 0, _, _, _, _, _, _ => none
  | f + 1, I, k0, x1, x2, x3, x4 =>
    if (I k0 1) ≤ x4 then
      some (x3, I)
    else
      fw_bd (fn_FL_setMember K I k0 x1 x4) fun r4 I2 =>
      if (x2 &&& ((1 : Int32) <<< (r4 &&& 31))) = 0 then
        fn_FL_countSilent_5 K f I2 k0 x1 x2 (x3 + 1) (x4 + 1)
      else
        fn_FL_countSilent_5 K f I2 k0 x1 x2 x3 (x4 + 1)
def fn_FL_countSilent (K : Nat → Nat × Nat) (I : Nat → Nat → Int32) (k0 : Nat) (x1 : Int32) (x2 : Int32) : Option (Int32 × (Nat → Nat → Int32)) :=
  fn_FL_countSilent_5 K 200 I k0 x1 x2 (0 : Int32) (0 : Int32)
def fn_FL_isWriterFencedOut_2 (K : Nat → Nat × Nat) : Nat → (Nat → Nat → Int32) → Nat → Int32 → Int32 → Option (Int32 × (Nat → Nat → Int32))
  | 0, _, _, _, _ => none
  | f + 1, I, k0, x1, x2 =>
    if (I k0 0) ≤ x2 then
      some ((1 : Int32), I)
    else
      fw_bd (fn_FL_countSilent K I k0 x2 x1) fun r4 I2 =>
      if r4 < (I2 k0 2) then
        fn_FL_isWriterFencedOut_2 K f I2 k0 x1 (x2 + 1)
      else
        some ((0 : Int32), I2)
def fn_FL_isWriterFencedOut (K : Nat → Nat × Nat) (I : Nat → Nat → Int32) (k0 : Nat) (x1 : Int32) : Option (Int32 × (Nat → Nat → Int32)) :=
  fn_FL_isWriterFencedOut_2 K 200 I k0 x1 (0 : Int32)
def fn_FL_hearFenced (K : Nat → Nat × Nat) (I : Nat → Nat → Int32) (k0 : Nat) (k1 : Nat) (k2 : Nat) : Option (Nat → Nat → Int32) :=
  fw_bv (fn_RC_noteAnswer K I k1 (I k2 2)) fun I1 =>
  fw_let (fw_up2 I1 k1 5 (if (I1 k1 5) < (I1 k2 4) then (I1 k2 4) else (I1 k1 5))) fun I3 =>
  fw_bd (fn_FL_isWriterFencedOut K I3 k0 (I3 k1 4)) fun r6 I4 =>
  if r6 = 0 then
    some I4
  else
    fw_bv (fn_FL_readOn K I4 k0 k1 ((I4 k1 5) + (1 : Int32))) fun I8 =>
    some I8
def fn_FL_reachRecoverer_117 (K : Nat → Nat × Nat) (I : Nat → Nat → Int32) (k0 : Nat) (k1 : Nat) (y2 : Int32) : Option (Nat → Nat → Int32) :=
  if (I k1 0) = (3 : Int32) then
    fw_bd (fn_RC_awaits K I y2.toNatClampNeg (3 : Int32) (I k1 3)) fun r11 I9 =>
    if r11 = 0 then
      some I9
    else
      fw_bv (fn_FL_hearAdded K I9 k0 y2.toNatClampNeg k1) fun I13 =>
      some I13
  else
    some I
def fn_FL_reachRecoverer_87 (K : Nat → Nat × Nat) (I : Nat → Nat → Int32) (k0 : Nat) (k1 : Nat) (y2 : Int32) : Option (Nat → Nat → Int32) :=
  if (I k1 0) = (7 : Int32) then
    fw_bd (fn_RC_awaits K I y2.toNatClampNeg (2 : Int32) (I k1 3)) fun r17 I15 =>
    if r17 = 0 then
      fn_FL_reachRecoverer_117 K I15 k0 k1 y2
    else
      fw_bv (fn_FL_hearMissing K I15 k0 y2.toNatClampNeg k1) fun I19 =>
      some I19
  else
    fn_FL_reachRecoverer_117 K I k0 k1 y2
def fn_FL_reachRecoverer_49 (K : Nat → Nat × Nat) (I : Nat → Nat → Int32) (k0 : Nat) (k1 : Nat) (y2 : Int32) : Option (Nat → Nat → Int32) :=
  if (I k1 0) = (6 : Int32) then
    fw_bd (fn_RC_awaits K I y2.toNatClampNeg (2 : Int32) (I k1 3)) fun r23 I21 =>
    if r23 = 0 then
      fn_FL_reachRecoverer_87 K I21 k0 k1 y2
    else
      fw_bv (fn_RC_beginWritingBack K I21 y2.toNatClampNeg (I21 k1 4)) fun I25 =>
      fw_bd (fn_FL_sendStep K I25 k0 y2.toNatClampNeg) fun r29 I27 =>
      some I27
  else
    fn_FL_reachRecoverer_87 K I k0 k1 y2
def fn_FL_reachRecoverer (K : Nat → Nat × Nat) (I : Nat → Nat → Int32) (k0 : Nat) (k1 : Nat) : Option (Nat → Nat → Int32) :=
  fw_ld K (I k0 6) 25 fun a1 =>
  fw_gd (fw_ix ((I k1 1) - (1 : Int32)) (K a1).2) <|
  fw_ld K (I a1 ((I k1 1) - (1 : Int32)).toNatClampNeg) 2 fun a3 =>
  if (I k1 5) = (I a3 2) then
    if (I k1 0) = (5 : Int32) then
      if (I a3 1) = (1 : Int32) then
        fw_bv (fn_FL_hearFenced K I k0 a3 k1) fun I31 =>
        some I31
      else
        fn_FL_reachRecoverer_49 K I k0 k1 (I a1 ((I k1 1) - (1 : Int32)).toNatClampNeg)
    else
      fn_FL_reachRecoverer_49 K I k0 k1 (I a1 ((I k1 1) - (1 : Int32)).toNatClampNeg)
  else
    some I
def fn_FL_sendAnswer (K : Nat → Nat × Nat) (I : Nat → Nat → Int32) (k0 : Nat) (k1 : Nat) (x2 : Int32) (x3 : Int32) : Option (Nat → Nat → Int32) :=
  fw_ld K (I k0 4) 0 fun a1 =>
  fw_bv (fn_CH_send K I a1 x2 (I k1 1) (I k1 2) (I k1 3) x3 (I k1 5) (0 : Int32)) fun I2 =>
  some I2
def fn_FL_reachStoreWithAdd_22 (K : Nat → Nat × Nat) (I : Nat → Nat → Int32) (k0 : Nat) (k1 : Nat) (k2 : Nat) : Option (Nat → Nat → Int32) :=
  fw_bv (fn_ST_keep K I k1 (I k2 3) (I k2 4) (I k2 6)) fun I2 =>
  fw_bv (fn_FL_sendAnswer K I2 k0 k2 (3 : Int32) (0 : Int32)) fun I4 =>
  some I4
def fn_FL_reachStoreWithAdd (K : Nat → Nat × Nat) (I : Nat → Nat → Int32) (k0 : Nat) (k1 : Nat) (k2 : Nat) : Option (Nat → Nat → Int32) :=
  if (I k2 1) = 0 then
    if (I k1 3) = 0 then
      fn_FL_reachStoreWithAdd_22 K I k0 k1 k2
    else
      fw_bv (fn_FL_sendAnswer K I k0 k2 (4 : Int32) (0 : Int32)) fun I7 =>
      some I7
  else
    fn_FL_reachStoreWithAdd_22 K I k0 k1 k2
def fn_FL_reachStore (K : Nat → Nat × Nat) (I : Nat → Nat → Int32) (k0 : Nat) (k1 : Nat) : Option (Nat → Nat → Int32) :=
  fw_ld K (I k0 3) 23 fun a1 =>
  fw_gd (fw_ix (I k1 2) (K a1).2) <|
  fw_ld K (I a1 (I k1 2).toNatClampNeg) 3 fun a3 =>
  if (I a3 2) = 0 then
    some I
  else
    if (I k1 0) = 0 then
      fw_bv (fn_FL_reachStoreWithAdd K I k0 a3 k1) fun I19 =>
      some I19
    else
      fw_let (fw_up2 I a3 3 (1 : Int32)) fun I6 =>
      if (I6 k1 0) = (1 : Int32) then
        fw_bv (fn_FL_sendAnswer K I6 k0 k1 (5 : Int32) (I6 a3 4)) fun I17 =>
        some I17
      else
        fw_ld K (I6 a3 0) 21 fun a8 =>
        fw_gd (fw_ix (I6 k1 3) (K a8).2) <|
        if (I6 a8 (I6 k1 3).toNatClampNeg) = 0 then
          fw_bv (fn_FL_sendAnswer K I6 k0 k1 (7 : Int32) (0 : Int32)) fun I11 =>
          some I11
        else
          fw_ld K (I6 a3 1) 20 fun a13 =>
          fw_gd (fw_ix (I6 k1 3) (K a13).2) <|
          fw_bv (fn_FL_sendAnswer K I6 k0 k1 (6 : Int32) (I6 a13 (I6 k1 3).toNatClampNeg)) fun I15 =>
          some I15
def fn_FL_deliver (K : Nat → Nat × Nat) (I : Nat → Nat → Int32) (k0 : Nat) (x1 : Int32) : Option (Int32 × (Nat → Nat → Int32)) :=
  fw_ld K (I k0 4) 0 fun a1 =>
  fw_bd (fn_CH_holds K I a1 x1) fun r4 I2 =>
  if r4 = 0 then
    some ((-1 : Int32), I2)
  else
    fw_ld K (I2 k0 4) 0 fun a6 =>
    fw_bd (fn_CH_takeOut K I2 a6 x1) fun r9 I7 =>
    fw_ld K r9 1 fun a10 =>
    fw_bd (fn_MS_isToStore K I7 a10) fun r13 I11 =>
    if r13 = 0 then
      if (I11 a10 1) = 0 then
        fw_ld K (I11 k0 5) 4 fun a18 =>
        fw_bv (fn_WR_hear K I11 a18 a10 (I11 k0 2)) fun I19 =>
        some (I19 a10 0, I19)
      else
        fw_bv (fn_FL_reachRecoverer K I11 k0 a10) fun I16 =>
        some (I16 a10 0, I16)
    else
      fw_bv (fn_FL_reachStore K I11 k0 a10) fun I21 =>
      some (I21 a10 0, I21)
def fn_FL_lose (K : Nat → Nat × Nat) (I : Nat → Nat → Int32) (k0 : Nat) (x1 : Int32) : Option (Int32 × (Nat → Nat → Int32)) :=
  fw_ld K (I k0 4) 0 fun a1 =>
  fw_bd (fn_CH_holds K I a1 x1) fun r4 I2 =>
  if r4 = 0 then
    some ((0 : Int32), I2)
  else
    fw_ld K (I2 k0 4) 0 fun a6 =>
    fw_bd (fn_CH_takeOut K I2 a6 x1) fun r9 I7 =>
    fw_ld K r9 1 fun a10 =>
    some ((1 : Int32), I7)
def fn_FL_flight (K : Nat → Nat × Nat) (I : Nat → Nat → Int32) (k0 : Nat) : Option (Int32 × (Nat → Nat → Int32)) :=
  fw_ld K (I k0 4) 0 fun a1 =>
  some (I a1 2, I)
def fn_FL_message (K : Nat → Nat × Nat) (I : Nat → Nat → Int32) (k0 : Nat) (x1 : Int32) (x2 : Int32) : Option (Int32 × (Nat → Nat → Int32)) :=
  fw_ld K (I k0 4) 0 fun a1 =>
  fw_bd (fn_CH_holds K I a1 x1) fun r4 I2 =>
  if r4 = 0 then
    some ((-1 : Int32), I2)
  else
    fw_ld K (I2 k0 4) 0 fun a6 =>
    fw_ld K (I2 a6 0) 24 fun a7 =>
    fw_gd (fw_ix x1 (K a7).2) <|
    fw_ld K (I2 a7 x1.toNatClampNeg) 1 fun a9 =>
    fw_bd (fn_MS_detail K I2 a9 x2) fun r12 I10 =>
    some (r12, I10)
def fn_FL_isStore (K : Nat → Nat × Nat) (I : Nat → Nat → Int32) (k0 : Nat) (x1 : Int32) : Option (Int32 × (Nat → Nat → Int32)) :=
  if x1 < 0 then
    some ((0 : Int32), I)
  else
    if (I k0 0) ≤ x1 then
      some ((0 : Int32), I)
    else
      some ((1 : Int32), I)
def fn_FL_power (K : Nat → Nat × Nat) (I : Nat → Nat → Int32) (k0 : Nat) (x1 : Int32) (x2 : Int32) : Option (Int32 × (Nat → Nat → Int32)) :=
  fw_bd (fn_FL_isStore K I k0 x1) fun r3 I1 =>
  if r3 = 0 then
    some ((0 : Int32), I1)
  else
    fw_ld K (I1 k0 3) 23 fun a5 =>
    fw_gd (fw_ix x1 (K a5).2) <|
    fw_ld K (I1 a5 x1.toNatClampNeg) 3 fun a7 =>
    if (I1 a7 2) = x2 then
      some ((0 : Int32), I1)
    else
      fw_ld K (I1 k0 3) 23 fun a9 =>
      fw_gd (fw_ix x1 (K a9).2) <|
      fw_ld K (I1 a9 x1.toNatClampNeg) 3 fun a11 =>
      fw_gd (fw_bl x2) <|
      fw_let (fw_up2 I1 a11 2 x2) fun I13 =>
      some ((1 : Int32), I13)
def fn_FL_store (K : Nat → Nat × Nat) (I : Nat → Nat → Int32) (k0 : Nat) (x1 : Int32) (x2 : Int32) : Option (Int32 × (Nat → Nat → Int32)) :=
  fw_bd (fn_FL_isStore K I k0 x1) fun r3 I1 =>
  if r3 = 0 then
    some ((-1 : Int32), I1)
  else
    fw_ld K (I1 k0 3) 23 fun a5 =>
    fw_gd (fw_ix x1 (K a5).2) <|
    fw_ld K (I1 a5 x1.toNatClampNeg) 3 fun a7 =>
    fw_bd (fn_ST_detail K I1 a7 x2) fun r10 I8 =>
    some (r10, I8)
def fn_FL_isEntry (K : Nat → Nat × Nat) (I : Nat → Nat → Int32) (x0 : Int32) : Option (Int32 × (Nat → Nat → Int32)) :=
  if x0 < 0 then
    some ((0 : Int32), I)
  else
    if (20 : Int32) ≤ x0 then
      some ((0 : Int32), I)
    else
      some ((1 : Int32), I)
def fn_FL_has (K : Nat → Nat × Nat) (I : Nat → Nat → Int32) (k0 : Nat) (x1 : Int32) (x2 : Int32) : Option (Int32 × (Nat → Nat → Int32)) :=
  fw_bd (fn_FL_isStore K I k0 x1) fun r3 I1 =>
  if r3 = 0 then
    some ((0 : Int32), I1)
  else
    fw_bd (fn_FL_isEntry K I1 x2) fun r7 I5 =>
    if r7 = 0 then
      some ((0 : Int32), I5)
    else
      fw_ld K (I5 k0 3) 23 fun a9 =>
      fw_gd (fw_ix x1 (K a9).2) <|
      fw_ld K (I5 a9 x1.toNatClampNeg) 3 fun a11 =>
      fw_ld K (I5 a11 0) 21 fun a12 =>
      fw_gd (fw_ix x2 (K a12).2) <|
      if (I5 a12 x2.toNatClampNeg) = 0 then
        some ((0 : Int32), I5)
      else
        some ((1 : Int32), I5)
def fn_FL_ledger (K : Nat → Nat × Nat) (I : Nat → Nat → Int32) (k0 : Nat) (x1 : Int32) : Option (Int32 × (Nat → Nat → Int32)) :=
  if x1 = (0 : Int32) then
    some (I k0 7, I)
  else
    if x1 = (1 : Int32) then
      some (I k0 8, I)
    else
      if x1 = (2 : Int32) then
        if (I k0 7) = (2 : Int32) then
          some (I k0 9, I)
        else
          some ((-1 : Int32), I)
      else
        some ((-1 : Int32), I)
def fn_FL_firstUpWith_2 (K : Nat → Nat × Nat) : Nat → (Nat → Nat → Int32) → Nat → Int32 → Int32 → Option (Int32 × (Nat → Nat → Int32))
  | 0, _, _, _, _ => none
  | f + 1, I, k0, x1, x2 =>
    if (I k0 1) ≤ x2 then
      some ((-1 : Int32), I)
    else
      fw_bd (fn_FL_setMember K I k0 x1 x2) fun r4 I2 =>
      fw_ld K (I2 k0 3) 23 fun a5 =>
      fw_gd (fw_ix r4 (K a5).2) <|
      fw_ld K (I2 a5 r4.toNatClampNeg) 3 fun a7 =>
      if (I2 a7 2) = 0 then
        fn_FL_firstUpWith_2 K f I2 k0 x1 (x2 + 1)
      else
        fw_ld K (I2 k0 3) 23 fun a9 =>
        fw_gd (fw_ix r4 (K a9).2) <|
        fw_ld K (I2 a9 r4.toNatClampNeg) 3 fun a11 =>
        fw_ld K (I2 a11 0) 21 fun a12 =>
        fw_gd (fw_ix x1 (K a12).2) <|
        if (I2 a12 x1.toNatClampNeg) = 0 then
          fn_FL_firstUpWith_2 K f I2 k0 x1 (x2 + 1)
        else
          some (r4, I2)
def fn_FL_firstUpWith (K : Nat → Nat × Nat) (I : Nat → Nat → Int32) (k0 : Nat) (x1 : Int32) : Option (Int32 × (Nat → Nat → Int32)) :=
  fn_FL_firstUpWith_2 K 200 I k0 x1 (0 : Int32)
def fn_FL_read_33 (K : Nat → Nat × Nat) (I : Nat → Nat → Int32) : Option (Nat × Int32 × (Nat → Nat → Int32)) :=
  some (2, (0 : Int32), I)
def fn_FL_read (K : Nat → Nat × Nat) (I : Nat → Nat → Int32) (k0 : Nat) (x1 : Int32) : Option (Nat × Int32 × (Nat → Nat → Int32)) :=
  if (I k0 7) = (2 : Int32) then
    fw_bd (fn_FL_isEntry K I x1) fun r4 I2 =>
    if r4 = 0 then
      fn_FL_read_33 K I2
    else
      if x1 ≤ (I2 k0 9) then
        fw_bd (fn_FL_firstUpWith K I2 k0 x1) fun r9 I7 =>
        if r9 = (-1 : Int32) then
          some (3, (0 : Int32), I7)
        else
          fw_ld K (I7 k0 3) 23 fun a11 =>
          fw_gd (fw_ix r9 (K a11).2) <|
          fw_ld K (I7 a11 r9.toNatClampNeg) 3 fun a13 =>
          fw_ld K (I7 a13 1) 20 fun a14 =>
          fw_gd (fw_ix x1 (K a14).2) <|
          some (0, I7 a14 x1.toNatClampNeg, I7)
      else
        fn_FL_read_33 K I2
  else
    some (1, (0 : Int32), I)
def fnc_MD_init_203 (l0 : Nat) : Nat → (List (Nat × Nat)) → (Nat → Nat → Int32) → Nat → Int32 → Option (List (Nat × Nat) × (Nat → Nat → Int32))
  | 0, _, _, _, _ => none
  | f + 1, L, I, k0, x4 =>
    if (5 : Int32) ≤ x4 then
      fw_ld (fw_k L) (I k0 22) 20 fun a97 =>
      fw_gd (fw_ix (1 : Int32) ((fw_k L) a97).2) <|
      fw_let (fw_up2 I a97 (1 : Int32).toNatClampNeg (-1 : Int32)) fun I99 =>
      fw_ld (fw_k L) (I99 k0 22) 20 fun a100 =>
      fw_gd (fw_ix (2 : Int32) ((fw_k L) a100).2) <|
      fw_let (fw_up2 I99 a100 (2 : Int32).toNatClampNeg (-1 : Int32)) fun I102 =>
      fw_gd (decide (L.length - l0 ≤ 14 ∧ fw_ss l0 L ≤ 505)) <|
      some (L, I102)
    else
      fw_ld (fw_k L) (I k0 6) 20 fun a104 =>
      fw_gd (fw_ix x4 ((fw_k L) a104).2) <|
      fw_let (fw_up2 I a104 x4.toNatClampNeg (-1 : Int32)) fun I106 =>
      fnc_MD_init_203 l0 f L I106 k0 (x4 + 1)
def fnc_MD_init_197 (l0 : Nat) (L : List (Nat × Nat)) (I : Nat → Nat → Int32) (k0 : Nat) (s1 : Int32) : Option (List (Nat × Nat) × (Nat → Nat → Int32)) :=
  fw_let (fw_up2 I k0 3 s1) fun I95 =>
  fnc_MD_init_203 l0 200 L I95 k0 (0 : Int32)
def fnc_MD_init_168 (l0 : Nat) (L : List (Nat × Nat)) (I : Nat → Nat → Int32) (k0 : Nat) (x3 : Int32) (s1 : Int32) : Option (List (Nat × Nat) × (Nat → Nat → Int32)) :=
  fw_let (fw_up2 I k0 2 s1) fun I92 =>
  if (1 : Int32) ≤ x3 then
    if x3 ≤ (I92 k0 2) then
      fnc_MD_init_197 l0 L I92 k0 x3
    else
      fnc_MD_init_197 l0 L I92 k0 (I92 k0 2)
  else
    fnc_MD_init_197 l0 L I92 k0 (1 : Int32)
def fnc_MD_init_139 (l0 : Nat) (L : List (Nat × Nat)) (I : Nat → Nat → Int32) (k0 : Nat) (x2 : Int32) (x3 : Int32) (s1 : Int32) : Option (List (Nat × Nat) × (Nat → Nat → Int32)) :=
  fw_let (fw_up2 I k0 1 s1) fun I89 =>
  if (2 : Int32) ≤ x2 then
    if x2 ≤ (I89 k0 1) then
      fnc_MD_init_168 l0 L I89 k0 x3 x2
    else
      fnc_MD_init_168 l0 L I89 k0 x3 (I89 k0 1)
  else
    fnc_MD_init_168 l0 L I89 k0 x3 (2 : Int32)
def fnc_MD_init (l0 : Nat) (L : List (Nat × Nat)) (I : Nat → Nat → Int32) (k0 : Nat) (x1 : Int32) (x2 : Int32) (x3 : Int32) : Option (List (Nat × Nat) × (Nat → Nat → Int32)) :=
  fw_nw l0 14 505 L (21, 5) fun a1 L2 =>
  fw_let (va_up I a1 (fun _ => 0)) fun I3 =>
  fw_let (fw_up2 I3 k0 4 (Int32.ofNat a1)) fun I6 =>
  fw_nw l0 14 505 L2 (21, 5) fun a7 L8 =>
  fw_let (va_up I6 a7 (fun _ => 0)) fun I9 =>
  fw_let (fw_up2 I9 k0 5 (Int32.ofNat a7)) fun I12 =>
  fw_nw l0 14 505 L8 (20, 5) fun a13 L14 =>
  fw_let (va_up I12 a13 (fun _ => 0)) fun I15 =>
  fw_let (fw_up2 I15 k0 6 (Int32.ofNat a13)) fun I18 =>
  fw_nw l0 14 505 L14 (21, 100) fun a19 L20 =>
  fw_let (va_up I18 a19 (fun _ => 0)) fun I21 =>
  fw_let (fw_up2 I21 k0 7 (Int32.ofNat a19)) fun I24 =>
  fw_nw l0 14 505 L20 (20, 100) fun a25 L26 =>
  fw_let (va_up I24 a25 (fun _ => 0)) fun I27 =>
  fw_let (fw_up2 I27 k0 8 (Int32.ofNat a25)) fun I30 =>
  fw_let (fw_up2 I30 k0 11 (-1 : Int32)) fun I31 =>
  fw_nw l0 14 505 L26 (20, 140) fun a32 L33 =>
  fw_let (va_up I31 a32 (fun _ => 0)) fun I34 =>
  fw_let (fw_up2 I34 k0 13 (Int32.ofNat a32)) fun I37 =>
  fw_let (fw_up2 I37 k0 16 (-1 : Int32)) fun I38 =>
  fw_nw l0 14 505 L33 (20, 20) fun a39 L40 =>
  fw_let (va_up I38 a39 (fun _ => 0)) fun I41 =>
  fw_let (fw_up2 I41 k0 17 (Int32.ofNat a39)) fun I44 =>
  fw_nw l0 14 505 L40 (21, 100) fun a45 L46 =>
  fw_let (va_up I44 a45 (fun _ => 0)) fun I47 =>
  fw_let (fw_up2 I47 k0 18 (Int32.ofNat a45)) fun I50 =>
  fw_nw l0 14 505 L46 (20, 3) fun a51 L52 =>
  fw_let (va_up I50 a51 (fun _ => 0)) fun I53 =>
  fw_let (fw_up2 I53 k0 19 (Int32.ofNat a51)) fun I56 =>
  fw_nw l0 14 505 L52 (20, 3) fun a57 L58 =>
  fw_let (va_up I56 a57 (fun _ => 0)) fun I59 =>
  fw_let (fw_up2 I59 k0 20 (Int32.ofNat a57)) fun I62 =>
  fw_nw l0 14 505 L58 (20, 3) fun a63 L64 =>
  fw_let (va_up I62 a63 (fun _ => 0)) fun I65 =>
  fw_let (fw_up2 I65 k0 21 (Int32.ofNat a63)) fun I68 =>
  fw_nw l0 14 505 L64 (20, 3) fun a69 L70 =>
  fw_let (va_up I68 a69 (fun _ => 0)) fun I71 =>
  fw_let (fw_up2 I71 k0 22 (Int32.ofNat a69)) fun I74 =>
  fw_nw l0 14 505 L70 (20, 3) fun a75 L76 =>
  fw_let (va_up I74 a75 (fun _ => 0)) fun I77 =>
  fw_let (fw_up2 I77 k0 23 (Int32.ofNat a75)) fun I80 =>
  fw_nw l0 14 505 L76 (21, 15) fun a81 L82 =>
  fw_let (va_up I80 a81 (fun _ => 0)) fun I83 =>
  fw_let (fw_up2 I83 k0 24 (Int32.ofNat a81)) fun I86 =>
  if (3 : Int32) ≤ x1 then
    if x1 ≤ (5 : Int32) then
      fnc_MD_init_139 l0 L82 I86 k0 x2 x3 x1
    else
      fnc_MD_init_139 l0 L82 I86 k0 x2 x3 (5 : Int32)
  else
    fnc_MD_init_139 l0 L82 I86 k0 x2 x3 (3 : Int32)
def fn_MD_thrown (K : Nat → Nat × Nat) (I : Nat → Nat → Int32) (k0 : Nat) : Option (Int32 × (Nat → Nat → Int32)) :=
  some (I k0 0, I)
def fn_MD_send (K : Nat → Nat × Nat) (I : Nat → Nat → Int32) (k0 : Nat) (x1 : Int32) (x2 : Int32) (x3 : Int32) (x4 : Int32) (x5 : Int32) (x6 : Int32) (x7 : Int32) : Option (Nat → Nat → Int32) :=
  if (I k0 12) = (20 : Int32) then
    some I
  else
    fw_ld K (I k0 13) 20 fun a2 =>
    fw_gd (fw_ix ((7 : Int32) * (I k0 12)) (K a2).2) <|
    fw_let (fw_up2 I a2 ((7 : Int32) * (I k0 12)).toNatClampNeg x1) fun I4 =>
    fw_ld K (I4 k0 13) 20 fun a5 =>
    fw_gd (fw_ix (((7 : Int32) * (I k0 12)) + (1 : Int32)) (K a5).2) <|
    fw_let (fw_up2 I4 a5 (((7 : Int32) * (I k0 12)) + (1 : Int32)).toNatClampNeg x2) fun I7 =>
    fw_ld K (I7 k0 13) 20 fun a8 =>
    fw_gd (fw_ix (((7 : Int32) * (I k0 12)) + (2 : Int32)) (K a8).2) <|
    fw_let (fw_up2 I7 a8 (((7 : Int32) * (I k0 12)) + (2 : Int32)).toNatClampNeg x3) fun I10 =>
    fw_ld K (I10 k0 13) 20 fun a11 =>
    fw_gd (fw_ix (((7 : Int32) * (I k0 12)) + (3 : Int32)) (K a11).2) <|
    fw_let (fw_up2 I10 a11 (((7 : Int32) * (I k0 12)) + (3 : Int32)).toNatClampNeg x4) fun I13 =>
    fw_ld K (I13 k0 13) 20 fun a14 =>
    fw_gd (fw_ix (((7 : Int32) * (I k0 12)) + (4 : Int32)) (K a14).2) <|
    fw_let (fw_up2 I13 a14 (((7 : Int32) * (I k0 12)) + (4 : Int32)).toNatClampNeg x5) fun I16 =>
    fw_ld K (I16 k0 13) 20 fun a17 =>
    fw_gd (fw_ix (((7 : Int32) * (I k0 12)) + (5 : Int32)) (K a17).2) <|
    fw_let (fw_up2 I16 a17 (((7 : Int32) * (I k0 12)) + (5 : Int32)).toNatClampNeg x6) fun I19 =>
    fw_ld K (I19 k0 13) 20 fun a20 =>
    fw_gd (fw_ix (((7 : Int32) * (I k0 12)) + (6 : Int32)) (K a20).2) <|
    fw_let (fw_up2 I19 a20 (((7 : Int32) * (I k0 12)) + (6 : Int32)).toNatClampNeg x7) fun I22 =>
    fw_let (fw_up2 I22 k0 12 ((I22 k0 12) + (1 : Int32))) fun I23 =>
    some I23
def fn_MD_remove_15 (K : Nat → Nat × Nat) : Nat → (Nat → Nat → Int32) → Nat → Int32 → Option (Nat → Nat → Int32)
  | 0, _, _, _ => none
  | f + 1, I, k0, x2 =>
    if ((7 : Int32) * (I k0 12)) ≤ x2 then
      some I
    else
      fw_ld K (I k0 13) 20 fun a3 =>
      fw_ld K (I k0 13) 20 fun a4 =>
      fw_gd (fw_ix (x2 + (7 : Int32)) (K a4).2) <|
      fw_gd (fw_ix x2 (K a3).2) <|
      fw_let (fw_up2 I a3 x2.toNatClampNeg (I a4 (x2 + (7 : Int32)).toNatClampNeg)) fun I7 =>
      fn_MD_remove_15 K f I7 k0 (x2 + 1)
def fn_MD_remove (K : Nat → Nat × Nat) (I : Nat → Nat → Int32) (k0 : Nat) (x1 : Int32) : Option (Nat → Nat → Int32) :=
  fw_let (fw_up2 I k0 12 ((I k0 12) - (1 : Int32))) fun I1 =>
  fn_MD_remove_15 K 200 I1 k0 ((7 : Int32) * x1)
def fn_MD_isMessage (K : Nat → Nat × Nat) (I : Nat → Nat → Int32) (k0 : Nat) (x1 : Int32) : Option (Int32 × (Nat → Nat → Int32)) :=
  if x1 < 0 then
    some ((0 : Int32), I)
  else
    if (I k0 12) ≤ x1 then
      some ((0 : Int32), I)
    else
      some ((1 : Int32), I)
def fn_MD_answerCount_4 (K : Nat → Nat × Nat) : Nat → (Nat → Nat → Int32) → Nat → Int32 → Int32 → Int32 → Option (Int32 × (Nat → Nat → Int32))
  | 0, _, _, _, _, _ => none
  | f + 1, I, k0, x1, x2, x3 =>
    if (I k0 1) ≤ x3 then
      some (x2, I)
    else
      fw_ld K (I k0 24) 21 fun a2 =>
      fw_gd (fw_ix (((5 : Int32) * x1) + x3) (K a2).2) <|
      if (I a2 (((5 : Int32) * x1) + x3).toNatClampNeg) = 0 then
        fn_MD_answerCount_4 K f I k0 x1 (x2 + (0 : Int32)) (x3 + 1)
      else
        fn_MD_answerCount_4 K f I k0 x1 (x2 + (1 : Int32)) (x3 + 1)
def fn_MD_answerCount (K : Nat → Nat × Nat) (I : Nat → Nat → Int32) (k0 : Nat) (x1 : Int32) : Option (Int32 × (Nat → Nat → Int32)) :=
  fn_MD_answerCount_4 K 200 I k0 x1 (0 : Int32) (0 : Int32)
def fn_MD_forget_2 (K : Nat → Nat × Nat) : Nat → (Nat → Nat → Int32) → Nat → Int32 → Int32 → Option (Nat → Nat → Int32)
  | 0, _, _, _, _ => none
  | f + 1, I, k0, x1, x2 =>
    if (5 : Int32) ≤ x2 then
      some I
    else
      fw_ld K (I k0 24) 21 fun a2 =>
      fw_gd (fw_ix (((5 : Int32) * x1) + x2) (K a2).2) <|
      fw_let (fw_up2 I a2 (((5 : Int32) * x1) + x2).toNatClampNeg (0 : Int32)) fun I4 =>
      fn_MD_forget_2 K f I4 k0 x1 (x2 + 1)
def fn_MD_forget (K : Nat → Nat × Nat) (I : Nat → Nat → Int32) (k0 : Nat) (x1 : Int32) : Option (Nat → Nat → Int32) :=
  fn_MD_forget_2 K 200 I k0 x1 (0 : Int32)
def fn_MD_ask_27 (K : Nat → Nat × Nat) : Nat → (Nat → Nat → Int32) → Nat → Int32 → Int32 → Int32 → Int32 → Option (Int32 × (Nat → Nat → Int32))
  | 0, _, _, _, _, _, _ => none
  | f + 1, I, k0, x1, x2, x3, x4 =>
    if x3 ≤ x4 then
      some (x2, I)
    else
      fw_ld K (I k0 19) 20 fun a5 =>
      fw_gd (fw_ix x1 (K a5).2) <|
      if (I a5 x1.toNatClampNeg) = (1 : Int32) then
        fw_ld K (I k0 24) 21 fun a40 =>
        fw_gd (fw_ix (((5 : Int32) * x1) + x4) (K a40).2) <|
        if (I a40 (((5 : Int32) * x1) + x4).toNatClampNeg) = 0 then
          fw_ld K (I k0 19) 20 fun a43 =>
          fw_gd (fw_ix x1 (K a43).2) <|
          if (I a43 x1.toNatClampNeg) = (1 : Int32) then
            fw_ld K (I k0 20) 20 fun a65 =>
            fw_gd (fw_ix x1 (K a65).2) <|
            fw_bv (fn_MD_send K I k0 (1 : Int32) x1 x4 (0 : Int32) (0 : Int32) (I a65 x1.toNatClampNeg) (0 : Int32)) fun I67 =>
            fn_MD_ask_27 K f I67 k0 x1 (x2 + 1) x3 (x4 + 1)
          else
            fw_ld K (I k0 19) 20 fun a46 =>
            fw_gd (fw_ix x1 (K a46).2) <|
            if (I a46 x1.toNatClampNeg) = (2 : Int32) then
              fw_ld K (I k0 21) 20 fun a59 =>
              fw_gd (fw_ix x1 (K a59).2) <|
              fw_ld K (I k0 20) 20 fun a61 =>
              fw_gd (fw_ix x1 (K a61).2) <|
              fw_bv (fn_MD_send K I k0 (2 : Int32) x1 x4 (I a59 x1.toNatClampNeg) (0 : Int32) (I a61 x1.toNatClampNeg) (0 : Int32)) fun I63 =>
              fn_MD_ask_27 K f I63 k0 x1 (x2 + 1) x3 (x4 + 1)
            else
              fw_ld K (I k0 21) 20 fun a49 =>
              fw_gd (fw_ix x1 (K a49).2) <|
              fw_ld K (I k0 23) 20 fun a51 =>
              fw_gd (fw_ix x1 (K a51).2) <|
              fw_ld K (I k0 20) 20 fun a53 =>
              fw_gd (fw_ix x1 (K a53).2) <|
              fw_ld K (I k0 21) 20 fun a55 =>
              fw_gd (fw_ix x1 (K a55).2) <|
              fw_bv (fn_MD_send K I k0 (0 : Int32) x1 x4 (I a49 x1.toNatClampNeg) (I a51 x1.toNatClampNeg) (I a53 x1.toNatClampNeg) ((I a55 x1.toNatClampNeg) - (1 : Int32))) fun I57 =>
              fn_MD_ask_27 K f I57 k0 x1 (x2 + 1) x3 (x4 + 1)
        else
          fn_MD_ask_27 K f I k0 x1 x2 x3 (x4 + 1)
      else
        fw_ld K (I k0 21) 20 fun a8 =>
        fw_gd (fw_ix x1 (K a8).2) <|
        fw_gd (decide (¬ (I k0 1) = 0)) <|
        fw_ld K (I k0 24) 21 fun a11 =>
        fw_gd (fw_ix (((5 : Int32) * x1) + (((I a8 x1.toNatClampNeg) + x4) - ((I a8 x1.toNatClampNeg) + x4) / (I k0 1) * (I k0 1))) (K a11).2) <|
        if (I a11 (((5 : Int32) * x1) + (((I a8 x1.toNatClampNeg) + x4) - ((I a8 x1.toNatClampNeg) + x4) / (I k0 1) * (I k0 1))).toNatClampNeg) = 0 then
          fw_ld K (I k0 19) 20 fun a14 =>
          fw_gd (fw_ix x1 (K a14).2) <|
          if (I a14 x1.toNatClampNeg) = (1 : Int32) then
            fw_ld K (I k0 20) 20 fun a36 =>
            fw_gd (fw_ix x1 (K a36).2) <|
            fw_bv (fn_MD_send K I k0 (1 : Int32) x1 (((I a8 x1.toNatClampNeg) + x4) - ((I a8 x1.toNatClampNeg) + x4) / (I k0 1) * (I k0 1)) (0 : Int32) (0 : Int32) (I a36 x1.toNatClampNeg) (0 : Int32)) fun I38 =>
            fn_MD_ask_27 K f I38 k0 x1 (x2 + 1) x3 (x4 + 1)
          else
            fw_ld K (I k0 19) 20 fun a17 =>
            fw_gd (fw_ix x1 (K a17).2) <|
            if (I a17 x1.toNatClampNeg) = (2 : Int32) then
              fw_ld K (I k0 21) 20 fun a30 =>
              fw_gd (fw_ix x1 (K a30).2) <|
              fw_ld K (I k0 20) 20 fun a32 =>
              fw_gd (fw_ix x1 (K a32).2) <|
              fw_bv (fn_MD_send K I k0 (2 : Int32) x1 (((I a8 x1.toNatClampNeg) + x4) - ((I a8 x1.toNatClampNeg) + x4) / (I k0 1) * (I k0 1)) (I a30 x1.toNatClampNeg) (0 : Int32) (I a32 x1.toNatClampNeg) (0 : Int32)) fun I34 =>
              fn_MD_ask_27 K f I34 k0 x1 (x2 + 1) x3 (x4 + 1)
            else
              fw_ld K (I k0 21) 20 fun a20 =>
              fw_gd (fw_ix x1 (K a20).2) <|
              fw_ld K (I k0 23) 20 fun a22 =>
              fw_gd (fw_ix x1 (K a22).2) <|
              fw_ld K (I k0 20) 20 fun a24 =>
              fw_gd (fw_ix x1 (K a24).2) <|
              fw_ld K (I k0 21) 20 fun a26 =>
              fw_gd (fw_ix x1 (K a26).2) <|
              fw_bv (fn_MD_send K I k0 (0 : Int32) x1 (((I a8 x1.toNatClampNeg) + x4) - ((I a8 x1.toNatClampNeg) + x4) / (I k0 1) * (I k0 1)) (I a20 x1.toNatClampNeg) (I a22 x1.toNatClampNeg) (I a24 x1.toNatClampNeg) ((I a26 x1.toNatClampNeg) - (1 : Int32))) fun I28 =>
              fn_MD_ask_27 K f I28 k0 x1 (x2 + 1) x3 (x4 + 1)
        else
          fn_MD_ask_27 K f I k0 x1 x2 x3 (x4 + 1)
def fn_MD_ask_23 (K : Nat → Nat × Nat) (I : Nat → Nat → Int32) (k0 : Nat) (x1 : Int32) (x2 : Int32) (s0 : Int32) : Option (Int32 × (Nat → Nat → Int32)) :=
  fn_MD_ask_27 K 200 I k0 x1 x2 s0 (0 : Int32)
def fn_MD_ask (K : Nat → Nat × Nat) (I : Nat → Nat → Int32) (k0 : Nat) (x1 : Int32) : Option (Int32 × (Nat → Nat → Int32)) :=
  fw_ld K (I k0 19) 20 fun a1 =>
  fw_gd (fw_ix x1 (K a1).2) <|
  if (I a1 x1.toNatClampNeg) = (1 : Int32) then
    fn_MD_ask_23 K I k0 x1 (0 : Int32) (I k0 1)
  else
    fn_MD_ask_23 K I k0 x1 (0 : Int32) (I k0 2)
def fn_MD_finish_41 (K : Nat → Nat × Nat) (I : Nat → Nat → Int32) (k0 : Nat) (x1 : Int32) : Option (Nat → Nat → Int32) :=
  fw_ld K (I k0 19) 20 fun a2 =>
  if (I k0 9) = (2 : Int32) then
    fw_gd (fw_ix x1 (K a2).2) <|
    fw_let (fw_up2 I a2 x1.toNatClampNeg (4 : Int32)) fun I7 =>
    some I7
  else
    fw_gd (fw_ix x1 (K a2).2) <|
    fw_let (fw_up2 I a2 x1.toNatClampNeg (0 : Int32)) fun I5 =>
    some I5
def fn_MD_finish (K : Nat → Nat × Nat) (I : Nat → Nat → Int32) (k0 : Nat) (x1 : Int32) (x2 : Int32) : Option (Nat → Nat → Int32) :=
  if (I k0 9) = (1 : Int32) then
    fw_ld K (I k0 20) 20 fun a8 =>
    fw_gd (fw_ix x1 (K a8).2) <|
    if (I k0 10) = (I a8 x1.toNatClampNeg) then
      fw_let (fw_up2 I k0 9 (2 : Int32)) fun I11 =>
      fw_let (fw_up2 I11 k0 11 x2) fun I12 =>
      fw_let (fw_up2 I12 k0 10 ((I12 k0 10) + (1 : Int32))) fun I13 =>
      fn_MD_finish_41 K I13 k0 x1
    else
      fn_MD_finish_41 K I k0 x1
  else
    fn_MD_finish_41 K I k0 x1
def fn_MD_readOn (K : Nat → Nat × Nat) (I : Nat → Nat → Int32) (k0 : Nat) (x1 : Int32) (x2 : Int32) : Option (Nat → Nat → Int32) :=
  if x2 = (20 : Int32) then
    fw_bv (fn_MD_finish K I k0 x1 (x2 - (1 : Int32))) fun I13 =>
    some I13
  else
    fw_ld K (I k0 21) 20 fun a2 =>
    fw_gd (fw_ix x1 (K a2).2) <|
    fw_let (fw_up2 I a2 x1.toNatClampNeg x2) fun I4 =>
    fw_bv (fn_MD_forget K I4 k0 x1) fun I5 =>
    fw_ld K (I5 k0 19) 20 fun a7 =>
    fw_gd (fw_ix x1 (K a7).2) <|
    fw_let (fw_up2 I5 a7 x1.toNatClampNeg (2 : Int32)) fun I9 =>
    fw_bd (fn_MD_ask K I9 k0 x1) fun r12 I10 =>
    some I10
def fn_MD_covers_18 (K : Nat → Nat × Nat) (kt : (Nat → Nat → Int32) → Nat → Int32 → Int32 → Int32 → Option (Int32 × (Nat → Nat → Int32))) : Nat → (Nat → Nat → Int32) → Nat → Int32 → Int32 → Int32 → Int32 → Int32 → Option (Int32 × (Nat → Nat → Int32))
  | 0, _, _, _, _, _, _, _ => none
  | f + 1, I, k0, x1, x2, x3, x4, x5 =>
    if (I k0 2) ≤ x5 then
      if x2 = 0 then
        kt I k0 x1 (0 : Int32) (x3 + 1)
      else
        if (I k0 3) ≤ x4 then
          kt I k0 x1 (0 : Int32) (x3 + 1)
        else
          kt I k0 x1 (1 : Int32) (x3 + 1)
    else
      fw_ld K (I k0 24) 21 fun a6 =>
      fw_gd (decide (¬ (I k0 1) = 0)) <|
      fw_gd (fw_ix (((5 : Int32) * x1) + ((x3 + x5) - (x3 + x5) / (I k0 1) * (I k0 1))) (K a6).2) <|
      if (I a6 (((5 : Int32) * x1) + ((x3 + x5) - (x3 + x5) / (I k0 1) * (I k0 1))).toNatClampNeg) = 0 then
        fn_MD_covers_18 K kt f I k0 x1 x2 x3 (x4 + (1 : Int32)) (x5 + 1)
      else
        fn_MD_covers_18 K kt f I k0 x1 x2 x3 (x4 + (0 : Int32)) (x5 + 1)
def fn_MD_covers_4 (K : Nat → Nat × Nat) : Nat → (Nat → Nat → Int32) → Nat → Int32 → Int32 → Int32 → Option (Int32 × (Nat → Nat → Int32))
  | 0, _, _, _, _, _ => none
  | f + 1, I, k0, x1, x2, x3 =>
    if (I k0 1) ≤ x3 then
      fw_gd (fw_bl x2) <|
      some (x2, I)
    else
      fn_MD_covers_18 K (fn_MD_covers_4 K f) 200 I k0 x1 x2 x3 (0 : Int32) (0 : Int32)
def fn_MD_covers (K : Nat → Nat × Nat) (I : Nat → Nat → Int32) (k0 : Nat) (x1 : Int32) : Option (Int32 × (Nat → Nat → Int32)) :=
  fn_MD_covers_4 K 200 I k0 x1 (1 : Int32) (0 : Int32)
def fn_MD_learns_209 (K : Nat → Nat × Nat) (I : Nat → Nat → Int32) (k0 : Nat) (x1 : Int32) (x2 : Int32) (x4 : Int32) (x6 : Int32) : Option (Nat → Nat → Int32) :=
  if x1 = (3 : Int32) then
    fw_ld K (I k0 19) 20 fun a5 =>
    fw_gd (fw_ix x2 (K a5).2) <|
    if (I a5 x2.toNatClampNeg) = (3 : Int32) then
      fw_ld K (I k0 21) 20 fun a8 =>
      fw_gd (fw_ix x2 (K a8).2) <|
      if x4 = (I a8 x2.toNatClampNeg) then
        fw_ld K (I k0 24) 21 fun a11 =>
        fw_gd (fw_ix x6 (K a11).2) <|
        fw_let (fw_up2 I a11 x6.toNatClampNeg (1 : Int32)) fun I13 =>
        fw_bd (fn_MD_answerCount K I13 k0 x2) fun r16 I14 =>
        if r16 < (I14 k0 3) then
          some I14
        else
          fw_bv (fn_MD_readOn K I14 k0 x2 (x4 + (1 : Int32))) fun I18 =>
          some I18
      else
        some I
    else
      some I
  else
    some I
def fn_MD_learns_139 (K : Nat → Nat × Nat) (I : Nat → Nat → Int32) (k0 : Nat) (x1 : Int32) (x2 : Int32) (x4 : Int32) (x6 : Int32) : Option (Nat → Nat → Int32) :=
  if x1 = (7 : Int32) then
    fw_ld K (I k0 19) 20 fun a20 =>
    fw_gd (fw_ix x2 (K a20).2) <|
    if (I a20 x2.toNatClampNeg) = (2 : Int32) then
      fw_ld K (I k0 21) 20 fun a23 =>
      fw_gd (fw_ix x2 (K a23).2) <|
      if x4 = (I a23 x2.toNatClampNeg) then
        fw_ld K (I k0 24) 21 fun a26 =>
        fw_gd (fw_ix x6 (K a26).2) <|
        fw_let (fw_up2 I a26 x6.toNatClampNeg (1 : Int32)) fun I28 =>
        fw_bd (fn_MD_answerCount K I28 k0 x2) fun r31 I29 =>
        if r31 < (((I29 k0 2) - (I29 k0 3)) + (1 : Int32)) then
          some I29
        else
          fw_ld K (I29 k0 21) 20 fun a33 =>
          fw_gd (fw_ix x2 (K a33).2) <|
          fw_bv (fn_MD_finish K I29 k0 x2 ((I29 a33 x2.toNatClampNeg) - (1 : Int32))) fun I35 =>
          some I35
      else
        fn_MD_learns_209 K I k0 x1 x2 x4 x6
    else
      fn_MD_learns_209 K I k0 x1 x2 x4 x6
  else
    fn_MD_learns_209 K I k0 x1 x2 x4 x6
def fn_MD_learns_82 (K : Nat → Nat × Nat) (I : Nat → Nat → Int32) (k0 : Nat) (x1 : Int32) (x2 : Int32) (x4 : Int32) (x5 : Int32) (x6 : Int32) : Option (Nat → Nat → Int32) :=
  if x1 = (6 : Int32) then
    fw_ld K (I k0 19) 20 fun a37 =>
    fw_gd (fw_ix x2 (K a37).2) <|
    if (I a37 x2.toNatClampNeg) = (2 : Int32) then
      fw_ld K (I k0 21) 20 fun a40 =>
      fw_gd (fw_ix x2 (K a40).2) <|
      if x4 = (I a40 x2.toNatClampNeg) then
        fw_ld K (I k0 19) 20 fun a43 =>
        fw_gd (fw_ix x2 (K a43).2) <|
        fw_let (fw_up2 I a43 x2.toNatClampNeg (3 : Int32)) fun I45 =>
        fw_ld K (I45 k0 23) 20 fun a46 =>
        fw_gd (fw_ix x2 (K a46).2) <|
        fw_let (fw_up2 I45 a46 x2.toNatClampNeg x5) fun I48 =>
        fw_bv (fn_MD_forget K I48 k0 x2) fun I49 =>
        fw_bd (fn_MD_ask K I49 k0 x2) fun r53 I51 =>
        some I51
      else
        fn_MD_learns_139 K I k0 x1 x2 x4 x6
    else
      fn_MD_learns_139 K I k0 x1 x2 x4 x6
  else
    fn_MD_learns_139 K I k0 x1 x2 x4 x6
def fn_MD_learns (K : Nat → Nat × Nat) (I : Nat → Nat → Int32) (k0 : Nat) (x1 : Int32) (x2 : Int32) (x3 : Int32) (x4 : Int32) (x5 : Int32) : Option (Nat → Nat → Int32) :=
  if x1 = (5 : Int32) then
    fw_ld K (I k0 19) 20 fun a54 =>
    fw_gd (fw_ix x2 (K a54).2) <|
    if (I a54 x2.toNatClampNeg) = (1 : Int32) then
      fw_ld K (I k0 24) 21 fun a57 =>
      fw_gd (fw_ix (((5 : Int32) * x2) + x3) (K a57).2) <|
      fw_let (fw_up2 I a57 (((5 : Int32) * x2) + x3).toNatClampNeg (1 : Int32)) fun I59 =>
      fw_ld K (I59 k0 22) 20 fun a60 =>
      fw_ld K (I59 k0 22) 20 fun a61 =>
      fw_gd (fw_ix x2 (K a61).2) <|
      if x5 ≤ (I59 a61 x2.toNatClampNeg) then
        fw_ld K (I59 k0 22) 20 fun a64 =>
        fw_gd (fw_ix x2 (K a64).2) <|
        fw_gd (fw_ix x2 (K a60).2) <|
        fw_let (fw_up2 I59 a60 x2.toNatClampNeg (I59 a64 x2.toNatClampNeg)) fun I67 =>
        fw_bd (fn_MD_covers K I67 k0 x2) fun r70 I68 =>
        if r70 = 0 then
          some I68
        else
          fw_ld K (I68 k0 22) 20 fun a72 =>
          fw_gd (fw_ix x2 (K a72).2) <|
          fw_bv (fn_MD_readOn K I68 k0 x2 ((I68 a72 x2.toNatClampNeg) + (1 : Int32))) fun I74 =>
          some I74
      else
        fw_gd (fw_ix x2 (K a60).2) <|
        fw_let (fw_up2 I59 a60 x2.toNatClampNeg x5) fun I77 =>
        fw_bd (fn_MD_covers K I77 k0 x2) fun r80 I78 =>
        if r80 = 0 then
          some I78
        else
          fw_ld K (I78 k0 22) 20 fun a82 =>
          fw_gd (fw_ix x2 (K a82).2) <|
          fw_bv (fn_MD_readOn K I78 k0 x2 ((I78 a82 x2.toNatClampNeg) + (1 : Int32))) fun I84 =>
          some I84
    else
      fn_MD_learns_82 K I k0 x1 x2 x4 x5 (((5 : Int32) * x2) + x3)
  else
    fn_MD_learns_82 K I k0 x1 x2 x4 x5 (((5 : Int32) * x2) + x3)
def fn_MD_ackCount_4 (K : Nat → Nat × Nat) : Nat → (Nat → Nat → Int32) → Nat → Int32 → Int32 → Int32 → Option (Int32 × (Nat → Nat → Int32))
  | 0, _, _, _, _, _ => none
  | f + 1, I, k0, x1, x2, x3 =>
    if (I k0 1) ≤ x3 then
      some (x2, I)
    else
      fw_ld K (I k0 18) 21 fun a2 =>
      fw_gd (fw_ix (((20 : Int32) * x3) + x1) (K a2).2) <|
      if (I a2 (((20 : Int32) * x3) + x1).toNatClampNeg) = 0 then
        fn_MD_ackCount_4 K f I k0 x1 (x2 + (0 : Int32)) (x3 + 1)
      else
        fn_MD_ackCount_4 K f I k0 x1 (x2 + (1 : Int32)) (x3 + 1)
def fn_MD_ackCount (K : Nat → Nat × Nat) (I : Nat → Nat → Int32) (k0 : Nat) (x1 : Int32) : Option (Int32 × (Nat → Nat → Int32)) :=
  fn_MD_ackCount_4 K 200 I k0 x1 (0 : Int32) (0 : Int32)
def fn_MD_hears_42 (K : Nat → Nat × Nat) : Nat → (Nat → Nat → Int32) → Nat → Int32 → Int32 → Option (Nat → Nat → Int32)
  | 0, _, _, _, _ => none
  | f + 1, I, k0, x4, x5 =>
    if (20 : Int32) ≤ x5 then
      some I
    else
      if x4 = 0 then
        some I
      else
        if (I k0 15) ≤ ((I k0 16) + (1 : Int32)) then
          fw_let (fw_up2 I k0 16 ((I k0 16) + (0 : Int32))) fun I10 =>
          fn_MD_hears_42 K f I10 k0 (0 : Int32) (x5 + 1)
        else
          if (I k0 15) ≤ ((I k0 16) + (1 : Int32)) then
            fw_bd (fn_MD_ackCount K I k0 (0 : Int32)) fun r14 I12 =>
            if r14 < (I12 k0 3) then
              fw_let (fw_up2 I12 k0 16 ((I12 k0 16) + (0 : Int32))) fun I16 =>
              fn_MD_hears_42 K f I16 k0 (0 : Int32) (x5 + 1)
            else
              fw_let (fw_up2 I12 k0 16 ((I12 k0 16) + (1 : Int32))) fun I17 =>
              fn_MD_hears_42 K f I17 k0 (1 : Int32) (x5 + 1)
          else
            fw_bd (fn_MD_ackCount K I k0 ((I k0 16) + (1 : Int32))) fun r20 I18 =>
            if r20 < (I18 k0 3) then
              fw_let (fw_up2 I18 k0 16 ((I18 k0 16) + (0 : Int32))) fun I22 =>
              fn_MD_hears_42 K f I22 k0 (0 : Int32) (x5 + 1)
            else
              fw_let (fw_up2 I18 k0 16 ((I18 k0 16) + (1 : Int32))) fun I23 =>
              fn_MD_hears_42 K f I23 k0 (1 : Int32) (x5 + 1)
def fn_MD_hears_18 (K : Nat → Nat × Nat) (I : Nat → Nat → Int32) (k0 : Nat) (x1 : Int32) (x2 : Int32) (x3 : Int32) : Option (Nat → Nat → Int32) :=
  if x1 = (3 : Int32) then
    fw_ld K (I k0 18) 21 fun a4 =>
    fw_gd (fw_ix (((20 : Int32) * x2) + x3) (K a4).2) <|
    fw_let (fw_up2 I a4 (((20 : Int32) * x2) + x3).toNatClampNeg (1 : Int32)) fun I6 =>
    fn_MD_hears_42 K 200 I6 k0 (1 : Int32) (0 : Int32)
  else
    some I
def fn_MD_hears (K : Nat → Nat × Nat) (I : Nat → Nat → Int32) (k0 : Nat) (x1 : Int32) (x2 : Int32) (x3 : Int32) : Option (Nat → Nat → Int32) :=
  if (I k0 14) = 0 then
    if x1 = (4 : Int32) then
      fw_let (fw_up2 I k0 14 (1 : Int32)) fun I24 =>
      fn_MD_hears_18 K I24 k0 x1 x2 x3
    else
      fn_MD_hears_18 K I k0 x1 x2 x3
  else
    some I
def fn_MD_fence (K : Nat → Nat × Nat) (I : Nat → Nat → Int32) (k0 : Nat) (x1 : Int32) (x2 : Int32) (x3 : Int32) (x4 : Int32) (x5 : Int32) : Option (Nat → Nat → Int32) :=
  fw_ld K (I k0 5) 21 fun a1 =>
  fw_gd (fw_ix x3 (K a1).2) <|
  fw_let (fw_up2 I a1 x3.toNatClampNeg (1 : Int32)) fun I3 =>
  if x1 = (1 : Int32) then
    fw_ld K (I3 k0 6) 20 fun a14 =>
    fw_gd (fw_ix x3 (K a14).2) <|
    fw_bv (fn_MD_send K I3 k0 (5 : Int32) x2 x3 (0 : Int32) (I3 a14 x3.toNatClampNeg) x5 (0 : Int32)) fun I16 =>
    some I16
  else
    fw_ld K (I3 k0 7) 21 fun a5 =>
    fw_gd (fw_ix (((20 : Int32) * x3) + x4) (K a5).2) <|
    if (I3 a5 (((20 : Int32) * x3) + x4).toNatClampNeg) = 0 then
      fw_bv (fn_MD_send K I3 k0 (7 : Int32) x2 x3 x4 (0 : Int32) x5 (0 : Int32)) fun I8 =>
      some I8
    else
      fw_ld K (I3 k0 8) 20 fun a10 =>
      fw_gd (fw_ix (((20 : Int32) * x3) + x4) (K a10).2) <|
      fw_bv (fn_MD_send K I3 k0 (6 : Int32) x2 x3 x4 (I3 a10 (((20 : Int32) * x3) + x4).toNatClampNeg) x5 (0 : Int32)) fun I12 =>
      some I12
def fn_MD_keep_25 (K : Nat → Nat × Nat) (I : Nat → Nat → Int32) (k0 : Nat) (x1 : Int32) (x2 : Int32) (x3 : Int32) (x4 : Int32) (x5 : Int32) (x6 : Int32) : Option (Nat → Nat → Int32) :=
  fw_ld K (I k0 7) 21 fun a2 =>
  fw_gd (fw_ix (((20 : Int32) * x2) + x3) (K a2).2) <|
  fw_let (fw_up2 I a2 (((20 : Int32) * x2) + x3).toNatClampNeg (1 : Int32)) fun I4 =>
  fw_ld K (I4 k0 8) 20 fun a5 =>
  fw_gd (fw_ix (((20 : Int32) * x2) + x3) (K a5).2) <|
  fw_let (fw_up2 I4 a5 (((20 : Int32) * x2) + x3).toNatClampNeg x4) fun I7 =>
  fw_ld K (I7 k0 6) 20 fun a8 =>
  fw_ld K (I7 k0 6) 20 fun a9 =>
  fw_gd (fw_ix x2 (K a9).2) <|
  if x6 ≤ (I7 a9 x2.toNatClampNeg) then
    fw_ld K (I7 k0 6) 20 fun a12 =>
    fw_gd (fw_ix x2 (K a12).2) <|
    fw_gd (fw_ix x2 (K a8).2) <|
    fw_let (fw_up2 I7 a8 x2.toNatClampNeg (I7 a12 x2.toNatClampNeg)) fun I15 =>
    fw_bv (fn_MD_send K I15 k0 (3 : Int32) x1 x2 x3 (0 : Int32) x5 (0 : Int32)) fun I16 =>
    some I16
  else
    fw_gd (fw_ix x2 (K a8).2) <|
    fw_let (fw_up2 I7 a8 x2.toNatClampNeg x6) fun I19 =>
    fw_bv (fn_MD_send K I19 k0 (3 : Int32) x1 x2 x3 (0 : Int32) x5 (0 : Int32)) fun I20 =>
    some I20
def fn_MD_keep (K : Nat → Nat × Nat) (I : Nat → Nat → Int32) (k0 : Nat) (x1 : Int32) (x2 : Int32) (x3 : Int32) (x4 : Int32) (x5 : Int32) (x6 : Int32) : Option (Nat → Nat → Int32) :=
  if x1 = 0 then
    fw_ld K (I k0 5) 21 fun a22 =>
    fw_gd (fw_ix x2 (K a22).2) <|
    if (I a22 x2.toNatClampNeg) = 0 then
      fn_MD_keep_25 K I k0 x1 x2 x3 x4 x5 x6
    else
      fw_bv (fn_MD_send K I k0 (4 : Int32) x1 x2 x3 (0 : Int32) (0 : Int32) (0 : Int32)) fun I25 =>
      some I25
  else
    fn_MD_keep_25 K I k0 x1 x2 x3 x4 x5 x6
def fn_MD_deliver_179 (K : Nat → Nat × Nat) (I : Nat → Nat → Int32) (k0 : Nat) (x3 : Int32) (x4 : Int32) (x5 : Int32) (x6 : Int32) (x7 : Int32) (x8 : Int32) : Option (Int32 × (Nat → Nat → Int32)) :=
  if x3 < (3 : Int32) then
    some (x3, I)
  else
    fw_ld K (I k0 20) 20 fun a26 =>
    fw_gd (fw_ix x4 (K a26).2) <|
    if x8 = (I a26 x4.toNatClampNeg) then
      fw_bv (fn_MD_learns K I k0 x3 x4 x5 x6 x7) fun I29 =>
      some (x3, I29)
    else
      some (x3, I)
def fn_MD_deliver_157 (K : Nat → Nat × Nat) (I : Nat → Nat → Int32) (k0 : Nat) (x3 : Int32) (x4 : Int32) (x5 : Int32) (x6 : Int32) (x7 : Int32) (x8 : Int32) : Option (Int32 × (Nat → Nat → Int32)) :=
  if x3 < (3 : Int32) then
    fn_MD_deliver_179 K I k0 x3 x4 x5 x6 x7 x8
  else
    if x4 = 0 then
      fw_bv (fn_MD_hears K I k0 x3 x5 x6) fun I32 =>
      some (x3, I32)
    else
      fn_MD_deliver_179 K I k0 x3 x4 x5 x6 x7 x8
def fn_MD_deliver_126 (K : Nat → Nat × Nat) (I : Nat → Nat → Int32) (k0 : Nat) (x3 : Int32) (x4 : Int32) (x5 : Int32) (x6 : Int32) (x7 : Int32) (x8 : Int32) : Option (Int32 × (Nat → Nat → Int32)) :=
  if (3 : Int32) ≤ x3 then
    fn_MD_deliver_157 K I k0 x3 x4 x5 x6 x7 x8
  else
    fw_ld K (I k0 4) 21 fun a34 =>
    fw_gd (fw_ix x5 (K a34).2) <|
    if (I a34 x5.toNatClampNeg) = 0 then
      fw_bv (fn_MD_fence K I k0 x3 x4 x5 x6 x8) fun I37 =>
      some (x3, I37)
    else
      fn_MD_deliver_157 K I k0 x3 x4 x5 x6 x7 x8
def fn_MD_deliver (K : Nat → Nat × Nat) (I : Nat → Nat → Int32) (k0 : Nat) (x1 : Int32) : Option (Int32 × (Nat → Nat → Int32)) :=
  fw_let (fw_up2 I k0 0 (0 : Int32)) fun I1 =>
  fw_bd (fn_MD_isMessage K I1 k0 x1) fun r4 I2 =>
  if r4 = 0 then
    some ((-1 : Int32), I2)
  else
    fw_ld K (I2 k0 13) 20 fun a6 =>
    fw_gd (fw_ix ((7 : Int32) * x1) (K a6).2) <|
    fw_ld K (I2 k0 13) 20 fun a8 =>
    fw_gd (fw_ix (((7 : Int32) * x1) + (1 : Int32)) (K a8).2) <|
    fw_ld K (I2 k0 13) 20 fun a10 =>
    fw_gd (fw_ix (((7 : Int32) * x1) + (2 : Int32)) (K a10).2) <|
    fw_ld K (I2 k0 13) 20 fun a12 =>
    fw_gd (fw_ix (((7 : Int32) * x1) + (3 : Int32)) (K a12).2) <|
    fw_ld K (I2 k0 13) 20 fun a14 =>
    fw_gd (fw_ix (((7 : Int32) * x1) + (4 : Int32)) (K a14).2) <|
    fw_ld K (I2 k0 13) 20 fun a16 =>
    fw_gd (fw_ix (((7 : Int32) * x1) + (5 : Int32)) (K a16).2) <|
    fw_ld K (I2 k0 13) 20 fun a18 =>
    fw_gd (fw_ix (((7 : Int32) * x1) + (6 : Int32)) (K a18).2) <|
    fw_bv (fn_MD_remove K I2 k0 x1) fun I20 =>
    if (I2 a6 ((7 : Int32) * x1).toNatClampNeg) = 0 then
      fw_ld K (I20 k0 4) 21 fun a39 =>
      fw_gd (fw_ix (I2 a10 (((7 : Int32) * x1) + (2 : Int32)).toNatClampNeg) (K a39).2) <|
      if (I20 a39 (I2 a10 (((7 : Int32) * x1) + (2 : Int32)).toNatClampNeg).toNatClampNeg) = 0 then
        fw_bv (fn_MD_keep K I20 k0 (I2 a8 (((7 : Int32) * x1) + (1 : Int32)).toNatClampNeg) (I2 a10 (((7 : Int32) * x1) + (2 : Int32)).toNatClampNeg) (I2 a12 (((7 : Int32) * x1) + (3 : Int32)).toNatClampNeg) (I2 a14 (((7 : Int32) * x1) + (4 : Int32)).toNatClampNeg) (I2 a16 (((7 : Int32) * x1) + (5 : Int32)).toNatClampNeg) (I2 a18 (((7 : Int32) * x1) + (6 : Int32)).toNatClampNeg)) fun I42 =>
        some (I2 a6 ((7 : Int32) * x1).toNatClampNeg, I42)
      else
        fn_MD_deliver_126 K I20 k0 (I2 a6 ((7 : Int32) * x1).toNatClampNeg) (I2 a8 (((7 : Int32) * x1) + (1 : Int32)).toNatClampNeg) (I2 a10 (((7 : Int32) * x1) + (2 : Int32)).toNatClampNeg) (I2 a12 (((7 : Int32) * x1) + (3 : Int32)).toNatClampNeg) (I2 a14 (((7 : Int32) * x1) + (4 : Int32)).toNatClampNeg) (I2 a16 (((7 : Int32) * x1) + (5 : Int32)).toNatClampNeg)
    else
      fn_MD_deliver_126 K I20 k0 (I2 a6 ((7 : Int32) * x1).toNatClampNeg) (I2 a8 (((7 : Int32) * x1) + (1 : Int32)).toNatClampNeg) (I2 a10 (((7 : Int32) * x1) + (2 : Int32)).toNatClampNeg) (I2 a12 (((7 : Int32) * x1) + (3 : Int32)).toNatClampNeg) (I2 a14 (((7 : Int32) * x1) + (4 : Int32)).toNatClampNeg) (I2 a16 (((7 : Int32) * x1) + (5 : Int32)).toNatClampNeg)
def fn_MD_lose (K : Nat → Nat × Nat) (I : Nat → Nat → Int32) (k0 : Nat) (x1 : Int32) : Option (Int32 × (Nat → Nat → Int32)) :=
  fw_let (fw_up2 I k0 0 (0 : Int32)) fun I1 =>
  fw_bd (fn_MD_isMessage K I1 k0 x1) fun r4 I2 =>
  if r4 = 0 then
    some ((0 : Int32), I2)
  else
    fw_bv (fn_MD_remove K I2 k0 x1) fun I6 =>
    some ((1 : Int32), I6)
def fn_MD_flight (K : Nat → Nat × Nat) (I : Nat → Nat → Int32) (k0 : Nat) : Option (Int32 × (Nat → Nat → Int32)) :=
  fw_let (fw_up2 I k0 0 (0 : Int32)) fun I1 =>
  some (I1 k0 12, I1)
def fn_MD_message (K : Nat → Nat × Nat) (I : Nat → Nat → Int32) (k0 : Nat) (x1 : Int32) (x2 : Int32) : Option (Int32 × (Nat → Nat → Int32)) :=
  fw_let (fw_up2 I k0 0 (0 : Int32)) fun I1 =>
  fw_bd (fn_MD_isMessage K I1 k0 x1) fun r4 I2 =>
  if r4 = 0 then
    some ((-1 : Int32), I2)
  else
    if x2 < 0 then
      some ((-1 : Int32), I2)
    else
      if (7 : Int32) ≤ x2 then
        some ((-1 : Int32), I2)
      else
        fw_ld K (I2 k0 13) 20 fun a8 =>
        fw_gd (fw_ix (((7 : Int32) * x1) + x2) (K a8).2) <|
        some (I2 a8 (((7 : Int32) * x1) + x2).toNatClampNeg, I2)
def fn_MD_spread_4 (K : Nat → Nat × Nat) : Nat → (Nat → Nat → Int32) → Nat → Int32 → Int32 → Int32 → Option (Int32 × (Nat → Nat → Int32))
  | 0, _, _, _, _, _ => none
  | f + 1, I, k0, x1, x2, x3 =>
    if (I k0 2) ≤ x3 then
      some (x2, I)
    else
      fw_gd (decide (¬ (I k0 1) = 0)) <|
      fw_ld K (I k0 18) 21 fun a3 =>
      fw_gd (fw_ix (((20 : Int32) * ((x1 + x3) - (x1 + x3) / (I k0 1) * (I k0 1))) + x1) (K a3).2) <|
      if (I a3 (((20 : Int32) * ((x1 + x3) - (x1 + x3) / (I k0 1) * (I k0 1))) + x1).toNatClampNeg) = 0 then
        fw_ld K (I k0 17) 20 fun a6 =>
        fw_gd (fw_ix x1 (K a6).2) <|
        fw_bv (fn_MD_send K I k0 (0 : Int32) (0 : Int32) ((x1 + x3) - (x1 + x3) / (I k0 1) * (I k0 1)) x1 (I a6 x1.toNatClampNeg) (0 : Int32) (I k0 16)) fun I8 =>
        fn_MD_spread_4 K f I8 k0 x1 (x2 + 1) (x3 + 1)
      else
        fn_MD_spread_4 K f I k0 x1 x2 (x3 + 1)
def fn_MD_spread (K : Nat → Nat × Nat) (I : Nat → Nat → Int32) (k0 : Nat) (x1 : Int32) : Option (Int32 × (Nat → Nat → Int32)) :=
  fn_MD_spread_4 K 200 I k0 x1 (0 : Int32) (0 : Int32)
def fn_MD_add_41 (K : Nat → Nat × Nat) (I : Nat → Nat → Int32) (k0 : Nat) (x1 : Int32) (s1 : Int32) : Option (Int32 × (Nat → Nat → Int32)) :=
  fw_let (fw_up2 I k0 0 s1) fun I3 =>
  if (I3 k0 0) ≤ 0 then
    fw_ld K (I3 k0 17) 20 fun a5 =>
    fw_gd (fw_ix (I3 k0 15) (K a5).2) <|
    fw_let (fw_up2 I3 a5 (I3 k0 15).toNatClampNeg x1) fun I7 =>
    fw_let (fw_up2 I7 k0 15 ((I7 k0 15) + (1 : Int32))) fun I8 =>
    fw_bd (fn_MD_spread K I8 k0 (I3 k0 15)) fun r11 I9 =>
    some (I3 k0 15, I9)
  else
    some ((0 : Int32), I3)
def fn_MD_add_36 (K : Nat → Nat × Nat) (I : Nat → Nat → Int32) (k0 : Nat) (x1 : Int32) : Option (Int32 × (Nat → Nat → Int32)) :=
  fn_MD_add_41 K I k0 x1 (2 : Int32)
def fn_MD_add (K : Nat → Nat × Nat) (I : Nat → Nat → Int32) (k0 : Nat) (x1 : Int32) : Option (Int32 × (Nat → Nat → Int32)) :=
  if (I k0 14) = 0 then
    if (I k0 15) = (20 : Int32) then
      fn_MD_add_36 K I k0 x1
    else
      if (((I k0 15) - (1 : Int32)) - (I k0 16)) < (4 : Int32) then
        fn_MD_add_41 K I k0 x1 (0 : Int32)
      else
        fn_MD_add_36 K I k0 x1
  else
    fn_MD_add_41 K I k0 x1 (1 : Int32)
def fn_MD_resend (K : Nat → Nat × Nat) (I : Nat → Nat → Int32) (k0 : Nat) (x1 : Int32) : Option (Int32 × (Nat → Nat → Int32)) :=
  fw_let (fw_up2 I k0 0 (0 : Int32)) fun I1 =>
  if (I1 k0 14) = 0 then
    if x1 < 0 then
      some ((-1 : Int32), I1)
    else
      if x1 < (I1 k0 15) then
        if (I1 k0 16) < x1 then
          fw_bd (fn_MD_spread K I1 k0 x1) fun r8 I6 =>
          some (r8, I6)
        else
          fw_bd (fn_MD_ackCount K I1 k0 x1) fun r11 I9 =>
          if r11 = (I9 k0 2) then
            some ((-1 : Int32), I9)
          else
            fw_bd (fn_MD_spread K I9 k0 x1) fun r15 I13 =>
            some (r15, I13)
      else
        some ((-1 : Int32), I1)
  else
    some ((-1 : Int32), I1)
def fn_MD_close (K : Nat → Nat × Nat) (I : Nat → Nat → Int32) (k0 : Nat) : Option (Int32 × (Nat → Nat → Int32)) :=
  fw_let (fw_up2 I k0 0 (0 : Int32)) fun I1 =>
  if (I1 k0 14) = 0 then
    if (I1 k0 9) = 0 then
      fw_let (fw_up2 I1 k0 9 (2 : Int32)) fun I4 =>
      fw_let (fw_up2 I4 k0 11 (I4 k0 16)) fun I5 =>
      fw_let (fw_up2 I5 k0 10 ((I5 k0 10) + (1 : Int32))) fun I6 =>
      fw_let (fw_up2 I6 k0 14 (2 : Int32)) fun I7 =>
      some ((1 : Int32), I7)
    else
      some ((0 : Int32), I1)
  else
    some ((0 : Int32), I1)
def fn_MD_leave_18 (K : Nat → Nat × Nat) (I : Nat → Nat → Int32) (k0 : Nat) (s0 : Int32) : Option (Int32 × (Nat → Nat → Int32)) :=
  fw_let (fw_up2 I k0 14 (3 : Int32)) fun I3 =>
  if s0 = 0 then
    some ((1 : Int32), I3)
  else
    some ((0 : Int32), I3)
def fn_MD_leave (K : Nat → Nat × Nat) (I : Nat → Nat → Int32) (k0 : Nat) : Option (Int32 × (Nat → Nat → Int32)) :=
  fw_let (fw_up2 I k0 0 (0 : Int32)) fun I1 =>
  if (I1 k0 14) = (3 : Int32) then
    fn_MD_leave_18 K I1 k0 (1 : Int32)
  else
    fn_MD_leave_18 K I1 k0 (0 : Int32)
def fn_MD_isRecoverer (K : Nat → Nat × Nat) (I : Nat → Nat → Int32) (x0 : Int32) : Option (Int32 × (Nat → Nat → Int32)) :=
  if x0 = (1 : Int32) then
    some ((1 : Int32), I)
  else
    if x0 = (2 : Int32) then
      some ((1 : Int32), I)
    else
      some ((0 : Int32), I)
def fn_MD_recover (K : Nat → Nat × Nat) (I : Nat → Nat → Int32) (k0 : Nat) (x1 : Int32) : Option (Int32 × (Nat → Nat → Int32)) :=
  fw_let (fw_up2 I k0 0 (0 : Int32)) fun I1 =>
  fw_bd (fn_MD_isRecoverer K I1 x1) fun r4 I2 =>
  if r4 = 0 then
    some ((0 : Int32), I2)
  else
    fw_ld K (I2 k0 19) 20 fun a6 =>
    fw_gd (fw_ix x1 (K a6).2) <|
    if (I2 a6 x1.toNatClampNeg) = 0 then
      if (I2 k0 9) = (2 : Int32) then
        fw_ld K (I2 k0 19) 20 fun a26 =>
        fw_gd (fw_ix x1 (K a26).2) <|
        fw_let (fw_up2 I2 a26 x1.toNatClampNeg (4 : Int32)) fun I28 =>
        some ((1 : Int32), I28)
      else
        fw_let (fw_up2 I2 k0 9 (1 : Int32)) fun I10 =>
        fw_let (fw_up2 I10 k0 10 ((I10 k0 10) + (1 : Int32))) fun I11 =>
        fw_ld K (I11 k0 20) 20 fun a12 =>
        fw_gd (fw_ix x1 (K a12).2) <|
        fw_let (fw_up2 I11 a12 x1.toNatClampNeg (I11 k0 10)) fun I14 =>
        fw_bv (fn_MD_forget K I14 k0 x1) fun I15 =>
        fw_ld K (I15 k0 22) 20 fun a17 =>
        fw_gd (fw_ix x1 (K a17).2) <|
        fw_let (fw_up2 I15 a17 x1.toNatClampNeg (-1 : Int32)) fun I19 =>
        fw_ld K (I19 k0 19) 20 fun a20 =>
        fw_gd (fw_ix x1 (K a20).2) <|
        fw_let (fw_up2 I19 a20 x1.toNatClampNeg (1 : Int32)) fun I22 =>
        fw_bd (fn_MD_ask K I22 k0 x1) fun r25 I23 =>
        some ((1 : Int32), I23)
    else
      some ((0 : Int32), I2)
def fn_MD_busy (K : Nat → Nat × Nat) (I : Nat → Nat → Int32) (k0 : Nat) (x1 : Int32) : Option (Int32 × (Nat → Nat → Int32)) :=
  fw_bd (fn_MD_isRecoverer K I x1) fun r3 I1 =>
  if r3 = 0 then
    some ((0 : Int32), I1)
  else
    fw_ld K (I1 k0 19) 20 fun a5 =>
    fw_bd (fn_MD_isRecoverer K I1 x1) fun r8 I6 =>
    if r8 = 0 then
      fw_gd (fw_ix (0 : Int32) (K a5).2) <|
      if (I6 a5 (0 : Int32).toNatClampNeg) ≤ 0 then
        some ((0 : Int32), I6)
      else
        fw_ld K (I6 k0 19) 20 fun a12 =>
        fw_bd (fn_MD_isRecoverer K I6 x1) fun r15 I13 =>
        if r15 = 0 then
          fw_gd (fw_ix (0 : Int32) (K a12).2) <|
          if (4 : Int32) ≤ (I13 a12 (0 : Int32).toNatClampNeg) then
            some ((0 : Int32), I13)
          else
            some ((1 : Int32), I13)
        else
          fw_gd (fw_ix x1 (K a12).2) <|
          if (4 : Int32) ≤ (I13 a12 x1.toNatClampNeg) then
            some ((0 : Int32), I13)
          else
            some ((1 : Int32), I13)
    else
      fw_gd (fw_ix x1 (K a5).2) <|
      if (I6 a5 x1.toNatClampNeg) ≤ 0 then
        some ((0 : Int32), I6)
      else
        fw_ld K (I6 k0 19) 20 fun a23 =>
        fw_bd (fn_MD_isRecoverer K I6 x1) fun r26 I24 =>
        if r26 = 0 then
          fw_gd (fw_ix (0 : Int32) (K a23).2) <|
          if (4 : Int32) ≤ (I24 a23 (0 : Int32).toNatClampNeg) then
            some ((0 : Int32), I24)
          else
            some ((1 : Int32), I24)
        else
          fw_gd (fw_ix x1 (K a23).2) <|
          if (4 : Int32) ≤ (I24 a23 x1.toNatClampNeg) then
            some ((0 : Int32), I24)
          else
            some ((1 : Int32), I24)
def fn_MD_retry (K : Nat → Nat × Nat) (I : Nat → Nat → Int32) (k0 : Nat) (x1 : Int32) : Option (Int32 × (Nat → Nat → Int32)) :=
  fw_let (fw_up2 I k0 0 (0 : Int32)) fun I1 =>
  fw_bd (fn_MD_busy K I1 k0 x1) fun r4 I2 =>
  if r4 = 0 then
    some ((-1 : Int32), I2)
  else
    fw_bd (fn_MD_ask K I2 k0 x1) fun r8 I6 =>
    some (r8, I6)
def fn_MD_abandon (K : Nat → Nat × Nat) (I : Nat → Nat → Int32) (k0 : Nat) (x1 : Int32) : Option (Int32 × (Nat → Nat → Int32)) :=
  fw_let (fw_up2 I k0 0 (0 : Int32)) fun I1 =>
  fw_bd (fn_MD_busy K I1 k0 x1) fun r4 I2 =>
  if r4 = 0 then
    some ((0 : Int32), I2)
  else
    fw_ld K (I2 k0 19) 20 fun a6 =>
    fw_gd (fw_ix x1 (K a6).2) <|
    fw_let (fw_up2 I2 a6 x1.toNatClampNeg (0 : Int32)) fun I8 =>
    some ((1 : Int32), I8)
def fn_MD_isStore (K : Nat → Nat × Nat) (I : Nat → Nat → Int32) (k0 : Nat) (x1 : Int32) : Option (Int32 × (Nat → Nat → Int32)) :=
  if x1 < 0 then
    some ((0 : Int32), I)
  else
    if (I k0 1) ≤ x1 then
      some ((0 : Int32), I)
    else
      some ((1 : Int32), I)
def fn_MD_power_30 (K : Nat → Nat × Nat) (I : Nat → Nat → Int32) (k0 : Nat) (x1 : Int32) (x2 : Int32) (s0 : Int32) : Option (Int32 × (Nat → Nat → Int32)) :=
  fw_ld K (I k0 4) 21 fun a9 =>
  if x2 = 0 then
    fw_gd (fw_ix x1 (K a9).2) <|
    fw_let (fw_up2 I a9 x1.toNatClampNeg (1 : Int32)) fun I15 =>
    fw_gd (fw_bl s0) <|
    some (s0, I15)
  else
    fw_gd (fw_ix x1 (K a9).2) <|
    fw_let (fw_up2 I a9 x1.toNatClampNeg (0 : Int32)) fun I12 =>
    fw_gd (fw_bl s0) <|
    some (s0, I12)
def fn_MD_power (K : Nat → Nat × Nat) (I : Nat → Nat → Int32) (k0 : Nat) (x1 : Int32) (x2 : Int32) : Option (Int32 × (Nat → Nat → Int32)) :=
  fw_let (fw_up2 I k0 0 (0 : Int32)) fun I1 =>
  fw_bd (fn_MD_isStore K I1 k0 x1) fun r4 I2 =>
  if r4 = 0 then
    some ((0 : Int32), I2)
  else
    fw_ld K (I2 k0 4) 21 fun a6 =>
    fw_gd (fw_ix x1 (K a6).2) <|
    if (I2 a6 x1.toNatClampNeg) = x2 then
      fn_MD_power_30 K I2 k0 x1 x2 (1 : Int32)
    else
      fn_MD_power_30 K I2 k0 x1 x2 (0 : Int32)
def fn_MD_store_34 (K : Nat → Nat × Nat) : Nat → (Nat → Nat → Int32) → Nat → Int32 → Int32 → Int32 → Option (Int32 × (Nat → Nat → Int32))
  | 0, _, _, _, _, _ => none
  | f + 1, I, k0, x1, x3, x4 =>
    if (20 : Int32) ≤ x4 then
      some (x3, I)
    else
      fw_ld K (I k0 7) 21 fun a20 =>
      fw_gd (fw_ix (((20 : Int32) * x1) + x4) (K a20).2) <|
      if (I a20 (((20 : Int32) * x1) + x4).toNatClampNeg) = 0 then
        fn_MD_store_34 K f I k0 x1 (x3 + (0 : Int32)) (x4 + 1)
      else
        fn_MD_store_34 K f I k0 x1 (x3 + (1 : Int32)) (x4 + 1)
def fn_MD_store (K : Nat → Nat × Nat) (I : Nat → Nat → Int32) (k0 : Nat) (x1 : Int32) (x2 : Int32) : Option (Int32 × (Nat → Nat → Int32)) :=
  fw_let (fw_up2 I k0 0 (0 : Int32)) fun I1 =>
  fw_bd (fn_MD_isStore K I1 k0 x1) fun r4 I2 =>
  if r4 = 0 then
    some ((-1 : Int32), I2)
  else
    if x2 < 0 then
      some ((-1 : Int32), I2)
    else
      if x2 ≤ (3 : Int32) then
        if x2 = (3 : Int32) then
          fn_MD_store_34 K 200 I2 k0 x1 (0 : Int32) (0 : Int32)
        else
          if x2 = 0 then
            fw_ld K (I2 k0 4) 21 fun a16 =>
            fw_gd (fw_ix x1 (K a16).2) <|
            if (I2 a16 x1.toNatClampNeg) = 0 then
              some ((1 : Int32), I2)
            else
              some ((0 : Int32), I2)
          else
            if x2 = (1 : Int32) then
              fw_ld K (I2 k0 5) 21 fun a13 =>
              fw_gd (fw_ix x1 (K a13).2) <|
              if (I2 a13 x1.toNatClampNeg) = 0 then
                some ((0 : Int32), I2)
              else
                some ((1 : Int32), I2)
            else
              fw_ld K (I2 k0 6) 20 fun a11 =>
              fw_gd (fw_ix x1 (K a11).2) <|
              some (I2 a11 x1.toNatClampNeg, I2)
      else
        some ((-1 : Int32), I2)
def fn_MD_has (K : Nat → Nat × Nat) (I : Nat → Nat → Int32) (k0 : Nat) (x1 : Int32) (x2 : Int32) : Option (Int32 × (Nat → Nat → Int32)) :=
  fw_let (fw_up2 I k0 0 (0 : Int32)) fun I1 =>
  fw_bd (fn_MD_isStore K I1 k0 x1) fun r4 I2 =>
  if r4 = 0 then
    some ((0 : Int32), I2)
  else
    if x2 < 0 then
      some ((0 : Int32), I2)
    else
      if (20 : Int32) ≤ x2 then
        some ((0 : Int32), I2)
      else
        fw_ld K (I2 k0 7) 21 fun a8 =>
        fw_bd (fn_MD_isStore K I2 k0 x1) fun r11 I9 =>
        if r11 = 0 then
          fw_gd (fw_ix (0 : Int32) (K a8).2) <|
          if (I9 a8 (0 : Int32).toNatClampNeg) = 0 then
            some ((0 : Int32), I9)
          else
            some ((1 : Int32), I9)
        else
          if x2 < 0 then
            fw_gd (fw_ix (0 : Int32) (K a8).2) <|
            if (I9 a8 (0 : Int32).toNatClampNeg) = 0 then
              some ((0 : Int32), I9)
            else
              some ((1 : Int32), I9)
          else
            if (20 : Int32) ≤ x2 then
              fw_gd (fw_ix (0 : Int32) (K a8).2) <|
              if (I9 a8 (0 : Int32).toNatClampNeg) = 0 then
                some ((0 : Int32), I9)
              else
                some ((1 : Int32), I9)
            else
              fw_gd (fw_ix (((20 : Int32) * x1) + x2) (K a8).2) <|
              if (I9 a8 (((20 : Int32) * x1) + x2).toNatClampNeg) = 0 then
                some ((0 : Int32), I9)
              else
                some ((1 : Int32), I9)
def fn_MD_writer (K : Nat → Nat × Nat) (I : Nat → Nat → Int32) (k0 : Nat) (x1 : Int32) : Option (Int32 × (Nat → Nat → Int32)) :=
  fw_let (fw_up2 I k0 0 (0 : Int32)) fun I1 =>
  if x1 = 0 then
    some (I1 k0 14, I1)
  else
    if x1 = (1 : Int32) then
      some (I1 k0 15, I1)
    else
      if x1 = (2 : Int32) then
        some (I1 k0 16, I1)
      else
        some ((-1 : Int32), I1)
def fn_MD_answers (K : Nat → Nat × Nat) (I : Nat → Nat → Int32) (k0 : Nat) (x1 : Int32) : Option (Int32 × (Nat → Nat → Int32)) :=
  fw_let (fw_up2 I k0 0 (0 : Int32)) fun I1 =>
  if x1 < 0 then
    some ((-1 : Int32), I1)
  else
    if x1 < (I1 k0 15) then
      fw_bd (fn_MD_ackCount K I1 k0 x1) fun r6 I4 =>
      some (r6, I4)
    else
      some ((-1 : Int32), I1)
def fn_MD_recoverer (K : Nat → Nat × Nat) (I : Nat → Nat → Int32) (k0 : Nat) (x1 : Int32) (x2 : Int32) : Option (Int32 × (Nat → Nat → Int32)) :=
  fw_let (fw_up2 I k0 0 (0 : Int32)) fun I1 =>
  fw_bd (fn_MD_isRecoverer K I1 x1) fun r4 I2 =>
  if r4 = 0 then
    some ((-1 : Int32), I2)
  else
    if x2 = (0 : Int32) then
      fw_ld K (I2 k0 19) 20 fun a7 =>
      fw_gd (fw_ix x1 (K a7).2) <|
      some (I2 a7 x1.toNatClampNeg, I2)
    else
      if x2 = (1 : Int32) then
        fw_ld K (I2 k0 20) 20 fun a10 =>
        fw_gd (fw_ix x1 (K a10).2) <|
        some (I2 a10 x1.toNatClampNeg, I2)
      else
        if x2 = (2 : Int32) then
          fw_ld K (I2 k0 21) 20 fun a13 =>
          fw_gd (fw_ix x1 (K a13).2) <|
          some (I2 a13 x1.toNatClampNeg, I2)
        else
          if x2 = (3 : Int32) then
            fw_bd (fn_MD_answerCount K I2 k0 x1) fun r18 I16 =>
            some (r18, I16)
          else
            if x2 = (4 : Int32) then
              fw_ld K (I2 k0 22) 20 fun a20 =>
              fw_gd (fw_ix x1 (K a20).2) <|
              some (I2 a20 x1.toNatClampNeg, I2)
            else
              some ((-1 : Int32), I2)
def fn_MD_ledger (K : Nat → Nat × Nat) (I : Nat → Nat → Int32) (k0 : Nat) (x1 : Int32) : Option (Int32 × (Nat → Nat → Int32)) :=
  fw_let (fw_up2 I k0 0 (0 : Int32)) fun I1 =>
  if x1 = 0 then
    some (I1 k0 9, I1)
  else
    if x1 = (1 : Int32) then
      some (I1 k0 10, I1)
    else
      if x1 = (2 : Int32) then
        if (I1 k0 9) = (2 : Int32) then
          some (I1 k0 11, I1)
        else
          some ((-1 : Int32), I1)
      else
        some ((-1 : Int32), I1)
def fn_MD_read_45 (K : Nat → Nat × Nat) : Nat → (Nat → Nat → Int32) → Nat → Int32 → Int32 → Option (Int32 × (Nat → Nat → Int32))
  | 0, _, _, _, _ => none
  | f + 1, I, k0, x1, x2 =>
    if (I k0 2) ≤ x2 then
      some ((0 : Int32), I)
    else
      fw_gd (decide (¬ (I k0 1) = 0)) <|
      fw_ld K (I k0 4) 21 fun a7 =>
      fw_gd (fw_ix ((x1 + x2) - (x1 + x2) / (I k0 1) * (I k0 1)) (K a7).2) <|
      if (I a7 ((x1 + x2) - (x1 + x2) / (I k0 1) * (I k0 1)).toNatClampNeg) = 0 then
        fw_ld K (I k0 7) 21 fun a10 =>
        fw_gd (fw_ix (((20 : Int32) * ((x1 + x2) - (x1 + x2) / (I k0 1) * (I k0 1))) + x1) (K a10).2) <|
        if (I a10 (((20 : Int32) * ((x1 + x2) - (x1 + x2) / (I k0 1) * (I k0 1))) + x1).toNatClampNeg) = 0 then
          fn_MD_read_45 K f I k0 x1 (x2 + 1)
        else
          fw_let (fw_up2 I k0 0 (0 : Int32)) fun I13 =>
          fw_ld K (I13 k0 8) 20 fun a14 =>
          fw_gd (fw_ix (((20 : Int32) * ((x1 + x2) - (x1 + x2) / (I k0 1) * (I k0 1))) + x1) (K a14).2) <|
          some (I13 a14 (((20 : Int32) * ((x1 + x2) - (x1 + x2) / (I k0 1) * (I k0 1))) + x1).toNatClampNeg, I13)
      else
        fn_MD_read_45 K f I k0 x1 (x2 + 1)
def fn_MD_read_30 (K : Nat → Nat × Nat) (I : Nat → Nat → Int32) (k0 : Nat) (x1 : Int32) (s1 : Int32) : Option (Int32 × (Nat → Nat → Int32)) :=
  fw_let (fw_up2 I k0 0 s1) fun I3 =>
  if (3 : Int32) ≤ (I3 k0 0) then
    fn_MD_read_45 K 200 I3 k0 x1 (0 : Int32)
  else
    some ((0 : Int32), I3)
def fn_MD_read_25 (K : Nat → Nat × Nat) (I : Nat → Nat → Int32) (k0 : Nat) (x1 : Int32) : Option (Int32 × (Nat → Nat → Int32)) :=
  fn_MD_read_30 K I k0 x1 (2 : Int32)
def fn_MD_read (K : Nat → Nat × Nat) (I : Nat → Nat → Int32) (k0 : Nat) (x1 : Int32) : Option (Int32 × (Nat → Nat → Int32)) :=
  if (I k0 9) = (2 : Int32) then
    if x1 < 0 then
      fn_MD_read_25 K I k0 x1
    else
      if x1 ≤ (I k0 11) then
        fn_MD_read_30 K I k0 x1 (3 : Int32)
      else
        fn_MD_read_25 K I k0 x1
  else
    fn_MD_read_30 K I k0 x1 (1 : Int32)
