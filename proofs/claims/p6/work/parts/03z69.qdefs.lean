set_option linter.all false
noncomputable def F_X7_hasCourt (p1 : Int32) (tn_courts : Int32) : Int32 :=
  if p1 < (0 : Int32) then
    (0 : Int32)
  else
    if tn_courts ≤ p1 then
      (0 : Int32)
    else
      (1 : Int32)
noncomputable def F_X7_hasHour (p1 : Int32) (tn_hours : Int32) : Int32 :=
  if p1 < (0 : Int32) then
    (0 : Int32)
  else
    if tn_hours ≤ p1 then
      (0 : Int32)
    else
      (1 : Int32)
noncomputable def F_X7_hasGate (p1 : Int32) (tn_gateCount : Int32) : Int32 :=
  if p1 < (0 : Int32) then
    (0 : Int32)
  else
    if tn_gateCount ≤ p1 then
      (0 : Int32)
    else
      (1 : Int32)
noncomputable def F_X7_hasPerson (p1 : Int32) (tn_people : Int32) : Int32 :=
  if p1 < (0 : Int32) then
    (0 : Int32)
  else
    if tn_people ≤ p1 then
      (0 : Int32)
    else
      (1 : Int32)
noncomputable def F_X7_hasAll (p1 : Int32) (tn_people : Int32) : Int32 :=
  if p1 < (0 : Int32) then
    (0 : Int32)
  else
    zL ((1 : Int32) <<< (tn_people &&& 31)) fun x_2 : Int32 =>
    if x_2 ≤ p1 then
      (0 : Int32)
    else
      (1 : Int32)
noncomputable def F_X7_hasPassage (p1 : Int32) (p2 : Int32) (p3 : Int32) (tn_hours : Int32) (tn_courts : Int32) (tn_gateCount : Int32) : Int32 :=
  zL (F_X7_hasGate p1 tn_gateCount) fun r_1 : Int32 =>
  if r_1 = (0 : Int32) then
    (0 : Int32)
  else
    zL (F_X7_hasCourt p2 tn_courts) fun r_3 : Int32 =>
    if r_3 = (0 : Int32) then
      (0 : Int32)
    else
      zL (F_X7_hasHour p3 tn_hours) fun r_5 : Int32 =>
      if r_5 = (0 : Int32) then
        (0 : Int32)
      else
        (1 : Int32)
noncomputable def F_X7_hasTrip (p1 : Int32) (p2 : Int32) (p3 : Int32) (tn_hours : Int32) (tn_courts : Int32) : Int32 :=
  zL (F_X7_hasCourt p1 tn_courts) fun r_1 : Int32 =>
  if r_1 = (0 : Int32) then
    (0 : Int32)
  else
    zL (F_X7_hasHour p2 tn_hours) fun r_3 : Int32 =>
    if r_3 = (0 : Int32) then
      (0 : Int32)
    else
      zL (F_X7_hasCourt p3 tn_courts) fun r_5 : Int32 =>
      if r_5 = (0 : Int32) then
        (0 : Int32)
      else
        (1 : Int32)
noncomputable def F_X7_hasTripBy (p1 : Int32) (p2 : Int32) (p3 : Int32) (p4 : Int32) (tn_hours : Int32) (tn_courts : Int32) : Int32 :=
  zL (F_X7_hasTrip p1 p2 p3 tn_hours tn_courts) fun r_1 : Int32 =>
  if r_1 = (0 : Int32) then
    (0 : Int32)
  else
    if p4 < p2 then
      (0 : Int32)
    else
      if tn_hours < p4 then
        (0 : Int32)
      else
        (1 : Int32)
noncomputable def F_X7_courtOf (p1 : Int32) (p2 : Int32) (p3 : Int32) (f_tn_told : Nat → Int32) (f_tn_strayCourts : Nat → Int32) : Int32 :=
  zL (p3 >>> (p1 &&& 31)) fun x_1 : Int32 =>
  zL (x_1 &&& (1 : Int32)) fun x_2 : Int32 =>
  if x_2 = (0 : Int32) then
    zL (p1 * (48 : Int32)) fun x_4 : Int32 =>
    zL (x_4 + p2) fun x_5 : Int32 =>
    zL (f_tn_told (Int32.toNatClampNeg x_5)) fun x_6 : Int32 =>
    x_6
  else
    zL (f_tn_strayCourts (Int32.toNatClampNeg p1)) fun x_7 : Int32 =>
    x_7
noncomputable def F_X7_showsOf (p1 : Int32) (p2 : Int32) (p3 : Int32) (f_tn_shows : Nat → Int32) (f_tn_told : Nat → Int32) (f_tn_strayCourts : Nat → Int32) : Int32 :=
  zL (F_X7_courtOf p1 p2 p3 f_tn_told f_tn_strayCourts) fun r_1 : Int32 =>
  zL (f_tn_shows (Int32.toNatClampNeg r_1)) fun x_2 : Int32 =>
  x_2
noncomputable def K_X7_inside_1_0 (v4_2 : Int32) : Int32 :=
  v4_2
noncomputable def B_X7_inside_1 (tn_people : Int32) (p2 : Int32) (p3 : Int32) (f_tn_shows : Nat → Int32) (f_tn_told : Nat → Int32) (f_tn_strayCourts : Nat → Int32) (p1 : Int32) (kc_1_0 : Int32 → Int32) (ih_1 : Int32 → Int32 → Int32) (v4_2 : Int32) (v5_1 : Int32) : Int32 :=
  if tn_people ≤ v5_1 then
    kc_1_0 v4_2
  else
    zL (F_X7_showsOf v5_1 p2 p3 f_tn_shows f_tn_told f_tn_strayCourts) fun r_4 : Int32 =>
    zL (F_X9_has r_4 p1) fun r_5 : Int32 =>
    if r_5 = (0 : Int32) then
      zL (v5_1 + Int32.ofInt 1) fun x_7 : Int32 =>
      ih_1 v4_2 x_7
    else
      zL ((1 : Int32) <<< (v5_1 &&& 31)) fun x_8 : Int32 =>
      zL (v4_2 ||| x_8) fun x_9 : Int32 =>
      zL (v5_1 + Int32.ofInt 1) fun x_10 : Int32 =>
      ih_1 x_9 x_10
noncomputable def L_X7_inside_1 (tn_people : Int32) (p2 : Int32) (p3 : Int32) (f_tn_shows : Nat → Int32) (f_tn_told : Nat → Int32) (f_tn_strayCourts : Nat → Int32) (p1 : Int32) (kc_1_0 : Int32 → Int32) : Nat → Int32 → Int32 → Int32 := zLp (fun _ _ => 0) (B_X7_inside_1 tn_people p2 p3 f_tn_shows f_tn_told f_tn_strayCourts p1 kc_1_0)
theorem L_X7_inside_1_s {tn_people : Int32} {p2 : Int32} {p3 : Int32} {f_tn_shows : (Nat → Int32)} {f_tn_told : (Nat → Int32)} {f_tn_strayCourts : (Nat → Int32)} {p1 : Int32} {kc_1_0 : (Int32 → Int32)} {t : Nat} {v4_2 : Int32} {v5_1 : Int32} : L_X7_inside_1 tn_people p2 p3 f_tn_shows f_tn_told f_tn_strayCourts p1 kc_1_0 (t + 1) v4_2 v5_1 = B_X7_inside_1 tn_people p2 p3 f_tn_shows f_tn_told f_tn_strayCourts p1 kc_1_0 (L_X7_inside_1 tn_people p2 p3 f_tn_shows f_tn_told f_tn_strayCourts p1 kc_1_0 t) v4_2 v5_1 := rfl
noncomputable def F_X7_inside (p1 : Int32) (p2 : Int32) (p3 : Int32) (tn_people : Int32) (f_tn_shows : Nat → Int32) (f_tn_told : Nat → Int32) (f_tn_strayCourts : Nat → Int32) : Int32 :=
  L_X7_inside_1 tn_people p2 p3 f_tn_shows f_tn_told f_tn_strayCourts p1 K_X7_inside_1_0 12 (0 : Int32) (0 : Int32)
noncomputable def F_X7_beyond (p1 : Int32) (p2 : Int32) (f_tn_oneEnd : Nat → Int32) (f_tn_otherEnd : Nat → Int32) : Int32 :=
  zL (f_tn_oneEnd (Int32.toNatClampNeg p1)) fun x_1 : Int32 =>
  if x_1 = p2 then
    zL (f_tn_otherEnd (Int32.toNatClampNeg p1)) fun x_6 : Int32 =>
    x_6
  else
    zL (f_tn_otherEnd (Int32.toNatClampNeg p1)) fun x_3 : Int32 =>
    if x_3 = p2 then
      zL (f_tn_oneEnd (Int32.toNatClampNeg p1)) fun x_5 : Int32 =>
      x_1
    else
      (-1 : Int32)
noncomputable def F_X7_isFree (p1 : Int32) (p2 : Int32) (f_tn_above : Nat → Int32) : Int32 :=
  zL (f_tn_above (Int32.toNatClampNeg p1)) fun x_1 : Int32 =>
  zL (F_X9_has x_1 p2) fun r_2 : Int32 =>
  r_2
noncomputable def K_X7_openBy_1_0 (v4_2 : Int32) : Int32 :=
  v4_2
noncomputable def B_X7_openBy_1 (tn_people : Int32) (p1 : Int32) (p2 : Int32) (p3 : Int32) (f_tn_shows : Nat → Int32) (f_tn_told : Nat → Int32) (f_tn_strayCourts : Nat → Int32) (kc_1_0 : Int32 → Int32) (ih_1 : Int32 → Int32 → Int32) (v4_2 : Int32) (v5_1 : Int32) : Int32 :=
  if tn_people ≤ v5_1 then
    kc_1_0 v4_2
  else
    zL (F_X9_has p1 v5_1) fun r_4 : Int32 =>
    if r_4 = (0 : Int32) then
      zL (v5_1 + Int32.ofInt 1) fun x_6 : Int32 =>
      ih_1 v4_2 x_6
    else
      zL (F_X7_showsOf v5_1 p2 p3 f_tn_shows f_tn_told f_tn_strayCourts) fun r_7 : Int32 =>
      zL (v4_2 ||| r_7) fun x_8 : Int32 =>
      zL (v5_1 + Int32.ofInt 1) fun x_9 : Int32 =>
      ih_1 x_8 x_9
noncomputable def L_X7_openBy_1 (tn_people : Int32) (p1 : Int32) (p2 : Int32) (p3 : Int32) (f_tn_shows : Nat → Int32) (f_tn_told : Nat → Int32) (f_tn_strayCourts : Nat → Int32) (kc_1_0 : Int32 → Int32) : Nat → Int32 → Int32 → Int32 := zLp (fun _ _ => 0) (B_X7_openBy_1 tn_people p1 p2 p3 f_tn_shows f_tn_told f_tn_strayCourts kc_1_0)
theorem L_X7_openBy_1_s {tn_people : Int32} {p1 : Int32} {p2 : Int32} {p3 : Int32} {f_tn_shows : (Nat → Int32)} {f_tn_told : (Nat → Int32)} {f_tn_strayCourts : (Nat → Int32)} {kc_1_0 : (Int32 → Int32)} {t : Nat} {v4_2 : Int32} {v5_1 : Int32} : L_X7_openBy_1 tn_people p1 p2 p3 f_tn_shows f_tn_told f_tn_strayCourts kc_1_0 (t + 1) v4_2 v5_1 = B_X7_openBy_1 tn_people p1 p2 p3 f_tn_shows f_tn_told f_tn_strayCourts kc_1_0 (L_X7_openBy_1 tn_people p1 p2 p3 f_tn_shows f_tn_told f_tn_strayCourts kc_1_0 t) v4_2 v5_1 := rfl
noncomputable def F_X7_openBy (p1 : Int32) (p2 : Int32) (p3 : Int32) (tn_people : Int32) (f_tn_shows : Nat → Int32) (f_tn_told : Nat → Int32) (f_tn_strayCourts : Nat → Int32) : Int32 :=
  L_X7_openBy_1 tn_people p1 p2 p3 f_tn_shows f_tn_told f_tn_strayCourts K_X7_openBy_1_0 12 (0 : Int32) (0 : Int32)
noncomputable def K_X7_chanceOf_1_0 (v3_2 : Int64) : Int64 :=
  v3_2
noncomputable def B_X7_chanceOf_1 (tn_people : Int32) (p1 : Int32) (p2 : Int32) (f_tn_strayParts : Nat → Int32) (kc_1_0 : Int64 → Int64) (ih_1 : Int64 → Int32 → Int64) (v3_2 : Int64) (v5_1 : Int32) : Int64 :=
  if tn_people ≤ v5_1 then
    kc_1_0 v3_2
  else
    zL (F_X9_has p1 v5_1) fun r_4 : Int32 =>
    if r_4 = (0 : Int32) then
      zL (v5_1 + Int32.ofInt 1) fun x_6 : Int32 =>
      ih_1 v3_2 x_6
    else
      zL (F_X9_has p2 v5_1) fun r_7 : Int32 =>
      if r_7 = (0 : Int32) then
        zL (f_tn_strayParts (Int32.toNatClampNeg v5_1)) fun x_9 : Int32 =>
        zL ((100 : Int32) - x_9) fun x_10 : Int32 =>
        zL ((x_10).toInt64) fun x_11 : Int64 =>
        zL (v3_2 * x_11) fun x_12 : Int64 =>
        zL (x_12 / (100 : Int64)) fun x_13 : Int64 =>
        zL (v5_1 + Int32.ofInt 1) fun x_14 : Int32 =>
        ih_1 x_13 x_14
      else
        zL (f_tn_strayParts (Int32.toNatClampNeg v5_1)) fun x_15 : Int32 =>
        zL ((x_15).toInt64) fun x_16 : Int64 =>
        zL (v3_2 * x_16) fun x_17 : Int64 =>
        zL (x_17 / (100 : Int64)) fun x_18 : Int64 =>
        zL (v5_1 + Int32.ofInt 1) fun x_19 : Int32 =>
        ih_1 x_18 x_19
noncomputable def L_X7_chanceOf_1 (tn_people : Int32) (p1 : Int32) (p2 : Int32) (f_tn_strayParts : Nat → Int32) (kc_1_0 : Int64 → Int64) : Nat → Int64 → Int32 → Int64 := zLp (fun _ _ => 0) (B_X7_chanceOf_1 tn_people p1 p2 f_tn_strayParts kc_1_0)
theorem L_X7_chanceOf_1_s {tn_people : Int32} {p1 : Int32} {p2 : Int32} {f_tn_strayParts : (Nat → Int32)} {kc_1_0 : (Int64 → Int64)} {t : Nat} {v3_2 : Int64} {v5_1 : Int32} : L_X7_chanceOf_1 tn_people p1 p2 f_tn_strayParts kc_1_0 (t + 1) v3_2 v5_1 = B_X7_chanceOf_1 tn_people p1 p2 f_tn_strayParts kc_1_0 (L_X7_chanceOf_1 tn_people p1 p2 f_tn_strayParts kc_1_0 t) v3_2 v5_1 := rfl
noncomputable def F_X7_chanceOf (p1 : Int32) (p2 : Int32) (tn_people : Int32) (f_tn_strayParts : Nat → Int32) : Int64 :=
  L_X7_chanceOf_1 tn_people p1 p2 f_tn_strayParts K_X7_chanceOf_1_0 12 (1000000000 : Int64) (0 : Int32)
noncomputable def K_X7_drawn_1_0 (v5_3 : Int32) : Int32 :=
  v5_3
noncomputable def B_X7_drawn_1 (tn_people : Int32) (tn_strayers : Int32) (f_tn_strayParts : Nat → Int32) (kc_1_0 : Int32 → Int32) (ih_1 : Int64 → Int32 → Int32 → Int32) (v3_2 : Int64) (v5_3 : Int32) (v6_1 : Int32) : Int32 :=
  if tn_people ≤ v6_1 then
    kc_1_0 v5_3
  else
    zL (F_X9_has tn_strayers v6_1) fun r_5 : Int32 =>
    if r_5 = (0 : Int32) then
      zL (v6_1 + Int32.ofInt 1) fun x_7 : Int32 =>
      ih_1 v3_2 v5_3 x_7
    else
      zL ((1103515245 : Int64) * v3_2) fun x_8 : Int64 =>
      zL (x_8 + (12345 : Int64)) fun x_9 : Int64 =>
      zL (x_9 - x_9 / (2147483648 : Int64) * (2147483648 : Int64)) fun x_10 : Int64 =>
      zL (x_10 / (65536 : Int64)) fun x_11 : Int64 =>
      zL (x_11 - x_11 / (100 : Int64) * (100 : Int64)) fun x_12 : Int64 =>
      zL (f_tn_strayParts (Int32.toNatClampNeg v6_1)) fun x_13 : Int32 =>
      zL ((x_13).toInt64) fun x_14 : Int64 =>
      if 0 ≤ lg_cmp x_12 x_14 then
        zL (v6_1 + Int32.ofInt 1) fun x_16 : Int32 =>
        ih_1 x_10 v5_3 x_16
      else
        zL ((1 : Int32) <<< (v6_1 &&& 31)) fun x_17 : Int32 =>
        zL (v5_3 ||| x_17) fun x_18 : Int32 =>
        zL (v6_1 + Int32.ofInt 1) fun x_19 : Int32 =>
        ih_1 x_10 x_18 x_19
noncomputable def L_X7_drawn_1 (tn_people : Int32) (tn_strayers : Int32) (f_tn_strayParts : Nat → Int32) (kc_1_0 : Int32 → Int32) : Nat → Int64 → Int32 → Int32 → Int32 := zLp (fun _ _ _ => 0) (B_X7_drawn_1 tn_people tn_strayers f_tn_strayParts kc_1_0)
theorem L_X7_drawn_1_s {tn_people : Int32} {tn_strayers : Int32} {f_tn_strayParts : (Nat → Int32)} {kc_1_0 : (Int32 → Int32)} {t : Nat} {v3_2 : Int64} {v5_3 : Int32} {v6_1 : Int32} : L_X7_drawn_1 tn_people tn_strayers f_tn_strayParts kc_1_0 (t + 1) v3_2 v5_3 v6_1 = B_X7_drawn_1 tn_people tn_strayers f_tn_strayParts kc_1_0 (L_X7_drawn_1 tn_people tn_strayers f_tn_strayParts kc_1_0 t) v3_2 v5_3 v6_1 := rfl
noncomputable def F_X7_drawn (p1 : Int64) (tn_people : Int32) (tn_strayers : Int32) (f_tn_strayParts : Nat → Int32) : Int32 :=
  L_X7_drawn_1 tn_people tn_strayers f_tn_strayParts K_X7_drawn_1_0 12 p1 (0 : Int32) (0 : Int32)
noncomputable def F_J6_bitCount_0f7a4 (p0 : Int32) : Int32 :=
  zL (((p0).toUInt32 >>> (((1 : Int32)).toUInt32 &&& Int32.toUInt32 31)).toInt32) fun x_1 : Int32 =>
  zL (x_1 &&& (1431655765 : Int32)) fun x_2 : Int32 =>
  zL (p0 - x_2) fun x_3 : Int32 =>
  zL (x_3 &&& (858993459 : Int32)) fun x_4 : Int32 =>
  zL (((x_3).toUInt32 >>> (((2 : Int32)).toUInt32 &&& Int32.toUInt32 31)).toInt32) fun x_5 : Int32 =>
  zL (x_5 &&& (858993459 : Int32)) fun x_6 : Int32 =>
  zL (x_4 + x_6) fun x_7 : Int32 =>
  zL (((x_7).toUInt32 >>> (((4 : Int32)).toUInt32 &&& Int32.toUInt32 31)).toInt32) fun x_8 : Int32 =>
  zL (x_7 + x_8) fun x_9 : Int32 =>
  zL (x_9 &&& (252645135 : Int32)) fun x_10 : Int32 =>
  zL (((x_10).toUInt32 >>> (((8 : Int32)).toUInt32 &&& Int32.toUInt32 31)).toInt32) fun x_11 : Int32 =>
  zL (x_10 + x_11) fun x_12 : Int32 =>
  zL (((x_12).toUInt32 >>> (((16 : Int32)).toUInt32 &&& Int32.toUInt32 31)).toInt32) fun x_13 : Int32 =>
  zL (x_12 + x_13) fun x_14 : Int32 =>
  zL (x_14 &&& (63 : Int32)) fun x_15 : Int32 =>
  x_15
noncomputable def F_J6_numberOfTrailingZeros_0f7a4 (p0 : Int32) : Int32 :=
  zL (p0 ^^^ (-1 : Int32)) fun x_1 : Int32 =>
  zL (p0 - (1 : Int32)) fun x_2 : Int32 =>
  zL (x_1 &&& x_2) fun x_3 : Int32 =>
  if (0 : Int32) < x_3 then
    if x_3 ≤ (65536 : Int32) then
      if x_3 ≤ (256 : Int32) then
        if x_3 ≤ (16 : Int32) then
          if x_3 ≤ (4 : Int32) then
            zL (((x_3).toUInt32 >>> (((1 : Int32)).toUInt32 &&& Int32.toUInt32 31)).toInt32) fun x_9 : Int32 =>
            zL ((1 : Int32) + x_9) fun x_10 : Int32 =>
            x_10
          else
            zL (((x_3).toUInt32 >>> (((2 : Int32)).toUInt32 &&& Int32.toUInt32 31)).toInt32) fun x_11 : Int32 =>
            zL (((x_11).toUInt32 >>> (((1 : Int32)).toUInt32 &&& Int32.toUInt32 31)).toInt32) fun x_12 : Int32 =>
            zL ((3 : Int32) + x_12) fun x_13 : Int32 =>
            x_13
        else
          zL (((x_3).toUInt32 >>> (((4 : Int32)).toUInt32 &&& Int32.toUInt32 31)).toInt32) fun x_14 : Int32 =>
          if x_14 ≤ (4 : Int32) then
            zL (((x_14).toUInt32 >>> (((1 : Int32)).toUInt32 &&& Int32.toUInt32 31)).toInt32) fun x_16 : Int32 =>
            zL ((5 : Int32) + x_16) fun x_17 : Int32 =>
            x_17
          else
            zL (((x_14).toUInt32 >>> (((2 : Int32)).toUInt32 &&& Int32.toUInt32 31)).toInt32) fun x_18 : Int32 =>
            zL (((x_18).toUInt32 >>> (((1 : Int32)).toUInt32 &&& Int32.toUInt32 31)).toInt32) fun x_19 : Int32 =>
            zL ((7 : Int32) + x_19) fun x_20 : Int32 =>
            x_20
      else
        zL (((x_3).toUInt32 >>> (((8 : Int32)).toUInt32 &&& Int32.toUInt32 31)).toInt32) fun x_21 : Int32 =>
        if x_21 ≤ (16 : Int32) then
          if x_21 ≤ (4 : Int32) then
            zL (((x_21).toUInt32 >>> (((1 : Int32)).toUInt32 &&& Int32.toUInt32 31)).toInt32) fun x_24 : Int32 =>
            zL ((9 : Int32) + x_24) fun x_25 : Int32 =>
            x_25
          else
            zL (((x_21).toUInt32 >>> (((2 : Int32)).toUInt32 &&& Int32.toUInt32 31)).toInt32) fun x_26 : Int32 =>
            zL (((x_26).toUInt32 >>> (((1 : Int32)).toUInt32 &&& Int32.toUInt32 31)).toInt32) fun x_27 : Int32 =>
            zL ((11 : Int32) + x_27) fun x_28 : Int32 =>
            x_28
        else
          zL (((x_21).toUInt32 >>> (((4 : Int32)).toUInt32 &&& Int32.toUInt32 31)).toInt32) fun x_29 : Int32 =>
          if x_29 ≤ (4 : Int32) then
            zL (((x_29).toUInt32 >>> (((1 : Int32)).toUInt32 &&& Int32.toUInt32 31)).toInt32) fun x_31 : Int32 =>
            zL ((13 : Int32) + x_31) fun x_32 : Int32 =>
            x_32
          else
            zL (((x_29).toUInt32 >>> (((2 : Int32)).toUInt32 &&& Int32.toUInt32 31)).toInt32) fun x_33 : Int32 =>
            zL (((x_33).toUInt32 >>> (((1 : Int32)).toUInt32 &&& Int32.toUInt32 31)).toInt32) fun x_34 : Int32 =>
            zL ((15 : Int32) + x_34) fun x_35 : Int32 =>
            x_35
    else
      zL (((x_3).toUInt32 >>> (((16 : Int32)).toUInt32 &&& Int32.toUInt32 31)).toInt32) fun x_36 : Int32 =>
      if x_36 ≤ (256 : Int32) then
        if x_36 ≤ (16 : Int32) then
          if x_36 ≤ (4 : Int32) then
            zL (((x_36).toUInt32 >>> (((1 : Int32)).toUInt32 &&& Int32.toUInt32 31)).toInt32) fun x_40 : Int32 =>
            zL ((17 : Int32) + x_40) fun x_41 : Int32 =>
            x_41
          else
            zL (((x_36).toUInt32 >>> (((2 : Int32)).toUInt32 &&& Int32.toUInt32 31)).toInt32) fun x_42 : Int32 =>
            zL (((x_42).toUInt32 >>> (((1 : Int32)).toUInt32 &&& Int32.toUInt32 31)).toInt32) fun x_43 : Int32 =>
            zL ((19 : Int32) + x_43) fun x_44 : Int32 =>
            x_44
        else
          zL (((x_36).toUInt32 >>> (((4 : Int32)).toUInt32 &&& Int32.toUInt32 31)).toInt32) fun x_45 : Int32 =>
          if x_45 ≤ (4 : Int32) then
            zL (((x_45).toUInt32 >>> (((1 : Int32)).toUInt32 &&& Int32.toUInt32 31)).toInt32) fun x_47 : Int32 =>
            zL ((21 : Int32) + x_47) fun x_48 : Int32 =>
            x_48
          else
            zL (((x_45).toUInt32 >>> (((2 : Int32)).toUInt32 &&& Int32.toUInt32 31)).toInt32) fun x_49 : Int32 =>
            zL (((x_49).toUInt32 >>> (((1 : Int32)).toUInt32 &&& Int32.toUInt32 31)).toInt32) fun x_50 : Int32 =>
            zL ((23 : Int32) + x_50) fun x_51 : Int32 =>
            x_51
      else
        zL (((x_36).toUInt32 >>> (((8 : Int32)).toUInt32 &&& Int32.toUInt32 31)).toInt32) fun x_52 : Int32 =>
        if x_52 ≤ (16 : Int32) then
          if x_52 ≤ (4 : Int32) then
            zL (((x_52).toUInt32 >>> (((1 : Int32)).toUInt32 &&& Int32.toUInt32 31)).toInt32) fun x_55 : Int32 =>
            zL ((25 : Int32) + x_55) fun x_56 : Int32 =>
            x_56
          else
            zL (((x_52).toUInt32 >>> (((2 : Int32)).toUInt32 &&& Int32.toUInt32 31)).toInt32) fun x_57 : Int32 =>
            zL (((x_57).toUInt32 >>> (((1 : Int32)).toUInt32 &&& Int32.toUInt32 31)).toInt32) fun x_58 : Int32 =>
            zL ((27 : Int32) + x_58) fun x_59 : Int32 =>
            x_59
        else
          zL (((x_52).toUInt32 >>> (((4 : Int32)).toUInt32 &&& Int32.toUInt32 31)).toInt32) fun x_60 : Int32 =>
          if x_60 ≤ (4 : Int32) then
            zL (((x_60).toUInt32 >>> (((1 : Int32)).toUInt32 &&& Int32.toUInt32 31)).toInt32) fun x_62 : Int32 =>
            zL ((29 : Int32) + x_62) fun x_63 : Int32 =>
            x_63
          else
            zL (((x_60).toUInt32 >>> (((2 : Int32)).toUInt32 &&& Int32.toUInt32 31)).toInt32) fun x_64 : Int32 =>
            zL (((x_64).toUInt32 >>> (((1 : Int32)).toUInt32 &&& Int32.toUInt32 31)).toInt32) fun x_65 : Int32 =>
            zL ((31 : Int32) + x_65) fun x_66 : Int32 =>
            x_66
  else
    zL (x_3 &&& (32 : Int32)) fun x_67 : Int32 =>
    x_67
noncomputable def K_J7_fill_53178_1_0 (g_a_2 : Nat → Int32) : (Nat → Int32) :=
  g_a_2
noncomputable def B_J7_fill_53178_1 (p1 : Int32) (kc_1_0 : (Nat → Int32) → (Nat → Int32)) (ih_1 : Int32 → (Nat → Int32) → (Nat → Int32)) (v2_1 : Int32) (g_a_2 : Nat → Int32) : (Nat → Int32) :=
  if (10 : Int32) ≤ v2_1 then
    kc_1_0 g_a_2
  else
    zL (upd g_a_2 (Int32.toNatClampNeg v2_1) p1) fun f_4 : Nat → Int32 =>
    zL (v2_1 + Int32.ofInt 1) fun x_5 : Int32 =>
    ih_1 x_5 f_4
noncomputable def L_J7_fill_53178_1 (p1 : Int32) (kc_1_0 : (Nat → Int32) → (Nat → Int32)) : Nat → Int32 → (Nat → Int32) → (Nat → Int32) := zLp (fun _ _ => (fun _ => 0)) (B_J7_fill_53178_1 p1 kc_1_0)
theorem L_J7_fill_53178_1_s {p1 : Int32} {kc_1_0 : ((Nat → Int32) → (Nat → Int32))} {t : Nat} {v2_1 : Int32} {g_a_2 : (Nat → Int32)} : L_J7_fill_53178_1 p1 kc_1_0 (t + 1) v2_1 g_a_2 = B_J7_fill_53178_1 p1 kc_1_0 (L_J7_fill_53178_1 p1 kc_1_0 t) v2_1 g_a_2 := rfl
noncomputable def F_J7_fill_53178 (p1 : Int32) (f_a : Nat → Int32) : (Nat → Int32) :=
  L_J7_fill_53178_1 p1 K_J7_fill_53178_1_0 12 (0 : Int32) f_a
noncomputable def K_J7_fill_53178_1_0_v1 (g_a_2 : Nat → Int32) : (Nat → Int32) :=
  g_a_2
noncomputable def B_J7_fill_53178_1_v1 (p1 : Int32) (kc_1_0 : (Nat → Int32) → (Nat → Int32)) (ih_1 : Int32 → (Nat → Int32) → (Nat → Int32)) (v2_1 : Int32) (g_a_2 : Nat → Int32) : (Nat → Int32) :=
  if (100 : Int32) ≤ v2_1 then
    kc_1_0 g_a_2
  else
    zL (upd g_a_2 (Int32.toNatClampNeg v2_1) p1) fun f_4 : Nat → Int32 =>
    zL (v2_1 + Int32.ofInt 1) fun x_5 : Int32 =>
    ih_1 x_5 f_4
noncomputable def L_J7_fill_53178_1_v1 (p1 : Int32) (kc_1_0 : (Nat → Int32) → (Nat → Int32)) : Nat → Int32 → (Nat → Int32) → (Nat → Int32) := zLp (fun _ _ => (fun _ => 0)) (B_J7_fill_53178_1_v1 p1 kc_1_0)
theorem L_J7_fill_53178_1_v1_s {p1 : Int32} {kc_1_0 : ((Nat → Int32) → (Nat → Int32))} {t : Nat} {v2_1 : Int32} {g_a_2 : (Nat → Int32)} : L_J7_fill_53178_1_v1 p1 kc_1_0 (t + 1) v2_1 g_a_2 = B_J7_fill_53178_1_v1 p1 kc_1_0 (L_J7_fill_53178_1_v1 p1 kc_1_0 t) v2_1 g_a_2 := rfl
noncomputable def F_J7_fill_53178_v1 (p1 : Int32) (f_a : Nat → Int32) : (Nat → Int32) :=
  L_J7_fill_53178_1_v1 p1 K_J7_fill_53178_1_0_v1 102 (0 : Int32) f_a
noncomputable def K_J7_fill_53178_1_0_v2 (g_a_2 : Nat → Int32) : (Nat → Int32) :=
  g_a_2
noncomputable def B_J7_fill_53178_1_v2 (p1 : Int32) (kc_1_0 : (Nat → Int32) → (Nat → Int32)) (ih_1 : Int32 → (Nat → Int32) → (Nat → Int32)) (v2_1 : Int32) (g_a_2 : Nat → Int32) : (Nat → Int32) :=
  if (10 : Int32) ≤ v2_1 then
    kc_1_0 g_a_2
  else
    zL (upd g_a_2 (Int32.toNatClampNeg v2_1) p1) fun f_4 : Nat → Int32 =>
    zL (v2_1 + Int32.ofInt 1) fun x_5 : Int32 =>
    ih_1 x_5 f_4
noncomputable def L_J7_fill_53178_1_v2 (p1 : Int32) (kc_1_0 : (Nat → Int32) → (Nat → Int32)) : Nat → Int32 → (Nat → Int32) → (Nat → Int32) := zLp (fun _ _ => (fun _ => 0)) (B_J7_fill_53178_1_v2 p1 kc_1_0)
theorem L_J7_fill_53178_1_v2_s {p1 : Int32} {kc_1_0 : ((Nat → Int32) → (Nat → Int32))} {t : Nat} {v2_1 : Int32} {g_a_2 : (Nat → Int32)} : L_J7_fill_53178_1_v2 p1 kc_1_0 (t + 1) v2_1 g_a_2 = B_J7_fill_53178_1_v2 p1 kc_1_0 (L_J7_fill_53178_1_v2 p1 kc_1_0 t) v2_1 g_a_2 := rfl
noncomputable def F_J7_fill_53178_v2 (p1 : Int32) (f_a : Nat → Int32) : (Nat → Int32) :=
  L_J7_fill_53178_1_v2 p1 K_J7_fill_53178_1_0_v2 12 (0 : Int32) f_a
noncomputable def K_J7_fill_d0a16_1_0 (g_a_2 : Nat → Int64) : (Nat → Int64) :=
  g_a_2
noncomputable def B_J7_fill_d0a16_1 (p1 : Int64) (kc_1_0 : (Nat → Int64) → (Nat → Int64)) (ih_1 : Int32 → (Nat → Int64) → (Nat → Int64)) (v3_1 : Int32) (g_a_2 : Nat → Int64) : (Nat → Int64) :=
  if (10 : Int32) ≤ v3_1 then
    kc_1_0 g_a_2
  else
    zL (vp_updL g_a_2 (Int32.toNatClampNeg v3_1) p1) fun f_4 : Nat → Int64 =>
    zL (v3_1 + Int32.ofInt 1) fun x_5 : Int32 =>
    ih_1 x_5 f_4
noncomputable def L_J7_fill_d0a16_1 (p1 : Int64) (kc_1_0 : (Nat → Int64) → (Nat → Int64)) : Nat → Int32 → (Nat → Int64) → (Nat → Int64) := zLp (fun _ _ => (fun _ => 0)) (B_J7_fill_d0a16_1 p1 kc_1_0)
theorem L_J7_fill_d0a16_1_s {p1 : Int64} {kc_1_0 : ((Nat → Int64) → (Nat → Int64))} {t : Nat} {v3_1 : Int32} {g_a_2 : (Nat → Int64)} : L_J7_fill_d0a16_1 p1 kc_1_0 (t + 1) v3_1 g_a_2 = B_J7_fill_d0a16_1 p1 kc_1_0 (L_J7_fill_d0a16_1 p1 kc_1_0 t) v3_1 g_a_2 := rfl
noncomputable def F_J7_fill_d0a16 (p1 : Int64) (f_a : Nat → Int64) : (Nat → Int64) :=
  L_J7_fill_d0a16_1 p1 K_J7_fill_d0a16_1_0 12 (0 : Int32) f_a
noncomputable def K_J7_fill_d0a16_1_0_v1 (g_a_2 : Nat → Int64) : (Nat → Int64) :=
  g_a_2
noncomputable def B_J7_fill_d0a16_1_v1 (p1 : Int64) (kc_1_0 : (Nat → Int64) → (Nat → Int64)) (ih_1 : Int32 → (Nat → Int64) → (Nat → Int64)) (v3_1 : Int32) (g_a_2 : Nat → Int64) : (Nat → Int64) :=
  if (60 : Int32) ≤ v3_1 then
    kc_1_0 g_a_2
  else
    zL (vp_updL g_a_2 (Int32.toNatClampNeg v3_1) p1) fun f_4 : Nat → Int64 =>
    zL (v3_1 + Int32.ofInt 1) fun x_5 : Int32 =>
    ih_1 x_5 f_4
noncomputable def L_J7_fill_d0a16_1_v1 (p1 : Int64) (kc_1_0 : (Nat → Int64) → (Nat → Int64)) : Nat → Int32 → (Nat → Int64) → (Nat → Int64) := zLp (fun _ _ => (fun _ => 0)) (B_J7_fill_d0a16_1_v1 p1 kc_1_0)
theorem L_J7_fill_d0a16_1_v1_s {p1 : Int64} {kc_1_0 : ((Nat → Int64) → (Nat → Int64))} {t : Nat} {v3_1 : Int32} {g_a_2 : (Nat → Int64)} : L_J7_fill_d0a16_1_v1 p1 kc_1_0 (t + 1) v3_1 g_a_2 = B_J7_fill_d0a16_1_v1 p1 kc_1_0 (L_J7_fill_d0a16_1_v1 p1 kc_1_0 t) v3_1 g_a_2 := rfl
noncomputable def F_J7_fill_d0a16_v1 (p1 : Int64) (f_a : Nat → Int64) : (Nat → Int64) :=
  L_J7_fill_d0a16_1_v1 p1 K_J7_fill_d0a16_1_0_v1 62 (0 : Int32) f_a
noncomputable def K_J7_fill_d0a16_1_0_v2 (g_a_2 : Nat → Int64) : (Nat → Int64) :=
  g_a_2
noncomputable def B_J7_fill_d0a16_1_v2 (p1 : Int64) (kc_1_0 : (Nat → Int64) → (Nat → Int64)) (ih_1 : Int32 → (Nat → Int64) → (Nat → Int64)) (v3_1 : Int32) (g_a_2 : Nat → Int64) : (Nat → Int64) :=
  if (160 : Int32) ≤ v3_1 then
    kc_1_0 g_a_2
  else
    zL (vp_updL g_a_2 (Int32.toNatClampNeg v3_1) p1) fun f_4 : Nat → Int64 =>
    zL (v3_1 + Int32.ofInt 1) fun x_5 : Int32 =>
    ih_1 x_5 f_4
noncomputable def L_J7_fill_d0a16_1_v2 (p1 : Int64) (kc_1_0 : (Nat → Int64) → (Nat → Int64)) : Nat → Int32 → (Nat → Int64) → (Nat → Int64) := zLp (fun _ _ => (fun _ => 0)) (B_J7_fill_d0a16_1_v2 p1 kc_1_0)
theorem L_J7_fill_d0a16_1_v2_s {p1 : Int64} {kc_1_0 : ((Nat → Int64) → (Nat → Int64))} {t : Nat} {v3_1 : Int32} {g_a_2 : (Nat → Int64)} : L_J7_fill_d0a16_1_v2 p1 kc_1_0 (t + 1) v3_1 g_a_2 = B_J7_fill_d0a16_1_v2 p1 kc_1_0 (L_J7_fill_d0a16_1_v2 p1 kc_1_0 t) v3_1 g_a_2 := rfl
noncomputable def F_J7_fill_d0a16_v2 (p1 : Int64) (f_a : Nat → Int64) : (Nat → Int64) :=
  L_J7_fill_d0a16_1_v2 p1 K_J7_fill_d0a16_1_0_v2 162 (0 : Int32) f_a
noncomputable def F_X6_isThere (rw_width : Int32) : Int32 :=
  if rw_width = (-1 : Int32) then
    (0 : Int32)
  else
    (1 : Int32)
noncomputable def F_X6_make (p1 : Int32) (p2 : Int32) (f_rw_numbers : Nat → Int64) : Int32 × Int32 × (Nat → Int64) :=
  zL (F_J7_fill_d0a16_v1 (0 : Int64) f_rw_numbers) fun n_a_2 : Nat → Int64 =>
  (p1, p2, n_a_2)
noncomputable def F_X6_hasSpan (p1 : Int32) (p2 : Int32) (rw_size : Int32) : Int32 :=
  if p1 < (0 : Int32) then
    (0 : Int32)
  else
    if p2 < (0 : Int32) then
      (0 : Int32)
    else
      if rw_size < p2 then
        (0 : Int32)
      else
        zL (rw_size - p2) fun x_4 : Int32 =>
        if x_4 < p1 then
          (0 : Int32)
        else
          (1 : Int32)
noncomputable def F_X6_put (p1 : Int32) (p2 : Int64) (rw_width : Int32) (f_rw_numbers : Nat → Int64) : (Nat → Int64) :=
  if rw_width = (0 : Int32) then
    zL ((p2).toInt32) fun x_2 : Int32 =>
    zL ((x_2).toInt8.toInt32) fun x_3 : Int32 =>
    zL ((x_3).toInt64) fun x_4 : Int64 =>
    zL (vp_updL f_rw_numbers (Int32.toNatClampNeg p1) x_4) fun f_5 : Nat → Int64 =>
    f_5
  else
    if rw_width = (1 : Int32) then
      zL ((p2).toInt32) fun x_6 : Int32 =>
      zL ((x_6).toInt16.toInt32) fun x_7 : Int32 =>
      zL ((x_7).toInt64) fun x_8 : Int64 =>
      zL (vp_updL f_rw_numbers (Int32.toNatClampNeg p1) x_8) fun f_9 : Nat → Int64 =>
      f_9
    else
      if rw_width = (2 : Int32) then
        zL ((p2).toInt32) fun x_10 : Int32 =>
        zL ((x_10).toInt64) fun x_11 : Int64 =>
        zL (vp_updL f_rw_numbers (Int32.toNatClampNeg p1) x_11) fun f_12 : Nat → Int64 =>
        f_12
      else
        zL (vp_updL f_rw_numbers (Int32.toNatClampNeg p1) p2) fun f_1 : Nat → Int64 =>
        f_1
noncomputable def F_X3_unsure (nw_known : Int32) (tn_strayers : Int32) : Int32 :=
  zL (nw_known ^^^ (-1 : Int32)) fun x_1 : Int32 =>
  zL (tn_strayers &&& x_1) fun x_2 : Int32 =>
  x_2
noncomputable def F_X3_thought (p1 : Int32) (p2 : Int32) (p3 : Int32) (nw_known : Int32) (nw_gone : Int32) (tn_strayers : Int32) (f_tn_shows : Nat → Int32) (f_tn_told : Nat → Int32) (f_tn_strayParts : Nat → Int32) (f_tn_strayCourts : Nat → Int32) : Int32 :=
  zL (F_X3_unsure nw_known tn_strayers) fun r_1 : Int32 =>
  zL (F_X9_has r_1 p1) fun r_2 : Int32 =>
  if r_2 = (0 : Int32) then
    zL (F_X7_showsOf p1 p3 nw_gone f_tn_shows f_tn_told f_tn_strayCourts) fun r_19 : Int32 =>
    zL (F_X9_has r_19 p2) fun r_20 : Int32 =>
    if r_20 = (0 : Int32) then
      (0 : Int32)
    else
      (100 : Int32)
  else
    zL (f_tn_strayParts (Int32.toNatClampNeg p1)) fun x_4 : Int32 =>
    zL (F_X7_showsOf p1 p3 (0 : Int32) f_tn_shows f_tn_told f_tn_strayCourts) fun r_5 : Int32 =>
    zL (F_X9_has r_5 p2) fun r_6 : Int32 =>
    if r_6 = (0 : Int32) then
      zL ((1 : Int32) <<< (p1 &&& 31)) fun x_8 : Int32 =>
      zL (F_X7_showsOf p1 p3 x_8 f_tn_shows f_tn_told f_tn_strayCourts) fun r_9 : Int32 =>
      zL (F_X9_has r_9 p2) fun r_10 : Int32 =>
      if r_10 = (0 : Int32) then
        (0 : Int32)
      else
        zL ((0 : Int32) + x_4) fun x_12 : Int32 =>
        x_12
    else
      zL ((100 : Int32) - x_4) fun x_13 : Int32 =>
      zL ((1 : Int32) <<< (p1 &&& 31)) fun x_14 : Int32 =>
      zL (F_X7_showsOf p1 p3 x_14 f_tn_shows f_tn_told f_tn_strayCourts) fun r_15 : Int32 =>
      zL (F_X9_has r_15 p2) fun r_16 : Int32 =>
      if r_16 = (0 : Int32) then
        x_13
      else
        zL (x_13 + x_4) fun x_18 : Int32 =>
        x_18
noncomputable def F_X9_isSlot (p1 : Int32) : Int32 :=
  if p1 < (0 : Int32) then
    (0 : Int32)
  else
    if (4 : Int32) ≤ p1 then
      (0 : Int32)
    else
      (1 : Int32)
noncomputable def F_X9_isImage (p1 : Int32) : Int32 :=
  if p1 < (0 : Int32) then
    (0 : Int32)
  else
    if (3 : Int32) ≤ p1 then
      (0 : Int32)
    else
      (1 : Int32)
noncomputable def F_X9_names (p1 : Int32) (nw_names : Int32) (tn_people : Int32) : Int32 × Int32 :=
  zL (F_X7_hasAll p1 tn_people) fun r_1 : Int32 =>
  if r_1 = (0 : Int32) then
    ((-2 : Int32), nw_names)
  else
    (nw_names, p1)
noncomputable def F_X9_strayed (p1 : Int32) (nw_strayed : Int32) (tn_strayers : Int32) : Int32 × Int32 :=
  zL (tn_strayers ^^^ (-1 : Int32)) fun x_1 : Int32 =>
  zL (p1 &&& x_1) fun x_2 : Int32 =>
  if x_2 = (0 : Int32) then
    (nw_strayed, p1)
  else
    ((-2 : Int32), nw_strayed)
noncomputable def F_X9_where (p1 : Int32) (p2 : Int32) (nw_strayed : Int32) (tn_hours : Int32) (tn_people : Int32) (f_tn_told : Nat → Int32) (f_tn_strayCourts : Nat → Int32) : Int32 :=
  zL (F_X7_hasPerson p1 tn_people) fun r_1 : Int32 =>
  if r_1 = (0 : Int32) then
    (-2 : Int32)
  else
    zL (F_X7_hasHour p2 tn_hours) fun r_3 : Int32 =>
    if r_3 = (0 : Int32) then
      (-2 : Int32)
    else
      zL (F_X7_courtOf p1 p2 nw_strayed f_tn_told f_tn_strayCourts) fun r_5 : Int32 =>
      r_5
noncomputable def F_X9_within (p1 : Int32) (p2 : Int32) (nw_strayed : Int32) (tn_hours : Int32) (tn_courts : Int32) (tn_people : Int32) (f_tn_shows : Nat → Int32) (f_tn_told : Nat → Int32) (f_tn_strayCourts : Nat → Int32) : Int32 :=
  zL (F_X7_hasCourt p1 tn_courts) fun r_1 : Int32 =>
  if r_1 = (0 : Int32) then
    (-2 : Int32)
  else
    zL (F_X7_hasHour p2 tn_hours) fun r_3 : Int32 =>
    if r_3 = (0 : Int32) then
      (-2 : Int32)
    else
      zL (F_X7_inside p1 p2 nw_strayed tn_people f_tn_shows f_tn_told f_tn_strayCourts) fun r_5 : Int32 =>
      r_5
noncomputable def F_X9_depth (p1 : Int32) (tn_courts : Int32) (f_tn_above : Nat → Int32) : Int32 :=
  zL (F_X7_hasCourt p1 tn_courts) fun r_1 : Int32 =>
  if r_1 = (0 : Int32) then
    (-2 : Int32)
  else
    zL (f_tn_above (Int32.toNatClampNeg p1)) fun x_3 : Int32 =>
    zL (F_J6_bitCount_0f7a4 x_3) fun r_4 : Int32 =>
    r_4
noncomputable def F_X9_lies (p1 : Int32) (p2 : Int32) (tn_courts : Int32) (f_tn_above : Nat → Int32) : Int32 :=
  zL (F_X7_hasCourt p1 tn_courts) fun r_1 : Int32 =>
  if r_1 = (0 : Int32) then
    (-2 : Int32)
  else
    zL (F_X7_hasCourt p2 tn_courts) fun r_3 : Int32 =>
    if r_3 = (0 : Int32) then
      (-2 : Int32)
    else
      zL (F_X7_isFree p1 p2 f_tn_above) fun r_5 : Int32 =>
      if r_5 = (0 : Int32) then
        (0 : Int32)
      else
        (1 : Int32)
noncomputable def F_X9_leads (p1 : Int32) (p2 : Int32) (tn_courts : Int32) (tn_gateCount : Int32) (f_tn_oneEnd : Nat → Int32) (f_tn_otherEnd : Nat → Int32) : Int32 :=
  zL (F_X7_hasGate p1 tn_gateCount) fun r_1 : Int32 =>
  if r_1 = (0 : Int32) then
    (-2 : Int32)
  else
    zL (F_X7_hasCourt p2 tn_courts) fun r_3 : Int32 =>
    if r_3 = (0 : Int32) then
      (-2 : Int32)
    else
      zL (F_X7_beyond p1 p2 f_tn_oneEnd f_tn_otherEnd) fun r_5 : Int32 =>
      r_5
noncomputable def F_X9_keys (p1 : Int32) (p2 : Int32) (p3 : Int32) (nw_strayed : Int32) (nw_names : Int32) (tn_hours : Int32) (tn_courts : Int32) (tn_gateCount : Int32) (tn_people : Int32) (f_tn_above : Nat → Int32) (f_tn_shows : Nat → Int32) (f_tn_oneEnd : Nat → Int32) (f_tn_otherEnd : Nat → Int32) (f_tn_told : Nat → Int32) (f_tn_strayCourts : Nat → Int32) : Int32 :=
  zL (F_X7_hasPassage p1 p2 p3 tn_hours tn_courts tn_gateCount) fun r_1 : Int32 =>
  if r_1 = (0 : Int32) then
    (-2 : Int32)
  else
    zL (F_X7_beyond p1 p2 f_tn_oneEnd f_tn_otherEnd) fun r_3 : Int32 =>
    if r_3 = (-1 : Int32) then
      (-1 : Int32)
    else
      zL (F_X7_isFree p2 r_3 f_tn_above) fun r_5 : Int32 =>
      if r_5 = (0 : Int32) then
        zL (F_X7_inside r_3 p3 nw_strayed tn_people f_tn_shows f_tn_told f_tn_strayCourts) fun r_7 : Int32 =>
        zL (nw_names &&& r_7) fun x_8 : Int32 =>
        x_8
      else
        (0 : Int32)
noncomputable def K_X9_empty_1_0 (v3_4 : Int32) : Int32 :=
  v3_4
noncomputable def K_X9_empty_1_1 (v3_4 : Int32) : Int32 :=
  v3_4
noncomputable def B_X9_empty_1 (p1 : Int32) (nw_strayed : Int32) (tn_people : Int32) (f_tn_shows : Nat → Int32) (f_tn_told : Nat → Int32) (f_tn_strayCourts : Nat → Int32) (kc_1_0 : Int32 → Int32) (kc_1_1 : Int32 → Int32) (ih_1 : Int32 → Int32 → Int32) (v3_4 : Int32) (v4_5 : Int32) : Int32 :=
  if v4_5 < (0 : Int32) then
    kc_1_0 v3_4
  else
    zL (F_X7_inside p1 v4_5 nw_strayed tn_people f_tn_shows f_tn_told f_tn_strayCourts) fun r_7 : Int32 =>
    if r_7 = (0 : Int32) then
      zL (v4_5 + Int32.ofInt (-1)) fun x_9 : Int32 =>
      ih_1 v4_5 x_9
    else
      kc_1_1 v3_4
noncomputable def L_X9_empty_1 (p1 : Int32) (nw_strayed : Int32) (tn_people : Int32) (f_tn_shows : Nat → Int32) (f_tn_told : Nat → Int32) (f_tn_strayCourts : Nat → Int32) (kc_1_0 : Int32 → Int32) (kc_1_1 : Int32 → Int32) : Nat → Int32 → Int32 → Int32 := zLp (fun _ _ => 0) (B_X9_empty_1 p1 nw_strayed tn_people f_tn_shows f_tn_told f_tn_strayCourts kc_1_0 kc_1_1)
theorem L_X9_empty_1_s {p1 : Int32} {nw_strayed : Int32} {tn_people : Int32} {f_tn_shows : (Nat → Int32)} {f_tn_told : (Nat → Int32)} {f_tn_strayCourts : (Nat → Int32)} {kc_1_0 : (Int32 → Int32)} {kc_1_1 : (Int32 → Int32)} {t : Nat} {v3_4 : Int32} {v4_5 : Int32} : L_X9_empty_1 p1 nw_strayed tn_people f_tn_shows f_tn_told f_tn_strayCourts kc_1_0 kc_1_1 (t + 1) v3_4 v4_5 = B_X9_empty_1 p1 nw_strayed tn_people f_tn_shows f_tn_told f_tn_strayCourts kc_1_0 kc_1_1 (L_X9_empty_1 p1 nw_strayed tn_people f_tn_shows f_tn_told f_tn_strayCourts kc_1_0 kc_1_1 t) v3_4 v4_5 := rfl
noncomputable def F_X9_empty (p1 : Int32) (nw_strayed : Int32) (tn_hours : Int32) (tn_courts : Int32) (tn_people : Int32) (f_tn_shows : Nat → Int32) (f_tn_told : Nat → Int32) (f_tn_strayCourts : Nat → Int32) : Int32 :=
  zL (F_X7_hasCourt p1 tn_courts) fun r_1 : Int32 =>
  if r_1 = (0 : Int32) then
    (-2 : Int32)
  else
    zL (tn_hours - (1 : Int32)) fun x_3 : Int32 =>
    L_X9_empty_1 p1 nw_strayed tn_people f_tn_shows f_tn_told f_tn_strayCourts K_X9_empty_1_0 K_X9_empty_1_1 50 tn_hours x_3
noncomputable def K_X9_hollow_1_0 (v3_4 : Int32) : Int32 :=
  v3_4
noncomputable def B_X9_hollow_1 (tn_hours : Int32) (p1 : Int32) (nw_strayed : Int32) (tn_people : Int32) (f_tn_shows : Nat → Int32) (f_tn_told : Nat → Int32) (f_tn_strayCourts : Nat → Int32) (kc_1_0 : Int32 → Int32) (ih_1 : Int32 → Int32 → Int32) (v3_4 : Int32) (v4_3 : Int32) : Int32 :=
  if tn_hours ≤ v4_3 then
    kc_1_0 v3_4
  else
    zL (F_X7_inside p1 v4_3 nw_strayed tn_people f_tn_shows f_tn_told f_tn_strayCourts) fun r_6 : Int32 =>
    if r_6 = (0 : Int32) then
      zL (v3_4 + Int32.ofInt 1) fun x_9 : Int32 =>
      zL (v4_3 + Int32.ofInt 1) fun x_10 : Int32 =>
      ih_1 x_9 x_10
    else
      zL (v4_3 + Int32.ofInt 1) fun x_8 : Int32 =>
      ih_1 v3_4 x_8
noncomputable def L_X9_hollow_1 (tn_hours : Int32) (p1 : Int32) (nw_strayed : Int32) (tn_people : Int32) (f_tn_shows : Nat → Int32) (f_tn_told : Nat → Int32) (f_tn_strayCourts : Nat → Int32) (kc_1_0 : Int32 → Int32) : Nat → Int32 → Int32 → Int32 := zLp (fun _ _ => 0) (B_X9_hollow_1 tn_hours p1 nw_strayed tn_people f_tn_shows f_tn_told f_tn_strayCourts kc_1_0)
theorem L_X9_hollow_1_s {tn_hours : Int32} {p1 : Int32} {nw_strayed : Int32} {tn_people : Int32} {f_tn_shows : (Nat → Int32)} {f_tn_told : (Nat → Int32)} {f_tn_strayCourts : (Nat → Int32)} {kc_1_0 : (Int32 → Int32)} {t : Nat} {v3_4 : Int32} {v4_3 : Int32} : L_X9_hollow_1 tn_hours p1 nw_strayed tn_people f_tn_shows f_tn_told f_tn_strayCourts kc_1_0 (t + 1) v3_4 v4_3 = B_X9_hollow_1 tn_hours p1 nw_strayed tn_people f_tn_shows f_tn_told f_tn_strayCourts kc_1_0 (L_X9_hollow_1 tn_hours p1 nw_strayed tn_people f_tn_shows f_tn_told f_tn_strayCourts kc_1_0 t) v3_4 v4_3 := rfl
noncomputable def F_X9_hollow (p1 : Int32) (nw_strayed : Int32) (tn_hours : Int32) (tn_courts : Int32) (tn_people : Int32) (f_tn_shows : Nat → Int32) (f_tn_told : Nat → Int32) (f_tn_strayCourts : Nat → Int32) : Int32 :=
  zL (F_X7_hasCourt p1 tn_courts) fun r_1 : Int32 =>
  if r_1 = (0 : Int32) then
    (-2 : Int32)
  else
    L_X9_hollow_1 tn_hours p1 nw_strayed tn_people f_tn_shows f_tn_told f_tn_strayCourts K_X9_hollow_1_0 50 (0 : Int32) (0 : Int32)
noncomputable def K_X9_keeper_2_0 (v3_4 : Int32) (v5_3 : Int32) (ih_1 : Int32 → Int32 → Int32 → Int32) (v4_5 : Int32) (v6_8 : Int32) : Int32 :=
  if v6_8 ≤ v3_4 then
    zL (v5_3 + Int32.ofInt 1) fun x_11 : Int32 =>
    ih_1 v3_4 v4_5 x_11
  else
    zL (v5_3 + Int32.ofInt 1) fun x_12 : Int32 =>
    ih_1 v6_8 v5_3 x_12
noncomputable def B_X9_keeper_2 (tn_hours : Int32) (p1 : Int32) (nw_strayed : Int32) (tn_people : Int32) (f_tn_shows : Nat → Int32) (f_tn_told : Nat → Int32) (f_tn_strayCourts : Nat → Int32) (v5_3 : Int32) (kc_2_0 : Int32 → Int32) (ih_2 : Int32 → Int32 → Int32) (v6_8 : Int32) (v7_7 : Int32) : Int32 :=
  if tn_hours ≤ v7_7 then
    kc_2_0 v6_8
  else
    zL (F_X7_inside p1 v7_7 nw_strayed tn_people f_tn_shows f_tn_told f_tn_strayCourts) fun r_13 : Int32 =>
    zL ((1 : Int32) <<< (v5_3 &&& 31)) fun x_14 : Int32 =>
    if r_13 = x_14 then
      zL (v6_8 + Int32.ofInt 1) fun x_17 : Int32 =>
      zL (v7_7 + Int32.ofInt 1) fun x_18 : Int32 =>
      ih_2 x_17 x_18
    else
      zL (v7_7 + Int32.ofInt 1) fun x_16 : Int32 =>
      ih_2 v6_8 x_16
noncomputable def L_X9_keeper_2 (tn_hours : Int32) (p1 : Int32) (nw_strayed : Int32) (tn_people : Int32) (f_tn_shows : Nat → Int32) (f_tn_told : Nat → Int32) (f_tn_strayCourts : Nat → Int32) (v5_3 : Int32) (kc_2_0 : Int32 → Int32) : Nat → Int32 → Int32 → Int32 := zLp (fun _ _ => 0) (B_X9_keeper_2 tn_hours p1 nw_strayed tn_people f_tn_shows f_tn_told f_tn_strayCourts v5_3 kc_2_0)
theorem L_X9_keeper_2_s {tn_hours : Int32} {p1 : Int32} {nw_strayed : Int32} {tn_people : Int32} {f_tn_shows : (Nat → Int32)} {f_tn_told : (Nat → Int32)} {f_tn_strayCourts : (Nat → Int32)} {v5_3 : Int32} {kc_2_0 : (Int32 → Int32)} {t : Nat} {v6_8 : Int32} {v7_7 : Int32} : L_X9_keeper_2 tn_hours p1 nw_strayed tn_people f_tn_shows f_tn_told f_tn_strayCourts v5_3 kc_2_0 (t + 1) v6_8 v7_7 = B_X9_keeper_2 tn_hours p1 nw_strayed tn_people f_tn_shows f_tn_told f_tn_strayCourts v5_3 kc_2_0 (L_X9_keeper_2 tn_hours p1 nw_strayed tn_people f_tn_shows f_tn_told f_tn_strayCourts v5_3 kc_2_0 t) v6_8 v7_7 := rfl
noncomputable def K_X9_keeper_1_0 (v4_5 : Int32) : Int32 :=
  v4_5
noncomputable def B_X9_keeper_1 (tn_people : Int32) (tn_hours : Int32) (p1 : Int32) (nw_strayed : Int32) (f_tn_shows : Nat → Int32) (f_tn_told : Nat → Int32) (f_tn_strayCourts : Nat → Int32) (kc_1_0 : Int32 → Int32) (ih_1 : Int32 → Int32 → Int32 → Int32) (v3_4 : Int32) (v4_5 : Int32) (v5_3 : Int32) : Int32 :=
  if tn_people ≤ v5_3 then
    kc_1_0 v4_5
  else
    L_X9_keeper_2 tn_hours p1 nw_strayed tn_people f_tn_shows f_tn_told f_tn_strayCourts v5_3 (K_X9_keeper_2_0 v3_4 v5_3 ih_1 v4_5) 50 (0 : Int32) (0 : Int32)
noncomputable def L_X9_keeper_1 (tn_people : Int32) (tn_hours : Int32) (p1 : Int32) (nw_strayed : Int32) (f_tn_shows : Nat → Int32) (f_tn_told : Nat → Int32) (f_tn_strayCourts : Nat → Int32) (kc_1_0 : Int32 → Int32) : Nat → Int32 → Int32 → Int32 → Int32 := zLp (fun _ _ _ => 0) (B_X9_keeper_1 tn_people tn_hours p1 nw_strayed f_tn_shows f_tn_told f_tn_strayCourts kc_1_0)
theorem L_X9_keeper_1_s {tn_people : Int32} {tn_hours : Int32} {p1 : Int32} {nw_strayed : Int32} {f_tn_shows : (Nat → Int32)} {f_tn_told : (Nat → Int32)} {f_tn_strayCourts : (Nat → Int32)} {kc_1_0 : (Int32 → Int32)} {t : Nat} {v3_4 : Int32} {v4_5 : Int32} {v5_3 : Int32} : L_X9_keeper_1 tn_people tn_hours p1 nw_strayed f_tn_shows f_tn_told f_tn_strayCourts kc_1_0 (t + 1) v3_4 v4_5 v5_3 = B_X9_keeper_1 tn_people tn_hours p1 nw_strayed f_tn_shows f_tn_told f_tn_strayCourts kc_1_0 (L_X9_keeper_1 tn_people tn_hours p1 nw_strayed f_tn_shows f_tn_told f_tn_strayCourts kc_1_0 t) v3_4 v4_5 v5_3 := rfl
noncomputable def F_X9_keeper (p1 : Int32) (nw_strayed : Int32) (tn_hours : Int32) (tn_courts : Int32) (tn_people : Int32) (f_tn_shows : Nat → Int32) (f_tn_told : Nat → Int32) (f_tn_strayCourts : Nat → Int32) : Int32 :=
  zL (F_X7_hasCourt p1 tn_courts) fun r_1 : Int32 =>
  if r_1 = (0 : Int32) then
    (-2 : Int32)
  else
    L_X9_keeper_1 tn_people tn_hours p1 nw_strayed f_tn_shows f_tn_told f_tn_strayCourts K_X9_keeper_1_0 12 (0 : Int32) (-1 : Int32) (0 : Int32)
noncomputable def F_X9_hear (p1 : Int32) (p2 : Int32) (p3 : Int32) (p4 : Int32) (nw_known : Int32) (nw_gone : Int32) (tn_hours : Int32) (tn_courts : Int32) (tn_people : Int32) (tn_strayers : Int32) (f_tn_shows : Nat → Int32) (f_tn_told : Nat → Int32) (f_tn_strayCourts : Nat → Int32) : Int32 × Int32 × Int32 :=
  zL (F_X7_hasPerson p1 tn_people) fun r_1 : Int32 =>
  if r_1 = (0 : Int32) then
    ((-2 : Int32), nw_known, nw_gone)
  else
    zL (F_X7_hasCourt p2 tn_courts) fun r_3 : Int32 =>
    if r_3 = (0 : Int32) then
      ((-2 : Int32), nw_known, nw_gone)
    else
      zL (F_X7_hasHour p3 tn_hours) fun r_5 : Int32 =>
      if r_5 = (0 : Int32) then
        ((-2 : Int32), nw_known, nw_gone)
      else
        zL ((1 : Int32) <<< (p1 &&& 31)) fun x_7 : Int32 =>
        zL (F_X9_has tn_strayers p1) fun r_8 : Int32 =>
        if r_8 = (0 : Int32) then
          zL (F_X9_has nw_known p1) fun r_10 : Int32 =>
          if r_10 = (0 : Int32) then
            zL (F_X7_showsOf p1 p3 (0 : Int32) f_tn_shows f_tn_told f_tn_strayCourts) fun r_12 : Int32 =>
            zL (F_X9_has r_12 p2) fun r_13 : Int32 =>
            if r_13 = p4 then
              zL (x_7 &&& tn_strayers) fun x_15 : Int32 =>
              zL (nw_known ||| x_15) fun x_16 : Int32 =>
              ((1 : Int32), x_16, nw_gone)
            else
              ((-5 : Int32), nw_known, nw_gone)
          else
            zL (F_X9_has nw_gone p1) fun r_17 : Int32 =>
            if r_17 = (0 : Int32) then
              zL (F_X7_showsOf p1 p3 (0 : Int32) f_tn_shows f_tn_told f_tn_strayCourts) fun r_19 : Int32 =>
              zL (F_X9_has r_19 p2) fun r_20 : Int32 =>
              if r_20 = p4 then
                zL (x_7 &&& tn_strayers) fun x_22 : Int32 =>
                zL (nw_known ||| x_22) fun x_23 : Int32 =>
                ((1 : Int32), x_23, nw_gone)
              else
                ((-5 : Int32), nw_known, nw_gone)
            else
              ((-5 : Int32), nw_known, nw_gone)
        else
          zL (F_X9_has nw_known p1) fun r_24 : Int32 =>
          if r_24 = (0 : Int32) then
            zL (F_X9_has nw_known p1) fun r_26 : Int32 =>
            if r_26 = (0 : Int32) then
              zL (F_X7_showsOf p1 p3 x_7 f_tn_shows f_tn_told f_tn_strayCourts) fun r_28 : Int32 =>
              zL (F_X9_has r_28 p2) fun r_29 : Int32 =>
              if r_29 = p4 then
                zL (F_X7_showsOf p1 p3 (0 : Int32) f_tn_shows f_tn_told f_tn_strayCourts) fun r_36 : Int32 =>
                zL (F_X9_has r_36 p2) fun r_37 : Int32 =>
                if r_37 = p4 then
                  ((0 : Int32), nw_known, nw_gone)
                else
                  zL (x_7 &&& tn_strayers) fun x_39 : Int32 =>
                  zL (nw_known ||| x_39) fun x_40 : Int32 =>
                  zL (nw_gone ||| x_7) fun x_41 : Int32 =>
                  ((1 : Int32), x_40, x_41)
              else
                zL (F_X7_showsOf p1 p3 (0 : Int32) f_tn_shows f_tn_told f_tn_strayCourts) fun r_31 : Int32 =>
                zL (F_X9_has r_31 p2) fun r_32 : Int32 =>
                if r_32 = p4 then
                  zL (x_7 &&& tn_strayers) fun x_34 : Int32 =>
                  zL (nw_known ||| x_34) fun x_35 : Int32 =>
                  ((1 : Int32), x_35, nw_gone)
                else
                  ((-5 : Int32), nw_known, nw_gone)
            else
              zL (F_X9_has nw_gone p1) fun r_42 : Int32 =>
              if r_42 = (0 : Int32) then
                zL (F_X7_showsOf p1 p3 x_7 f_tn_shows f_tn_told f_tn_strayCourts) fun r_50 : Int32 =>
                zL (F_X9_has r_50 p2) fun r_51 : Int32 =>
                if r_51 = p4 then
                  zL (F_X7_showsOf p1 p3 (0 : Int32) f_tn_shows f_tn_told f_tn_strayCourts) fun r_58 : Int32 =>
                  zL (F_X9_has r_58 p2) fun r_59 : Int32 =>
                  if r_59 = p4 then
                    ((0 : Int32), nw_known, nw_gone)
                  else
                    zL (x_7 &&& tn_strayers) fun x_61 : Int32 =>
                    zL (nw_known ||| x_61) fun x_62 : Int32 =>
                    zL (nw_gone ||| x_7) fun x_63 : Int32 =>
                    ((1 : Int32), x_62, x_63)
                else
                  zL (F_X7_showsOf p1 p3 (0 : Int32) f_tn_shows f_tn_told f_tn_strayCourts) fun r_53 : Int32 =>
                  zL (F_X9_has r_53 p2) fun r_54 : Int32 =>
                  if r_54 = p4 then
                    zL (x_7 &&& tn_strayers) fun x_56 : Int32 =>
                    zL (nw_known ||| x_56) fun x_57 : Int32 =>
                    ((1 : Int32), x_57, nw_gone)
                  else
                    ((-5 : Int32), nw_known, nw_gone)
              else
                zL (F_X7_showsOf p1 p3 x_7 f_tn_shows f_tn_told f_tn_strayCourts) fun r_44 : Int32 =>
                zL (F_X9_has r_44 p2) fun r_45 : Int32 =>
                if r_45 = p4 then
                  zL (x_7 &&& tn_strayers) fun x_47 : Int32 =>
                  zL (nw_known ||| x_47) fun x_48 : Int32 =>
                  zL (nw_gone ||| x_7) fun x_49 : Int32 =>
                  ((1 : Int32), x_48, x_49)
                else
                  ((-5 : Int32), nw_known, nw_gone)
          else
            zL (F_X9_has nw_gone p1) fun r_64 : Int32 =>
            if r_64 = (0 : Int32) then
              zL (F_X9_has nw_known p1) fun r_66 : Int32 =>
              if r_66 = (0 : Int32) then
                zL (F_X7_showsOf p1 p3 (0 : Int32) f_tn_shows f_tn_told f_tn_strayCourts) fun r_68 : Int32 =>
                zL (F_X9_has r_68 p2) fun r_69 : Int32 =>
                if r_69 = p4 then
                  zL (x_7 &&& tn_strayers) fun x_71 : Int32 =>
                  zL (nw_known ||| x_71) fun x_72 : Int32 =>
                  ((1 : Int32), x_72, nw_gone)
                else
                  ((-5 : Int32), nw_known, nw_gone)
              else
                zL (F_X9_has nw_gone p1) fun r_73 : Int32 =>
                if r_73 = (0 : Int32) then
                  zL (F_X7_showsOf p1 p3 (0 : Int32) f_tn_shows f_tn_told f_tn_strayCourts) fun r_75 : Int32 =>
                  zL (F_X9_has r_75 p2) fun r_76 : Int32 =>
                  if r_76 = p4 then
                    zL (x_7 &&& tn_strayers) fun x_78 : Int32 =>
                    zL (nw_known ||| x_78) fun x_79 : Int32 =>
                    ((1 : Int32), x_79, nw_gone)
                  else
                    ((-5 : Int32), nw_known, nw_gone)
                else
                  ((-5 : Int32), nw_known, nw_gone)
            else
              zL (F_X9_has nw_known p1) fun r_80 : Int32 =>
              if r_80 = (0 : Int32) then
                zL (F_X7_showsOf p1 p3 x_7 f_tn_shows f_tn_told f_tn_strayCourts) fun r_82 : Int32 =>
                zL (F_X9_has r_82 p2) fun r_83 : Int32 =>
                if r_83 = p4 then
                  zL (F_X7_showsOf p1 p3 (0 : Int32) f_tn_shows f_tn_told f_tn_strayCourts) fun r_90 : Int32 =>
                  zL (F_X9_has r_90 p2) fun r_91 : Int32 =>
                  if r_91 = p4 then
                    ((0 : Int32), nw_known, nw_gone)
                  else
                    zL (x_7 &&& tn_strayers) fun x_93 : Int32 =>
                    zL (nw_known ||| x_93) fun x_94 : Int32 =>
                    zL (nw_gone ||| x_7) fun x_95 : Int32 =>
                    ((1 : Int32), x_94, x_95)
                else
                  zL (F_X7_showsOf p1 p3 (0 : Int32) f_tn_shows f_tn_told f_tn_strayCourts) fun r_85 : Int32 =>
                  zL (F_X9_has r_85 p2) fun r_86 : Int32 =>
                  if r_86 = p4 then
                    zL (x_7 &&& tn_strayers) fun x_88 : Int32 =>
                    zL (nw_known ||| x_88) fun x_89 : Int32 =>
                    ((1 : Int32), x_89, nw_gone)
                  else
                    ((-5 : Int32), nw_known, nw_gone)
              else
                zL (F_X9_has nw_gone p1) fun r_96 : Int32 =>
                if r_96 = (0 : Int32) then
                  zL (F_X7_showsOf p1 p3 x_7 f_tn_shows f_tn_told f_tn_strayCourts) fun r_104 : Int32 =>
                  zL (F_X9_has r_104 p2) fun r_105 : Int32 =>
                  if r_105 = p4 then
                    zL (F_X7_showsOf p1 p3 (0 : Int32) f_tn_shows f_tn_told f_tn_strayCourts) fun r_112 : Int32 =>
                    zL (F_X9_has r_112 p2) fun r_113 : Int32 =>
                    if r_113 = p4 then
                      ((0 : Int32), nw_known, nw_gone)
                    else
                      zL (x_7 &&& tn_strayers) fun x_115 : Int32 =>
                      zL (nw_known ||| x_115) fun x_116 : Int32 =>
                      zL (nw_gone ||| x_7) fun x_117 : Int32 =>
                      ((1 : Int32), x_116, x_117)
                  else
                    zL (F_X7_showsOf p1 p3 (0 : Int32) f_tn_shows f_tn_told f_tn_strayCourts) fun r_107 : Int32 =>
                    zL (F_X9_has r_107 p2) fun r_108 : Int32 =>
                    if r_108 = p4 then
                      zL (x_7 &&& tn_strayers) fun x_110 : Int32 =>
                      zL (nw_known ||| x_110) fun x_111 : Int32 =>
                      ((1 : Int32), x_111, nw_gone)
                    else
                      ((-5 : Int32), nw_known, nw_gone)
                else
                  zL (F_X7_showsOf p1 p3 x_7 f_tn_shows f_tn_told f_tn_strayCourts) fun r_98 : Int32 =>
                  zL (F_X9_has r_98 p2) fun r_99 : Int32 =>
                  if r_99 = p4 then
                    zL (x_7 &&& tn_strayers) fun x_101 : Int32 =>
                    zL (nw_known ||| x_101) fun x_102 : Int32 =>
                    zL (nw_gone ||| x_7) fun x_103 : Int32 =>
                    ((1 : Int32), x_102, x_103)
                  else
                    ((-5 : Int32), nw_known, nw_gone)
noncomputable def F_X9_forget (nw_known : Int32) : Int32 × Int32 × Int32 :=
  zL (F_J6_bitCount_0f7a4 nw_known) fun r_1 : Int32 =>
  (r_1, (0 : Int32), (0 : Int32))
noncomputable def F_X9_think (p1 : Int32) (p2 : Int32) (p3 : Int32) (nw_known : Int32) (nw_gone : Int32) (tn_hours : Int32) (tn_courts : Int32) (tn_people : Int32) (tn_strayers : Int32) (f_tn_shows : Nat → Int32) (f_tn_told : Nat → Int32) (f_tn_strayParts : Nat → Int32) (f_tn_strayCourts : Nat → Int32) : Int32 :=
  zL (F_X7_hasPerson p1 tn_people) fun r_1 : Int32 =>
  if r_1 = (0 : Int32) then
    (-2 : Int32)
  else
    zL (F_X7_hasCourt p2 tn_courts) fun r_3 : Int32 =>
    if r_3 = (0 : Int32) then
      (-2 : Int32)
    else
      zL (F_X7_hasHour p3 tn_hours) fun r_5 : Int32 =>
      if r_5 = (0 : Int32) then
        (-2 : Int32)
      else
        zL (F_X3_thought p1 p2 p3 nw_known nw_gone tn_strayers f_tn_shows f_tn_told f_tn_strayParts f_tn_strayCourts) fun r_7 : Int32 =>
        r_7
noncomputable def K_X9_likely_1_0 (p4 : Int32) (v8_11 : Int32) (v7_10 : Int32) : Int32 :=
  if p4 = (0 : Int32) then
    v8_11
  else
    v7_10
noncomputable def B_X9_likely_1 (tn_people : Int32) (nw_names : Int32) (r_5 : Int32) (p3 : Int32) (nw_known : Int32) (nw_gone : Int32) (tn_strayers : Int32) (f_tn_shows : Nat → Int32) (f_tn_told : Nat → Int32) (f_tn_strayParts : Nat → Int32) (f_tn_strayCourts : Nat → Int32) (kc_1_0 : Int32 → Int32 → Int32) (ih_1 : Int32 → Int32 → Int32 → Int32) (v7_10 : Int32) (v8_11 : Int32) (v9_9 : Int32) : Int32 :=
  if tn_people ≤ v9_9 then
    kc_1_0 v8_11 v7_10
  else
    zL (F_X9_has nw_names v9_9) fun r_14 : Int32 =>
    if r_14 = (0 : Int32) then
      zL (v9_9 + Int32.ofInt 1) fun x_16 : Int32 =>
      ih_1 v7_10 v8_11 x_16
    else
      zL (F_X3_thought v9_9 r_5 p3 nw_known nw_gone tn_strayers f_tn_shows f_tn_told f_tn_strayParts f_tn_strayCourts) fun r_17 : Int32 =>
      if r_17 ≤ v7_10 then
        zL (v9_9 + Int32.ofInt 1) fun x_19 : Int32 =>
        ih_1 v7_10 v8_11 x_19
      else
        zL (F_X3_thought v9_9 r_5 p3 nw_known nw_gone tn_strayers f_tn_shows f_tn_told f_tn_strayParts f_tn_strayCourts) fun r_20 : Int32 =>
        zL (v9_9 + Int32.ofInt 1) fun x_21 : Int32 =>
        ih_1 r_20 v9_9 x_21
noncomputable def L_X9_likely_1 (tn_people : Int32) (nw_names : Int32) (r_5 : Int32) (p3 : Int32) (nw_known : Int32) (nw_gone : Int32) (tn_strayers : Int32) (f_tn_shows : Nat → Int32) (f_tn_told : Nat → Int32) (f_tn_strayParts : Nat → Int32) (f_tn_strayCourts : Nat → Int32) (kc_1_0 : Int32 → Int32 → Int32) : Nat → Int32 → Int32 → Int32 → Int32 := zLp (fun _ _ _ => 0) (B_X9_likely_1 tn_people nw_names r_5 p3 nw_known nw_gone tn_strayers f_tn_shows f_tn_told f_tn_strayParts f_tn_strayCourts kc_1_0)
theorem L_X9_likely_1_s {tn_people : Int32} {nw_names : Int32} {r_5 : Int32} {p3 : Int32} {nw_known : Int32} {nw_gone : Int32} {tn_strayers : Int32} {f_tn_shows : (Nat → Int32)} {f_tn_told : (Nat → Int32)} {f_tn_strayParts : (Nat → Int32)} {f_tn_strayCourts : (Nat → Int32)} {kc_1_0 : (Int32 → Int32 → Int32)} {t : Nat} {v7_10 : Int32} {v8_11 : Int32} {v9_9 : Int32} : L_X9_likely_1 tn_people nw_names r_5 p3 nw_known nw_gone tn_strayers f_tn_shows f_tn_told f_tn_strayParts f_tn_strayCourts kc_1_0 (t + 1) v7_10 v8_11 v9_9 = B_X9_likely_1 tn_people nw_names r_5 p3 nw_known nw_gone tn_strayers f_tn_shows f_tn_told f_tn_strayParts f_tn_strayCourts kc_1_0 (L_X9_likely_1 tn_people nw_names r_5 p3 nw_known nw_gone tn_strayers f_tn_shows f_tn_told f_tn_strayParts f_tn_strayCourts kc_1_0 t) v7_10 v8_11 v9_9 := rfl
noncomputable def F_X9_likely (p1 : Int32) (p2 : Int32) (p3 : Int32) (p4 : Int32) (nw_names : Int32) (nw_known : Int32) (nw_gone : Int32) (tn_hours : Int32) (tn_courts : Int32) (tn_gateCount : Int32) (tn_people : Int32) (tn_strayers : Int32) (f_tn_above : Nat → Int32) (f_tn_shows : Nat → Int32) (f_tn_oneEnd : Nat → Int32) (f_tn_otherEnd : Nat → Int32) (f_tn_told : Nat → Int32) (f_tn_strayParts : Nat → Int32) (f_tn_strayCourts : Nat → Int32) : Int32 :=
  zL (F_X7_hasPassage p1 p2 p3 tn_hours tn_courts tn_gateCount) fun r_1 : Int32 =>
  if r_1 = (0 : Int32) then
    (-2 : Int32)
  else
    if p4 < (0 : Int32) then
      (-2 : Int32)
    else
      if p4 ≤ (1 : Int32) then
        zL (F_X7_beyond p1 p2 f_tn_oneEnd f_tn_otherEnd) fun r_5 : Int32 =>
        if r_5 = (-1 : Int32) then
          (-1 : Int32)
        else
          zL (F_X7_isFree p2 r_5 f_tn_above) fun r_7 : Int32 =>
          if r_7 = (0 : Int32) then
            L_X9_likely_1 tn_people nw_names r_5 p3 nw_known nw_gone tn_strayers f_tn_shows f_tn_told f_tn_strayParts f_tn_strayCourts (K_X9_likely_1_0 p4) 12 (-1 : Int32) (-1 : Int32) (0 : Int32)
          else
            (-1 : Int32)
      else
        (-2 : Int32)
noncomputable def F_X9_draw (p1 : Int32) (tn_hours : Int32) (tn_people : Int32) (tn_strayers : Int32) (f_tn_strayParts : Nat → Int32) : Int32 :=
  if p1 < (0 : Int32) then
    (-2 : Int32)
  else
    if (2000000000 : Int32) < p1 then
      (-2 : Int32)
    else
      if tn_hours = (0 : Int32) then
        (-2 : Int32)
      else
        zL ((p1).toInt64) fun x_4 : Int64 =>
        zL (F_X7_drawn x_4 tn_people tn_strayers f_tn_strayParts) fun r_5 : Int32 =>
        r_5
noncomputable def K_X9_rowsThere_1_0 (v1_2 : Int32) : Int32 :=
  v1_2
noncomputable def B_X9_rowsThere_1 (r0_width : Int32) (r1_width : Int32) (r2_width : Int32) (r3_width : Int32) (kc_1_0 : Int32 → Int32) (ih_1 : Int32 → Int32 → Int32) (v1_2 : Int32) (v2_1 : Int32) : Int32 :=
  if (4 : Int32) ≤ v2_1 then
    kc_1_0 v1_2
  else
    if v2_1 = (0 : Int32) then
      zL (F_X6_isThere r0_width) fun r_4 : Int32 =>
      if r_4 = (0 : Int32) then
        ih_1 v1_2 (1 : Int32)
      else
        zL (v1_2 + Int32.ofInt 1) fun x_6 : Int32 =>
        ih_1 x_6 (1 : Int32)
    else
      if v2_1 = (1 : Int32) then
        zL (F_X6_isThere r1_width) fun r_7 : Int32 =>
        if r_7 = (0 : Int32) then
          ih_1 v1_2 (2 : Int32)
        else
          zL (v1_2 + Int32.ofInt 1) fun x_9 : Int32 =>
          ih_1 x_9 (2 : Int32)
      else
        if v2_1 = (2 : Int32) then
          zL (F_X6_isThere r2_width) fun r_10 : Int32 =>
          if r_10 = (0 : Int32) then
            ih_1 v1_2 (3 : Int32)
          else
            zL (v1_2 + Int32.ofInt 1) fun x_12 : Int32 =>
            ih_1 x_12 (3 : Int32)
        else
          if v2_1 = (3 : Int32) then
            zL (F_X6_isThere r3_width) fun r_13 : Int32 =>
            if r_13 = (0 : Int32) then
              ih_1 v1_2 (4 : Int32)
            else
              zL (v1_2 + Int32.ofInt 1) fun x_15 : Int32 =>
              ih_1 x_15 (4 : Int32)
          else
            0
noncomputable def L_X9_rowsThere_1 (r0_width : Int32) (r1_width : Int32) (r2_width : Int32) (r3_width : Int32) (kc_1_0 : Int32 → Int32) : Nat → Int32 → Int32 → Int32 := zLp (fun _ _ => 0) (B_X9_rowsThere_1 r0_width r1_width r2_width r3_width kc_1_0)
theorem L_X9_rowsThere_1_s {r0_width : Int32} {r1_width : Int32} {r2_width : Int32} {r3_width : Int32} {kc_1_0 : (Int32 → Int32)} {t : Nat} {v1_2 : Int32} {v2_1 : Int32} : L_X9_rowsThere_1 r0_width r1_width r2_width r3_width kc_1_0 (t + 1) v1_2 v2_1 = B_X9_rowsThere_1 r0_width r1_width r2_width r3_width kc_1_0 (L_X9_rowsThere_1 r0_width r1_width r2_width r3_width kc_1_0 t) v1_2 v2_1 := rfl
noncomputable def F_X9_rowsThere (r0_width : Int32) (r1_width : Int32) (r2_width : Int32) (r3_width : Int32) : Int32 :=
  L_X9_rowsThere_1 r0_width r1_width r2_width r3_width K_X9_rowsThere_1_0 6 (0 : Int32) (0 : Int32)
noncomputable def F_X9_count (p1 : Int32) (h0_tapeLength : Int32) (nw_known : Int32) (tn_hours : Int32) (tn_courts : Int32) (tn_gateCount : Int32) (tn_people : Int32) (tn_lines : Int32) (tn_falseHours : Int32) (tn_strayers : Int32) (tn_deep : Int32) (r0_width : Int32) (r1_width : Int32) (r2_width : Int32) (r3_width : Int32) : Int32 :=
  if p1 = (0 : Int32) then
    tn_courts
  else
    if p1 = (1 : Int32) then
      tn_hours
    else
      if p1 = (2 : Int32) then
        tn_gateCount
      else
        if p1 = (3 : Int32) then
          tn_people
        else
          if p1 = (4 : Int32) then
            tn_lines
          else
            if p1 = (5 : Int32) then
              h0_tapeLength
            else
              if p1 = (6 : Int32) then
                tn_strayers
              else
                if p1 = (7 : Int32) then
                  nw_known
                else
                  if p1 = (8 : Int32) then
                    tn_falseHours
                  else
                    if p1 = (9 : Int32) then
                      if tn_deep = (0 : Int32) then
                        (0 : Int32)
                      else
                        (1 : Int32)
                    else
                      if p1 = (10 : Int32) then
                        zL (F_X9_rowsThere r0_width r1_width r2_width r3_width) fun r_2 : Int32 =>
                        r_2
                      else
                        (-1 : Int32)

noncomputable def K_X10_draws_1_0 (v3_3 : Int32) (w_m0_52_2 : Int64) : Int32 × Int64 :=
  (v3_3, w_m0_52_2)
noncomputable def B_X10_draws_1 (f_m0_people : Nat → Int32) (f_m0_stray : Nat → Int32) (kc_1_0 : Int32 → Int64 → Int32 × Int64) (ih_1 : Int32 → Int32 → Int64 → Int32 × Int64) (v3_3 : Int32) (v4_1 : Int32) (w_m0_52_2 : Int64) : Int32 × Int64 :=
  zL (f_m0_people (Int32.toNatClampNeg (0 : Int32))) fun x_4 : Int32 =>
  if x_4 ≤ v4_1 then
    kc_1_0 v3_3 w_m0_52_2
  else
    zL ((2 : Int32) * v4_1) fun x_6 : Int32 =>
    zL (f_m0_stray (Int32.toNatClampNeg x_6)) fun x_7 : Int32 =>
    if x_7 = (0 : Int32) then
      zL (v4_1 + Int32.ofInt 1) fun x_21 : Int32 =>
      ih_1 v3_3 x_21 w_m0_52_2
    else
      zL (F_X10_drawn w_m0_52_2) fun z_12 : Int32 × Int64 =>
      zL (z_12.1) fun r_9 : Int32 =>
      zL (z_12.2) fun n_m0_10 : Int64 =>
      zL ((2 : Int32) * v4_1) fun x_13 : Int32 =>
      zL (f_m0_stray (Int32.toNatClampNeg x_6)) fun x_14 : Int32 =>
      if x_7 ≤ r_9 then
        zL (v3_3 ||| (0 : Int32)) fun x_16 : Int32 =>
        zL (v4_1 + Int32.ofInt 1) fun x_17 : Int32 =>
        ih_1 x_16 x_17 n_m0_10
      else
        zL ((1 : Int32) <<< (v4_1 &&& 31)) fun x_18 : Int32 =>
        zL (v3_3 ||| x_18) fun x_19 : Int32 =>
        zL (v4_1 + Int32.ofInt 1) fun x_20 : Int32 =>
        ih_1 x_19 x_20 n_m0_10
noncomputable def L_X10_draws_1 (f_m0_people : Nat → Int32) (f_m0_stray : Nat → Int32) (kc_1_0 : Int32 → Int64 → Int32 × Int64) : Nat → Int32 → Int32 → Int64 → Int32 × Int64 := zLp (fun _ _ _ => (0, 0)) (B_X10_draws_1 f_m0_people f_m0_stray kc_1_0)
theorem L_X10_draws_1_s {f_m0_people : (Nat → Int32)} {f_m0_stray : (Nat → Int32)} {kc_1_0 : (Int32 → Int64 → Int32 × Int64)} {t : Nat} {v3_3 : Int32} {v4_1 : Int32} {w_m0_52_2 : Int64} : L_X10_draws_1 f_m0_people f_m0_stray kc_1_0 (t + 1) v3_3 v4_1 w_m0_52_2 = B_X10_draws_1 f_m0_people f_m0_stray kc_1_0 (L_X10_draws_1 f_m0_people f_m0_stray kc_1_0 t) v3_3 v4_1 w_m0_52_2 := rfl
noncomputable def F_X10_draws (p1 : Int64) (f_m0_people : Nat → Int32) (f_m0_stray : Nat → Int32) : Int32 × Int64 :=
  L_X10_draws_1 f_m0_people f_m0_stray K_X10_draws_1_0 12 (0 : Int32) (0 : Int32) p1
noncomputable def F_X10_thinkBy (p1 : Int32) (p2 : Int32) (p3 : Int32) (p4 : Int32) (m0_hostPerson : Int32) (m0_hostCourt : Int32) (f_m0_in : Nat → Int32) (f_m0_at0 : Nat → Int32) (f_m0_stray : Nat → Int32) (f_m0_set : Nat → Int32) : Int32 :=
  zL (F_X10_straysBy p1 p2 f_m0_stray) fun r_1 : Int32 =>
  zL (F_X10_isWithin p1 (1 : Int32) p3 p4 m0_hostPerson m0_hostCourt f_m0_in f_m0_at0 f_m0_stray f_m0_set) fun r_2 : Int32 =>
  if r_2 = (0 : Int32) then
    zL (F_X10_isWithin p1 (0 : Int32) p3 p4 m0_hostPerson m0_hostCourt f_m0_in f_m0_at0 f_m0_stray f_m0_set) fun r_4 : Int32 =>
    if r_4 = (0 : Int32) then
      (0 : Int32)
    else
      zL ((100 : Int32) - r_1) fun x_7 : Int32 =>
      zL ((0 : Int32) + x_7) fun x_8 : Int32 =>
      x_8
  else
    if r_1 ≤ (0 : Int32) then
      zL (F_X10_isWithin p1 (0 : Int32) p3 p4 m0_hostPerson m0_hostCourt f_m0_in f_m0_at0 f_m0_stray f_m0_set) fun r_10 : Int32 =>
      if r_10 = (0 : Int32) then
        (0 : Int32)
      else
        zL ((100 : Int32) - r_1) fun x_13 : Int32 =>
        zL ((0 : Int32) + x_13) fun x_14 : Int32 =>
        x_14
    else
      zL (F_X10_isWithin p1 (0 : Int32) p3 p4 m0_hostPerson m0_hostCourt f_m0_in f_m0_at0 f_m0_stray f_m0_set) fun r_15 : Int32 =>
      if r_15 = (0 : Int32) then
        zL (r_1 + (0 : Int32)) fun x_17 : Int32 =>
        x_17
      else
        zL ((100 : Int32) - r_1) fun x_18 : Int32 =>
        zL (r_1 + x_18) fun x_19 : Int32 =>
        x_19
noncomputable def F_X10_names (p1 : Int32) (f_m0_people : Nat → Int32) (f_m0_truth : Nat → Int32) : Int32 × Int32 × (Nat → Int32) :=
  zL (F_X10_isPeople p1 f_m0_people) fun r_1 : Int32 =>
  if r_1 = (0 : Int32) then
    ((-2 : Int32), (0 : Int32), f_m0_truth)
  else
    zL (f_m0_truth (Int32.toNatClampNeg (1 : Int32))) fun x_3 : Int32 =>
    zL (upd f_m0_truth (Int32.toNatClampNeg 1) p1) fun f_4 : Nat → Int32 =>
    (x_3, (0 : Int32), f_4)
noncomputable def F_X10_strayed (p1 : Int32) (f_m0_people : Nat → Int32) (f_m0_stray : Nat → Int32) (f_m0_truth : Nat → Int32) : Int32 × Int32 × (Nat → Int32) :=
  zL (F_X10_isPeople p1 f_m0_people) fun r_1 : Int32 =>
  if r_1 = (0 : Int32) then
    ((-2 : Int32), (0 : Int32), f_m0_truth)
  else
    zL (F_X10_may f_m0_people f_m0_stray) fun r_3 : Int32 =>
    zL (r_3 ^^^ (-1 : Int32)) fun x_4 : Int32 =>
    zL (p1 &&& x_4) fun x_5 : Int32 =>
    if x_5 = (0 : Int32) then
      zL (f_m0_truth (Int32.toNatClampNeg (0 : Int32))) fun x_7 : Int32 =>
      zL (upd f_m0_truth (Int32.toNatClampNeg 0) p1) fun f_8 : Nat → Int32 =>
      (x_7, (0 : Int32), f_8)
    else
      ((-2 : Int32), (0 : Int32), f_m0_truth)
noncomputable def F_X10_where (p1 : Int32) (p2 : Int32) (m0_hostPerson : Int32) (m0_hostCourt : Int32) (f_m0_hours : Nat → Int32) (f_m0_people : Nat → Int32) (f_m0_at0 : Nat → Int32) (f_m0_stray : Nat → Int32) (f_m0_truth : Nat → Int32) : Int32 × Int32 :=
  zL (F_X10_isPerson p1 f_m0_people) fun r_1 : Int32 =>
  if r_1 = (0 : Int32) then
    ((-2 : Int32), (0 : Int32))
  else
    zL (F_X10_isHour p2 f_m0_hours) fun r_3 : Int32 =>
    if r_3 = (0 : Int32) then
      ((-2 : Int32), (0 : Int32))
    else
      zL (F_X10_isStrayed p1 f_m0_truth) fun r_5 : Int32 =>
      zL (F_X10_placeOf p1 r_5 p2 m0_hostPerson m0_hostCourt f_m0_at0 f_m0_stray) fun r_6 : Int32 =>
      (r_6, (0 : Int32))
noncomputable def F_X10_within (p1 : Int32) (p2 : Int32) (m0_hostPerson : Int32) (m0_hostCourt : Int32) (m0_outside : Int32) (f_m0_hours : Nat → Int32) (f_m0_courts : Nat → Int32) (f_m0_in : Nat → Int32) (f_m0_people : Nat → Int32) (f_m0_at0 : Nat → Int32) (f_m0_stray : Nat → Int32) (f_m0_set : Nat → Int32) (f_m0_truth : Nat → Int32) : Int32 × Int32 :=
  zL (F_X10_isCourt p1 f_m0_courts) fun r_1 : Int32 =>
  if r_1 = (0 : Int32) then
    ((-2 : Int32), (0 : Int32))
  else
    zL (F_X10_isHour p2 f_m0_hours) fun r_3 : Int32 =>
    if r_3 = (0 : Int32) then
      ((-2 : Int32), (0 : Int32))
    else
      zL (F_X10_withinOf p1 p2 m0_hostPerson m0_hostCourt m0_outside f_m0_in f_m0_people f_m0_at0 f_m0_stray f_m0_set f_m0_truth) fun r_5 : Int32 =>
      (r_5, (0 : Int32))
noncomputable def K_X10_depth_1_0 (v2_4 : Int32) : Int32 × Int32 :=
  (v2_4, (0 : Int32))
noncomputable def B_X10_depth_1 (f_m0_in : Nat → Int32) (kc_1_0 : Int32 → Int32 × Int32) (ih_1 : Int32 → Int32 → Int32 × Int32) (v2_4 : Int32) (v3_5 : Int32) : Int32 × Int32 :=
  if v3_5 = (-1 : Int32) then
    kc_1_0 v2_4
  else
    zL (v2_4 + Int32.ofInt 1) fun x_7 : Int32 =>
    zL (f_m0_in (Int32.toNatClampNeg v3_5)) fun x_8 : Int32 =>
    ih_1 x_7 x_8
noncomputable def L_X10_depth_1 (f_m0_in : Nat → Int32) (kc_1_0 : Int32 → Int32 × Int32) : Nat → Int32 → Int32 → Int32 × Int32 := zLp (fun _ _ => (0, 0)) (B_X10_depth_1 f_m0_in kc_1_0)
theorem L_X10_depth_1_s {f_m0_in : (Nat → Int32)} {kc_1_0 : (Int32 → Int32 × Int32)} {t : Nat} {v2_4 : Int32} {v3_5 : Int32} : L_X10_depth_1 f_m0_in kc_1_0 (t + 1) v2_4 v3_5 = B_X10_depth_1 f_m0_in kc_1_0 (L_X10_depth_1 f_m0_in kc_1_0 t) v2_4 v3_5 := rfl
noncomputable def F_X10_depth (p1 : Int32) (f_m0_courts : Nat → Int32) (f_m0_in : Nat → Int32) : Int32 × Int32 :=
  zL (F_X10_isCourt p1 f_m0_courts) fun r_1 : Int32 =>
  if r_1 = (0 : Int32) then
    ((-2 : Int32), (0 : Int32))
  else
    zL (f_m0_in (Int32.toNatClampNeg p1)) fun x_3 : Int32 =>
    L_X10_depth_1 f_m0_in K_X10_depth_1_0 12 (0 : Int32) x_3
noncomputable def F_X10_lies (p1 : Int32) (p2 : Int32) (f_m0_courts : Nat → Int32) (f_m0_in : Nat → Int32) : Int32 × Int32 :=
  zL (F_X10_isCourt p1 f_m0_courts) fun r_1 : Int32 =>
  if r_1 = (0 : Int32) then
    ((-2 : Int32), (0 : Int32))
  else
    zL (F_X10_isCourt p2 f_m0_courts) fun r_3 : Int32 =>
    if r_3 = (0 : Int32) then
      ((-2 : Int32), (0 : Int32))
    else
      zL (F_X10_isIn p1 p2 f_m0_in) fun r_5 : Int32 =>
      if r_5 = (0 : Int32) then
        ((0 : Int32), (0 : Int32))
      else
        ((1 : Int32), (0 : Int32))
noncomputable def F_X10_leads (p1 : Int32) (p2 : Int32) (f_m0_courts : Nat → Int32) (f_m0_gates : Nat → Int32) (f_m0_gate : Nat → Int32) : Int32 × Int32 :=
  zL (F_X10_isGate p1 f_m0_gates) fun r_1 : Int32 =>
  if r_1 = (0 : Int32) then
    ((-2 : Int32), (0 : Int32))
  else
    zL (F_X10_isCourt p2 f_m0_courts) fun r_3 : Int32 =>
    if r_3 = (0 : Int32) then
      ((-2 : Int32), (0 : Int32))
    else
      zL (F_X10_leadsTo p1 p2 f_m0_gate) fun r_5 : Int32 =>
      (r_5, (0 : Int32))
noncomputable def F_X10_opens (p1 : Int32) (p2 : Int32) (p3 : Int32) (p4 : Int32) (m0_hostPerson : Int32) (m0_hostCourt : Int32) (m0_outside : Int32) (f_m0_hours : Nat → Int32) (f_m0_courts : Nat → Int32) (f_m0_in : Nat → Int32) (f_m0_gates : Nat → Int32) (f_m0_gate : Nat → Int32) (f_m0_people : Nat → Int32) (f_m0_at0 : Nat → Int32) (f_m0_stray : Nat → Int32) (f_m0_set : Nat → Int32) (f_m0_truth : Nat → Int32) : Int32 × Int32 :=
  zL (F_X10_isGate p1 f_m0_gates) fun r_1 : Int32 =>
  if r_1 = (0 : Int32) then
    ((-2 : Int32), (0 : Int32))
  else
    zL (F_X10_isCourt p2 f_m0_courts) fun r_3 : Int32 =>
    if r_3 = (0 : Int32) then
      ((-2 : Int32), (0 : Int32))
    else
      zL (F_X10_isHour p3 f_m0_hours) fun r_5 : Int32 =>
      if r_5 = (0 : Int32) then
        ((-2 : Int32), (0 : Int32))
      else
        zL (F_X10_isPerson p4 f_m0_people) fun r_7 : Int32 =>
        if r_7 = (0 : Int32) then
          ((-2 : Int32), (0 : Int32))
        else
          zL (F_X10_leadsTo p1 p2 f_m0_gate) fun r_9 : Int32 =>
          if r_9 = (-1 : Int32) then
            ((-1 : Int32), (0 : Int32))
          else
            zL (F_X10_isIn p2 r_9 f_m0_in) fun r_11 : Int32 =>
            if r_11 = (0 : Int32) then
              zL (F_X10_withinOf r_9 p3 m0_hostPerson m0_hostCourt m0_outside f_m0_in f_m0_people f_m0_at0 f_m0_stray f_m0_set f_m0_truth) fun r_13 : Int32 =>
              zL (r_13 >>> (p4 &&& 31)) fun x_14 : Int32 =>
              zL (x_14 &&& (1 : Int32)) fun x_15 : Int32 =>
              (x_15, (0 : Int32))
            else
              ((2 : Int32), (0 : Int32))
noncomputable def F_X10_keys (p1 : Int32) (p2 : Int32) (p3 : Int32) (m0_hostPerson : Int32) (m0_hostCourt : Int32) (m0_outside : Int32) (f_m0_hours : Nat → Int32) (f_m0_courts : Nat → Int32) (f_m0_in : Nat → Int32) (f_m0_gates : Nat → Int32) (f_m0_gate : Nat → Int32) (f_m0_people : Nat → Int32) (f_m0_at0 : Nat → Int32) (f_m0_stray : Nat → Int32) (f_m0_set : Nat → Int32) (f_m0_truth : Nat → Int32) : Int32 × Int32 :=
  zL (F_X10_isGate p1 f_m0_gates) fun r_1 : Int32 =>
  if r_1 = (0 : Int32) then
    ((-2 : Int32), (0 : Int32))
  else
    zL (F_X10_isCourt p2 f_m0_courts) fun r_3 : Int32 =>
    if r_3 = (0 : Int32) then
      ((-2 : Int32), (0 : Int32))
    else
      zL (F_X10_isHour p3 f_m0_hours) fun r_5 : Int32 =>
      if r_5 = (0 : Int32) then
        ((-2 : Int32), (0 : Int32))
      else
        zL (F_X10_leadsTo p1 p2 f_m0_gate) fun r_7 : Int32 =>
        if r_7 = (-1 : Int32) then
          ((-1 : Int32), (0 : Int32))
        else
          zL (F_X10_isIn p2 r_7 f_m0_in) fun r_9 : Int32 =>
          if r_9 = (0 : Int32) then
            zL (F_X10_withinOf r_7 p3 m0_hostPerson m0_hostCourt m0_outside f_m0_in f_m0_people f_m0_at0 f_m0_stray f_m0_set f_m0_truth) fun r_11 : Int32 =>
            zL (f_m0_truth (Int32.toNatClampNeg (1 : Int32))) fun x_12 : Int32 =>
            zL (r_11 &&& x_12) fun x_13 : Int32 =>
            (x_13, (0 : Int32))
          else
            ((0 : Int32), (0 : Int32))
noncomputable def K_X10_empty_1_0 (v2_4 : Int32) : Int32 × Int32 :=
  (v2_4, (0 : Int32))
noncomputable def K_X10_empty_1_1 (v2_4 : Int32) : Int32 × Int32 :=
  (v2_4, (0 : Int32))
noncomputable def B_X10_empty_1 (p1 : Int32) (m0_hostPerson : Int32) (m0_hostCourt : Int32) (m0_outside : Int32) (f_m0_in : Nat → Int32) (f_m0_people : Nat → Int32) (f_m0_at0 : Nat → Int32) (f_m0_stray : Nat → Int32) (f_m0_set : Nat → Int32) (f_m0_truth : Nat → Int32) (kc_1_0 : Int32 → Int32 × Int32) (kc_1_1 : Int32 → Int32 × Int32) (ih_1 : Int32 → Int32 × Int32) (v2_4 : Int32) : Int32 × Int32 :=
  if v2_4 ≤ (0 : Int32) then
    kc_1_0 v2_4
  else
    zL (v2_4 - (1 : Int32)) fun x_6 : Int32 =>
    zL (F_X10_withinOf p1 x_6 m0_hostPerson m0_hostCourt m0_outside f_m0_in f_m0_people f_m0_at0 f_m0_stray f_m0_set f_m0_truth) fun r_7 : Int32 =>
    if r_7 = (0 : Int32) then
      zL (v2_4 + Int32.ofInt (-1)) fun x_9 : Int32 =>
      ih_1 x_9
    else
      kc_1_1 v2_4
noncomputable def L_X10_empty_1 (p1 : Int32) (m0_hostPerson : Int32) (m0_hostCourt : Int32) (m0_outside : Int32) (f_m0_in : Nat → Int32) (f_m0_people : Nat → Int32) (f_m0_at0 : Nat → Int32) (f_m0_stray : Nat → Int32) (f_m0_set : Nat → Int32) (f_m0_truth : Nat → Int32) (kc_1_0 : Int32 → Int32 × Int32) (kc_1_1 : Int32 → Int32 × Int32) : Nat → Int32 → Int32 × Int32 := zLp (fun _ => (0, 0)) (B_X10_empty_1 p1 m0_hostPerson m0_hostCourt m0_outside f_m0_in f_m0_people f_m0_at0 f_m0_stray f_m0_set f_m0_truth kc_1_0 kc_1_1)
theorem L_X10_empty_1_s {p1 : Int32} {m0_hostPerson : Int32} {m0_hostCourt : Int32} {m0_outside : Int32} {f_m0_in : (Nat → Int32)} {f_m0_people : (Nat → Int32)} {f_m0_at0 : (Nat → Int32)} {f_m0_stray : (Nat → Int32)} {f_m0_set : (Nat → Int32)} {f_m0_truth : (Nat → Int32)} {kc_1_0 : (Int32 → Int32 × Int32)} {kc_1_1 : (Int32 → Int32 × Int32)} {t : Nat} {v2_4 : Int32} : L_X10_empty_1 p1 m0_hostPerson m0_hostCourt m0_outside f_m0_in f_m0_people f_m0_at0 f_m0_stray f_m0_set f_m0_truth kc_1_0 kc_1_1 (t + 1) v2_4 = B_X10_empty_1 p1 m0_hostPerson m0_hostCourt m0_outside f_m0_in f_m0_people f_m0_at0 f_m0_stray f_m0_set f_m0_truth kc_1_0 kc_1_1 (L_X10_empty_1 p1 m0_hostPerson m0_hostCourt m0_outside f_m0_in f_m0_people f_m0_at0 f_m0_stray f_m0_set f_m0_truth kc_1_0 kc_1_1 t) v2_4 := rfl
noncomputable def F_X10_empty (p1 : Int32) (m0_hostPerson : Int32) (m0_hostCourt : Int32) (m0_outside : Int32) (f_m0_hours : Nat → Int32) (f_m0_courts : Nat → Int32) (f_m0_in : Nat → Int32) (f_m0_people : Nat → Int32) (f_m0_at0 : Nat → Int32) (f_m0_stray : Nat → Int32) (f_m0_set : Nat → Int32) (f_m0_truth : Nat → Int32) : Int32 × Int32 :=
  zL (F_X10_isCourt p1 f_m0_courts) fun r_1 : Int32 =>
  if r_1 = (0 : Int32) then
    ((-2 : Int32), (0 : Int32))
  else
    zL (f_m0_hours (Int32.toNatClampNeg (0 : Int32))) fun x_3 : Int32 =>
    L_X10_empty_1 p1 m0_hostPerson m0_hostCourt m0_outside f_m0_in f_m0_people f_m0_at0 f_m0_stray f_m0_set f_m0_truth K_X10_empty_1_0 K_X10_empty_1_1 50 x_3
noncomputable def K_X10_hollow_1_0 (v2_4 : Int32) : Int32 × Int32 :=
  (v2_4, (0 : Int32))
noncomputable def B_X10_hollow_1 (f_m0_hours : Nat → Int32) (p1 : Int32) (m0_hostPerson : Int32) (m0_hostCourt : Int32) (m0_outside : Int32) (f_m0_in : Nat → Int32) (f_m0_people : Nat → Int32) (f_m0_at0 : Nat → Int32) (f_m0_stray : Nat → Int32) (f_m0_set : Nat → Int32) (f_m0_truth : Nat → Int32) (kc_1_0 : Int32 → Int32 × Int32) (ih_1 : Int32 → Int32 → Int32 × Int32) (v2_4 : Int32) (v3_3 : Int32) : Int32 × Int32 :=
  zL (f_m0_hours (Int32.toNatClampNeg (0 : Int32))) fun x_5 : Int32 =>
  if x_5 ≤ v3_3 then
    kc_1_0 v2_4
  else
    zL (F_X10_withinOf p1 v3_3 m0_hostPerson m0_hostCourt m0_outside f_m0_in f_m0_people f_m0_at0 f_m0_stray f_m0_set f_m0_truth) fun r_7 : Int32 =>
    if r_7 = (0 : Int32) then
      zL (v2_4 + (1 : Int32)) fun x_11 : Int32 =>
      zL (v3_3 + Int32.ofInt 1) fun x_12 : Int32 =>
      ih_1 x_11 x_12
    else
      zL (v2_4 + (0 : Int32)) fun x_9 : Int32 =>
      zL (v3_3 + Int32.ofInt 1) fun x_10 : Int32 =>
      ih_1 x_9 x_10
noncomputable def L_X10_hollow_1 (f_m0_hours : Nat → Int32) (p1 : Int32) (m0_hostPerson : Int32) (m0_hostCourt : Int32) (m0_outside : Int32) (f_m0_in : Nat → Int32) (f_m0_people : Nat → Int32) (f_m0_at0 : Nat → Int32) (f_m0_stray : Nat → Int32) (f_m0_set : Nat → Int32) (f_m0_truth : Nat → Int32) (kc_1_0 : Int32 → Int32 × Int32) : Nat → Int32 → Int32 → Int32 × Int32 := zLp (fun _ _ => (0, 0)) (B_X10_hollow_1 f_m0_hours p1 m0_hostPerson m0_hostCourt m0_outside f_m0_in f_m0_people f_m0_at0 f_m0_stray f_m0_set f_m0_truth kc_1_0)
theorem L_X10_hollow_1_s {f_m0_hours : (Nat → Int32)} {p1 : Int32} {m0_hostPerson : Int32} {m0_hostCourt : Int32} {m0_outside : Int32} {f_m0_in : (Nat → Int32)} {f_m0_people : (Nat → Int32)} {f_m0_at0 : (Nat → Int32)} {f_m0_stray : (Nat → Int32)} {f_m0_set : (Nat → Int32)} {f_m0_truth : (Nat → Int32)} {kc_1_0 : (Int32 → Int32 × Int32)} {t : Nat} {v2_4 : Int32} {v3_3 : Int32} : L_X10_hollow_1 f_m0_hours p1 m0_hostPerson m0_hostCourt m0_outside f_m0_in f_m0_people f_m0_at0 f_m0_stray f_m0_set f_m0_truth kc_1_0 (t + 1) v2_4 v3_3 = B_X10_hollow_1 f_m0_hours p1 m0_hostPerson m0_hostCourt m0_outside f_m0_in f_m0_people f_m0_at0 f_m0_stray f_m0_set f_m0_truth kc_1_0 (L_X10_hollow_1 f_m0_hours p1 m0_hostPerson m0_hostCourt m0_outside f_m0_in f_m0_people f_m0_at0 f_m0_stray f_m0_set f_m0_truth kc_1_0 t) v2_4 v3_3 := rfl
noncomputable def F_X10_hollow (p1 : Int32) (m0_hostPerson : Int32) (m0_hostCourt : Int32) (m0_outside : Int32) (f_m0_hours : Nat → Int32) (f_m0_courts : Nat → Int32) (f_m0_in : Nat → Int32) (f_m0_people : Nat → Int32) (f_m0_at0 : Nat → Int32) (f_m0_stray : Nat → Int32) (f_m0_set : Nat → Int32) (f_m0_truth : Nat → Int32) : Int32 × Int32 :=
  zL (F_X10_isCourt p1 f_m0_courts) fun r_1 : Int32 =>
  if r_1 = (0 : Int32) then
    ((-2 : Int32), (0 : Int32))
  else
    L_X10_hollow_1 f_m0_hours p1 m0_hostPerson m0_hostCourt m0_outside f_m0_in f_m0_people f_m0_at0 f_m0_stray f_m0_set f_m0_truth K_X10_hollow_1_0 50 (0 : Int32) (0 : Int32)
noncomputable def K_X10_keeper_2_0 (v3_5 : Int32) (v4_3 : Int32) (ih_1 : Int32 → Int32 → Int32 → Int32 × Int32) (v2_4 : Int32) (v5_9 : Int32) : Int32 × Int32 :=
  if v3_5 < v5_9 then
    zL (v4_3 + Int32.ofInt 1) fun x_13 : Int32 =>
    ih_1 v4_3 v5_9 x_13
  else
    zL (v4_3 + Int32.ofInt 1) fun x_14 : Int32 =>
    ih_1 v2_4 v3_5 x_14
noncomputable def B_X10_keeper_2 (f_m0_hours : Nat → Int32) (p1 : Int32) (m0_hostPerson : Int32) (m0_hostCourt : Int32) (m0_outside : Int32) (f_m0_in : Nat → Int32) (f_m0_people : Nat → Int32) (f_m0_at0 : Nat → Int32) (f_m0_stray : Nat → Int32) (f_m0_set : Nat → Int32) (f_m0_truth : Nat → Int32) (v4_3 : Int32) (kc_2_0 : Int32 → Int32 × Int32) (ih_2 : Int32 → Int32 → Int32 × Int32) (v5_9 : Int32) (v6_8 : Int32) : Int32 × Int32 :=
  zL (f_m0_hours (Int32.toNatClampNeg (0 : Int32))) fun x_10 : Int32 =>
  if x_10 ≤ v6_8 then
    kc_2_0 v5_9
  else
    zL (F_X10_withinOf p1 v6_8 m0_hostPerson m0_hostCourt m0_outside f_m0_in f_m0_people f_m0_at0 f_m0_stray f_m0_set f_m0_truth) fun r_15 : Int32 =>
    zL ((1 : Int32) <<< (v4_3 &&& 31)) fun x_16 : Int32 =>
    if r_15 = x_16 then
      zL (v5_9 + (1 : Int32)) fun x_20 : Int32 =>
      zL (v6_8 + Int32.ofInt 1) fun x_21 : Int32 =>
      ih_2 x_20 x_21
    else
      zL (v5_9 + (0 : Int32)) fun x_18 : Int32 =>
      zL (v6_8 + Int32.ofInt 1) fun x_19 : Int32 =>
      ih_2 x_18 x_19
noncomputable def L_X10_keeper_2 (f_m0_hours : Nat → Int32) (p1 : Int32) (m0_hostPerson : Int32) (m0_hostCourt : Int32) (m0_outside : Int32) (f_m0_in : Nat → Int32) (f_m0_people : Nat → Int32) (f_m0_at0 : Nat → Int32) (f_m0_stray : Nat → Int32) (f_m0_set : Nat → Int32) (f_m0_truth : Nat → Int32) (v4_3 : Int32) (kc_2_0 : Int32 → Int32 × Int32) : Nat → Int32 → Int32 → Int32 × Int32 := zLp (fun _ _ => (0, 0)) (B_X10_keeper_2 f_m0_hours p1 m0_hostPerson m0_hostCourt m0_outside f_m0_in f_m0_people f_m0_at0 f_m0_stray f_m0_set f_m0_truth v4_3 kc_2_0)
theorem L_X10_keeper_2_s {f_m0_hours : (Nat → Int32)} {p1 : Int32} {m0_hostPerson : Int32} {m0_hostCourt : Int32} {m0_outside : Int32} {f_m0_in : (Nat → Int32)} {f_m0_people : (Nat → Int32)} {f_m0_at0 : (Nat → Int32)} {f_m0_stray : (Nat → Int32)} {f_m0_set : (Nat → Int32)} {f_m0_truth : (Nat → Int32)} {v4_3 : Int32} {kc_2_0 : (Int32 → Int32 × Int32)} {t : Nat} {v5_9 : Int32} {v6_8 : Int32} : L_X10_keeper_2 f_m0_hours p1 m0_hostPerson m0_hostCourt m0_outside f_m0_in f_m0_people f_m0_at0 f_m0_stray f_m0_set f_m0_truth v4_3 kc_2_0 (t + 1) v5_9 v6_8 = B_X10_keeper_2 f_m0_hours p1 m0_hostPerson m0_hostCourt m0_outside f_m0_in f_m0_people f_m0_at0 f_m0_stray f_m0_set f_m0_truth v4_3 kc_2_0 (L_X10_keeper_2 f_m0_hours p1 m0_hostPerson m0_hostCourt m0_outside f_m0_in f_m0_people f_m0_at0 f_m0_stray f_m0_set f_m0_truth v4_3 kc_2_0 t) v5_9 v6_8 := rfl
noncomputable def K_X10_keeper_1_0 (v2_4 : Int32) : Int32 × Int32 :=
  (v2_4, (0 : Int32))
noncomputable def B_X10_keeper_1 (f_m0_people : Nat → Int32) (f_m0_hours : Nat → Int32) (p1 : Int32) (m0_hostPerson : Int32) (m0_hostCourt : Int32) (m0_outside : Int32) (f_m0_in : Nat → Int32) (f_m0_at0 : Nat → Int32) (f_m0_stray : Nat → Int32) (f_m0_set : Nat → Int32) (f_m0_truth : Nat → Int32) (kc_1_0 : Int32 → Int32 × Int32) (ih_1 : Int32 → Int32 → Int32 → Int32 × Int32) (v2_4 : Int32) (v3_5 : Int32) (v4_3 : Int32) : Int32 × Int32 :=
  zL (f_m0_people (Int32.toNatClampNeg (0 : Int32))) fun x_6 : Int32 =>
  if x_6 ≤ v4_3 then
    kc_1_0 v2_4
  else
    L_X10_keeper_2 f_m0_hours p1 m0_hostPerson m0_hostCourt m0_outside f_m0_in f_m0_people f_m0_at0 f_m0_stray f_m0_set f_m0_truth v4_3 (K_X10_keeper_2_0 v3_5 v4_3 ih_1 v2_4) 50 (0 : Int32) (0 : Int32)
noncomputable def L_X10_keeper_1 (f_m0_people : Nat → Int32) (f_m0_hours : Nat → Int32) (p1 : Int32) (m0_hostPerson : Int32) (m0_hostCourt : Int32) (m0_outside : Int32) (f_m0_in : Nat → Int32) (f_m0_at0 : Nat → Int32) (f_m0_stray : Nat → Int32) (f_m0_set : Nat → Int32) (f_m0_truth : Nat → Int32) (kc_1_0 : Int32 → Int32 × Int32) : Nat → Int32 → Int32 → Int32 → Int32 × Int32 := zLp (fun _ _ _ => (0, 0)) (B_X10_keeper_1 f_m0_people f_m0_hours p1 m0_hostPerson m0_hostCourt m0_outside f_m0_in f_m0_at0 f_m0_stray f_m0_set f_m0_truth kc_1_0)
theorem L_X10_keeper_1_s {f_m0_people : (Nat → Int32)} {f_m0_hours : (Nat → Int32)} {p1 : Int32} {m0_hostPerson : Int32} {m0_hostCourt : Int32} {m0_outside : Int32} {f_m0_in : (Nat → Int32)} {f_m0_at0 : (Nat → Int32)} {f_m0_stray : (Nat → Int32)} {f_m0_set : (Nat → Int32)} {f_m0_truth : (Nat → Int32)} {kc_1_0 : (Int32 → Int32 × Int32)} {t : Nat} {v2_4 : Int32} {v3_5 : Int32} {v4_3 : Int32} : L_X10_keeper_1 f_m0_people f_m0_hours p1 m0_hostPerson m0_hostCourt m0_outside f_m0_in f_m0_at0 f_m0_stray f_m0_set f_m0_truth kc_1_0 (t + 1) v2_4 v3_5 v4_3 = B_X10_keeper_1 f_m0_people f_m0_hours p1 m0_hostPerson m0_hostCourt m0_outside f_m0_in f_m0_at0 f_m0_stray f_m0_set f_m0_truth kc_1_0 (L_X10_keeper_1 f_m0_people f_m0_hours p1 m0_hostPerson m0_hostCourt m0_outside f_m0_in f_m0_at0 f_m0_stray f_m0_set f_m0_truth kc_1_0 t) v2_4 v3_5 v4_3 := rfl
noncomputable def F_X10_keeper (p1 : Int32) (m0_hostPerson : Int32) (m0_hostCourt : Int32) (m0_outside : Int32) (f_m0_hours : Nat → Int32) (f_m0_courts : Nat → Int32) (f_m0_in : Nat → Int32) (f_m0_people : Nat → Int32) (f_m0_at0 : Nat → Int32) (f_m0_stray : Nat → Int32) (f_m0_set : Nat → Int32) (f_m0_truth : Nat → Int32) : Int32 × Int32 :=
  zL (F_X10_isCourt p1 f_m0_courts) fun r_1 : Int32 =>
  if r_1 = (0 : Int32) then
    ((-2 : Int32), (0 : Int32))
  else
    L_X10_keeper_1 f_m0_people f_m0_hours p1 m0_hostPerson m0_hostCourt m0_outside f_m0_in f_m0_at0 f_m0_stray f_m0_set f_m0_truth K_X10_keeper_1_0 12 (-1 : Int32) (0 : Int32) (0 : Int32)
noncomputable def F_X10_hear (p1 : Int32) (p2 : Int32) (p3 : Int32) (p4 : Int32) (m0_hostPerson : Int32) (m0_hostCourt : Int32) (f_m0_hours : Nat → Int32) (f_m0_courts : Nat → Int32) (f_m0_in : Nat → Int32) (f_m0_people : Nat → Int32) (f_m0_at0 : Nat → Int32) (f_m0_stray : Nat → Int32) (f_m0_set : Nat → Int32) (f_m0_known : Nat → Int32) : Int32 × Int32 × (Nat → Int32) :=
  zL (F_X10_isPerson p1 f_m0_people) fun r_1 : Int32 =>
  if r_1 = (0 : Int32) then
    ((-2 : Int32), (0 : Int32), f_m0_known)
  else
    zL (F_X10_isCourt p2 f_m0_courts) fun r_3 : Int32 =>
    if r_3 = (0 : Int32) then
      ((-2 : Int32), (0 : Int32), f_m0_known)
    else
      zL (F_X10_isHour p3 f_m0_hours) fun r_5 : Int32 =>
      if r_5 = (0 : Int32) then
        ((-2 : Int32), (0 : Int32), f_m0_known)
      else
        zL ((2 : Int32) * p1) fun x_7 : Int32 =>
        zL (f_m0_stray (Int32.toNatClampNeg x_7)) fun x_8 : Int32 =>
        if x_8 = (0 : Int32) then
          zL (f_m0_known (Int32.toNatClampNeg p1)) fun x_41 : Int32 =>
          if x_41 = (2 : Int32) then
            ((-5 : Int32), (0 : Int32), f_m0_known)
          else
            zL (F_X10_isWithin p1 (0 : Int32) p2 p3 m0_hostPerson m0_hostCourt f_m0_in f_m0_at0 f_m0_stray f_m0_set) fun r_43 : Int32 =>
            if r_43 = p4 then
              ((1 : Int32), (0 : Int32), f_m0_known)
            else
              ((-5 : Int32), (0 : Int32), f_m0_known)
        else
          zL (f_m0_known (Int32.toNatClampNeg p1)) fun x_10 : Int32 =>
          if x_10 = (2 : Int32) then
            zL (f_m0_known (Int32.toNatClampNeg p1)) fun x_12 : Int32 =>
            if x_10 = (1 : Int32) then
              ((-5 : Int32), (0 : Int32), f_m0_known)
            else
              zL (F_X10_isWithin p1 (1 : Int32) p2 p3 m0_hostPerson m0_hostCourt f_m0_in f_m0_at0 f_m0_stray f_m0_set) fun r_14 : Int32 =>
              if r_14 = p4 then
                zL (upd f_m0_known (Int32.toNatClampNeg p1) 2) fun f_16 : Nat → Int32 =>
                zL (f_16 (Int32.toNatClampNeg p1)) fun x_17 : Int32 =>
                if x_17 = (0 : Int32) then
                  ((0 : Int32), (0 : Int32), f_16)
                else
                  ((1 : Int32), (0 : Int32), f_16)
              else
                ((-5 : Int32), (0 : Int32), f_m0_known)
          else
            zL (F_X10_isWithin p1 (0 : Int32) p2 p3 m0_hostPerson m0_hostCourt f_m0_in f_m0_at0 f_m0_stray f_m0_set) fun r_19 : Int32 =>
            if r_19 = p4 then
              zL (f_m0_known (Int32.toNatClampNeg p1)) fun x_28 : Int32 =>
              if x_10 = (1 : Int32) then
                zL (upd f_m0_known (Int32.toNatClampNeg p1) 1) fun f_30 : Nat → Int32 =>
                zL (f_30 (Int32.toNatClampNeg p1)) fun x_31 : Int32 =>
                if x_31 = (0 : Int32) then
                  ((0 : Int32), (0 : Int32), f_30)
                else
                  ((1 : Int32), (0 : Int32), f_30)
              else
                zL (F_X10_isWithin p1 (1 : Int32) p2 p3 m0_hostPerson m0_hostCourt f_m0_in f_m0_at0 f_m0_stray f_m0_set) fun r_33 : Int32 =>
                if r_33 = p4 then
                  zL (upd f_m0_known (Int32.toNatClampNeg p1) 0) fun f_38 : Nat → Int32 =>
                  zL (f_38 (Int32.toNatClampNeg p1)) fun x_39 : Int32 =>
                  if x_39 = (0 : Int32) then
                    ((0 : Int32), (0 : Int32), f_38)
                  else
                    ((1 : Int32), (0 : Int32), f_38)
                else
                  zL (upd f_m0_known (Int32.toNatClampNeg p1) 1) fun f_35 : Nat → Int32 =>
                  zL (f_35 (Int32.toNatClampNeg p1)) fun x_36 : Int32 =>
                  if x_36 = (0 : Int32) then
                    ((0 : Int32), (0 : Int32), f_35)
                  else
                    ((1 : Int32), (0 : Int32), f_35)
            else
              zL (f_m0_known (Int32.toNatClampNeg p1)) fun x_21 : Int32 =>
              if x_10 = (1 : Int32) then
                ((-5 : Int32), (0 : Int32), f_m0_known)
              else
                zL (F_X10_isWithin p1 (1 : Int32) p2 p3 m0_hostPerson m0_hostCourt f_m0_in f_m0_at0 f_m0_stray f_m0_set) fun r_23 : Int32 =>
                if r_23 = p4 then
                  zL (upd f_m0_known (Int32.toNatClampNeg p1) 2) fun f_25 : Nat → Int32 =>
                  zL (f_25 (Int32.toNatClampNeg p1)) fun x_26 : Int32 =>
                  if x_26 = (0 : Int32) then
                    ((0 : Int32), (0 : Int32), f_25)
                  else
                    ((1 : Int32), (0 : Int32), f_25)
                else
                  ((-5 : Int32), (0 : Int32), f_m0_known)
noncomputable def K_X10_forget_1_0 (r_2 : Int32) (g_m0_known_4 : Nat → Int32) : Int32 × Int32 × (Nat → Int32) :=
  (r_2, (0 : Int32), g_m0_known_4)
noncomputable def B_X10_forget_1 (kc_1_0 : (Nat → Int32) → Int32 × Int32 × (Nat → Int32)) (ih_1 : Int32 → (Nat → Int32) → Int32 × Int32 × (Nat → Int32)) (v2_3 : Int32) (g_m0_known_4 : Nat → Int32) : Int32 × Int32 × (Nat → Int32) :=
  if (10 : Int32) ≤ v2_3 then
    kc_1_0 g_m0_known_4
  else
    zL (upd g_m0_known_4 (Int32.toNatClampNeg v2_3) 0) fun f_6 : Nat → Int32 =>
    zL (v2_3 + Int32.ofInt 1) fun x_7 : Int32 =>
    ih_1 x_7 f_6
noncomputable def L_X10_forget_1 (kc_1_0 : (Nat → Int32) → Int32 × Int32 × (Nat → Int32)) : Nat → Int32 → (Nat → Int32) → Int32 × Int32 × (Nat → Int32) := zLp (fun _ _ => (0, 0, (fun _ => 0))) (B_X10_forget_1 kc_1_0)
theorem L_X10_forget_1_s {kc_1_0 : ((Nat → Int32) → Int32 × Int32 × (Nat → Int32))} {t : Nat} {v2_3 : Int32} {g_m0_known_4 : (Nat → Int32)} : L_X10_forget_1 kc_1_0 (t + 1) v2_3 g_m0_known_4 = B_X10_forget_1 kc_1_0 (L_X10_forget_1 kc_1_0 t) v2_3 g_m0_known_4 := rfl
noncomputable def F_X10_forget (f_m0_people : Nat → Int32) (f_m0_known : Nat → Int32) : Int32 × Int32 × (Nat → Int32) :=
  zL (F_X10_surely f_m0_people f_m0_known) fun r_1 : Int32 =>
  zL (F_X10_sizeOf r_1) fun r_2 : Int32 =>
  L_X10_forget_1 (K_X10_forget_1_0 r_2) 12 (0 : Int32) f_m0_known
noncomputable def F_X10_think (p1 : Int32) (p2 : Int32) (p3 : Int32) (m0_hostPerson : Int32) (m0_hostCourt : Int32) (f_m0_hours : Nat → Int32) (f_m0_courts : Nat → Int32) (f_m0_in : Nat → Int32) (f_m0_people : Nat → Int32) (f_m0_at0 : Nat → Int32) (f_m0_stray : Nat → Int32) (f_m0_set : Nat → Int32) (f_m0_known : Nat → Int32) : Int32 × Int32 :=
  zL (F_X10_isPerson p1 f_m0_people) fun r_1 : Int32 =>
  if r_1 = (0 : Int32) then
    ((-2 : Int32), (0 : Int32))
  else
    zL (F_X10_isCourt p2 f_m0_courts) fun r_3 : Int32 =>
    if r_3 = (0 : Int32) then
      ((-2 : Int32), (0 : Int32))
    else
      zL (F_X10_isHour p3 f_m0_hours) fun r_5 : Int32 =>
      if r_5 = (0 : Int32) then
        ((-2 : Int32), (0 : Int32))
      else
        zL (f_m0_known (Int32.toNatClampNeg p1)) fun x_7 : Int32 =>
        zL (F_X10_thinkBy p1 x_7 p2 p3 m0_hostPerson m0_hostCourt f_m0_in f_m0_at0 f_m0_stray f_m0_set) fun r_8 : Int32 =>
        (r_8, (0 : Int32))
noncomputable def K_X10_likely_1_0 (p4 : Int32) (v6_14 : Int32) (v7_15 : Int32) : Int32 × Int32 :=
  if v6_14 = (-1 : Int32) then
    ((-1 : Int32), (0 : Int32))
  else
    if p4 = (0 : Int32) then
      (v6_14, (0 : Int32))
    else
      (v7_15, (0 : Int32))
noncomputable def B_X10_likely_1 (f_m0_people : Nat → Int32) (f_m0_truth : Nat → Int32) (f_m0_known : Nat → Int32) (r_10 : Int32) (p3 : Int32) (m0_hostPerson : Int32) (m0_hostCourt : Int32) (f_m0_in : Nat → Int32) (f_m0_at0 : Nat → Int32) (f_m0_stray : Nat → Int32) (f_m0_set : Nat → Int32) (kc_1_0 : Int32 → Int32 → Int32 × Int32) (ih_1 : Int32 → Int32 → Int32 → Int32 × Int32) (v6_14 : Int32) (v7_15 : Int32) (v8_16 : Int32) : Int32 × Int32 :=
  zL (f_m0_people (Int32.toNatClampNeg (0 : Int32))) fun x_17 : Int32 =>
  if x_17 ≤ v8_16 then
    kc_1_0 v6_14 v7_15
  else
    zL (f_m0_truth (Int32.toNatClampNeg (1 : Int32))) fun x_21 : Int32 =>
    zL (x_21 >>> (v8_16 &&& 31)) fun x_22 : Int32 =>
    zL (x_22 &&& (1 : Int32)) fun x_23 : Int32 =>
    if x_23 = (0 : Int32) then
      zL (v8_16 + Int32.ofInt 1) fun x_32 : Int32 =>
      ih_1 v6_14 v7_15 x_32
    else
      zL (f_m0_known (Int32.toNatClampNeg v8_16)) fun x_25 : Int32 =>
      zL (F_X10_thinkBy v8_16 x_25 r_10 p3 m0_hostPerson m0_hostCourt f_m0_in f_m0_at0 f_m0_stray f_m0_set) fun r_26 : Int32 =>
      if v6_14 = (-1 : Int32) then
        zL (v8_16 + Int32.ofInt 1) fun x_28 : Int32 =>
        ih_1 v8_16 r_26 x_28
      else
        if v7_15 < r_26 then
          zL (v8_16 + Int32.ofInt 1) fun x_30 : Int32 =>
          ih_1 v8_16 r_26 x_30
        else
          zL (v8_16 + Int32.ofInt 1) fun x_31 : Int32 =>
          ih_1 v6_14 v7_15 x_31
noncomputable def L_X10_likely_1 (f_m0_people : Nat → Int32) (f_m0_truth : Nat → Int32) (f_m0_known : Nat → Int32) (r_10 : Int32) (p3 : Int32) (m0_hostPerson : Int32) (m0_hostCourt : Int32) (f_m0_in : Nat → Int32) (f_m0_at0 : Nat → Int32) (f_m0_stray : Nat → Int32) (f_m0_set : Nat → Int32) (kc_1_0 : Int32 → Int32 → Int32 × Int32) : Nat → Int32 → Int32 → Int32 → Int32 × Int32 := zLp (fun _ _ _ => (0, 0)) (B_X10_likely_1 f_m0_people f_m0_truth f_m0_known r_10 p3 m0_hostPerson m0_hostCourt f_m0_in f_m0_at0 f_m0_stray f_m0_set kc_1_0)
theorem L_X10_likely_1_s {f_m0_people : (Nat → Int32)} {f_m0_truth : (Nat → Int32)} {f_m0_known : (Nat → Int32)} {r_10 : Int32} {p3 : Int32} {m0_hostPerson : Int32} {m0_hostCourt : Int32} {f_m0_in : (Nat → Int32)} {f_m0_at0 : (Nat → Int32)} {f_m0_stray : (Nat → Int32)} {f_m0_set : (Nat → Int32)} {kc_1_0 : (Int32 → Int32 → Int32 × Int32)} {t : Nat} {v6_14 : Int32} {v7_15 : Int32} {v8_16 : Int32} : L_X10_likely_1 f_m0_people f_m0_truth f_m0_known r_10 p3 m0_hostPerson m0_hostCourt f_m0_in f_m0_at0 f_m0_stray f_m0_set kc_1_0 (t + 1) v6_14 v7_15 v8_16 = B_X10_likely_1 f_m0_people f_m0_truth f_m0_known r_10 p3 m0_hostPerson m0_hostCourt f_m0_in f_m0_at0 f_m0_stray f_m0_set kc_1_0 (L_X10_likely_1 f_m0_people f_m0_truth f_m0_known r_10 p3 m0_hostPerson m0_hostCourt f_m0_in f_m0_at0 f_m0_stray f_m0_set kc_1_0 t) v6_14 v7_15 v8_16 := rfl
noncomputable def F_X10_likely (p1 : Int32) (p2 : Int32) (p3 : Int32) (p4 : Int32) (m0_hostPerson : Int32) (m0_hostCourt : Int32) (f_m0_hours : Nat → Int32) (f_m0_courts : Nat → Int32) (f_m0_in : Nat → Int32) (f_m0_gates : Nat → Int32) (f_m0_gate : Nat → Int32) (f_m0_people : Nat → Int32) (f_m0_at0 : Nat → Int32) (f_m0_stray : Nat → Int32) (f_m0_set : Nat → Int32) (f_m0_truth : Nat → Int32) (f_m0_known : Nat → Int32) : Int32 × Int32 :=
  zL (F_X10_isGate p1 f_m0_gates) fun r_1 : Int32 =>
  if r_1 = (0 : Int32) then
    ((-2 : Int32), (0 : Int32))
  else
    zL (F_X10_isCourt p2 f_m0_courts) fun r_3 : Int32 =>
    if r_3 = (0 : Int32) then
      ((-2 : Int32), (0 : Int32))
    else
      zL (F_X10_isHour p3 f_m0_hours) fun r_5 : Int32 =>
      if r_5 = (0 : Int32) then
        ((-2 : Int32), (0 : Int32))
      else
        zL ((p4).toInt64) fun x_7 : Int64 =>
        zL (F_X10_in x_7 (0 : Int64) (1 : Int64)) fun r_8 : Int32 =>
        if r_8 = (0 : Int32) then
          ((-2 : Int32), (0 : Int32))
        else
          zL (F_X10_leadsTo p1 p2 f_m0_gate) fun r_10 : Int32 =>
          if r_10 = (-1 : Int32) then
            ((-1 : Int32), (0 : Int32))
          else
            zL (F_X10_isIn p2 r_10 f_m0_in) fun r_12 : Int32 =>
            if r_12 = (0 : Int32) then
              L_X10_likely_1 f_m0_people f_m0_truth f_m0_known r_10 p3 m0_hostPerson m0_hostCourt f_m0_in f_m0_at0 f_m0_stray f_m0_set (K_X10_likely_1_0 p4) 12 (-1 : Int32) (0 : Int32) (0 : Int32)
            else
              ((-1 : Int32), (0 : Int32))
noncomputable def F_X10_draw (p1 : Int32) (m0_x : Int64) (f_m0_hours : Nat → Int32) (f_m0_people : Nat → Int32) (f_m0_stray : Nat → Int32) : Int32 × Int32 × Int64 :=
  zL (F_X10_isSeed p1) fun r_1 : Int32 =>
  if r_1 = (0 : Int32) then
    ((-2 : Int32), (0 : Int32), m0_x)
  else
    zL (f_m0_hours (Int32.toNatClampNeg (0 : Int32))) fun x_3 : Int32 =>
    if x_3 ≤ (0 : Int32) then
      ((-2 : Int32), (0 : Int32), m0_x)
    else
      zL ((p1).toInt64) fun x_5 : Int64 =>
      zL (F_X10_draws x_5 f_m0_people f_m0_stray) fun z_9 : Int32 × Int64 =>
      zL (z_9.1) fun r_6 : Int32 =>
      zL (z_9.2) fun n_m0_7 : Int64 =>
      (r_6, (0 : Int32), n_m0_7)
noncomputable def K_X10_count_1_0 (v2_10 : Int32) : Int32 × Int32 :=
  (v2_10, (0 : Int32))
noncomputable def B_X10_count_1 (f_m0_width : Nat → Int32) (kc_1_0 : Int32 → Int32 × Int32) (ih_1 : Int32 → Int32 → Int32 × Int32) (v2_10 : Int32) (v3_11 : Int32) : Int32 × Int32 :=
  if (4 : Int32) ≤ v3_11 then
    kc_1_0 v2_10
  else
    zL (f_m0_width (Int32.toNatClampNeg v3_11)) fun x_13 : Int32 =>
    if x_13 = (-1 : Int32) then
      zL (v2_10 + (0 : Int32)) fun x_17 : Int32 =>
      zL (v3_11 + Int32.ofInt 1) fun x_18 : Int32 =>
      ih_1 x_17 x_18
    else
      zL (v2_10 + (1 : Int32)) fun x_15 : Int32 =>
      zL (v3_11 + Int32.ofInt 1) fun x_16 : Int32 =>
      ih_1 x_15 x_16
noncomputable def L_X10_count_1 (f_m0_width : Nat → Int32) (kc_1_0 : Int32 → Int32 × Int32) : Nat → Int32 → Int32 → Int32 × Int32 := zLp (fun _ _ => (0, 0)) (B_X10_count_1 f_m0_width kc_1_0)
theorem L_X10_count_1_s {f_m0_width : (Nat → Int32)} {kc_1_0 : (Int32 → Int32 × Int32)} {t : Nat} {v2_10 : Int32} {v3_11 : Int32} : L_X10_count_1 f_m0_width kc_1_0 (t + 1) v2_10 v3_11 = B_X10_count_1 f_m0_width kc_1_0 (L_X10_count_1 f_m0_width kc_1_0 t) v2_10 v3_11 := rfl
noncomputable def F_X10_count (p1 : Int32) (m0_taped : Int32) (f_m0_width : Nat → Int32) (f_m0_lines : Nat → Int32) (f_m0_hours : Nat → Int32) (f_m0_courts : Nat → Int32) (f_m0_gates : Nat → Int32) (f_m0_people : Nat → Int32) (f_m0_stray : Nat → Int32) (f_m0_set : Nat → Int32) (f_m0_known : Nat → Int32) : Int32 × Int32 :=
  if p1 = (0 : Int32) then
    zL (f_m0_courts (Int32.toNatClampNeg (0 : Int32))) fun x_1 : Int32 =>
    (x_1, (0 : Int32))
  else
    if p1 = (1 : Int32) then
      zL (f_m0_hours (Int32.toNatClampNeg (0 : Int32))) fun x_2 : Int32 =>
      (x_2, (0 : Int32))
    else
      if p1 = (2 : Int32) then
        zL (f_m0_gates (Int32.toNatClampNeg (0 : Int32))) fun x_3 : Int32 =>
        (x_3, (0 : Int32))
      else
        if p1 = (3 : Int32) then
          zL (f_m0_people (Int32.toNatClampNeg (0 : Int32))) fun x_4 : Int32 =>
          (x_4, (0 : Int32))
        else
          if p1 = (4 : Int32) then
            zL (f_m0_lines (Int32.toNatClampNeg (0 : Int32))) fun x_5 : Int32 =>
            (x_5, (0 : Int32))
          else
            if p1 = (5 : Int32) then
              (m0_taped, (0 : Int32))
            else
              if p1 = (6 : Int32) then
                zL (F_X10_may f_m0_people f_m0_stray) fun r_6 : Int32 =>
                (r_6, (0 : Int32))
              else
                if p1 = (7 : Int32) then
                  zL (F_X10_surely f_m0_people f_m0_known) fun r_7 : Int32 =>
                  (r_7, (0 : Int32))
                else
                  if p1 = (8 : Int32) then
                    zL (f_m0_set (Int32.toNatClampNeg (1 : Int32))) fun x_8 : Int32 =>
                    (x_8, (0 : Int32))
                  else
                    if p1 = (9 : Int32) then
                      zL (f_m0_set (Int32.toNatClampNeg (0 : Int32))) fun x_9 : Int32 =>
                      (x_9, (0 : Int32))
                    else
                      if p1 = (10 : Int32) then
                        L_X10_count_1 f_m0_width K_X10_count_1_0 6 (0 : Int32) (0 : Int32)
                      else
                        ((-1 : Int32), (0 : Int32))
noncomputable def F_X10_write (p1 : Int32) (p2 : Int32) (p3 : Int64) (f_m0_width : Nat → Int32) (f_m0_many : Nat → Int32) (f_m0_cells : Nat → Int64) : Int32 × Int32 × (Nat → Int64) :=
  zL (F_X10_isSlot p1) fun r_1 : Int32 =>
  if r_1 = (0 : Int32) then
    ((-2 : Int32), (0 : Int32), f_m0_cells)
  else
    zL (f_m0_width (Int32.toNatClampNeg p1)) fun x_3 : Int32 =>
    if x_3 = (-1 : Int32) then
      ((-6 : Int32), (0 : Int32), f_m0_cells)
    else
      zL ((p2).toInt64) fun x_5 : Int64 =>
      zL (f_m0_many (Int32.toNatClampNeg p1)) fun x_6 : Int32 =>
      zL (x_6 - (1 : Int32)) fun x_7 : Int32 =>
      zL ((x_7).toInt64) fun x_8 : Int64 =>
      zL (F_X10_in x_5 (0 : Int64) x_8) fun r_9 : Int32 =>
      if r_9 = (0 : Int32) then
        ((-7 : Int32), (0 : Int32), f_m0_cells)
      else
        zL ((60 : Int32) * p1) fun x_11 : Int32 =>
        zL (x_11 + p2) fun x_12 : Int32 =>
        zL (f_m0_width (Int32.toNatClampNeg p1)) fun x_13 : Int32 =>
        zL (F_X10_cut p3 x_3) fun r_14 : Int64 =>
        zL (vp_updL f_m0_cells (Int32.toNatClampNeg x_12) r_14) fun f_15 : Nat → Int64 =>
        ((0 : Int32), (0 : Int32), f_15)
noncomputable def K_X10_row_1_0 (f_8 : Nat → Int32) (f_9 : Nat → Int32) (g_m0_cells_11 : Nat → Int64) : Int32 × Int32 × (Nat → Int32) × (Nat → Int32) × (Nat → Int64) :=
  ((0 : Int32), (0 : Int32), f_8, f_9, g_m0_cells_11)
noncomputable def B_X10_row_1 (p3 : Int32) (p1 : Int32) (kc_1_0 : (Nat → Int64) → Int32 × Int32 × (Nat → Int32) × (Nat → Int32) × (Nat → Int64)) (ih_1 : Int32 → (Nat → Int64) → Int32 × Int32 × (Nat → Int32) × (Nat → Int32) × (Nat → Int64)) (v4_10 : Int32) (g_m0_cells_11 : Nat → Int64) : Int32 × Int32 × (Nat → Int32) × (Nat → Int32) × (Nat → Int64) :=
  if p3 ≤ v4_10 then
    kc_1_0 g_m0_cells_11
  else
    zL ((60 : Int32) * p1) fun x_13 : Int32 =>
    zL (x_13 + v4_10) fun x_14 : Int32 =>
    zL (vp_updL g_m0_cells_11 (Int32.toNatClampNeg x_14) 0) fun f_15 : Nat → Int64 =>
    zL (v4_10 + Int32.ofInt 1) fun x_16 : Int32 =>
    ih_1 x_16 f_15
noncomputable def L_X10_row_1 (p3 : Int32) (p1 : Int32) (kc_1_0 : (Nat → Int64) → Int32 × Int32 × (Nat → Int32) × (Nat → Int32) × (Nat → Int64)) : Nat → Int32 → (Nat → Int64) → Int32 × Int32 × (Nat → Int32) × (Nat → Int32) × (Nat → Int64) := zLp (fun _ _ => (0, 0, (fun _ => 0), (fun _ => 0), (fun _ => 0))) (B_X10_row_1 p3 p1 kc_1_0)
theorem L_X10_row_1_s {p3 : Int32} {p1 : Int32} {kc_1_0 : ((Nat → Int64) → Int32 × Int32 × (Nat → Int32) × (Nat → Int32) × (Nat → Int64))} {t : Nat} {v4_10 : Int32} {g_m0_cells_11 : (Nat → Int64)} : L_X10_row_1 p3 p1 kc_1_0 (t + 1) v4_10 g_m0_cells_11 = B_X10_row_1 p3 p1 kc_1_0 (L_X10_row_1 p3 p1 kc_1_0 t) v4_10 g_m0_cells_11 := rfl
noncomputable def F_X10_row (p1 : Int32) (p2 : Int32) (p3 : Int32) (f_m0_width : Nat → Int32) (f_m0_many : Nat → Int32) (f_m0_cells : Nat → Int64) : Int32 × Int32 × (Nat → Int32) × (Nat → Int32) × (Nat → Int64) :=
  zL (F_X10_isSlot p1) fun r_1 : Int32 =>
  if r_1 = (0 : Int32) then
    ((-2 : Int32), (0 : Int32), f_m0_width, f_m0_many, f_m0_cells)
  else
    zL ((p2).toInt64) fun x_3 : Int64 =>
    zL (F_X10_in x_3 (0 : Int64) (3 : Int64)) fun r_4 : Int32 =>
    if r_4 = (0 : Int32) then
      ((-2 : Int32), (0 : Int32), f_m0_width, f_m0_many, f_m0_cells)
    else
      if p3 ≤ (60 : Int32) then
        if (0 : Int32) ≤ p3 then
          zL (upd f_m0_width (Int32.toNatClampNeg p1) p2) fun f_8 : Nat → Int32 =>
          zL (upd f_m0_many (Int32.toNatClampNeg p1) p3) fun f_9 : Nat → Int32 =>
          L_X10_row_1 p3 p1 (K_X10_row_1_0 f_8 f_9) 62 (0 : Int32) f_m0_cells
        else
          ((-3 : Int32), (0 : Int32), f_m0_width, f_m0_many, f_m0_cells)
      else
        ((-2 : Int32), (0 : Int32), f_m0_width, f_m0_many, f_m0_cells)
