set_option linter.all false
noncomputable def F_X10_in (p0 : Int64) (p1 : Int64) (p2 : Int64) : Int32 :=
  if lg_cmp p0 p1 < 0 then
    (0 : Int32)
  else
    if 0 < lg_cmp p0 p2 then
      (0 : Int32)
    else
      (1 : Int32)
noncomputable def F_X10_isSlot (p0 : Int32) : Int32 :=
  zL ((p0).toInt64) fun x_1 : Int64 =>
  zL (F_X10_in x_1 (0 : Int64) (3 : Int64)) fun r_2 : Int32 =>
  r_2
noncomputable def F_X10_cut (p0 : Int64) (p1 : Int32) : Int64 :=
  if p1 = (0 : Int32) then
    zL ((p0).toInt32) fun x_9 : Int32 =>
    zL ((x_9).toInt8.toInt32) fun x_10 : Int32 =>
    zL ((x_10).toInt64) fun x_11 : Int64 =>
    x_11
  else
    if p1 = (1 : Int32) then
      zL ((p0).toInt32) fun x_6 : Int32 =>
      zL ((x_6).toInt16.toInt32) fun x_7 : Int32 =>
      zL ((x_7).toInt64) fun x_8 : Int64 =>
      x_8
    else
      if p1 = (2 : Int32) then
        zL ((p0).toInt32) fun x_4 : Int32 =>
        zL ((x_4).toInt64) fun x_5 : Int64 =>
        x_5
      else
        p0
noncomputable def F_X10_lesser (p0 : Int32) (p1 : Int32) : Int32 :=
  if p1 ≤ p0 then
    p1
  else
    p0
noncomputable def K_X10_sizeOf_1_0 (v1_1 : Int32) : Int32 :=
  v1_1
noncomputable def B_X10_sizeOf_1 (kc_1_0 : Int32 → Int32) (ih_1 : Int32 → Int32 → Int32) (v1_1 : Int32) (v2_2 : Int32) : Int32 :=
  if v2_2 = (0 : Int32) then
    kc_1_0 v1_1
  else
    zL (v1_1 + Int32.ofInt 1) fun x_4 : Int32 =>
    zL (v2_2 - (1 : Int32)) fun x_5 : Int32 =>
    zL (v2_2 &&& x_5) fun x_6 : Int32 =>
    ih_1 x_4 x_6
noncomputable def L_X10_sizeOf_1 (kc_1_0 : Int32 → Int32) : Nat → Int32 → Int32 → Int32 := zLp (fun _ _ => 0) (B_X10_sizeOf_1 kc_1_0)
theorem L_X10_sizeOf_1_s {kc_1_0 : (Int32 → Int32)} {t : Nat} {v1_1 : Int32} {v2_2 : Int32} : L_X10_sizeOf_1 kc_1_0 (t + 1) v1_1 v2_2 = B_X10_sizeOf_1 kc_1_0 (L_X10_sizeOf_1 kc_1_0 t) v1_1 v2_2 := rfl
noncomputable def F_X10_sizeOf (p0 : Int32) : Int32 :=
  L_X10_sizeOf_1 K_X10_sizeOf_1_0 1025 (0 : Int32) p0
noncomputable def F_X10_sizeOr (p0 : Int32) (p1 : Int32) : Int32 :=
  if p0 = (-1 : Int32) then
    p0
  else
    if p1 = (1 : Int32) then
      p0
    else
      zL (F_X10_sizeOf p0) fun r_3 : Int32 =>
      r_3
noncomputable def F_X10_at (p0 : Int32) (p1 : Int32) (p2 : Int32) : Int32 :=
  zL ((10 : Int32) * p0) fun x_1 : Int32 =>
  zL (x_1 + p1) fun x_2 : Int32 =>
  zL (x_2 * (81 : Int32)) fun x_3 : Int32 =>
  zL (x_3 + p2) fun x_4 : Int32 =>
  x_4
noncomputable def F_X10_isSeed (p0 : Int32) : Int32 :=
  zL ((p0).toInt64) fun x_1 : Int64 =>
  zL (F_X10_in x_1 (0 : Int64) (2000000000 : Int64)) fun r_2 : Int32 =>
  r_2
noncomputable def F_X10_isHour (p1 : Int32) (f_m0_hours : Nat → Int32) : Int32 :=
  zL ((p1).toInt64) fun x_1 : Int64 =>
  zL (f_m0_hours (Int32.toNatClampNeg (0 : Int32))) fun x_2 : Int32 =>
  zL (x_2 - (1 : Int32)) fun x_3 : Int32 =>
  zL ((x_3).toInt64) fun x_4 : Int64 =>
  zL (F_X10_in x_1 (0 : Int64) x_4) fun r_5 : Int32 =>
  r_5
noncomputable def F_X10_isEnd (p1 : Int32) (f_m0_hours : Nat → Int32) : Int32 :=
  zL ((p1).toInt64) fun x_1 : Int64 =>
  zL (f_m0_hours (Int32.toNatClampNeg (0 : Int32))) fun x_2 : Int32 =>
  zL ((x_2).toInt64) fun x_3 : Int64 =>
  zL (F_X10_in x_1 (0 : Int64) x_3) fun r_4 : Int32 =>
  if r_4 = (0 : Int32) then
    (0 : Int32)
  else
    zL (f_m0_hours (Int32.toNatClampNeg (0 : Int32))) fun x_6 : Int32 =>
    if x_2 ≤ (0 : Int32) then
      (0 : Int32)
    else
      (1 : Int32)
noncomputable def F_X10_isCourt (p1 : Int32) (f_m0_courts : Nat → Int32) : Int32 :=
  zL ((p1).toInt64) fun x_1 : Int64 =>
  zL (f_m0_courts (Int32.toNatClampNeg (0 : Int32))) fun x_2 : Int32 =>
  zL (x_2 - (1 : Int32)) fun x_3 : Int32 =>
  zL ((x_3).toInt64) fun x_4 : Int64 =>
  zL (F_X10_in x_1 (0 : Int64) x_4) fun r_5 : Int32 =>
  r_5
noncomputable def F_X10_isPerson (p1 : Int32) (f_m0_people : Nat → Int32) : Int32 :=
  zL ((p1).toInt64) fun x_1 : Int64 =>
  zL (f_m0_people (Int32.toNatClampNeg (0 : Int32))) fun x_2 : Int32 =>
  zL (x_2 - (1 : Int32)) fun x_3 : Int32 =>
  zL ((x_3).toInt64) fun x_4 : Int64 =>
  zL (F_X10_in x_1 (0 : Int64) x_4) fun r_5 : Int32 =>
  r_5
noncomputable def F_X10_isGate (p1 : Int32) (f_m0_gates : Nat → Int32) : Int32 :=
  zL ((p1).toInt64) fun x_1 : Int64 =>
  zL (f_m0_gates (Int32.toNatClampNeg (0 : Int32))) fun x_2 : Int32 =>
  zL (x_2 - (1 : Int32)) fun x_3 : Int32 =>
  zL ((x_3).toInt64) fun x_4 : Int64 =>
  zL (F_X10_in x_1 (0 : Int64) x_4) fun r_5 : Int32 =>
  r_5
noncomputable def F_X10_isPeople (p1 : Int32) (f_m0_people : Nat → Int32) : Int32 :=
  zL ((p1).toInt64) fun x_1 : Int64 =>
  zL (f_m0_people (Int32.toNatClampNeg (0 : Int32))) fun x_2 : Int32 =>
  zL ((1 : Int32) <<< (x_2 &&& 31)) fun x_3 : Int32 =>
  zL (x_3 - (1 : Int32)) fun x_4 : Int32 =>
  zL ((x_4).toInt64) fun x_5 : Int64 =>
  zL (F_X10_in x_1 (0 : Int64) x_5) fun r_6 : Int32 =>
  r_6
noncomputable def K_X10_may_1_0 (v1_2 : Int32) : Int32 :=
  v1_2
noncomputable def B_X10_may_1 (f_m0_people : Nat → Int32) (f_m0_stray : Nat → Int32) (kc_1_0 : Int32 → Int32) (ih_1 : Int32 → Int32 → Int32) (v1_2 : Int32) (v2_1 : Int32) : Int32 :=
  zL (f_m0_people (Int32.toNatClampNeg (0 : Int32))) fun x_3 : Int32 =>
  if x_3 ≤ v2_1 then
    kc_1_0 v1_2
  else
    zL ((2 : Int32) * v2_1) fun x_5 : Int32 =>
    zL (f_m0_stray (Int32.toNatClampNeg x_5)) fun x_6 : Int32 =>
    if x_6 ≤ (0 : Int32) then
      zL (v1_2 ||| (0 : Int32)) fun x_8 : Int32 =>
      zL (v2_1 + Int32.ofInt 1) fun x_9 : Int32 =>
      ih_1 x_8 x_9
    else
      zL ((1 : Int32) <<< (v2_1 &&& 31)) fun x_10 : Int32 =>
      zL (v1_2 ||| x_10) fun x_11 : Int32 =>
      zL (v2_1 + Int32.ofInt 1) fun x_12 : Int32 =>
      ih_1 x_11 x_12
noncomputable def L_X10_may_1 (f_m0_people : Nat → Int32) (f_m0_stray : Nat → Int32) (kc_1_0 : Int32 → Int32) : Nat → Int32 → Int32 → Int32 := zLp (fun _ _ => 0) (B_X10_may_1 f_m0_people f_m0_stray kc_1_0)
theorem L_X10_may_1_s {f_m0_people : (Nat → Int32)} {f_m0_stray : (Nat → Int32)} {kc_1_0 : (Int32 → Int32)} {t : Nat} {v1_2 : Int32} {v2_1 : Int32} : L_X10_may_1 f_m0_people f_m0_stray kc_1_0 (t + 1) v1_2 v2_1 = B_X10_may_1 f_m0_people f_m0_stray kc_1_0 (L_X10_may_1 f_m0_people f_m0_stray kc_1_0 t) v1_2 v2_1 := rfl
noncomputable def F_X10_may (f_m0_people : Nat → Int32) (f_m0_stray : Nat → Int32) : Int32 :=
  L_X10_may_1 f_m0_people f_m0_stray K_X10_may_1_0 12 (0 : Int32) (0 : Int32)
noncomputable def F_X10_isStrayed (p1 : Int32) (f_m0_truth : Nat → Int32) : Int32 :=
  zL (f_m0_truth (Int32.toNatClampNeg (0 : Int32))) fun x_1 : Int32 =>
  zL (x_1 >>> (p1 &&& 31)) fun x_2 : Int32 =>
  zL (x_2 &&& (1 : Int32)) fun x_3 : Int32 =>
  if x_3 = (1 : Int32) then
    (1 : Int32)
  else
    (0 : Int32)
noncomputable def F_X10_leadsTo (p1 : Int32) (p2 : Int32) (f_m0_gate : Nat → Int32) : Int32 :=
  zL ((2 : Int32) * p1) fun x_1 : Int32 =>
  zL (f_m0_gate (Int32.toNatClampNeg x_1)) fun x_2 : Int32 =>
  if x_2 = p2 then
    zL ((2 : Int32) * p1) fun x_10 : Int32 =>
    zL (x_10 + (1 : Int32)) fun x_11 : Int32 =>
    zL (f_m0_gate (Int32.toNatClampNeg x_11)) fun x_12 : Int32 =>
    x_12
  else
    zL ((2 : Int32) * p1) fun x_4 : Int32 =>
    zL (x_4 + (1 : Int32)) fun x_5 : Int32 =>
    zL (f_m0_gate (Int32.toNatClampNeg x_5)) fun x_6 : Int32 =>
    if x_6 = p2 then
      zL ((2 : Int32) * p1) fun x_8 : Int32 =>
      zL (f_m0_gate (Int32.toNatClampNeg x_1)) fun x_9 : Int32 =>
      x_2
    else
      (-1 : Int32)
noncomputable def F_X10_isAsked (p1 : Int32) (p2 : Int32) (p3 : Int32) (f_m0_hours : Nat → Int32) (f_m0_courts : Nat → Int32) : Int32 :=
  zL (F_X10_isCourt p1 f_m0_courts) fun r_1 : Int32 =>
  if r_1 = (0 : Int32) then
    (0 : Int32)
  else
    zL (F_X10_isHour p2 f_m0_hours) fun r_3 : Int32 =>
    if r_3 = (0 : Int32) then
      (0 : Int32)
    else
      zL (F_X10_isCourt p3 f_m0_courts) fun r_5 : Int32 =>
      if r_5 = (0 : Int32) then
        (0 : Int32)
      else
        (1 : Int32)
noncomputable def F_X10_isGood (m0_bad : Int32) : Int32 :=
  if m0_bad = (0 : Int32) then
    (1 : Int32)
  else
    (0 : Int32)
noncomputable def F_X10_fails (p1 : Int32) (m0_place : Int32) (m0_bad : Int32) (m0_badPlace : Int32) : Int32 × Int32 :=
  if m0_bad = (0 : Int32) then
    (p1, m0_place)
  else
    (m0_bad, m0_badPlace)
noncomputable def F_X10_is (p1 : Int64) (m0_token : Int32) (m0_word : Int64) (m0_bad : Int32) : Int32 :=
  if m0_bad = (0 : Int32) then
    if m0_token = (1 : Int32) then
      if lg_cmp m0_word p1 = 0 then
        (1 : Int32)
      else
        (0 : Int32)
    else
      (0 : Int32)
  else
    (0 : Int32)
noncomputable def K_X10_surely_1_0 (v1_2 : Int32) : Int32 :=
  v1_2
noncomputable def B_X10_surely_1 (f_m0_people : Nat → Int32) (f_m0_known : Nat → Int32) (kc_1_0 : Int32 → Int32) (ih_1 : Int32 → Int32 → Int32) (v1_2 : Int32) (v2_1 : Int32) : Int32 :=
  zL (f_m0_people (Int32.toNatClampNeg (0 : Int32))) fun x_3 : Int32 =>
  if x_3 ≤ v2_1 then
    kc_1_0 v1_2
  else
    zL (f_m0_known (Int32.toNatClampNeg v2_1)) fun x_5 : Int32 =>
    if x_5 = (0 : Int32) then
      zL (v1_2 ||| (0 : Int32)) fun x_7 : Int32 =>
      zL (v2_1 + Int32.ofInt 1) fun x_8 : Int32 =>
      ih_1 x_7 x_8
    else
      zL ((1 : Int32) <<< (v2_1 &&& 31)) fun x_9 : Int32 =>
      zL (v1_2 ||| x_9) fun x_10 : Int32 =>
      zL (v2_1 + Int32.ofInt 1) fun x_11 : Int32 =>
      ih_1 x_10 x_11
noncomputable def L_X10_surely_1 (f_m0_people : Nat → Int32) (f_m0_known : Nat → Int32) (kc_1_0 : Int32 → Int32) : Nat → Int32 → Int32 → Int32 := zLp (fun _ _ => 0) (B_X10_surely_1 f_m0_people f_m0_known kc_1_0)
theorem L_X10_surely_1_s {f_m0_people : (Nat → Int32)} {f_m0_known : (Nat → Int32)} {kc_1_0 : (Int32 → Int32)} {t : Nat} {v1_2 : Int32} {v2_1 : Int32} : L_X10_surely_1 f_m0_people f_m0_known kc_1_0 (t + 1) v1_2 v2_1 = B_X10_surely_1 f_m0_people f_m0_known kc_1_0 (L_X10_surely_1 f_m0_people f_m0_known kc_1_0 t) v1_2 v2_1 := rfl
noncomputable def F_X10_surely (f_m0_people : Nat → Int32) (f_m0_known : Nat → Int32) : Int32 :=
  L_X10_surely_1 f_m0_people f_m0_known K_X10_surely_1_0 12 (0 : Int32) (0 : Int32)
noncomputable def F_X10_straysBy (p1 : Int32) (p2 : Int32) (f_m0_stray : Nat → Int32) : Int32 :=
  if p2 = (1 : Int32) then
    (0 : Int32)
  else
    if p2 = (2 : Int32) then
      (100 : Int32)
    else
      zL ((2 : Int32) * p1) fun x_3 : Int32 =>
      zL (f_m0_stray (Int32.toNatClampNeg x_3)) fun x_4 : Int32 =>
      x_4
noncomputable def F_X10_isOdds (p1 : Int32) (p2 : Int32) (p3 : Int32) (p4 : Int32) (f_m0_hours : Nat → Int32) (f_m0_courts : Nat → Int32) : Int32 :=
  zL (F_X10_isAsked p1 p2 p3 f_m0_hours f_m0_courts) fun r_1 : Int32 =>
  if r_1 = (0 : Int32) then
    (0 : Int32)
  else
    zL ((p4).toInt64) fun x_3 : Int64 =>
    zL ((p2).toInt64) fun x_4 : Int64 =>
    zL (f_m0_hours (Int32.toNatClampNeg (0 : Int32))) fun x_5 : Int32 =>
    zL ((x_5).toInt64) fun x_6 : Int64 =>
    zL (F_X10_in x_3 x_4 x_6) fun r_7 : Int32 =>
    if r_7 = (0 : Int32) then
      (0 : Int32)
    else
      (1 : Int32)
noncomputable def F_X10_drawn (m0_x : Int64) : Int32 × Int64 :=
  zL ((1103515245 : Int64) * m0_x) fun x_1 : Int64 =>
  zL (x_1 + (12345 : Int64)) fun x_2 : Int64 =>
  zL (x_2 - x_2 / (2147483648 : Int64) * (2147483648 : Int64)) fun x_3 : Int64 =>
  zL (x_3 / (65536 : Int64)) fun x_4 : Int64 =>
  zL (x_4 - x_4 / (100 : Int64) * (100 : Int64)) fun x_5 : Int64 =>
  zL ((x_5).toInt32) fun x_6 : Int32 =>
  (x_6, x_3)
noncomputable def K_X10_leastName_1_0  : Int32 :=
  (-1 : Int32)
noncomputable def K_X10_leastName_1_1 (v2_1 : Int32) : Int32 :=
  v2_1
noncomputable def B_X10_leastName_1 (f_m0_people : Nat → Int32) (p1 : Int32) (kc_1_0 : Int32) (kc_1_1 : Int32 → Int32) (ih_1 : Int32 → Int32) (v2_1 : Int32) : Int32 :=
  zL (f_m0_people (Int32.toNatClampNeg (0 : Int32))) fun x_2 : Int32 =>
  if x_2 ≤ v2_1 then
    kc_1_0
  else
    zL (p1 >>> (v2_1 &&& 31)) fun x_4 : Int32 =>
    zL (x_4 &&& (1 : Int32)) fun x_5 : Int32 =>
    if x_5 = (1 : Int32) then
      kc_1_1 v2_1
    else
      zL (v2_1 + Int32.ofInt 1) fun x_7 : Int32 =>
      ih_1 x_7
noncomputable def L_X10_leastName_1 (f_m0_people : Nat → Int32) (p1 : Int32) (kc_1_0 : Int32) (kc_1_1 : Int32 → Int32) : Nat → Int32 → Int32 := zLp (fun _ => 0) (B_X10_leastName_1 f_m0_people p1 kc_1_0 kc_1_1)
theorem L_X10_leastName_1_s {f_m0_people : (Nat → Int32)} {p1 : Int32} {kc_1_0 : Int32} {kc_1_1 : (Int32 → Int32)} {t : Nat} {v2_1 : Int32} : L_X10_leastName_1 f_m0_people p1 kc_1_0 kc_1_1 (t + 1) v2_1 = B_X10_leastName_1 f_m0_people p1 kc_1_0 kc_1_1 (L_X10_leastName_1 f_m0_people p1 kc_1_0 kc_1_1 t) v2_1 := rfl
noncomputable def F_X10_leastName (p1 : Int32) (f_m0_people : Nat → Int32) : Int32 :=
  L_X10_leastName_1 f_m0_people p1 K_X10_leastName_1_0 K_X10_leastName_1_1 12 (0 : Int32)
noncomputable def F_X10_isSooner (p1 : Int32) (p2 : Int32) : Int32 :=
  if p1 = (-1 : Int32) then
    (0 : Int32)
  else
    if p2 = (-1 : Int32) then
      (1 : Int32)
    else
      if p2 ≤ p1 then
        (0 : Int32)
      else
        (1 : Int32)
noncomputable def F_X10_end (p1 : Int32) (m0_taped : Int32) : Int32 × Int32 × Int32 :=
  zL ((p1).toInt64) fun x_1 : Int64 =>
  zL ((m0_taped).toInt64) fun x_2 : Int64 =>
  zL (F_X10_in x_1 (0 : Int64) x_2) fun r_3 : Int32 =>
  if r_3 = (0 : Int32) then
    ((-1 : Int32), (0 : Int32), m0_taped)
  else
    (p1, (0 : Int32), p1)
noncomputable def F_X10_fault (p1 : Int32) (m0_fault : Int32) (m0_faultPlace : Int32) : Int32 × Int32 :=
  if p1 = (0 : Int32) then
    (m0_fault, (0 : Int32))
  else
    if p1 = (1 : Int32) then
      (m0_faultPlace, (0 : Int32))
    else
      ((-1 : Int32), (0 : Int32))
noncomputable def F_X10_placeOf (p1 : Int32) (p2 : Int32) (p3 : Int32) (m0_hostPerson : Int32) (m0_hostCourt : Int32) (f_m0_at0 : Nat → Int32) (f_m0_stray : Nat → Int32) : Int32 :=
  if p1 = m0_hostPerson then
    m0_hostCourt
  else
    if p2 = (0 : Int32) then
      zL ((48 : Int32) * p1) fun x_3 : Int32 =>
      zL (x_3 + p3) fun x_4 : Int32 =>
      zL (f_m0_at0 (Int32.toNatClampNeg x_4)) fun x_5 : Int32 =>
      x_5
    else
      zL ((2 : Int32) * p1) fun x_6 : Int32 =>
      zL (x_6 + (1 : Int32)) fun x_7 : Int32 =>
      zL (f_m0_stray (Int32.toNatClampNeg x_7)) fun x_8 : Int32 =>
      x_8
noncomputable def K_X10_isIn_1_0 (p2 : Int32) (v3_2 : Int32) : Int32 :=
  if v3_2 = p2 then
    (1 : Int32)
  else
    (0 : Int32)
noncomputable def K_X10_isIn_1_1 (p2 : Int32) (v3_2 : Int32) : Int32 :=
  if v3_2 = p2 then
    (1 : Int32)
  else
    (0 : Int32)
noncomputable def B_X10_isIn_1 (p2 : Int32) (f_m0_in : Nat → Int32) (kc_1_0 : Int32 → Int32) (kc_1_1 : Int32 → Int32) (ih_1 : Int32 → Int32) (v3_2 : Int32) : Int32 :=
  if v3_2 = (-1 : Int32) then
    kc_1_0 v3_2
  else
    if v3_2 = p2 then
      kc_1_1 v3_2
    else
      zL (f_m0_in (Int32.toNatClampNeg v3_2)) fun x_7 : Int32 =>
      ih_1 x_7
noncomputable def L_X10_isIn_1 (p2 : Int32) (f_m0_in : Nat → Int32) (kc_1_0 : Int32 → Int32) (kc_1_1 : Int32 → Int32) : Nat → Int32 → Int32 := zLp (fun _ => 0) (B_X10_isIn_1 p2 f_m0_in kc_1_0 kc_1_1)
theorem L_X10_isIn_1_s {p2 : Int32} {f_m0_in : (Nat → Int32)} {kc_1_0 : (Int32 → Int32)} {kc_1_1 : (Int32 → Int32)} {t : Nat} {v3_2 : Int32} : L_X10_isIn_1 p2 f_m0_in kc_1_0 kc_1_1 (t + 1) v3_2 = B_X10_isIn_1 p2 f_m0_in kc_1_0 kc_1_1 (L_X10_isIn_1 p2 f_m0_in kc_1_0 kc_1_1 t) v3_2 := rfl
noncomputable def F_X10_isIn (p1 : Int32) (p2 : Int32) (f_m0_in : Nat → Int32) : Int32 :=
  zL (f_m0_in (Int32.toNatClampNeg p1)) fun x_1 : Int32 =>
  L_X10_isIn_1 p2 f_m0_in (K_X10_isIn_1_0 p2) (K_X10_isIn_1_1 p2) 12 x_1
noncomputable def F_X10_counts (p1 : Int32) (p2 : Int32) (f_m0_in : Nat → Int32) (f_m0_set : Nat → Int32) : Int32 :=
  if p1 = p2 then
    (1 : Int32)
  else
    zL (f_m0_set (Int32.toNatClampNeg (0 : Int32))) fun x_2 : Int32 =>
    if x_2 = (1 : Int32) then
      zL (F_X10_isIn p1 p2 f_m0_in) fun r_4 : Int32 =>
      if r_4 = (0 : Int32) then
        (0 : Int32)
      else
        (1 : Int32)
    else
      (0 : Int32)
noncomputable def F_X10_isWithin (p1 : Int32) (p2 : Int32) (p3 : Int32) (p4 : Int32) (m0_hostPerson : Int32) (m0_hostCourt : Int32) (f_m0_in : Nat → Int32) (f_m0_at0 : Nat → Int32) (f_m0_stray : Nat → Int32) (f_m0_set : Nat → Int32) : Int32 :=
  zL (F_X10_placeOf p1 p2 p4 m0_hostPerson m0_hostCourt f_m0_at0 f_m0_stray) fun r_1 : Int32 =>
  zL (F_X10_counts r_1 p3 f_m0_in f_m0_set) fun r_2 : Int32 =>
  r_2
noncomputable def K_X10_withinOf_1_0 (v3_2 : Int32) : Int32 :=
  v3_2
noncomputable def B_X10_withinOf_1 (f_m0_people : Nat → Int32) (m0_outside : Int32) (p1 : Int32) (f_m0_in : Nat → Int32) (f_m0_set : Nat → Int32) (f_m0_truth : Nat → Int32) (p2 : Int32) (m0_hostPerson : Int32) (m0_hostCourt : Int32) (f_m0_at0 : Nat → Int32) (f_m0_stray : Nat → Int32) (kc_1_0 : Int32 → Int32) (ih_1 : Int32 → Int32 → Int32) (v3_2 : Int32) (v4_1 : Int32) : Int32 :=
  zL (f_m0_people (Int32.toNatClampNeg (0 : Int32))) fun x_3 : Int32 =>
  if x_3 ≤ v4_1 then
    kc_1_0 v3_2
  else
    zL (m0_outside >>> (v4_1 &&& 31)) fun x_5 : Int32 =>
    zL (x_5 &&& (1 : Int32)) fun x_6 : Int32 =>
    if x_6 = (1 : Int32) then
      zL (F_X10_counts (0 : Int32) p1 f_m0_in f_m0_set) fun r_16 : Int32 =>
      if r_16 = (0 : Int32) then
        zL (v3_2 ||| (0 : Int32)) fun x_18 : Int32 =>
        zL (v4_1 + Int32.ofInt 1) fun x_19 : Int32 =>
        ih_1 x_18 x_19
      else
        zL ((1 : Int32) <<< (v4_1 &&& 31)) fun x_20 : Int32 =>
        zL (v3_2 ||| x_20) fun x_21 : Int32 =>
        zL (v4_1 + Int32.ofInt 1) fun x_22 : Int32 =>
        ih_1 x_21 x_22
    else
      zL (F_X10_isStrayed v4_1 f_m0_truth) fun r_8 : Int32 =>
      zL (F_X10_isWithin v4_1 r_8 p1 p2 m0_hostPerson m0_hostCourt f_m0_in f_m0_at0 f_m0_stray f_m0_set) fun r_9 : Int32 =>
      if r_9 = (0 : Int32) then
        zL (v3_2 ||| (0 : Int32)) fun x_11 : Int32 =>
        zL (v4_1 + Int32.ofInt 1) fun x_12 : Int32 =>
        ih_1 x_11 x_12
      else
        zL ((1 : Int32) <<< (v4_1 &&& 31)) fun x_13 : Int32 =>
        zL (v3_2 ||| x_13) fun x_14 : Int32 =>
        zL (v4_1 + Int32.ofInt 1) fun x_15 : Int32 =>
        ih_1 x_14 x_15
noncomputable def L_X10_withinOf_1 (f_m0_people : Nat → Int32) (m0_outside : Int32) (p1 : Int32) (f_m0_in : Nat → Int32) (f_m0_set : Nat → Int32) (f_m0_truth : Nat → Int32) (p2 : Int32) (m0_hostPerson : Int32) (m0_hostCourt : Int32) (f_m0_at0 : Nat → Int32) (f_m0_stray : Nat → Int32) (kc_1_0 : Int32 → Int32) : Nat → Int32 → Int32 → Int32 := zLp (fun _ _ => 0) (B_X10_withinOf_1 f_m0_people m0_outside p1 f_m0_in f_m0_set f_m0_truth p2 m0_hostPerson m0_hostCourt f_m0_at0 f_m0_stray kc_1_0)
theorem L_X10_withinOf_1_s {f_m0_people : (Nat → Int32)} {m0_outside : Int32} {p1 : Int32} {f_m0_in : (Nat → Int32)} {f_m0_set : (Nat → Int32)} {f_m0_truth : (Nat → Int32)} {p2 : Int32} {m0_hostPerson : Int32} {m0_hostCourt : Int32} {f_m0_at0 : (Nat → Int32)} {f_m0_stray : (Nat → Int32)} {kc_1_0 : (Int32 → Int32)} {t : Nat} {v3_2 : Int32} {v4_1 : Int32} : L_X10_withinOf_1 f_m0_people m0_outside p1 f_m0_in f_m0_set f_m0_truth p2 m0_hostPerson m0_hostCourt f_m0_at0 f_m0_stray kc_1_0 (t + 1) v3_2 v4_1 = B_X10_withinOf_1 f_m0_people m0_outside p1 f_m0_in f_m0_set f_m0_truth p2 m0_hostPerson m0_hostCourt f_m0_at0 f_m0_stray kc_1_0 (L_X10_withinOf_1 f_m0_people m0_outside p1 f_m0_in f_m0_set f_m0_truth p2 m0_hostPerson m0_hostCourt f_m0_at0 f_m0_stray kc_1_0 t) v3_2 v4_1 := rfl
noncomputable def F_X10_withinOf (p1 : Int32) (p2 : Int32) (m0_hostPerson : Int32) (m0_hostCourt : Int32) (m0_outside : Int32) (f_m0_in : Nat → Int32) (f_m0_people : Nat → Int32) (f_m0_at0 : Nat → Int32) (f_m0_stray : Nat → Int32) (f_m0_set : Nat → Int32) (f_m0_truth : Nat → Int32) : Int32 :=
  L_X10_withinOf_1 f_m0_people m0_outside p1 f_m0_in f_m0_set f_m0_truth p2 m0_hostPerson m0_hostCourt f_m0_at0 f_m0_stray K_X10_withinOf_1_0 12 (0 : Int32) (0 : Int32)
noncomputable def K_X10_copyRow_1_0 (g_a_2 : Nat → Int32) : (Nat → Int32) :=
  g_a_2
noncomputable def B_X10_copyRow_1 (p3 : Int32) (p2 : Int32) (kc_1_0 : (Nat → Int32) → (Nat → Int32)) (ih_1 : Int32 → (Nat → Int32) → (Nat → Int32)) (v4_1 : Int32) (g_a_2 : Nat → Int32) : (Nat → Int32) :=
  if (1 : Int32) ≤ v4_1 then
    kc_1_0 g_a_2
  else
    zL ((1 : Int32) * p3) fun x_4 : Int32 =>
    zL (x_4 + v4_1) fun x_5 : Int32 =>
    zL ((1 : Int32) * p2) fun x_6 : Int32 =>
    zL (x_6 + v4_1) fun x_7 : Int32 =>
    zL (g_a_2 (Int32.toNatClampNeg x_7)) fun x_8 : Int32 =>
    zL (upd g_a_2 (Int32.toNatClampNeg x_5) x_8) fun f_9 : Nat → Int32 =>
    zL (v4_1 + Int32.ofInt 1) fun x_10 : Int32 =>
    ih_1 x_10 f_9
noncomputable def L_X10_copyRow_1 (p3 : Int32) (p2 : Int32) (kc_1_0 : (Nat → Int32) → (Nat → Int32)) : Nat → Int32 → (Nat → Int32) → (Nat → Int32) := zLp (fun _ _ => (fun _ => 0)) (B_X10_copyRow_1 p3 p2 kc_1_0)
theorem L_X10_copyRow_1_s {p3 : Int32} {p2 : Int32} {kc_1_0 : ((Nat → Int32) → (Nat → Int32))} {t : Nat} {v4_1 : Int32} {g_a_2 : (Nat → Int32)} : L_X10_copyRow_1 p3 p2 kc_1_0 (t + 1) v4_1 g_a_2 = B_X10_copyRow_1 p3 p2 kc_1_0 (L_X10_copyRow_1 p3 p2 kc_1_0 t) v4_1 g_a_2 := rfl
noncomputable def F_X10_copyRow (p2 : Int32) (p3 : Int32) (f_a : Nat → Int32) : (Nat → Int32) :=
  L_X10_copyRow_1 p3 p2 K_X10_copyRow_1_0 3 (0 : Int32) f_a
noncomputable def K_X10_copyRow_1_0_v1 (g_a_2 : Nat → Int32) : (Nat → Int32) :=
  g_a_2
noncomputable def B_X10_copyRow_1_v1 (p3 : Int32) (p2 : Int32) (kc_1_0 : (Nat → Int32) → (Nat → Int32)) (ih_1 : Int32 → (Nat → Int32) → (Nat → Int32)) (v4_1 : Int32) (g_a_2 : Nat → Int32) : (Nat → Int32) :=
  if (1 : Int32) ≤ v4_1 then
    kc_1_0 g_a_2
  else
    zL ((1 : Int32) * p3) fun x_4 : Int32 =>
    zL (x_4 + v4_1) fun x_5 : Int32 =>
    zL ((1 : Int32) * p2) fun x_6 : Int32 =>
    zL (x_6 + v4_1) fun x_7 : Int32 =>
    zL (g_a_2 (Int32.toNatClampNeg x_7)) fun x_8 : Int32 =>
    zL (upd g_a_2 (Int32.toNatClampNeg x_5) x_8) fun f_9 : Nat → Int32 =>
    zL (v4_1 + Int32.ofInt 1) fun x_10 : Int32 =>
    ih_1 x_10 f_9
noncomputable def L_X10_copyRow_1_v1 (p3 : Int32) (p2 : Int32) (kc_1_0 : (Nat → Int32) → (Nat → Int32)) : Nat → Int32 → (Nat → Int32) → (Nat → Int32) := zLp (fun _ _ => (fun _ => 0)) (B_X10_copyRow_1_v1 p3 p2 kc_1_0)
theorem L_X10_copyRow_1_v1_s {p3 : Int32} {p2 : Int32} {kc_1_0 : ((Nat → Int32) → (Nat → Int32))} {t : Nat} {v4_1 : Int32} {g_a_2 : (Nat → Int32)} : L_X10_copyRow_1_v1 p3 p2 kc_1_0 (t + 1) v4_1 g_a_2 = B_X10_copyRow_1_v1 p3 p2 kc_1_0 (L_X10_copyRow_1_v1 p3 p2 kc_1_0 t) v4_1 g_a_2 := rfl
noncomputable def F_X10_copyRow_v1 (p2 : Int32) (p3 : Int32) (f_a : Nat → Int32) : (Nat → Int32) :=
  L_X10_copyRow_1_v1 p3 p2 K_X10_copyRow_1_0_v1 3 (0 : Int32) f_a
noncomputable def K_X10_copyRow_1_0_v2 (g_a_2 : Nat → Int32) : (Nat → Int32) :=
  g_a_2
noncomputable def B_X10_copyRow_1_v2 (p3 : Int32) (p2 : Int32) (kc_1_0 : (Nat → Int32) → (Nat → Int32)) (ih_1 : Int32 → (Nat → Int32) → (Nat → Int32)) (v4_1 : Int32) (g_a_2 : Nat → Int32) : (Nat → Int32) :=
  if (1 : Int32) ≤ v4_1 then
    kc_1_0 g_a_2
  else
    zL ((1 : Int32) * p3) fun x_4 : Int32 =>
    zL (x_4 + v4_1) fun x_5 : Int32 =>
    zL ((1 : Int32) * p2) fun x_6 : Int32 =>
    zL (x_6 + v4_1) fun x_7 : Int32 =>
    zL (g_a_2 (Int32.toNatClampNeg x_7)) fun x_8 : Int32 =>
    zL (upd g_a_2 (Int32.toNatClampNeg x_5) x_8) fun f_9 : Nat → Int32 =>
    zL (v4_1 + Int32.ofInt 1) fun x_10 : Int32 =>
    ih_1 x_10 f_9
noncomputable def L_X10_copyRow_1_v2 (p3 : Int32) (p2 : Int32) (kc_1_0 : (Nat → Int32) → (Nat → Int32)) : Nat → Int32 → (Nat → Int32) → (Nat → Int32) := zLp (fun _ _ => (fun _ => 0)) (B_X10_copyRow_1_v2 p3 p2 kc_1_0)
theorem L_X10_copyRow_1_v2_s {p3 : Int32} {p2 : Int32} {kc_1_0 : ((Nat → Int32) → (Nat → Int32))} {t : Nat} {v4_1 : Int32} {g_a_2 : (Nat → Int32)} : L_X10_copyRow_1_v2 p3 p2 kc_1_0 (t + 1) v4_1 g_a_2 = B_X10_copyRow_1_v2 p3 p2 kc_1_0 (L_X10_copyRow_1_v2 p3 p2 kc_1_0 t) v4_1 g_a_2 := rfl
noncomputable def F_X10_copyRow_v2 (p2 : Int32) (p3 : Int32) (f_a : Nat → Int32) : (Nat → Int32) :=
  L_X10_copyRow_1_v2 p3 p2 K_X10_copyRow_1_0_v2 3 (0 : Int32) f_a
noncomputable def K_X10_copyRow_1_0_v3 (g_a_2 : Nat → Int32) : (Nat → Int32) :=
  g_a_2
noncomputable def B_X10_copyRow_1_v3 (p3 : Int32) (p2 : Int32) (kc_1_0 : (Nat → Int32) → (Nat → Int32)) (ih_1 : Int32 → (Nat → Int32) → (Nat → Int32)) (v4_1 : Int32) (g_a_2 : Nat → Int32) : (Nat → Int32) :=
  if (10 : Int32) ≤ v4_1 then
    kc_1_0 g_a_2
  else
    zL ((10 : Int32) * p3) fun x_4 : Int32 =>
    zL (x_4 + v4_1) fun x_5 : Int32 =>
    zL ((10 : Int32) * p2) fun x_6 : Int32 =>
    zL (x_6 + v4_1) fun x_7 : Int32 =>
    zL (g_a_2 (Int32.toNatClampNeg x_7)) fun x_8 : Int32 =>
    zL (upd g_a_2 (Int32.toNatClampNeg x_5) x_8) fun f_9 : Nat → Int32 =>
    zL (v4_1 + Int32.ofInt 1) fun x_10 : Int32 =>
    ih_1 x_10 f_9
noncomputable def L_X10_copyRow_1_v3 (p3 : Int32) (p2 : Int32) (kc_1_0 : (Nat → Int32) → (Nat → Int32)) : Nat → Int32 → (Nat → Int32) → (Nat → Int32) := zLp (fun _ _ => (fun _ => 0)) (B_X10_copyRow_1_v3 p3 p2 kc_1_0)
theorem L_X10_copyRow_1_v3_s {p3 : Int32} {p2 : Int32} {kc_1_0 : ((Nat → Int32) → (Nat → Int32))} {t : Nat} {v4_1 : Int32} {g_a_2 : (Nat → Int32)} : L_X10_copyRow_1_v3 p3 p2 kc_1_0 (t + 1) v4_1 g_a_2 = B_X10_copyRow_1_v3 p3 p2 kc_1_0 (L_X10_copyRow_1_v3 p3 p2 kc_1_0 t) v4_1 g_a_2 := rfl
noncomputable def F_X10_copyRow_v3 (p2 : Int32) (p3 : Int32) (f_a : Nat → Int32) : (Nat → Int32) :=
  L_X10_copyRow_1_v3 p3 p2 K_X10_copyRow_1_0_v3 12 (0 : Int32) f_a
noncomputable def K_X10_copyRow_1_0_v4 (g_a_2 : Nat → Int32) : (Nat → Int32) :=
  g_a_2
noncomputable def B_X10_copyRow_1_v4 (p3 : Int32) (p2 : Int32) (kc_1_0 : (Nat → Int32) → (Nat → Int32)) (ih_1 : Int32 → (Nat → Int32) → (Nat → Int32)) (v4_1 : Int32) (g_a_2 : Nat → Int32) : (Nat → Int32) :=
  if (1 : Int32) ≤ v4_1 then
    kc_1_0 g_a_2
  else
    zL ((1 : Int32) * p3) fun x_4 : Int32 =>
    zL (x_4 + v4_1) fun x_5 : Int32 =>
    zL ((1 : Int32) * p2) fun x_6 : Int32 =>
    zL (x_6 + v4_1) fun x_7 : Int32 =>
    zL (g_a_2 (Int32.toNatClampNeg x_7)) fun x_8 : Int32 =>
    zL (upd g_a_2 (Int32.toNatClampNeg x_5) x_8) fun f_9 : Nat → Int32 =>
    zL (v4_1 + Int32.ofInt 1) fun x_10 : Int32 =>
    ih_1 x_10 f_9
noncomputable def L_X10_copyRow_1_v4 (p3 : Int32) (p2 : Int32) (kc_1_0 : (Nat → Int32) → (Nat → Int32)) : Nat → Int32 → (Nat → Int32) → (Nat → Int32) := zLp (fun _ _ => (fun _ => 0)) (B_X10_copyRow_1_v4 p3 p2 kc_1_0)
theorem L_X10_copyRow_1_v4_s {p3 : Int32} {p2 : Int32} {kc_1_0 : ((Nat → Int32) → (Nat → Int32))} {t : Nat} {v4_1 : Int32} {g_a_2 : (Nat → Int32)} : L_X10_copyRow_1_v4 p3 p2 kc_1_0 (t + 1) v4_1 g_a_2 = B_X10_copyRow_1_v4 p3 p2 kc_1_0 (L_X10_copyRow_1_v4 p3 p2 kc_1_0 t) v4_1 g_a_2 := rfl
noncomputable def F_X10_copyRow_v4 (p2 : Int32) (p3 : Int32) (f_a : Nat → Int32) : (Nat → Int32) :=
  L_X10_copyRow_1_v4 p3 p2 K_X10_copyRow_1_0_v4 3 (0 : Int32) f_a
noncomputable def K_X10_copyRow_1_0_v5 (g_a_2 : Nat → Int32) : (Nat → Int32) :=
  g_a_2
noncomputable def B_X10_copyRow_1_v5 (p3 : Int32) (p2 : Int32) (kc_1_0 : (Nat → Int32) → (Nat → Int32)) (ih_1 : Int32 → (Nat → Int32) → (Nat → Int32)) (v4_1 : Int32) (g_a_2 : Nat → Int32) : (Nat → Int32) :=
  if (32 : Int32) ≤ v4_1 then
    kc_1_0 g_a_2
  else
    zL ((32 : Int32) * p3) fun x_4 : Int32 =>
    zL (x_4 + v4_1) fun x_5 : Int32 =>
    zL ((32 : Int32) * p2) fun x_6 : Int32 =>
    zL (x_6 + v4_1) fun x_7 : Int32 =>
    zL (g_a_2 (Int32.toNatClampNeg x_7)) fun x_8 : Int32 =>
    zL (upd g_a_2 (Int32.toNatClampNeg x_5) x_8) fun f_9 : Nat → Int32 =>
    zL (v4_1 + Int32.ofInt 1) fun x_10 : Int32 =>
    ih_1 x_10 f_9
noncomputable def L_X10_copyRow_1_v5 (p3 : Int32) (p2 : Int32) (kc_1_0 : (Nat → Int32) → (Nat → Int32)) : Nat → Int32 → (Nat → Int32) → (Nat → Int32) := zLp (fun _ _ => (fun _ => 0)) (B_X10_copyRow_1_v5 p3 p2 kc_1_0)
theorem L_X10_copyRow_1_v5_s {p3 : Int32} {p2 : Int32} {kc_1_0 : ((Nat → Int32) → (Nat → Int32))} {t : Nat} {v4_1 : Int32} {g_a_2 : (Nat → Int32)} : L_X10_copyRow_1_v5 p3 p2 kc_1_0 (t + 1) v4_1 g_a_2 = B_X10_copyRow_1_v5 p3 p2 kc_1_0 (L_X10_copyRow_1_v5 p3 p2 kc_1_0 t) v4_1 g_a_2 := rfl
noncomputable def F_X10_copyRow_v5 (p2 : Int32) (p3 : Int32) (f_a : Nat → Int32) : (Nat → Int32) :=
  L_X10_copyRow_1_v5 p3 p2 K_X10_copyRow_1_0_v5 34 (0 : Int32) f_a
noncomputable def K_X10_copyRow_1_0_v6 (g_a_2 : Nat → Int32) : (Nat → Int32) :=
  g_a_2
noncomputable def B_X10_copyRow_1_v6 (p3 : Int32) (p2 : Int32) (kc_1_0 : (Nat → Int32) → (Nat → Int32)) (ih_1 : Int32 → (Nat → Int32) → (Nat → Int32)) (v4_1 : Int32) (g_a_2 : Nat → Int32) : (Nat → Int32) :=
  if (480 : Int32) ≤ v4_1 then
    kc_1_0 g_a_2
  else
    zL ((480 : Int32) * p3) fun x_4 : Int32 =>
    zL (x_4 + v4_1) fun x_5 : Int32 =>
    zL ((480 : Int32) * p2) fun x_6 : Int32 =>
    zL (x_6 + v4_1) fun x_7 : Int32 =>
    zL (g_a_2 (Int32.toNatClampNeg x_7)) fun x_8 : Int32 =>
    zL (upd g_a_2 (Int32.toNatClampNeg x_5) x_8) fun f_9 : Nat → Int32 =>
    zL (v4_1 + Int32.ofInt 1) fun x_10 : Int32 =>
    ih_1 x_10 f_9
noncomputable def L_X10_copyRow_1_v6 (p3 : Int32) (p2 : Int32) (kc_1_0 : (Nat → Int32) → (Nat → Int32)) : Nat → Int32 → (Nat → Int32) → (Nat → Int32) := zLp (fun _ _ => (fun _ => 0)) (B_X10_copyRow_1_v6 p3 p2 kc_1_0)
theorem L_X10_copyRow_1_v6_s {p3 : Int32} {p2 : Int32} {kc_1_0 : ((Nat → Int32) → (Nat → Int32))} {t : Nat} {v4_1 : Int32} {g_a_2 : (Nat → Int32)} : L_X10_copyRow_1_v6 p3 p2 kc_1_0 (t + 1) v4_1 g_a_2 = B_X10_copyRow_1_v6 p3 p2 kc_1_0 (L_X10_copyRow_1_v6 p3 p2 kc_1_0 t) v4_1 g_a_2 := rfl
noncomputable def F_X10_copyRow_v6 (p2 : Int32) (p3 : Int32) (f_a : Nat → Int32) : (Nat → Int32) :=
  L_X10_copyRow_1_v6 p3 p2 K_X10_copyRow_1_0_v6 482 (0 : Int32) f_a
noncomputable def K_X10_copyRow_1_0_v7 (g_a_2 : Nat → Int32) : (Nat → Int32) :=
  g_a_2
noncomputable def B_X10_copyRow_1_v7 (p3 : Int32) (p2 : Int32) (kc_1_0 : (Nat → Int32) → (Nat → Int32)) (ih_1 : Int32 → (Nat → Int32) → (Nat → Int32)) (v4_1 : Int32) (g_a_2 : Nat → Int32) : (Nat → Int32) :=
  if (20 : Int32) ≤ v4_1 then
    kc_1_0 g_a_2
  else
    zL ((20 : Int32) * p3) fun x_4 : Int32 =>
    zL (x_4 + v4_1) fun x_5 : Int32 =>
    zL ((20 : Int32) * p2) fun x_6 : Int32 =>
    zL (x_6 + v4_1) fun x_7 : Int32 =>
    zL (g_a_2 (Int32.toNatClampNeg x_7)) fun x_8 : Int32 =>
    zL (upd g_a_2 (Int32.toNatClampNeg x_5) x_8) fun f_9 : Nat → Int32 =>
    zL (v4_1 + Int32.ofInt 1) fun x_10 : Int32 =>
    ih_1 x_10 f_9
noncomputable def L_X10_copyRow_1_v7 (p3 : Int32) (p2 : Int32) (kc_1_0 : (Nat → Int32) → (Nat → Int32)) : Nat → Int32 → (Nat → Int32) → (Nat → Int32) := zLp (fun _ _ => (fun _ => 0)) (B_X10_copyRow_1_v7 p3 p2 kc_1_0)
theorem L_X10_copyRow_1_v7_s {p3 : Int32} {p2 : Int32} {kc_1_0 : ((Nat → Int32) → (Nat → Int32))} {t : Nat} {v4_1 : Int32} {g_a_2 : (Nat → Int32)} : L_X10_copyRow_1_v7 p3 p2 kc_1_0 (t + 1) v4_1 g_a_2 = B_X10_copyRow_1_v7 p3 p2 kc_1_0 (L_X10_copyRow_1_v7 p3 p2 kc_1_0 t) v4_1 g_a_2 := rfl
noncomputable def F_X10_copyRow_v7 (p2 : Int32) (p3 : Int32) (f_a : Nat → Int32) : (Nat → Int32) :=
  L_X10_copyRow_1_v7 p3 p2 K_X10_copyRow_1_0_v7 22 (0 : Int32) f_a
noncomputable def K_X10_copyRow_1_0_v8 (g_a_2 : Nat → Int32) : (Nat → Int32) :=
  g_a_2
noncomputable def B_X10_copyRow_1_v8 (p3 : Int32) (p2 : Int32) (kc_1_0 : (Nat → Int32) → (Nat → Int32)) (ih_1 : Int32 → (Nat → Int32) → (Nat → Int32)) (v4_1 : Int32) (g_a_2 : Nat → Int32) : (Nat → Int32) :=
  if (2 : Int32) ≤ v4_1 then
    kc_1_0 g_a_2
  else
    zL ((2 : Int32) * p3) fun x_4 : Int32 =>
    zL (x_4 + v4_1) fun x_5 : Int32 =>
    zL ((2 : Int32) * p2) fun x_6 : Int32 =>
    zL (x_6 + v4_1) fun x_7 : Int32 =>
    zL (g_a_2 (Int32.toNatClampNeg x_7)) fun x_8 : Int32 =>
    zL (upd g_a_2 (Int32.toNatClampNeg x_5) x_8) fun f_9 : Nat → Int32 =>
    zL (v4_1 + Int32.ofInt 1) fun x_10 : Int32 =>
    ih_1 x_10 f_9
noncomputable def L_X10_copyRow_1_v8 (p3 : Int32) (p2 : Int32) (kc_1_0 : (Nat → Int32) → (Nat → Int32)) : Nat → Int32 → (Nat → Int32) → (Nat → Int32) := zLp (fun _ _ => (fun _ => 0)) (B_X10_copyRow_1_v8 p3 p2 kc_1_0)
theorem L_X10_copyRow_1_v8_s {p3 : Int32} {p2 : Int32} {kc_1_0 : ((Nat → Int32) → (Nat → Int32))} {t : Nat} {v4_1 : Int32} {g_a_2 : (Nat → Int32)} : L_X10_copyRow_1_v8 p3 p2 kc_1_0 (t + 1) v4_1 g_a_2 = B_X10_copyRow_1_v8 p3 p2 kc_1_0 (L_X10_copyRow_1_v8 p3 p2 kc_1_0 t) v4_1 g_a_2 := rfl
noncomputable def F_X10_copyRow_v8 (p2 : Int32) (p3 : Int32) (f_a : Nat → Int32) : (Nat → Int32) :=
  L_X10_copyRow_1_v8 p3 p2 K_X10_copyRow_1_0_v8 4 (0 : Int32) f_a
noncomputable def K_X10_copyRow_1_0_v9 (g_a_2 : Nat → Int32) : (Nat → Int32) :=
  g_a_2
noncomputable def B_X10_copyRow_1_v9 (p3 : Int32) (p2 : Int32) (kc_1_0 : (Nat → Int32) → (Nat → Int32)) (ih_1 : Int32 → (Nat → Int32) → (Nat → Int32)) (v4_1 : Int32) (g_a_2 : Nat → Int32) : (Nat → Int32) :=
  if (2 : Int32) ≤ v4_1 then
    kc_1_0 g_a_2
  else
    zL ((2 : Int32) * p3) fun x_4 : Int32 =>
    zL (x_4 + v4_1) fun x_5 : Int32 =>
    zL ((2 : Int32) * p2) fun x_6 : Int32 =>
    zL (x_6 + v4_1) fun x_7 : Int32 =>
    zL (g_a_2 (Int32.toNatClampNeg x_7)) fun x_8 : Int32 =>
    zL (upd g_a_2 (Int32.toNatClampNeg x_5) x_8) fun f_9 : Nat → Int32 =>
    zL (v4_1 + Int32.ofInt 1) fun x_10 : Int32 =>
    ih_1 x_10 f_9
noncomputable def L_X10_copyRow_1_v9 (p3 : Int32) (p2 : Int32) (kc_1_0 : (Nat → Int32) → (Nat → Int32)) : Nat → Int32 → (Nat → Int32) → (Nat → Int32) := zLp (fun _ _ => (fun _ => 0)) (B_X10_copyRow_1_v9 p3 p2 kc_1_0)
theorem L_X10_copyRow_1_v9_s {p3 : Int32} {p2 : Int32} {kc_1_0 : ((Nat → Int32) → (Nat → Int32))} {t : Nat} {v4_1 : Int32} {g_a_2 : (Nat → Int32)} : L_X10_copyRow_1_v9 p3 p2 kc_1_0 (t + 1) v4_1 g_a_2 = B_X10_copyRow_1_v9 p3 p2 kc_1_0 (L_X10_copyRow_1_v9 p3 p2 kc_1_0 t) v4_1 g_a_2 := rfl
noncomputable def F_X10_copyRow_v9 (p2 : Int32) (p3 : Int32) (f_a : Nat → Int32) : (Nat → Int32) :=
  L_X10_copyRow_1_v9 p3 p2 K_X10_copyRow_1_0_v9 4 (0 : Int32) f_a
noncomputable def K_X10_copyRow_1_0_v10 (g_a_2 : Nat → Int32) : (Nat → Int32) :=
  g_a_2
noncomputable def B_X10_copyRow_1_v10 (p3 : Int32) (p2 : Int32) (kc_1_0 : (Nat → Int32) → (Nat → Int32)) (ih_1 : Int32 → (Nat → Int32) → (Nat → Int32)) (v4_1 : Int32) (g_a_2 : Nat → Int32) : (Nat → Int32) :=
  if (10 : Int32) ≤ v4_1 then
    kc_1_0 g_a_2
  else
    zL ((10 : Int32) * p3) fun x_4 : Int32 =>
    zL (x_4 + v4_1) fun x_5 : Int32 =>
    zL ((10 : Int32) * p2) fun x_6 : Int32 =>
    zL (x_6 + v4_1) fun x_7 : Int32 =>
    zL (g_a_2 (Int32.toNatClampNeg x_7)) fun x_8 : Int32 =>
    zL (upd g_a_2 (Int32.toNatClampNeg x_5) x_8) fun f_9 : Nat → Int32 =>
    zL (v4_1 + Int32.ofInt 1) fun x_10 : Int32 =>
    ih_1 x_10 f_9
noncomputable def L_X10_copyRow_1_v10 (p3 : Int32) (p2 : Int32) (kc_1_0 : (Nat → Int32) → (Nat → Int32)) : Nat → Int32 → (Nat → Int32) → (Nat → Int32) := zLp (fun _ _ => (fun _ => 0)) (B_X10_copyRow_1_v10 p3 p2 kc_1_0)
theorem L_X10_copyRow_1_v10_s {p3 : Int32} {p2 : Int32} {kc_1_0 : ((Nat → Int32) → (Nat → Int32))} {t : Nat} {v4_1 : Int32} {g_a_2 : (Nat → Int32)} : L_X10_copyRow_1_v10 p3 p2 kc_1_0 (t + 1) v4_1 g_a_2 = B_X10_copyRow_1_v10 p3 p2 kc_1_0 (L_X10_copyRow_1_v10 p3 p2 kc_1_0 t) v4_1 g_a_2 := rfl
noncomputable def F_X10_copyRow_v10 (p2 : Int32) (p3 : Int32) (f_a : Nat → Int32) : (Nat → Int32) :=
  L_X10_copyRow_1_v10 p3 p2 K_X10_copyRow_1_0_v10 12 (0 : Int32) f_a
noncomputable def F_X10_copyTown (p1 : Int32) (p2 : Int32) (f_m0_lines : Nat → Int32) (f_m0_hours : Nat → Int32) (f_m0_courts : Nat → Int32) (f_m0_in : Nat → Int32) (f_m0_gates : Nat → Int32) (f_m0_gate : Nat → Int32) (f_m0_people : Nat → Int32) (f_m0_at0 : Nat → Int32) (f_m0_stray : Nat → Int32) (f_m0_set : Nat → Int32) (f_m0_truth : Nat → Int32) (f_m0_known : Nat → Int32) : (Nat → Int32) × (Nat → Int32) × (Nat → Int32) × (Nat → Int32) × (Nat → Int32) × (Nat → Int32) × (Nat → Int32) × (Nat → Int32) × (Nat → Int32) × (Nat → Int32) × (Nat → Int32) × (Nat → Int32) :=
  zL (F_X10_copyRow p1 p2 f_m0_lines) fun n_a_2 : Nat → Int32 =>
  zL (F_X10_copyRow_v1 p1 p2 f_m0_hours) fun n_a_6 : Nat → Int32 =>
  zL (F_X10_copyRow_v2 p1 p2 f_m0_courts) fun n_a_10 : Nat → Int32 =>
  zL (F_X10_copyRow_v3 p1 p2 f_m0_in) fun n_a_14 : Nat → Int32 =>
  zL (F_X10_copyRow_v4 p1 p2 f_m0_gates) fun n_a_18 : Nat → Int32 =>
  zL (F_X10_copyRow_v5 p1 p2 f_m0_gate) fun n_a_22 : Nat → Int32 =>
  zL (F_X10_copyRow_v2 p1 p2 f_m0_people) fun n_a_26 : Nat → Int32 =>
  zL (F_X10_copyRow_v6 p1 p2 f_m0_at0) fun n_a_30 : Nat → Int32 =>
  zL (F_X10_copyRow_v7 p1 p2 f_m0_stray) fun n_a_34 : Nat → Int32 =>
  zL (F_X10_copyRow_v8 p1 p2 f_m0_set) fun n_a_38 : Nat → Int32 =>
  zL (F_X10_copyRow_v9 p1 p2 f_m0_truth) fun n_a_42 : Nat → Int32 =>
  zL (F_X10_copyRow_v10 p1 p2 f_m0_known) fun n_a_46 : Nat → Int32 =>
  (n_a_2, n_a_6, n_a_10, n_a_14, n_a_18, n_a_22, n_a_26, n_a_30, n_a_34, n_a_38, n_a_42, n_a_46)
noncomputable def F_X10_keep (p1 : Int32) (f_m0_lines : Nat → Int32) (f_m0_hours : Nat → Int32) (f_m0_courts : Nat → Int32) (f_m0_in : Nat → Int32) (f_m0_gates : Nat → Int32) (f_m0_gate : Nat → Int32) (f_m0_people : Nat → Int32) (f_m0_at0 : Nat → Int32) (f_m0_stray : Nat → Int32) (f_m0_set : Nat → Int32) (f_m0_truth : Nat → Int32) (f_m0_known : Nat → Int32) (f_m0_isKept : Nat → Int32) : Int32 × Int32 × (Nat → Int32) × (Nat → Int32) × (Nat → Int32) × (Nat → Int32) × (Nat → Int32) × (Nat → Int32) × (Nat → Int32) × (Nat → Int32) × (Nat → Int32) × (Nat → Int32) × (Nat → Int32) × (Nat → Int32) × (Nat → Int32) :=
  zL ((p1).toInt64) fun x_1 : Int64 =>
  zL (F_X10_in x_1 (0 : Int64) (2 : Int64)) fun r_2 : Int32 =>
  if r_2 = (0 : Int32) then
    ((-2 : Int32), (0 : Int32), f_m0_lines, f_m0_hours, f_m0_courts, f_m0_in, f_m0_gates, f_m0_gate, f_m0_people, f_m0_at0, f_m0_stray, f_m0_set, f_m0_truth, f_m0_known, f_m0_isKept)
  else
    zL ((1 : Int32) + p1) fun x_4 : Int32 =>
    zL (F_X10_copyTown (0 : Int32) x_4 f_m0_lines f_m0_hours f_m0_courts f_m0_in f_m0_gates f_m0_gate f_m0_people f_m0_at0 f_m0_stray f_m0_set f_m0_truth f_m0_known) fun z_35 : (Nat → Int32) × (Nat → Int32) × (Nat → Int32) × (Nat → Int32) × (Nat → Int32) × (Nat → Int32) × (Nat → Int32) × (Nat → Int32) × (Nat → Int32) × (Nat → Int32) × (Nat → Int32) × (Nat → Int32) =>
    zL (z_35.1) fun n_m0_lines_6 : Nat → Int32 =>
    zL (z_35.2.1) fun n_m0_hours_7 : Nat → Int32 =>
    zL (z_35.2.2.1) fun n_m0_courts_8 : Nat → Int32 =>
    zL (z_35.2.2.2.1) fun n_m0_in_9 : Nat → Int32 =>
    zL (z_35.2.2.2.2.1) fun n_m0_gates_10 : Nat → Int32 =>
    zL (z_35.2.2.2.2.2.1) fun n_m0_gate_11 : Nat → Int32 =>
    zL (z_35.2.2.2.2.2.2.1) fun n_m0_people_12 : Nat → Int32 =>
    zL (z_35.2.2.2.2.2.2.2.1) fun n_m0_at0_13 : Nat → Int32 =>
    zL (z_35.2.2.2.2.2.2.2.2.1) fun n_m0_stray_14 : Nat → Int32 =>
    zL (z_35.2.2.2.2.2.2.2.2.2.1) fun n_m0_set_15 : Nat → Int32 =>
    zL (z_35.2.2.2.2.2.2.2.2.2.2.1) fun n_m0_truth_16 : Nat → Int32 =>
    zL (z_35.2.2.2.2.2.2.2.2.2.2.2) fun n_m0_known_17 : Nat → Int32 =>
    zL (upd f_m0_isKept (Int32.toNatClampNeg p1) (vp_nar .boolean 1)) fun f_36 : Nat → Int32 =>
    ((0 : Int32), (0 : Int32), n_m0_lines_6, n_m0_hours_7, n_m0_courts_8, n_m0_in_9, n_m0_gates_10, n_m0_gate_11, n_m0_people_12, n_m0_at0_13, n_m0_stray_14, n_m0_set_15, n_m0_truth_16, n_m0_known_17, f_36)
noncomputable def F_X10_back (p1 : Int32) (f_m0_lines : Nat → Int32) (f_m0_hours : Nat → Int32) (f_m0_courts : Nat → Int32) (f_m0_in : Nat → Int32) (f_m0_gates : Nat → Int32) (f_m0_gate : Nat → Int32) (f_m0_people : Nat → Int32) (f_m0_at0 : Nat → Int32) (f_m0_stray : Nat → Int32) (f_m0_set : Nat → Int32) (f_m0_truth : Nat → Int32) (f_m0_known : Nat → Int32) (f_m0_isKept : Nat → Int32) : Int32 × Int32 × (Nat → Int32) × (Nat → Int32) × (Nat → Int32) × (Nat → Int32) × (Nat → Int32) × (Nat → Int32) × (Nat → Int32) × (Nat → Int32) × (Nat → Int32) × (Nat → Int32) × (Nat → Int32) × (Nat → Int32) :=
  zL ((p1).toInt64) fun x_1 : Int64 =>
  zL (F_X10_in x_1 (0 : Int64) (2 : Int64)) fun r_2 : Int32 =>
  if r_2 = (0 : Int32) then
    ((-2 : Int32), (0 : Int32), f_m0_lines, f_m0_hours, f_m0_courts, f_m0_in, f_m0_gates, f_m0_gate, f_m0_people, f_m0_at0, f_m0_stray, f_m0_set, f_m0_truth, f_m0_known)
  else
    zL (f_m0_isKept (Int32.toNatClampNeg p1)) fun x_4 : Int32 =>
    if x_4 = (0 : Int32) then
      ((-6 : Int32), (0 : Int32), f_m0_lines, f_m0_hours, f_m0_courts, f_m0_in, f_m0_gates, f_m0_gate, f_m0_people, f_m0_at0, f_m0_stray, f_m0_set, f_m0_truth, f_m0_known)
    else
      zL ((1 : Int32) + p1) fun x_6 : Int32 =>
      zL (F_X10_copyTown x_6 (0 : Int32) f_m0_lines f_m0_hours f_m0_courts f_m0_in f_m0_gates f_m0_gate f_m0_people f_m0_at0 f_m0_stray f_m0_set f_m0_truth f_m0_known) fun z_37 : (Nat → Int32) × (Nat → Int32) × (Nat → Int32) × (Nat → Int32) × (Nat → Int32) × (Nat → Int32) × (Nat → Int32) × (Nat → Int32) × (Nat → Int32) × (Nat → Int32) × (Nat → Int32) × (Nat → Int32) =>
      zL (z_37.1) fun n_m0_lines_8 : Nat → Int32 =>
      zL (z_37.2.1) fun n_m0_hours_9 : Nat → Int32 =>
      zL (z_37.2.2.1) fun n_m0_courts_10 : Nat → Int32 =>
      zL (z_37.2.2.2.1) fun n_m0_in_11 : Nat → Int32 =>
      zL (z_37.2.2.2.2.1) fun n_m0_gates_12 : Nat → Int32 =>
      zL (z_37.2.2.2.2.2.1) fun n_m0_gate_13 : Nat → Int32 =>
      zL (z_37.2.2.2.2.2.2.1) fun n_m0_people_14 : Nat → Int32 =>
      zL (z_37.2.2.2.2.2.2.2.1) fun n_m0_at0_15 : Nat → Int32 =>
      zL (z_37.2.2.2.2.2.2.2.2.1) fun n_m0_stray_16 : Nat → Int32 =>
      zL (z_37.2.2.2.2.2.2.2.2.2.1) fun n_m0_set_17 : Nat → Int32 =>
      zL (z_37.2.2.2.2.2.2.2.2.2.2.1) fun n_m0_truth_18 : Nat → Int32 =>
      zL (z_37.2.2.2.2.2.2.2.2.2.2.2) fun n_m0_known_19 : Nat → Int32 =>
      ((0 : Int32), (0 : Int32), n_m0_lines_8, n_m0_hours_9, n_m0_courts_10, n_m0_in_11, n_m0_gates_12, n_m0_gate_13, n_m0_people_14, n_m0_at0_15, n_m0_stray_16, n_m0_set_17, n_m0_truth_18, n_m0_known_19)
noncomputable def F_X10_isGood_v1 (m0_bad : Int32) : Int32 :=
  if m0_bad = (0 : Int32) then
    (1 : Int32)
  else
    (0 : Int32)
noncomputable def F_X10_fails_v1 (p1 : Int32) (m0_place : Int32) (m0_bad : Int32) (m0_badPlace : Int32) : Int32 × Int32 :=
  if m0_bad = (0 : Int32) then
    (p1, m0_place)
  else
    (m0_bad, m0_badPlace)
noncomputable def F_X10_isByte (p1 : Int32) (p2 : Int32) (p3 : Int32) (m0_taped : Int32) (f_m0_tape : Nat → Int32) : Int32 :=
  if m0_taped ≤ p1 then
    (0 : Int32)
  else
    zL (f_m0_tape (Int32.toNatClampNeg p1)) fun x_2 : Int32 =>
    if x_2 < p2 then
      (0 : Int32)
    else
      zL (f_m0_tape (Int32.toNatClampNeg p1)) fun x_4 : Int32 =>
      if p3 < x_2 then
        (0 : Int32)
      else
        (1 : Int32)
noncomputable def K_X10_next_2_0 (w_m0_7_1 : Int32) (w_m0_7_16 : Int32) (w_m0_10_17 : Int32) : Int32 × Int32 × Int32 × Int32 × Int64 :=
  (w_m0_7_16, (2 : Int32), w_m0_7_1, w_m0_10_17, (0 : Int64))
noncomputable def B_X10_next_2 (m0_taped : Int32) (f_m0_tape : Nat → Int32) (kc_2_0 : Int32 → Int32 → Int32 × Int32 × Int32 × Int32 × Int64) (ih_2 : Int32 → Int32 → Int32 × Int32 × Int32 × Int32 × Int64) (w_m0_7_16 : Int32) (w_m0_10_17 : Int32) : Int32 × Int32 × Int32 × Int32 × Int64 :=
  zL (F_X10_isByte w_m0_7_16 (48 : Int32) (57 : Int32) m0_taped f_m0_tape) fun r_18 : Int32 =>
  if r_18 = (0 : Int32) then
    kc_2_0 w_m0_7_16 w_m0_10_17
  else
    if w_m0_10_17 ≤ (100000 : Int32) then
      zL ((10 : Int32) * w_m0_10_17) fun x_21 : Int32 =>
      zL (f_m0_tape (Int32.toNatClampNeg w_m0_7_16)) fun x_22 : Int32 =>
      zL (x_21 + x_22) fun x_23 : Int32 =>
      zL (x_23 - (48 : Int32)) fun x_24 : Int32 =>
      zL (w_m0_7_16 + (1 : Int32)) fun x_25 : Int32 =>
      ih_2 x_25 x_24
    else
      zL (w_m0_7_16 + (1 : Int32)) fun x_26 : Int32 =>
      ih_2 x_26 (1000000 : Int32)
noncomputable def L_X10_next_2 (m0_taped : Int32) (f_m0_tape : Nat → Int32) (kc_2_0 : Int32 → Int32 → Int32 × Int32 × Int32 × Int32 × Int64) : Nat → Int32 → Int32 → Int32 × Int32 × Int32 × Int32 × Int64 := zLp (fun _ _ => (0, 0, 0, 0, 0)) (B_X10_next_2 m0_taped f_m0_tape kc_2_0)
theorem L_X10_next_2_s {m0_taped : Int32} {f_m0_tape : (Nat → Int32)} {kc_2_0 : (Int32 → Int32 → Int32 × Int32 × Int32 × Int32 × Int64)} {t : Nat} {w_m0_7_16 : Int32} {w_m0_10_17 : Int32} : L_X10_next_2 m0_taped f_m0_tape kc_2_0 (t + 1) w_m0_7_16 w_m0_10_17 = B_X10_next_2 m0_taped f_m0_tape kc_2_0 (L_X10_next_2 m0_taped f_m0_tape kc_2_0 t) w_m0_7_16 w_m0_10_17 := rfl
noncomputable def K_X10_next_3_0 (w_m0_7_1 : Int32) (w_m0_7_28 : Int32) (w_m0_11_29 : Int64) : Int32 × Int32 × Int32 × Int32 × Int64 :=
  (w_m0_7_28, (1 : Int32), w_m0_7_1, (0 : Int32), w_m0_11_29)
noncomputable def B_X10_next_3 (m0_taped : Int32) (f_m0_tape : Nat → Int32) (kc_3_0 : Int32 → Int64 → Int32 × Int32 × Int32 × Int32 × Int64) (ih_3 : Int32 → Int32 → Int64 → Int32 × Int32 × Int32 × Int32 × Int64) (v1_27 : Int32) (w_m0_7_28 : Int32) (w_m0_11_29 : Int64) : Int32 × Int32 × Int32 × Int32 × Int64 :=
  zL (F_X10_isByte w_m0_7_28 (97 : Int32) (122 : Int32) m0_taped f_m0_tape) fun r_30 : Int32 =>
  if r_30 = (0 : Int32) then
    kc_3_0 w_m0_7_28 w_m0_11_29
  else
    if v1_27 ≤ (11 : Int32) then
      zL ((27 : Int64) * w_m0_11_29) fun x_33 : Int64 =>
      zL (f_m0_tape (Int32.toNatClampNeg w_m0_7_28)) fun x_34 : Int32 =>
      zL ((x_34).toInt64) fun x_35 : Int64 =>
      zL (x_33 + x_35) fun x_36 : Int64 =>
      zL (x_36 - (96 : Int64)) fun x_37 : Int64 =>
      zL (w_m0_7_28 + (1 : Int32)) fun x_39 : Int32 =>
      zL (v1_27 + Int32.ofInt 1) fun x_40 : Int32 =>
      ih_3 x_40 x_39 x_37
    else
      zL (w_m0_7_28 + (1 : Int32)) fun x_42 : Int32 =>
      zL (v1_27 + Int32.ofInt 1) fun x_43 : Int32 =>
      ih_3 x_43 x_42 (-1 : Int64)
noncomputable def L_X10_next_3 (m0_taped : Int32) (f_m0_tape : Nat → Int32) (kc_3_0 : Int32 → Int64 → Int32 × Int32 × Int32 × Int32 × Int64) : Nat → Int32 → Int32 → Int64 → Int32 × Int32 × Int32 × Int32 × Int64 := zLp (fun _ _ _ => (0, 0, 0, 0, 0)) (B_X10_next_3 m0_taped f_m0_tape kc_3_0)
theorem L_X10_next_3_s {m0_taped : Int32} {f_m0_tape : (Nat → Int32)} {kc_3_0 : (Int32 → Int64 → Int32 × Int32 × Int32 × Int32 × Int64)} {t : Nat} {v1_27 : Int32} {w_m0_7_28 : Int32} {w_m0_11_29 : Int64} : L_X10_next_3 m0_taped f_m0_tape kc_3_0 (t + 1) v1_27 w_m0_7_28 w_m0_11_29 = B_X10_next_3 m0_taped f_m0_tape kc_3_0 (L_X10_next_3 m0_taped f_m0_tape kc_3_0 t) v1_27 w_m0_7_28 w_m0_11_29 := rfl
noncomputable def K_X10_next_1_0 (m0_taped : Int32) (f_m0_tape : Nat → Int32) (w_m0_7_1 : Int32) : Int32 × Int32 × Int32 × Int32 × Int64 :=
  if w_m0_7_1 = m0_taped then
    (w_m0_7_1, (0 : Int32), w_m0_7_1, (0 : Int32), (0 : Int64))
  else
    zL (F_X10_isByte w_m0_7_1 (97 : Int32) (122 : Int32) m0_taped f_m0_tape) fun r_8 : Int32 =>
    if r_8 = (0 : Int32) then
      zL (F_X10_isByte w_m0_7_1 (48 : Int32) (57 : Int32) m0_taped f_m0_tape) fun r_10 : Int32 =>
      if r_10 = (0 : Int32) then
        zL (f_m0_tape (Int32.toNatClampNeg w_m0_7_1)) fun x_12 : Int32 =>
        if x_12 = (59 : Int32) then
          zL (w_m0_7_1 + (1 : Int32)) fun x_15 : Int32 =>
          (x_15, (3 : Int32), w_m0_7_1, (0 : Int32), (0 : Int64))
        else
          zL (w_m0_7_1 + (1 : Int32)) fun x_14 : Int32 =>
          (x_14, (4 : Int32), w_m0_7_1, (0 : Int32), (0 : Int64))
      else
        L_X10_next_2 m0_taped f_m0_tape (K_X10_next_2_0 w_m0_7_1) 1602 w_m0_7_1 (0 : Int32)
    else
      L_X10_next_3 m0_taped f_m0_tape (K_X10_next_3_0 w_m0_7_1) 1602 (0 : Int32) w_m0_7_1 (0 : Int64)
noncomputable def B_X10_next_1 (m0_taped : Int32) (f_m0_tape : Nat → Int32) (kc_1_0 : Int32 → Int32 × Int32 × Int32 × Int32 × Int64) (ih_1 : Int32 → Int32 × Int32 × Int32 × Int32 × Int64) (w_m0_7_1 : Int32) : Int32 × Int32 × Int32 × Int32 × Int64 :=
  zL (F_X10_isByte w_m0_7_1 (32 : Int32) (32 : Int32) m0_taped f_m0_tape) fun r_2 : Int32 =>
  if r_2 = (0 : Int32) then
    zL (F_X10_isByte w_m0_7_1 (10 : Int32) (10 : Int32) m0_taped f_m0_tape) fun r_5 : Int32 =>
    if r_5 = (0 : Int32) then
      kc_1_0 w_m0_7_1
    else
      zL (w_m0_7_1 + (1 : Int32)) fun x_44 : Int32 =>
      ih_1 x_44
  else
    zL (w_m0_7_1 + (1 : Int32)) fun x_4 : Int32 =>
    ih_1 x_4
noncomputable def L_X10_next_1 (m0_taped : Int32) (f_m0_tape : Nat → Int32) (kc_1_0 : Int32 → Int32 × Int32 × Int32 × Int32 × Int64) : Nat → Int32 → Int32 × Int32 × Int32 × Int32 × Int64 := zLp (fun _ => (0, 0, 0, 0, 0)) (B_X10_next_1 m0_taped f_m0_tape kc_1_0)
theorem L_X10_next_1_s {m0_taped : Int32} {f_m0_tape : (Nat → Int32)} {kc_1_0 : (Int32 → Int32 × Int32 × Int32 × Int32 × Int64)} {t : Nat} {w_m0_7_1 : Int32} : L_X10_next_1 m0_taped f_m0_tape kc_1_0 (t + 1) w_m0_7_1 = B_X10_next_1 m0_taped f_m0_tape kc_1_0 (L_X10_next_1 m0_taped f_m0_tape kc_1_0 t) w_m0_7_1 := rfl
noncomputable def F_X10_next (m0_taped : Int32) (m0_at : Int32) (f_m0_tape : Nat → Int32) : Int32 × Int32 × Int32 × Int32 × Int64 :=
  L_X10_next_1 m0_taped f_m0_tape (K_X10_next_1_0 m0_taped f_m0_tape) 1602 m0_at
noncomputable def F_X10_is_v1 (p1 : Int64) (m0_token : Int32) (m0_word : Int64) (m0_bad : Int32) : Int32 :=
  if m0_bad = (0 : Int32) then
    if m0_token = (1 : Int32) then
      if lg_cmp m0_word p1 = 0 then
        (1 : Int32)
      else
        (0 : Int32)
    else
      (0 : Int32)
  else
    (0 : Int32)
noncomputable def F_X10_takes (p1 : Int64) (m0_taped : Int32) (m0_at : Int32) (m0_token : Int32) (m0_place : Int32) (m0_value : Int32) (m0_word : Int64) (m0_bad : Int32) (f_m0_tape : Nat → Int32) : Int32 × Int32 × Int32 × Int32 × Int32 × Int64 :=
  zL (F_X10_is_v1 p1 m0_token m0_word m0_bad) fun r_1 : Int32 =>
  if r_1 = (0 : Int32) then
    ((0 : Int32), m0_at, m0_token, m0_place, m0_value, m0_word)
  else
    zL (F_X10_next m0_taped m0_at f_m0_tape) fun z_16 : Int32 × Int32 × Int32 × Int32 × Int64 =>
    zL (z_16.1) fun n_m0_4 : Int32 =>
    zL (z_16.2.1) fun n_m0_5 : Int32 =>
    zL (z_16.2.2.1) fun n_m0_6 : Int32 =>
    zL (z_16.2.2.2.1) fun n_m0_7 : Int32 =>
    zL (z_16.2.2.2.2) fun n_m0_8 : Int64 =>
    ((1 : Int32), n_m0_4, n_m0_5, n_m0_6, n_m0_7, n_m0_8)
noncomputable def F_X10_asks (p1 : Int64) (m0_taped : Int32) (m0_at : Int32) (m0_token : Int32) (m0_place : Int32) (m0_value : Int32) (m0_word : Int64) (m0_bad : Int32) (m0_badPlace : Int32) (f_m0_tape : Nat → Int32) : Int32 × Int32 × Int32 × Int32 × Int64 × Int32 × Int32 :=
  zL (F_X10_takes p1 m0_taped m0_at m0_token m0_place m0_value m0_word m0_bad f_m0_tape) fun z_15 : Int32 × Int32 × Int32 × Int32 × Int32 × Int64 =>
  zL (z_15.1) fun r_1 : Int32 =>
  zL (z_15.2.1) fun n_m0_2 : Int32 =>
  zL (z_15.2.2.1) fun n_m0_3 : Int32 =>
  zL (z_15.2.2.2.1) fun n_m0_4 : Int32 =>
  zL (z_15.2.2.2.2.1) fun n_m0_5 : Int32 =>
  zL (z_15.2.2.2.2.2) fun n_m0_6 : Int64 =>
  if r_1 = (0 : Int32) then
    zL (F_X10_fails_v1 (1 : Int32) n_m0_4 m0_bad m0_badPlace) fun z_24 : Int32 × Int32 =>
    zL (z_24.1) fun n_m0_18 : Int32 =>
    zL (z_24.2) fun n_m0_19 : Int32 =>
    (n_m0_2, n_m0_3, n_m0_4, n_m0_5, n_m0_6, n_m0_18, n_m0_19)
  else
    (n_m0_2, n_m0_3, n_m0_4, n_m0_5, n_m0_6, m0_bad, m0_badPlace)
noncomputable def F_X10_number (p1 : Int32) (p2 : Int32) (m0_taped : Int32) (m0_at : Int32) (m0_token : Int32) (m0_place : Int32) (m0_value : Int32) (m0_word : Int64) (m0_bad : Int32) (m0_badPlace : Int32) (f_m0_tape : Nat → Int32) : Int32 × Int32 × Int32 × Int32 × Int32 × Int64 × Int32 × Int32 :=
  if m0_bad = (0 : Int32) then
    if m0_token = (2 : Int32) then
      zL ((m0_value).toInt64) fun x_3 : Int64 =>
      zL ((p1).toInt64) fun x_4 : Int64 =>
      zL ((p2).toInt64) fun x_5 : Int64 =>
      zL (F_X10_in x_3 x_4 x_5) fun r_6 : Int32 =>
      if r_6 = (0 : Int32) then
        zL (F_X10_fails_v1 (2 : Int32) m0_place m0_bad m0_badPlace) fun z_29 : Int32 × Int32 =>
        zL (z_29.1) fun n_m0_23 : Int32 =>
        zL (z_29.2) fun n_m0_24 : Int32 =>
        (p1, m0_at, m0_token, m0_place, m0_value, m0_word, n_m0_23, n_m0_24)
      else
        zL (F_X10_next m0_taped m0_at f_m0_tape) fun z_21 : Int32 × Int32 × Int32 × Int32 × Int64 =>
        zL (z_21.1) fun n_m0_9 : Int32 =>
        zL (z_21.2.1) fun n_m0_10 : Int32 =>
        zL (z_21.2.2.1) fun n_m0_11 : Int32 =>
        zL (z_21.2.2.2.1) fun n_m0_12 : Int32 =>
        zL (z_21.2.2.2.2) fun n_m0_13 : Int64 =>
        (m0_value, n_m0_9, n_m0_10, n_m0_11, n_m0_12, n_m0_13, m0_bad, m0_badPlace)
    else
      zL (F_X10_fails_v1 (1 : Int32) m0_place m0_bad m0_badPlace) fun z_37 : Int32 × Int32 =>
      zL (z_37.1) fun n_m0_31 : Int32 =>
      zL (z_37.2) fun n_m0_32 : Int32 =>
      (p1, m0_at, m0_token, m0_place, m0_value, m0_word, n_m0_31, n_m0_32)
  else
    (p1, m0_at, m0_token, m0_place, m0_value, m0_word, m0_bad, m0_badPlace)
noncomputable def F_X10_number_ (p1 : Int64) (p2 : Int32) (p3 : Int32) (m0_taped : Int32) (m0_at : Int32) (m0_token : Int32) (m0_place : Int32) (m0_value : Int32) (m0_word : Int64) (m0_bad : Int32) (m0_badPlace : Int32) (f_m0_tape : Nat → Int32) : Int32 × Int32 × Int32 × Int32 × Int32 × Int64 × Int32 × Int32 :=
  zL (F_X10_asks p1 m0_taped m0_at m0_token m0_place m0_value m0_word m0_bad m0_badPlace f_m0_tape) fun z_19 : Int32 × Int32 × Int32 × Int32 × Int64 × Int32 × Int32 =>
  zL (z_19.1) fun n_m0_2 : Int32 =>
  zL (z_19.2.1) fun n_m0_3 : Int32 =>
  zL (z_19.2.2.1) fun n_m0_4 : Int32 =>
  zL (z_19.2.2.2.1) fun n_m0_5 : Int32 =>
  zL (z_19.2.2.2.2.1) fun n_m0_6 : Int64 =>
  zL (z_19.2.2.2.2.2.1) fun n_m0_7 : Int32 =>
  zL (z_19.2.2.2.2.2.2) fun n_m0_8 : Int32 =>
  zL (F_X10_number p2 p3 m0_taped n_m0_2 n_m0_3 n_m0_4 n_m0_5 n_m0_6 n_m0_7 n_m0_8 f_m0_tape) fun z_39 : Int32 × Int32 × Int32 × Int32 × Int32 × Int64 × Int32 × Int32 =>
  zL (z_39.1) fun r_20 : Int32 =>
  zL (z_39.2.1) fun n_m0_21 : Int32 =>
  zL (z_39.2.2.1) fun n_m0_22 : Int32 =>
  zL (z_39.2.2.2.1) fun n_m0_23 : Int32 =>
  zL (z_39.2.2.2.2.1) fun n_m0_24 : Int32 =>
  zL (z_39.2.2.2.2.2.1) fun n_m0_25 : Int64 =>
  zL (z_39.2.2.2.2.2.2.1) fun n_m0_26 : Int32 =>
  zL (z_39.2.2.2.2.2.2.2) fun n_m0_27 : Int32 =>
  (r_20, n_m0_21, n_m0_22, n_m0_23, n_m0_24, n_m0_25, n_m0_26, n_m0_27)
noncomputable def F_X10_ends (m0_taped : Int32) (m0_at : Int32) (m0_token : Int32) (m0_place : Int32) (m0_value : Int32) (m0_word : Int64) (m0_bad : Int32) (m0_badPlace : Int32) (f_m0_tape : Nat → Int32) : Int32 × Int32 × Int32 × Int32 × Int64 × Int32 × Int32 :=
  if m0_token = (3 : Int32) then
    if m0_bad = (0 : Int32) then
      zL (F_X10_next m0_taped m0_at f_m0_tape) fun z_16 : Int32 × Int32 × Int32 × Int32 × Int64 =>
      zL (z_16.1) fun n_m0_4 : Int32 =>
      zL (z_16.2.1) fun n_m0_5 : Int32 =>
      zL (z_16.2.2.1) fun n_m0_6 : Int32 =>
      zL (z_16.2.2.2.1) fun n_m0_7 : Int32 =>
      zL (z_16.2.2.2.2) fun n_m0_8 : Int64 =>
      (n_m0_4, n_m0_5, n_m0_6, n_m0_7, n_m0_8, m0_bad, m0_badPlace)
    else
      (m0_at, m0_token, m0_place, m0_value, m0_word, m0_bad, m0_badPlace)
  else
    zL (F_X10_fails_v1 (1 : Int32) m0_place m0_bad m0_badPlace) fun z_24 : Int32 × Int32 =>
    zL (z_24.1) fun n_m0_18 : Int32 =>
    zL (z_24.2) fun n_m0_19 : Int32 =>
    if n_m0_18 = (0 : Int32) then
      zL (F_X10_next m0_taped m0_at f_m0_tape) fun z_40 : Int32 × Int32 × Int32 × Int32 × Int64 =>
      zL (z_40.1) fun n_m0_28 : Int32 =>
      zL (z_40.2.1) fun n_m0_29 : Int32 =>
      zL (z_40.2.2.1) fun n_m0_30 : Int32 =>
      zL (z_40.2.2.2.1) fun n_m0_31 : Int32 =>
      zL (z_40.2.2.2.2) fun n_m0_32 : Int64 =>
      (n_m0_28, n_m0_29, n_m0_30, n_m0_31, n_m0_32, n_m0_18, n_m0_19)
    else
      (m0_at, m0_token, m0_place, m0_value, m0_word, n_m0_18, n_m0_19)
noncomputable def F_X10_begins (m0_taped : Int32) (f_m0_tape : Nat → Int32) : Int32 × Int32 × Int32 × Int32 × Int64 × Int32 × Int32 :=
  zL (F_X10_next m0_taped (0 : Int32) f_m0_tape) fun z_14 : Int32 × Int32 × Int32 × Int32 × Int64 =>
  zL (z_14.1) fun n_m0_2 : Int32 =>
  zL (z_14.2.1) fun n_m0_3 : Int32 =>
  zL (z_14.2.2.1) fun n_m0_4 : Int32 =>
  zL (z_14.2.2.2.1) fun n_m0_5 : Int32 =>
  zL (z_14.2.2.2.2) fun n_m0_6 : Int64 =>
  (n_m0_2, n_m0_3, n_m0_4, n_m0_5, n_m0_6, (0 : Int32), (-1 : Int32))
noncomputable def F_X10_isOver (m0_bad : Int32) (m0_badPlace : Int32) : Int32 × Int32 × Int32 :=
  if m0_bad = (0 : Int32) then
    ((0 : Int32), m0_bad, (-1 : Int32))
  else
    ((0 : Int32), m0_bad, m0_badPlace)
noncomputable def F_X10_gateLine (m0_taped : Int32) (m0_at : Int32) (m0_token : Int32) (m0_place : Int32) (m0_value : Int32) (m0_word : Int64) (m0_bad : Int32) (m0_badPlace : Int32) (f_m0_tape : Nat → Int32) (f_m0_courts : Nat → Int32) (f_m0_gates : Nat → Int32) (f_m0_gate : Nat → Int32) : Int32 × Int32 × Int32 × Int32 × Int64 × Int32 × Int32 × (Nat → Int32) × (Nat → Int32) :=
  zL (f_m0_gates (Int32.toNatClampNeg (4 : Int32))) fun x_1 : Int32 =>
  zL ((64 : Int32) + x_1) fun x_2 : Int32 =>
  zL ((2 : Int32) * x_2) fun x_3 : Int32 =>
  zL (f_m0_courts (Int32.toNatClampNeg (4 : Int32))) fun x_4 : Int32 =>
  zL (x_4 - (1 : Int32)) fun x_5 : Int32 =>
  zL (F_X10_number (0 : Int32) x_5 m0_taped m0_at m0_token m0_place m0_value m0_word m0_bad m0_badPlace f_m0_tape) fun z_25 : Int32 × Int32 × Int32 × Int32 × Int32 × Int64 × Int32 × Int32 =>
  zL (z_25.1) fun r_6 : Int32 =>
  zL (z_25.2.1) fun n_m0_7 : Int32 =>
  zL (z_25.2.2.1) fun n_m0_8 : Int32 =>
  zL (z_25.2.2.2.1) fun n_m0_9 : Int32 =>
  zL (z_25.2.2.2.2.1) fun n_m0_10 : Int32 =>
  zL (z_25.2.2.2.2.2.1) fun n_m0_11 : Int64 =>
  zL (z_25.2.2.2.2.2.2.1) fun n_m0_12 : Int32 =>
  zL (z_25.2.2.2.2.2.2.2) fun n_m0_13 : Int32 =>
  zL (F_X10_asks (555 : Int64) m0_taped n_m0_7 n_m0_8 n_m0_9 n_m0_10 n_m0_11 n_m0_12 n_m0_13 f_m0_tape) fun z_44 : Int32 × Int32 × Int32 × Int32 × Int64 × Int32 × Int32 =>
  zL (z_44.1) fun n_m0_27 : Int32 =>
  zL (z_44.2.1) fun n_m0_28 : Int32 =>
  zL (z_44.2.2.1) fun n_m0_29 : Int32 =>
  zL (z_44.2.2.2.1) fun n_m0_30 : Int32 =>
  zL (z_44.2.2.2.2.1) fun n_m0_31 : Int64 =>
  zL (z_44.2.2.2.2.2.1) fun n_m0_32 : Int32 =>
  zL (z_44.2.2.2.2.2.2) fun n_m0_33 : Int32 =>
  if n_m0_32 = (0 : Int32) then
    if n_m0_28 = (2 : Int32) then
      if n_m0_30 = r_6 then
        zL (F_X10_fails_v1 (2 : Int32) n_m0_29 n_m0_32 n_m0_33) fun z_139 : Int32 × Int32 =>
        zL (z_139.1) fun n_m0_133 : Int32 =>
        zL (z_139.2) fun n_m0_134 : Int32 =>
        zL (upd f_m0_gate (Int32.toNatClampNeg x_3) r_6) fun f_140 : Nat → Int32 =>
        zL (x_3 + (1 : Int32)) fun x_141 : Int32 =>
        zL (f_m0_courts (Int32.toNatClampNeg (4 : Int32))) fun x_142 : Int32 =>
        zL (x_4 - (1 : Int32)) fun x_143 : Int32 =>
        zL (F_X10_number (0 : Int32) x_143 m0_taped n_m0_27 n_m0_28 n_m0_29 n_m0_30 n_m0_31 n_m0_133 n_m0_134 f_m0_tape) fun z_163 : Int32 × Int32 × Int32 × Int32 × Int32 × Int64 × Int32 × Int32 =>
        zL (z_163.1) fun r_144 : Int32 =>
        zL (z_163.2.1) fun n_m0_145 : Int32 =>
        zL (z_163.2.2.1) fun n_m0_146 : Int32 =>
        zL (z_163.2.2.2.1) fun n_m0_147 : Int32 =>
        zL (z_163.2.2.2.2.1) fun n_m0_148 : Int32 =>
        zL (z_163.2.2.2.2.2.1) fun n_m0_149 : Int64 =>
        zL (z_163.2.2.2.2.2.2.1) fun n_m0_150 : Int32 =>
        zL (z_163.2.2.2.2.2.2.2) fun n_m0_151 : Int32 =>
        zL (upd f_140 (Int32.toNatClampNeg x_141) r_144) fun f_164 : Nat → Int32 =>
        zL (f_m0_gates (Int32.toNatClampNeg (4 : Int32))) fun x_165 : Int32 =>
        zL (x_1 + (1 : Int32)) fun x_166 : Int32 =>
        zL (upd f_m0_gates (Int32.toNatClampNeg 4) x_166) fun f_167 : Nat → Int32 =>
        (n_m0_145, n_m0_146, n_m0_147, n_m0_148, n_m0_149, n_m0_150, n_m0_151, f_167, f_164)
      else
        zL (upd f_m0_gate (Int32.toNatClampNeg x_3) r_6) fun f_104 : Nat → Int32 =>
        zL (x_3 + (1 : Int32)) fun x_105 : Int32 =>
        zL (f_m0_courts (Int32.toNatClampNeg (4 : Int32))) fun x_106 : Int32 =>
        zL (x_4 - (1 : Int32)) fun x_107 : Int32 =>
        zL (F_X10_number (0 : Int32) x_107 m0_taped n_m0_27 n_m0_28 n_m0_29 n_m0_30 n_m0_31 n_m0_32 n_m0_33 f_m0_tape) fun z_127 : Int32 × Int32 × Int32 × Int32 × Int32 × Int64 × Int32 × Int32 =>
        zL (z_127.1) fun r_108 : Int32 =>
        zL (z_127.2.1) fun n_m0_109 : Int32 =>
        zL (z_127.2.2.1) fun n_m0_110 : Int32 =>
        zL (z_127.2.2.2.1) fun n_m0_111 : Int32 =>
        zL (z_127.2.2.2.2.1) fun n_m0_112 : Int32 =>
        zL (z_127.2.2.2.2.2.1) fun n_m0_113 : Int64 =>
        zL (z_127.2.2.2.2.2.2.1) fun n_m0_114 : Int32 =>
        zL (z_127.2.2.2.2.2.2.2) fun n_m0_115 : Int32 =>
        zL (upd f_104 (Int32.toNatClampNeg x_105) r_108) fun f_128 : Nat → Int32 =>
        zL (f_m0_gates (Int32.toNatClampNeg (4 : Int32))) fun x_129 : Int32 =>
        zL (x_1 + (1 : Int32)) fun x_130 : Int32 =>
        zL (upd f_m0_gates (Int32.toNatClampNeg 4) x_130) fun f_131 : Nat → Int32 =>
        (n_m0_109, n_m0_110, n_m0_111, n_m0_112, n_m0_113, n_m0_114, n_m0_115, f_131, f_128)
    else
      zL (upd f_m0_gate (Int32.toNatClampNeg x_3) r_6) fun f_75 : Nat → Int32 =>
      zL (x_3 + (1 : Int32)) fun x_76 : Int32 =>
      zL (f_m0_courts (Int32.toNatClampNeg (4 : Int32))) fun x_77 : Int32 =>
      zL (x_4 - (1 : Int32)) fun x_78 : Int32 =>
      zL (F_X10_number (0 : Int32) x_78 m0_taped n_m0_27 n_m0_28 n_m0_29 n_m0_30 n_m0_31 n_m0_32 n_m0_33 f_m0_tape) fun z_98 : Int32 × Int32 × Int32 × Int32 × Int32 × Int64 × Int32 × Int32 =>
      zL (z_98.1) fun r_79 : Int32 =>
      zL (z_98.2.1) fun n_m0_80 : Int32 =>
      zL (z_98.2.2.1) fun n_m0_81 : Int32 =>
      zL (z_98.2.2.2.1) fun n_m0_82 : Int32 =>
      zL (z_98.2.2.2.2.1) fun n_m0_83 : Int32 =>
      zL (z_98.2.2.2.2.2.1) fun n_m0_84 : Int64 =>
      zL (z_98.2.2.2.2.2.2.1) fun n_m0_85 : Int32 =>
      zL (z_98.2.2.2.2.2.2.2) fun n_m0_86 : Int32 =>
      zL (upd f_75 (Int32.toNatClampNeg x_76) r_79) fun f_99 : Nat → Int32 =>
      zL (f_m0_gates (Int32.toNatClampNeg (4 : Int32))) fun x_100 : Int32 =>
      zL (x_1 + (1 : Int32)) fun x_101 : Int32 =>
      zL (upd f_m0_gates (Int32.toNatClampNeg 4) x_101) fun f_102 : Nat → Int32 =>
      (n_m0_80, n_m0_81, n_m0_82, n_m0_83, n_m0_84, n_m0_85, n_m0_86, f_102, f_99)
  else
    zL (upd f_m0_gate (Int32.toNatClampNeg x_3) r_6) fun f_46 : Nat → Int32 =>
    zL (x_3 + (1 : Int32)) fun x_47 : Int32 =>
    zL (f_m0_courts (Int32.toNatClampNeg (4 : Int32))) fun x_48 : Int32 =>
    zL (x_4 - (1 : Int32)) fun x_49 : Int32 =>
    zL (F_X10_number (0 : Int32) x_49 m0_taped n_m0_27 n_m0_28 n_m0_29 n_m0_30 n_m0_31 n_m0_32 n_m0_33 f_m0_tape) fun z_69 : Int32 × Int32 × Int32 × Int32 × Int32 × Int64 × Int32 × Int32 =>
    zL (z_69.1) fun r_50 : Int32 =>
    zL (z_69.2.1) fun n_m0_51 : Int32 =>
    zL (z_69.2.2.1) fun n_m0_52 : Int32 =>
    zL (z_69.2.2.2.1) fun n_m0_53 : Int32 =>
    zL (z_69.2.2.2.2.1) fun n_m0_54 : Int32 =>
    zL (z_69.2.2.2.2.2.1) fun n_m0_55 : Int64 =>
    zL (z_69.2.2.2.2.2.2.1) fun n_m0_56 : Int32 =>
    zL (z_69.2.2.2.2.2.2.2) fun n_m0_57 : Int32 =>
    zL (upd f_46 (Int32.toNatClampNeg x_47) r_50) fun f_70 : Nat → Int32 =>
    zL (f_m0_gates (Int32.toNatClampNeg (4 : Int32))) fun x_71 : Int32 =>
    zL (x_1 + (1 : Int32)) fun x_72 : Int32 =>
    zL (upd f_m0_gates (Int32.toNatClampNeg 4) x_72) fun f_73 : Nat → Int32 =>
    (n_m0_51, n_m0_52, n_m0_53, n_m0_54, n_m0_55, n_m0_56, n_m0_57, f_73, f_70)
noncomputable def F_X10_onceLine (p1 : Int32) (m0_taped : Int32) (m0_at : Int32) (m0_token : Int32) (m0_place : Int32) (m0_value : Int32) (m0_word : Int64) (m0_bad : Int32) (m0_badPlace : Int32) (f_m0_tape : Nat → Int32) (f_m0_set : Nat → Int32) (f_m0_once : Nat → Int32) : Int32 × Int32 × Int32 × Int32 × Int64 × Int32 × Int32 × (Nat → Int32) × (Nat → Int32) :=
  zL ((8 : Int32) + p1) fun x_1 : Int32 =>
  zL (f_m0_once (Int32.toNatClampNeg x_1)) fun x_2 : Int32 =>
  if x_2 = (0 : Int32) then
    if m0_bad = (0 : Int32) then
      zL (F_X10_next m0_taped m0_at f_m0_tape) fun z_18 : Int32 × Int32 × Int32 × Int32 × Int64 =>
      zL (z_18.1) fun n_m0_6 : Int32 =>
      zL (z_18.2.1) fun n_m0_7 : Int32 =>
      zL (z_18.2.2.1) fun n_m0_8 : Int32 =>
      zL (z_18.2.2.2.1) fun n_m0_9 : Int32 =>
      zL (z_18.2.2.2.2) fun n_m0_10 : Int64 =>
      zL ((8 : Int32) + p1) fun x_19 : Int32 =>
      zL (upd f_m0_once (Int32.toNatClampNeg x_19) (vp_nar .boolean 1)) fun f_20 : Nat → Int32 =>
      if p1 = (1 : Int32) then
        zL (F_X10_number (0 : Int32) (9 : Int32) m0_taped n_m0_6 n_m0_7 n_m0_8 n_m0_9 n_m0_10 m0_bad m0_badPlace f_m0_tape) fun z_113 : Int32 × Int32 × Int32 × Int32 × Int32 × Int64 × Int32 × Int32 =>
        zL (z_113.1) fun r_94 : Int32 =>
        zL (z_113.2.1) fun n_m0_95 : Int32 =>
        zL (z_113.2.2.1) fun n_m0_96 : Int32 =>
        zL (z_113.2.2.2.1) fun n_m0_97 : Int32 =>
        zL (z_113.2.2.2.2.1) fun n_m0_98 : Int32 =>
        zL (z_113.2.2.2.2.2.1) fun n_m0_99 : Int64 =>
        zL (z_113.2.2.2.2.2.2.1) fun n_m0_100 : Int32 =>
        zL (z_113.2.2.2.2.2.2.2) fun n_m0_101 : Int32 =>
        zL (upd f_m0_set (Int32.toNatClampNeg 9) r_94) fun f_114 : Nat → Int32 =>
        (n_m0_95, n_m0_96, n_m0_97, n_m0_98, n_m0_99, n_m0_100, n_m0_101, f_114, f_20)
      else
        zL (F_X10_is_v1 (161600 : Int64) n_m0_7 n_m0_10 m0_bad) fun r_22 : Int32 =>
        if r_22 = (0 : Int32) then
          zL (F_X10_is_v1 (82528 : Int64) n_m0_7 n_m0_10 m0_bad) fun r_44 : Int32 =>
          if r_44 = (0 : Int32) then
            zL (F_X10_fails_v1 (1 : Int32) n_m0_8 m0_bad m0_badPlace) fun z_73 : Int32 × Int32 =>
            zL (z_73.1) fun n_m0_67 : Int32 =>
            zL (z_73.2) fun n_m0_68 : Int32 =>
            zL (F_X10_isGood_v1 n_m0_67) fun r_74 : Int32 =>
            if r_74 = (0 : Int32) then
              zL (upd f_m0_set (Int32.toNatClampNeg 8) 1) fun f_77 : Nat → Int32 =>
              (n_m0_6, n_m0_7, n_m0_8, n_m0_9, n_m0_10, n_m0_67, n_m0_68, f_77, f_20)
            else
              zL (F_X10_next m0_taped n_m0_6 f_m0_tape) fun z_91 : Int32 × Int32 × Int32 × Int32 × Int64 =>
              zL (z_91.1) fun n_m0_79 : Int32 =>
              zL (z_91.2.1) fun n_m0_80 : Int32 =>
              zL (z_91.2.2.1) fun n_m0_81 : Int32 =>
              zL (z_91.2.2.2.1) fun n_m0_82 : Int32 =>
              zL (z_91.2.2.2.2) fun n_m0_83 : Int64 =>
              zL (upd f_m0_set (Int32.toNatClampNeg 8) 1) fun f_93 : Nat → Int32 =>
              (n_m0_79, n_m0_80, n_m0_81, n_m0_82, n_m0_83, n_m0_67, n_m0_68, f_93, f_20)
          else
            zL (F_X10_isGood_v1 m0_bad) fun r_46 : Int32 =>
            if r_46 = (0 : Int32) then
              zL (upd f_m0_set (Int32.toNatClampNeg 8) 1) fun f_49 : Nat → Int32 =>
              (n_m0_6, n_m0_7, n_m0_8, n_m0_9, n_m0_10, m0_bad, m0_badPlace, f_49, f_20)
            else
              zL (F_X10_next m0_taped n_m0_6 f_m0_tape) fun z_63 : Int32 × Int32 × Int32 × Int32 × Int64 =>
              zL (z_63.1) fun n_m0_51 : Int32 =>
              zL (z_63.2.1) fun n_m0_52 : Int32 =>
              zL (z_63.2.2.1) fun n_m0_53 : Int32 =>
              zL (z_63.2.2.2.1) fun n_m0_54 : Int32 =>
              zL (z_63.2.2.2.2) fun n_m0_55 : Int64 =>
              zL (upd f_m0_set (Int32.toNatClampNeg 8) 1) fun f_65 : Nat → Int32 =>
              (n_m0_51, n_m0_52, n_m0_53, n_m0_54, n_m0_55, m0_bad, m0_badPlace, f_65, f_20)
        else
          zL (F_X10_isGood_v1 m0_bad) fun r_24 : Int32 =>
          if r_24 = (0 : Int32) then
            zL (upd f_m0_set (Int32.toNatClampNeg 8) 0) fun f_27 : Nat → Int32 =>
            (n_m0_6, n_m0_7, n_m0_8, n_m0_9, n_m0_10, m0_bad, m0_badPlace, f_27, f_20)
          else
            zL (F_X10_next m0_taped n_m0_6 f_m0_tape) fun z_41 : Int32 × Int32 × Int32 × Int32 × Int64 =>
            zL (z_41.1) fun n_m0_29 : Int32 =>
            zL (z_41.2.1) fun n_m0_30 : Int32 =>
            zL (z_41.2.2.1) fun n_m0_31 : Int32 =>
            zL (z_41.2.2.2.1) fun n_m0_32 : Int32 =>
            zL (z_41.2.2.2.2) fun n_m0_33 : Int64 =>
            zL (upd f_m0_set (Int32.toNatClampNeg 8) 0) fun f_43 : Nat → Int32 =>
            (n_m0_29, n_m0_30, n_m0_31, n_m0_32, n_m0_33, m0_bad, m0_badPlace, f_43, f_20)
    else
      (m0_at, m0_token, m0_place, m0_value, m0_word, m0_bad, m0_badPlace, f_m0_set, f_m0_once)
  else
    zL (F_X10_fails_v1 (2 : Int32) m0_place m0_bad m0_badPlace) fun z_122 : Int32 × Int32 =>
    zL (z_122.1) fun n_m0_116 : Int32 =>
    zL (z_122.2) fun n_m0_117 : Int32 =>
    if n_m0_116 = (0 : Int32) then
      zL (F_X10_next m0_taped m0_at f_m0_tape) fun z_137 : Int32 × Int32 × Int32 × Int32 × Int64 =>
      zL (z_137.1) fun n_m0_125 : Int32 =>
      zL (z_137.2.1) fun n_m0_126 : Int32 =>
      zL (z_137.2.2.1) fun n_m0_127 : Int32 =>
      zL (z_137.2.2.2.1) fun n_m0_128 : Int32 =>
      zL (z_137.2.2.2.2) fun n_m0_129 : Int64 =>
      zL ((8 : Int32) + p1) fun x_138 : Int32 =>
      zL (upd f_m0_once (Int32.toNatClampNeg x_138) (vp_nar .boolean 1)) fun f_139 : Nat → Int32 =>
      if p1 = (1 : Int32) then
        zL (F_X10_number (0 : Int32) (9 : Int32) m0_taped n_m0_125 n_m0_126 n_m0_127 n_m0_128 n_m0_129 n_m0_116 n_m0_117 f_m0_tape) fun z_232 : Int32 × Int32 × Int32 × Int32 × Int32 × Int64 × Int32 × Int32 =>
        zL (z_232.1) fun r_213 : Int32 =>
        zL (z_232.2.1) fun n_m0_214 : Int32 =>
        zL (z_232.2.2.1) fun n_m0_215 : Int32 =>
        zL (z_232.2.2.2.1) fun n_m0_216 : Int32 =>
        zL (z_232.2.2.2.2.1) fun n_m0_217 : Int32 =>
        zL (z_232.2.2.2.2.2.1) fun n_m0_218 : Int64 =>
        zL (z_232.2.2.2.2.2.2.1) fun n_m0_219 : Int32 =>
        zL (z_232.2.2.2.2.2.2.2) fun n_m0_220 : Int32 =>
        zL (upd f_m0_set (Int32.toNatClampNeg 9) r_213) fun f_233 : Nat → Int32 =>
        (n_m0_214, n_m0_215, n_m0_216, n_m0_217, n_m0_218, n_m0_219, n_m0_220, f_233, f_139)
      else
        zL (F_X10_is_v1 (161600 : Int64) n_m0_126 n_m0_129 n_m0_116) fun r_141 : Int32 =>
        if r_141 = (0 : Int32) then
          zL (F_X10_is_v1 (82528 : Int64) n_m0_126 n_m0_129 n_m0_116) fun r_163 : Int32 =>
          if r_163 = (0 : Int32) then
            zL (F_X10_fails_v1 (1 : Int32) n_m0_127 n_m0_116 n_m0_117) fun z_192 : Int32 × Int32 =>
            zL (z_192.1) fun n_m0_186 : Int32 =>
            zL (z_192.2) fun n_m0_187 : Int32 =>
            zL (F_X10_isGood_v1 n_m0_186) fun r_193 : Int32 =>
            if r_193 = (0 : Int32) then
              zL (upd f_m0_set (Int32.toNatClampNeg 8) 1) fun f_196 : Nat → Int32 =>
              (n_m0_125, n_m0_126, n_m0_127, n_m0_128, n_m0_129, n_m0_186, n_m0_187, f_196, f_139)
            else
              zL (F_X10_next m0_taped n_m0_125 f_m0_tape) fun z_210 : Int32 × Int32 × Int32 × Int32 × Int64 =>
              zL (z_210.1) fun n_m0_198 : Int32 =>
              zL (z_210.2.1) fun n_m0_199 : Int32 =>
              zL (z_210.2.2.1) fun n_m0_200 : Int32 =>
              zL (z_210.2.2.2.1) fun n_m0_201 : Int32 =>
              zL (z_210.2.2.2.2) fun n_m0_202 : Int64 =>
              zL (upd f_m0_set (Int32.toNatClampNeg 8) 1) fun f_212 : Nat → Int32 =>
              (n_m0_198, n_m0_199, n_m0_200, n_m0_201, n_m0_202, n_m0_186, n_m0_187, f_212, f_139)
          else
            zL (F_X10_isGood_v1 n_m0_116) fun r_165 : Int32 =>
            if r_165 = (0 : Int32) then
              zL (upd f_m0_set (Int32.toNatClampNeg 8) 1) fun f_168 : Nat → Int32 =>
              (n_m0_125, n_m0_126, n_m0_127, n_m0_128, n_m0_129, n_m0_116, n_m0_117, f_168, f_139)
            else
              zL (F_X10_next m0_taped n_m0_125 f_m0_tape) fun z_182 : Int32 × Int32 × Int32 × Int32 × Int64 =>
              zL (z_182.1) fun n_m0_170 : Int32 =>
              zL (z_182.2.1) fun n_m0_171 : Int32 =>
              zL (z_182.2.2.1) fun n_m0_172 : Int32 =>
              zL (z_182.2.2.2.1) fun n_m0_173 : Int32 =>
              zL (z_182.2.2.2.2) fun n_m0_174 : Int64 =>
              zL (upd f_m0_set (Int32.toNatClampNeg 8) 1) fun f_184 : Nat → Int32 =>
              (n_m0_170, n_m0_171, n_m0_172, n_m0_173, n_m0_174, n_m0_116, n_m0_117, f_184, f_139)
        else
          zL (F_X10_isGood_v1 n_m0_116) fun r_143 : Int32 =>
          if r_143 = (0 : Int32) then
            zL (upd f_m0_set (Int32.toNatClampNeg 8) 0) fun f_146 : Nat → Int32 =>
            (n_m0_125, n_m0_126, n_m0_127, n_m0_128, n_m0_129, n_m0_116, n_m0_117, f_146, f_139)
          else
            zL (F_X10_next m0_taped n_m0_125 f_m0_tape) fun z_160 : Int32 × Int32 × Int32 × Int32 × Int64 =>
            zL (z_160.1) fun n_m0_148 : Int32 =>
            zL (z_160.2.1) fun n_m0_149 : Int32 =>
            zL (z_160.2.2.1) fun n_m0_150 : Int32 =>
            zL (z_160.2.2.2.1) fun n_m0_151 : Int32 =>
            zL (z_160.2.2.2.2) fun n_m0_152 : Int64 =>
            zL (upd f_m0_set (Int32.toNatClampNeg 8) 0) fun f_162 : Nat → Int32 =>
            (n_m0_148, n_m0_149, n_m0_150, n_m0_151, n_m0_152, n_m0_116, n_m0_117, f_162, f_139)
    else
      (m0_at, m0_token, m0_place, m0_value, m0_word, n_m0_116, n_m0_117, f_m0_set, f_m0_once)
noncomputable def K_X10_clears_2_0 (f_1 : Nat → Int32) (f_2 : Nat → Int32) (f_3 : Nat → Int32) (f_4 : Nat → Int32) (f_5 : Nat → Int32) (f_6 : Nat → Int32) (f_8 : Nat → Int32) (f_10 : Nat → Int32) (g_m0_known_12 : Nat → Int32) (g_m0_once_15 : Nat → Int32) : Int32 × (Nat → Int32) × (Nat → Int32) × (Nat → Int32) × (Nat → Int32) × (Nat → Int32) × (Nat → Int32) × (Nat → Int32) × (Nat → Int32) × (Nat → Int32) × (Nat → Int32) :=
  ((0 : Int32), f_1, f_2, f_3, f_4, f_5, f_6, f_8, g_m0_once_15, f_10, g_m0_known_12)
noncomputable def B_X10_clears_2 (kc_2_0 : (Nat → Int32) → Int32 × (Nat → Int32) × (Nat → Int32) × (Nat → Int32) × (Nat → Int32) × (Nat → Int32) × (Nat → Int32) × (Nat → Int32) × (Nat → Int32) × (Nat → Int32) × (Nat → Int32)) (ih_2 : Int32 → (Nat → Int32) → Int32 × (Nat → Int32) × (Nat → Int32) × (Nat → Int32) × (Nat → Int32) × (Nat → Int32) × (Nat → Int32) × (Nat → Int32) × (Nat → Int32) × (Nat → Int32) × (Nat → Int32)) (v1_14 : Int32) (g_m0_once_15 : Nat → Int32) : Int32 × (Nat → Int32) × (Nat → Int32) × (Nat → Int32) × (Nat → Int32) × (Nat → Int32) × (Nat → Int32) × (Nat → Int32) × (Nat → Int32) × (Nat → Int32) × (Nat → Int32) :=
  if (2 : Int32) ≤ v1_14 then
    kc_2_0 g_m0_once_15
  else
    zL ((8 : Int32) + v1_14) fun x_21 : Int32 =>
    zL (upd g_m0_once_15 (Int32.toNatClampNeg x_21) (vp_nar .boolean 0)) fun f_22 : Nat → Int32 =>
    zL (v1_14 + Int32.ofInt 1) fun x_23 : Int32 =>
    ih_2 x_23 f_22
noncomputable def L_X10_clears_2 (kc_2_0 : (Nat → Int32) → Int32 × (Nat → Int32) × (Nat → Int32) × (Nat → Int32) × (Nat → Int32) × (Nat → Int32) × (Nat → Int32) × (Nat → Int32) × (Nat → Int32) × (Nat → Int32) × (Nat → Int32)) : Nat → Int32 → (Nat → Int32) → Int32 × (Nat → Int32) × (Nat → Int32) × (Nat → Int32) × (Nat → Int32) × (Nat → Int32) × (Nat → Int32) × (Nat → Int32) × (Nat → Int32) × (Nat → Int32) × (Nat → Int32) := zLp (fun _ _ => (0, (fun _ => 0), (fun _ => 0), (fun _ => 0), (fun _ => 0), (fun _ => 0), (fun _ => 0), (fun _ => 0), (fun _ => 0), (fun _ => 0), (fun _ => 0))) (B_X10_clears_2 kc_2_0)
theorem L_X10_clears_2_s {kc_2_0 : ((Nat → Int32) → Int32 × (Nat → Int32) × (Nat → Int32) × (Nat → Int32) × (Nat → Int32) × (Nat → Int32) × (Nat → Int32) × (Nat → Int32) × (Nat → Int32) × (Nat → Int32) × (Nat → Int32))} {t : Nat} {v1_14 : Int32} {g_m0_once_15 : (Nat → Int32)} : L_X10_clears_2 kc_2_0 (t + 1) v1_14 g_m0_once_15 = B_X10_clears_2 kc_2_0 (L_X10_clears_2 kc_2_0 t) v1_14 g_m0_once_15 := rfl
noncomputable def K_X10_clears_1_0 (f_1 : Nat → Int32) (f_2 : Nat → Int32) (f_3 : Nat → Int32) (f_4 : Nat → Int32) (f_5 : Nat → Int32) (f_6 : Nat → Int32) (f_8 : Nat → Int32) (f_10 : Nat → Int32) (f_m0_once : Nat → Int32) (g_m0_known_12 : Nat → Int32) : Int32 × (Nat → Int32) × (Nat → Int32) × (Nat → Int32) × (Nat → Int32) × (Nat → Int32) × (Nat → Int32) × (Nat → Int32) × (Nat → Int32) × (Nat → Int32) × (Nat → Int32) :=
  L_X10_clears_2 (K_X10_clears_2_0 f_1 f_2 f_3 f_4 f_5 f_6 f_8 f_10 g_m0_known_12) 4 (0 : Int32) f_m0_once
noncomputable def B_X10_clears_1 (kc_1_0 : (Nat → Int32) → Int32 × (Nat → Int32) × (Nat → Int32) × (Nat → Int32) × (Nat → Int32) × (Nat → Int32) × (Nat → Int32) × (Nat → Int32) × (Nat → Int32) × (Nat → Int32) × (Nat → Int32)) (ih_1 : Int32 → (Nat → Int32) → Int32 × (Nat → Int32) × (Nat → Int32) × (Nat → Int32) × (Nat → Int32) × (Nat → Int32) × (Nat → Int32) × (Nat → Int32) × (Nat → Int32) × (Nat → Int32) × (Nat → Int32)) (v1_11 : Int32) (g_m0_known_12 : Nat → Int32) : Int32 × (Nat → Int32) × (Nat → Int32) × (Nat → Int32) × (Nat → Int32) × (Nat → Int32) × (Nat → Int32) × (Nat → Int32) × (Nat → Int32) × (Nat → Int32) × (Nat → Int32) :=
  if (10 : Int32) ≤ v1_11 then
    kc_1_0 g_m0_known_12
  else
    zL ((40 : Int32) + v1_11) fun x_24 : Int32 =>
    zL (upd g_m0_known_12 (Int32.toNatClampNeg x_24) 0) fun f_25 : Nat → Int32 =>
    zL (v1_11 + Int32.ofInt 1) fun x_26 : Int32 =>
    ih_1 x_26 f_25
noncomputable def L_X10_clears_1 (kc_1_0 : (Nat → Int32) → Int32 × (Nat → Int32) × (Nat → Int32) × (Nat → Int32) × (Nat → Int32) × (Nat → Int32) × (Nat → Int32) × (Nat → Int32) × (Nat → Int32) × (Nat → Int32) × (Nat → Int32)) : Nat → Int32 → (Nat → Int32) → Int32 × (Nat → Int32) × (Nat → Int32) × (Nat → Int32) × (Nat → Int32) × (Nat → Int32) × (Nat → Int32) × (Nat → Int32) × (Nat → Int32) × (Nat → Int32) × (Nat → Int32) := zLp (fun _ _ => (0, (fun _ => 0), (fun _ => 0), (fun _ => 0), (fun _ => 0), (fun _ => 0), (fun _ => 0), (fun _ => 0), (fun _ => 0), (fun _ => 0), (fun _ => 0))) (B_X10_clears_1 kc_1_0)
theorem L_X10_clears_1_s {kc_1_0 : ((Nat → Int32) → Int32 × (Nat → Int32) × (Nat → Int32) × (Nat → Int32) × (Nat → Int32) × (Nat → Int32) × (Nat → Int32) × (Nat → Int32) × (Nat → Int32) × (Nat → Int32) × (Nat → Int32))} {t : Nat} {v1_11 : Int32} {g_m0_known_12 : (Nat → Int32)} : L_X10_clears_1 kc_1_0 (t + 1) v1_11 g_m0_known_12 = B_X10_clears_1 kc_1_0 (L_X10_clears_1 kc_1_0 t) v1_11 g_m0_known_12 := rfl
noncomputable def F_X10_clears (f_m0_lines : Nat → Int32) (f_m0_hours : Nat → Int32) (f_m0_courts : Nat → Int32) (f_m0_in : Nat → Int32) (f_m0_gates : Nat → Int32) (f_m0_people : Nat → Int32) (f_m0_set : Nat → Int32) (f_m0_once : Nat → Int32) (f_m0_truth : Nat → Int32) (f_m0_known : Nat → Int32) : Int32 × (Nat → Int32) × (Nat → Int32) × (Nat → Int32) × (Nat → Int32) × (Nat → Int32) × (Nat → Int32) × (Nat → Int32) × (Nat → Int32) × (Nat → Int32) × (Nat → Int32) :=
  zL (upd f_m0_lines (Int32.toNatClampNeg 4) 0) fun f_1 : Nat → Int32 =>
  zL (upd f_m0_hours (Int32.toNatClampNeg 4) 0) fun f_2 : Nat → Int32 =>
  zL (upd f_m0_courts (Int32.toNatClampNeg 4) 1) fun f_3 : Nat → Int32 =>
  zL (upd f_m0_in (Int32.toNatClampNeg 40) (-1)) fun f_4 : Nat → Int32 =>
  zL (upd f_m0_gates (Int32.toNatClampNeg 4) 0) fun f_5 : Nat → Int32 =>
  zL (upd f_m0_people (Int32.toNatClampNeg 4) 0) fun f_6 : Nat → Int32 =>
  zL (upd f_m0_set (Int32.toNatClampNeg 8) 1) fun f_7 : Nat → Int32 =>
  zL (upd f_7 (Int32.toNatClampNeg 9) 0) fun f_8 : Nat → Int32 =>
  zL (upd f_m0_truth (Int32.toNatClampNeg 8) 0) fun f_9 : Nat → Int32 =>
  zL (upd f_9 (Int32.toNatClampNeg 9) 0) fun f_10 : Nat → Int32 =>
  L_X10_clears_1 (K_X10_clears_1_0 f_1 f_2 f_3 f_4 f_5 f_6 f_8 f_10 f_m0_once) 12 (0 : Int32) f_m0_known
noncomputable def K_X10_personLine_3_0 (ih_2 : Int32 → Int32 → Int32 → (Nat → Int32) → Int32 → Int32 → Int32 → Int32 → Int64 → Int32 → Int32 → Int32 × Int32 × Int32 × Int32 × Int64 × Int32 × Int32 × Int32 × (Nat → Int32) × (Nat → Int32) × (Nat → Int32)) (r_363 : Int32) (r_341 : Int32) (n_m0_364 : Int32) (n_m0_365 : Int32) (n_m0_366 : Int32) (n_m0_367 : Int32) (n_m0_368 : Int64) (n_m0_369 : Int32) (n_m0_370 : Int32) (g_m0_at0_384 : Nat → Int32) : Int32 × Int32 × Int32 × Int32 × Int64 × Int32 × Int32 × Int32 × (Nat → Int32) × (Nat → Int32) × (Nat → Int32) :=
  ih_2 r_363 r_341 r_341 g_m0_at0_384 n_m0_364 n_m0_365 n_m0_366 n_m0_367 n_m0_368 n_m0_369 n_m0_370
noncomputable def K_X10_personLine_3_1 (ih_2 : Int32 → Int32 → Int32 → (Nat → Int32) → Int32 → Int32 → Int32 → Int32 → Int64 → Int32 → Int32 → Int32 × Int32 × Int32 × Int32 × Int64 × Int32 × Int32 × Int32 × (Nat → Int32) × (Nat → Int32) × (Nat → Int32)) (r_363 : Int32) (r_341 : Int32) (n_m0_364 : Int32) (n_m0_365 : Int32) (n_m0_366 : Int32) (n_m0_367 : Int32) (n_m0_368 : Int64) (n_m0_369 : Int32) (n_m0_370 : Int32) (g_m0_at0_384 : Nat → Int32) : Int32 × Int32 × Int32 × Int32 × Int64 × Int32 × Int32 × Int32 × (Nat → Int32) × (Nat → Int32) × (Nat → Int32) :=
  ih_2 r_363 r_341 r_341 g_m0_at0_384 n_m0_364 n_m0_365 n_m0_366 n_m0_367 n_m0_368 n_m0_369 n_m0_370
noncomputable def B_X10_personLine_3 (n_m0_369 : Int32) (x_2 : Int32) (r_363 : Int32) (kc_3_0 : (Nat → Int32) → Int32 × Int32 × Int32 × Int32 × Int64 × Int32 × Int32 × Int32 × (Nat → Int32) × (Nat → Int32) × (Nat → Int32)) (kc_3_1 : (Nat → Int32) → Int32 × Int32 × Int32 × Int32 × Int64 × Int32 × Int32 × Int32 × (Nat → Int32) × (Nat → Int32) × (Nat → Int32)) (ih_3 : Int32 → (Nat → Int32) → Int32 × Int32 × Int32 × Int32 × Int64 × Int32 × Int32 × Int32 × (Nat → Int32) × (Nat → Int32) × (Nat → Int32)) (v5_383 : Int32) (g_m0_at0_384 : Nat → Int32) : Int32 × Int32 × Int32 × Int32 × Int64 × Int32 × Int32 × Int32 × (Nat → Int32) × (Nat → Int32) × (Nat → Int32) :=
  if (48 : Int32) ≤ v5_383 then
    kc_3_0 g_m0_at0_384
  else
    zL (F_X10_isGood_v1 n_m0_369) fun r_387 : Int32 =>
    if r_387 = (0 : Int32) then
      kc_3_1 g_m0_at0_384
    else
      zL ((48 : Int32) * x_2) fun x_390 : Int32 =>
      zL (x_390 + v5_383) fun x_391 : Int32 =>
      zL (upd g_m0_at0_384 (Int32.toNatClampNeg x_391) r_363) fun f_392 : Nat → Int32 =>
      zL (v5_383 + Int32.ofInt 1) fun x_393 : Int32 =>
      ih_3 x_393 f_392
noncomputable def L_X10_personLine_3 (n_m0_369 : Int32) (x_2 : Int32) (r_363 : Int32) (kc_3_0 : (Nat → Int32) → Int32 × Int32 × Int32 × Int32 × Int64 × Int32 × Int32 × Int32 × (Nat → Int32) × (Nat → Int32) × (Nat → Int32)) (kc_3_1 : (Nat → Int32) → Int32 × Int32 × Int32 × Int32 × Int64 × Int32 × Int32 × Int32 × (Nat → Int32) × (Nat → Int32) × (Nat → Int32)) : Nat → Int32 → (Nat → Int32) → Int32 × Int32 × Int32 × Int32 × Int64 × Int32 × Int32 × Int32 × (Nat → Int32) × (Nat → Int32) × (Nat → Int32) := zLp (fun _ _ => (0, 0, 0, 0, 0, 0, 0, 0, (fun _ => 0), (fun _ => 0), (fun _ => 0))) (B_X10_personLine_3 n_m0_369 x_2 r_363 kc_3_0 kc_3_1)
theorem L_X10_personLine_3_s {n_m0_369 : Int32} {x_2 : Int32} {r_363 : Int32} {kc_3_0 : ((Nat → Int32) → Int32 × Int32 × Int32 × Int32 × Int64 × Int32 × Int32 × Int32 × (Nat → Int32) × (Nat → Int32) × (Nat → Int32))} {kc_3_1 : ((Nat → Int32) → Int32 × Int32 × Int32 × Int32 × Int64 × Int32 × Int32 × Int32 × (Nat → Int32) × (Nat → Int32) × (Nat → Int32))} {t : Nat} {v5_383 : Int32} {g_m0_at0_384 : (Nat → Int32)} : L_X10_personLine_3 n_m0_369 x_2 r_363 kc_3_0 kc_3_1 (t + 1) v5_383 g_m0_at0_384 = B_X10_personLine_3 n_m0_369 x_2 r_363 kc_3_0 kc_3_1 (L_X10_personLine_3 n_m0_369 x_2 r_363 kc_3_0 kc_3_1 t) v5_383 g_m0_at0_384 := rfl
noncomputable def K_X10_personLine_2_0 (x_2 : Int32) (f_m0_stray : Nat → Int32) (f_m0_people : Nat → Int32) (x_1 : Int32) (m0_strays : Int32) (m0_taped : Int32) (f_m0_tape : Nat → Int32) (f_m0_courts : Nat → Int32) (x_3 : Int32) (n_m0_42 : Int32) (n_m0_45 : Int64) (w_m0_12_37 : Int32) (n_m0_41 : Int32) (n_m0_43 : Int32) (n_m0_44 : Int32) (w_m0_13_38 : Int32) (g_m0_at0_39 : Nat → Int32) : Int32 × Int32 × Int32 × Int32 × Int64 × Int32 × Int32 × Int32 × (Nat → Int32) × (Nat → Int32) × (Nat → Int32) :=
  zL ((2 : Int32) * x_2) fun x_56 : Int32 =>
  zL (upd f_m0_stray (Int32.toNatClampNeg x_56) 0) fun f_57 : Nat → Int32 =>
  zL ((2 : Int32) * x_2) fun x_58 : Int32 =>
  zL (x_58 + (1 : Int32)) fun x_59 : Int32 =>
  zL (upd f_57 (Int32.toNatClampNeg x_59) 0) fun f_60 : Nat → Int32 =>
  zL (F_X10_is_v1 (283613770 : Int64) n_m0_42 n_m0_45 w_m0_12_37) fun r_61 : Int32 =>
  if r_61 = (0 : Int32) then
    zL (f_m0_people (Int32.toNatClampNeg (4 : Int32))) fun x_63 : Int32 =>
    zL (x_1 + (1 : Int32)) fun x_64 : Int32 =>
    zL (upd f_m0_people (Int32.toNatClampNeg 4) x_64) fun f_65 : Nat → Int32 =>
    (n_m0_41, n_m0_42, n_m0_43, n_m0_44, n_m0_45, w_m0_12_37, w_m0_13_38, m0_strays, f_65, g_m0_at0_39, f_60)
  else
    if m0_strays = (4 : Int32) then
      zL (F_X10_fails_v1 (2 : Int32) n_m0_43 w_m0_12_37 w_m0_13_38) fun z_205 : Int32 × Int32 =>
      zL (z_205.1) fun n_m0_199 : Int32 =>
      zL (z_205.2) fun n_m0_200 : Int32 =>
      zL (F_X10_isGood_v1 n_m0_199) fun r_206 : Int32 =>
      if r_206 = (0 : Int32) then
        zL ((2 : Int32) * x_2) fun x_208 : Int32 =>
        zL (F_X10_number (1 : Int32) (99 : Int32) m0_taped n_m0_41 n_m0_42 n_m0_43 n_m0_44 n_m0_45 n_m0_199 n_m0_200 f_m0_tape) fun z_228 : Int32 × Int32 × Int32 × Int32 × Int32 × Int64 × Int32 × Int32 =>
        zL (z_228.1) fun r_209 : Int32 =>
        zL (z_228.2.1) fun n_m0_210 : Int32 =>
        zL (z_228.2.2.1) fun n_m0_211 : Int32 =>
        zL (z_228.2.2.2.1) fun n_m0_212 : Int32 =>
        zL (z_228.2.2.2.2.1) fun n_m0_213 : Int32 =>
        zL (z_228.2.2.2.2.2.1) fun n_m0_214 : Int64 =>
        zL (z_228.2.2.2.2.2.2.1) fun n_m0_215 : Int32 =>
        zL (z_228.2.2.2.2.2.2.2) fun n_m0_216 : Int32 =>
        zL (upd f_60 (Int32.toNatClampNeg x_208) r_209) fun f_230 : Nat → Int32 =>
        zL ((2 : Int32) * x_2) fun x_231 : Int32 =>
        zL (x_231 + (1 : Int32)) fun x_232 : Int32 =>
        zL (f_m0_courts (Int32.toNatClampNeg (4 : Int32))) fun x_233 : Int32 =>
        zL (x_3 - (1 : Int32)) fun x_234 : Int32 =>
        zL (F_X10_number_ (555 : Int64) (0 : Int32) x_234 m0_taped n_m0_210 n_m0_211 n_m0_212 n_m0_213 n_m0_214 n_m0_215 n_m0_216 f_m0_tape) fun z_254 : Int32 × Int32 × Int32 × Int32 × Int32 × Int64 × Int32 × Int32 =>
        zL (z_254.1) fun r_235 : Int32 =>
        zL (z_254.2.1) fun n_m0_236 : Int32 =>
        zL (z_254.2.2.1) fun n_m0_237 : Int32 =>
        zL (z_254.2.2.2.1) fun n_m0_238 : Int32 =>
        zL (z_254.2.2.2.2.1) fun n_m0_239 : Int32 =>
        zL (z_254.2.2.2.2.2.1) fun n_m0_240 : Int64 =>
        zL (z_254.2.2.2.2.2.2.1) fun n_m0_241 : Int32 =>
        zL (z_254.2.2.2.2.2.2.2) fun n_m0_242 : Int32 =>
        zL (upd f_230 (Int32.toNatClampNeg x_232) r_235) fun f_256 : Nat → Int32 =>
        zL (m0_strays + (1 : Int32)) fun x_257 : Int32 =>
        zL (f_m0_people (Int32.toNatClampNeg (4 : Int32))) fun x_258 : Int32 =>
        zL (x_1 + (1 : Int32)) fun x_259 : Int32 =>
        zL (upd f_m0_people (Int32.toNatClampNeg 4) x_259) fun f_260 : Nat → Int32 =>
        (n_m0_236, n_m0_237, n_m0_238, n_m0_239, n_m0_240, n_m0_241, n_m0_242, x_257, f_260, g_m0_at0_39, f_256)
      else
        zL (F_X10_next m0_taped n_m0_41 f_m0_tape) fun z_279 : Int32 × Int32 × Int32 × Int32 × Int64 =>
        zL (z_279.1) fun n_m0_267 : Int32 =>
        zL (z_279.2.1) fun n_m0_268 : Int32 =>
        zL (z_279.2.2.1) fun n_m0_269 : Int32 =>
        zL (z_279.2.2.2.1) fun n_m0_270 : Int32 =>
        zL (z_279.2.2.2.2) fun n_m0_271 : Int64 =>
        zL ((2 : Int32) * x_2) fun x_280 : Int32 =>
        zL (F_X10_number (1 : Int32) (99 : Int32) m0_taped n_m0_267 n_m0_268 n_m0_269 n_m0_270 n_m0_271 n_m0_199 n_m0_200 f_m0_tape) fun z_300 : Int32 × Int32 × Int32 × Int32 × Int32 × Int64 × Int32 × Int32 =>
        zL (z_300.1) fun r_281 : Int32 =>
        zL (z_300.2.1) fun n_m0_282 : Int32 =>
        zL (z_300.2.2.1) fun n_m0_283 : Int32 =>
        zL (z_300.2.2.2.1) fun n_m0_284 : Int32 =>
        zL (z_300.2.2.2.2.1) fun n_m0_285 : Int32 =>
        zL (z_300.2.2.2.2.2.1) fun n_m0_286 : Int64 =>
        zL (z_300.2.2.2.2.2.2.1) fun n_m0_287 : Int32 =>
        zL (z_300.2.2.2.2.2.2.2) fun n_m0_288 : Int32 =>
        zL (upd f_60 (Int32.toNatClampNeg x_280) r_281) fun f_302 : Nat → Int32 =>
        zL ((2 : Int32) * x_2) fun x_303 : Int32 =>
        zL (x_303 + (1 : Int32)) fun x_304 : Int32 =>
        zL (f_m0_courts (Int32.toNatClampNeg (4 : Int32))) fun x_305 : Int32 =>
        zL (x_3 - (1 : Int32)) fun x_306 : Int32 =>
        zL (F_X10_number_ (555 : Int64) (0 : Int32) x_306 m0_taped n_m0_282 n_m0_283 n_m0_284 n_m0_285 n_m0_286 n_m0_287 n_m0_288 f_m0_tape) fun z_326 : Int32 × Int32 × Int32 × Int32 × Int32 × Int64 × Int32 × Int32 =>
        zL (z_326.1) fun r_307 : Int32 =>
        zL (z_326.2.1) fun n_m0_308 : Int32 =>
        zL (z_326.2.2.1) fun n_m0_309 : Int32 =>
        zL (z_326.2.2.2.1) fun n_m0_310 : Int32 =>
        zL (z_326.2.2.2.2.1) fun n_m0_311 : Int32 =>
        zL (z_326.2.2.2.2.2.1) fun n_m0_312 : Int64 =>
        zL (z_326.2.2.2.2.2.2.1) fun n_m0_313 : Int32 =>
        zL (z_326.2.2.2.2.2.2.2) fun n_m0_314 : Int32 =>
        zL (upd f_302 (Int32.toNatClampNeg x_304) r_307) fun f_328 : Nat → Int32 =>
        zL (m0_strays + (1 : Int32)) fun x_329 : Int32 =>
        zL (f_m0_people (Int32.toNatClampNeg (4 : Int32))) fun x_330 : Int32 =>
        zL (x_1 + (1 : Int32)) fun x_331 : Int32 =>
        zL (upd f_m0_people (Int32.toNatClampNeg 4) x_331) fun f_332 : Nat → Int32 =>
        (n_m0_308, n_m0_309, n_m0_310, n_m0_311, n_m0_312, n_m0_313, n_m0_314, x_329, f_332, g_m0_at0_39, f_328)
    else
      zL (F_X10_isGood_v1 w_m0_12_37) fun r_70 : Int32 =>
      if r_70 = (0 : Int32) then
        zL ((2 : Int32) * x_2) fun x_72 : Int32 =>
        zL (F_X10_number (1 : Int32) (99 : Int32) m0_taped n_m0_41 n_m0_42 n_m0_43 n_m0_44 n_m0_45 w_m0_12_37 w_m0_13_38 f_m0_tape) fun z_92 : Int32 × Int32 × Int32 × Int32 × Int32 × Int64 × Int32 × Int32 =>
        zL (z_92.1) fun r_73 : Int32 =>
        zL (z_92.2.1) fun n_m0_74 : Int32 =>
        zL (z_92.2.2.1) fun n_m0_75 : Int32 =>
        zL (z_92.2.2.2.1) fun n_m0_76 : Int32 =>
        zL (z_92.2.2.2.2.1) fun n_m0_77 : Int32 =>
        zL (z_92.2.2.2.2.2.1) fun n_m0_78 : Int64 =>
        zL (z_92.2.2.2.2.2.2.1) fun n_m0_79 : Int32 =>
        zL (z_92.2.2.2.2.2.2.2) fun n_m0_80 : Int32 =>
        zL (upd f_60 (Int32.toNatClampNeg x_72) r_73) fun f_93 : Nat → Int32 =>
        zL ((2 : Int32) * x_2) fun x_94 : Int32 =>
        zL (x_94 + (1 : Int32)) fun x_95 : Int32 =>
        zL (f_m0_courts (Int32.toNatClampNeg (4 : Int32))) fun x_96 : Int32 =>
        zL (x_3 - (1 : Int32)) fun x_97 : Int32 =>
        zL (F_X10_number_ (555 : Int64) (0 : Int32) x_97 m0_taped n_m0_74 n_m0_75 n_m0_76 n_m0_77 n_m0_78 n_m0_79 n_m0_80 f_m0_tape) fun z_117 : Int32 × Int32 × Int32 × Int32 × Int32 × Int64 × Int32 × Int32 =>
        zL (z_117.1) fun r_98 : Int32 =>
        zL (z_117.2.1) fun n_m0_99 : Int32 =>
        zL (z_117.2.2.1) fun n_m0_100 : Int32 =>
        zL (z_117.2.2.2.1) fun n_m0_101 : Int32 =>
        zL (z_117.2.2.2.2.1) fun n_m0_102 : Int32 =>
        zL (z_117.2.2.2.2.2.1) fun n_m0_103 : Int64 =>
        zL (z_117.2.2.2.2.2.2.1) fun n_m0_104 : Int32 =>
        zL (z_117.2.2.2.2.2.2.2) fun n_m0_105 : Int32 =>
        zL (upd f_93 (Int32.toNatClampNeg x_95) r_98) fun f_118 : Nat → Int32 =>
        zL (m0_strays + (1 : Int32)) fun x_119 : Int32 =>
        zL (f_m0_people (Int32.toNatClampNeg (4 : Int32))) fun x_120 : Int32 =>
        zL (x_1 + (1 : Int32)) fun x_121 : Int32 =>
        zL (upd f_m0_people (Int32.toNatClampNeg 4) x_121) fun f_122 : Nat → Int32 =>
        (n_m0_99, n_m0_100, n_m0_101, n_m0_102, n_m0_103, n_m0_104, n_m0_105, x_119, f_122, g_m0_at0_39, f_118)
      else
        zL (F_X10_next m0_taped n_m0_41 f_m0_tape) fun z_141 : Int32 × Int32 × Int32 × Int32 × Int64 =>
        zL (z_141.1) fun n_m0_129 : Int32 =>
        zL (z_141.2.1) fun n_m0_130 : Int32 =>
        zL (z_141.2.2.1) fun n_m0_131 : Int32 =>
        zL (z_141.2.2.2.1) fun n_m0_132 : Int32 =>
        zL (z_141.2.2.2.2) fun n_m0_133 : Int64 =>
        zL ((2 : Int32) * x_2) fun x_142 : Int32 =>
        zL (F_X10_number (1 : Int32) (99 : Int32) m0_taped n_m0_129 n_m0_130 n_m0_131 n_m0_132 n_m0_133 w_m0_12_37 w_m0_13_38 f_m0_tape) fun z_162 : Int32 × Int32 × Int32 × Int32 × Int32 × Int64 × Int32 × Int32 =>
        zL (z_162.1) fun r_143 : Int32 =>
        zL (z_162.2.1) fun n_m0_144 : Int32 =>
        zL (z_162.2.2.1) fun n_m0_145 : Int32 =>
        zL (z_162.2.2.2.1) fun n_m0_146 : Int32 =>
        zL (z_162.2.2.2.2.1) fun n_m0_147 : Int32 =>
        zL (z_162.2.2.2.2.2.1) fun n_m0_148 : Int64 =>
        zL (z_162.2.2.2.2.2.2.1) fun n_m0_149 : Int32 =>
        zL (z_162.2.2.2.2.2.2.2) fun n_m0_150 : Int32 =>
        zL (upd f_60 (Int32.toNatClampNeg x_142) r_143) fun f_163 : Nat → Int32 =>
        zL ((2 : Int32) * x_2) fun x_164 : Int32 =>
        zL (x_164 + (1 : Int32)) fun x_165 : Int32 =>
        zL (f_m0_courts (Int32.toNatClampNeg (4 : Int32))) fun x_166 : Int32 =>
        zL (x_3 - (1 : Int32)) fun x_167 : Int32 =>
        zL (F_X10_number_ (555 : Int64) (0 : Int32) x_167 m0_taped n_m0_144 n_m0_145 n_m0_146 n_m0_147 n_m0_148 n_m0_149 n_m0_150 f_m0_tape) fun z_187 : Int32 × Int32 × Int32 × Int32 × Int32 × Int64 × Int32 × Int32 =>
        zL (z_187.1) fun r_168 : Int32 =>
        zL (z_187.2.1) fun n_m0_169 : Int32 =>
        zL (z_187.2.2.1) fun n_m0_170 : Int32 =>
        zL (z_187.2.2.2.1) fun n_m0_171 : Int32 =>
        zL (z_187.2.2.2.2.1) fun n_m0_172 : Int32 =>
        zL (z_187.2.2.2.2.2.1) fun n_m0_173 : Int64 =>
        zL (z_187.2.2.2.2.2.2.1) fun n_m0_174 : Int32 =>
        zL (z_187.2.2.2.2.2.2.2) fun n_m0_175 : Int32 =>
        zL (upd f_163 (Int32.toNatClampNeg x_165) r_168) fun f_188 : Nat → Int32 =>
        zL (m0_strays + (1 : Int32)) fun x_189 : Int32 =>
        zL (f_m0_people (Int32.toNatClampNeg (4 : Int32))) fun x_190 : Int32 =>
        zL (x_1 + (1 : Int32)) fun x_191 : Int32 =>
        zL (upd f_m0_people (Int32.toNatClampNeg 4) x_191) fun f_192 : Nat → Int32 =>
        (n_m0_169, n_m0_170, n_m0_171, n_m0_172, n_m0_173, n_m0_174, n_m0_175, x_189, f_192, g_m0_at0_39, f_188)
noncomputable def B_X10_personLine_2 (m0_taped : Int32) (f_m0_tape : Nat → Int32) (f_m0_hours : Nat → Int32) (f_m0_courts : Nat → Int32) (x_3 : Int32) (x_2 : Int32) (kc_2_0 : Int32 → Int64 → Int32 → Int32 → Int32 → Int32 → Int32 → (Nat → Int32) → Int32 × Int32 × Int32 × Int32 × Int64 × Int32 × Int32 × Int32 × (Nat → Int32) × (Nat → Int32) × (Nat → Int32)) (ih_2 : Int32 → Int32 → Int32 → (Nat → Int32) → Int32 → Int32 → Int32 → Int32 → Int64 → Int32 → Int32 → Int32 × Int32 × Int32 × Int32 × Int64 × Int32 × Int32 × Int32 × (Nat → Int32) × (Nat → Int32) × (Nat → Int32)) (v2_29 : Int32) (v3_30 : Int32) (v4_31 : Int32) (g_m0_at0_39 : Nat → Int32) (w_m0_7_32 : Int32) (w_m0_8_33 : Int32) (w_m0_9_34 : Int32) (w_m0_10_35 : Int32) (w_m0_11_36 : Int64) (w_m0_12_37 : Int32) (w_m0_13_38 : Int32) : Int32 × Int32 × Int32 × Int32 × Int64 × Int32 × Int32 × Int32 × (Nat → Int32) × (Nat → Int32) × (Nat → Int32) :=
  zL (F_X10_takes (131638 : Int64) m0_taped w_m0_7_32 w_m0_8_33 w_m0_9_34 w_m0_10_35 w_m0_11_36 w_m0_12_37 f_m0_tape) fun z_54 : Int32 × Int32 × Int32 × Int32 × Int32 × Int64 =>
  zL (z_54.1) fun r_40 : Int32 =>
  zL (z_54.2.1) fun n_m0_41 : Int32 =>
  zL (z_54.2.2.1) fun n_m0_42 : Int32 =>
  zL (z_54.2.2.2.1) fun n_m0_43 : Int32 =>
  zL (z_54.2.2.2.2.1) fun n_m0_44 : Int32 =>
  zL (z_54.2.2.2.2.2) fun n_m0_45 : Int64 =>
  if r_40 = (0 : Int32) then
    kc_2_0 n_m0_42 n_m0_45 w_m0_12_37 n_m0_41 n_m0_43 n_m0_44 w_m0_13_38 g_m0_at0_39
  else
    zL (v3_30 + (1 : Int32)) fun x_338 : Int32 =>
    zL (f_m0_hours (Int32.toNatClampNeg (4 : Int32))) fun x_339 : Int32 =>
    zL (x_339 - (1 : Int32)) fun x_340 : Int32 =>
    zL (F_X10_number x_338 x_340 m0_taped n_m0_41 n_m0_42 n_m0_43 n_m0_44 n_m0_45 w_m0_12_37 w_m0_13_38 f_m0_tape) fun z_360 : Int32 × Int32 × Int32 × Int32 × Int32 × Int64 × Int32 × Int32 =>
    zL (z_360.1) fun r_341 : Int32 =>
    zL (z_360.2.1) fun n_m0_342 : Int32 =>
    zL (z_360.2.2.1) fun n_m0_343 : Int32 =>
    zL (z_360.2.2.2.1) fun n_m0_344 : Int32 =>
    zL (z_360.2.2.2.2.1) fun n_m0_345 : Int32 =>
    zL (z_360.2.2.2.2.2.1) fun n_m0_346 : Int64 =>
    zL (z_360.2.2.2.2.2.2.1) fun n_m0_347 : Int32 =>
    zL (z_360.2.2.2.2.2.2.2) fun n_m0_348 : Int32 =>
    zL (f_m0_courts (Int32.toNatClampNeg (4 : Int32))) fun x_361 : Int32 =>
    zL (x_3 - (1 : Int32)) fun x_362 : Int32 =>
    zL (F_X10_number_ (47 : Int64) (0 : Int32) x_362 m0_taped n_m0_342 n_m0_343 n_m0_344 n_m0_345 n_m0_346 n_m0_347 n_m0_348 f_m0_tape) fun z_382 : Int32 × Int32 × Int32 × Int32 × Int32 × Int64 × Int32 × Int32 =>
    zL (z_382.1) fun r_363 : Int32 =>
    zL (z_382.2.1) fun n_m0_364 : Int32 =>
    zL (z_382.2.2.1) fun n_m0_365 : Int32 =>
    zL (z_382.2.2.2.1) fun n_m0_366 : Int32 =>
    zL (z_382.2.2.2.2.1) fun n_m0_367 : Int32 =>
    zL (z_382.2.2.2.2.2.1) fun n_m0_368 : Int64 =>
    zL (z_382.2.2.2.2.2.2.1) fun n_m0_369 : Int32 =>
    zL (z_382.2.2.2.2.2.2.2) fun n_m0_370 : Int32 =>
    L_X10_personLine_3 n_m0_369 x_2 r_363 (K_X10_personLine_3_0 ih_2 r_363 r_341 n_m0_364 n_m0_365 n_m0_366 n_m0_367 n_m0_368 n_m0_369 n_m0_370) (K_X10_personLine_3_1 ih_2 r_363 r_341 n_m0_364 n_m0_365 n_m0_366 n_m0_367 n_m0_368 n_m0_369 n_m0_370) 49 r_341 g_m0_at0_39
noncomputable def L_X10_personLine_2 (m0_taped : Int32) (f_m0_tape : Nat → Int32) (f_m0_hours : Nat → Int32) (f_m0_courts : Nat → Int32) (x_3 : Int32) (x_2 : Int32) (kc_2_0 : Int32 → Int64 → Int32 → Int32 → Int32 → Int32 → Int32 → (Nat → Int32) → Int32 × Int32 × Int32 × Int32 × Int64 × Int32 × Int32 × Int32 × (Nat → Int32) × (Nat → Int32) × (Nat → Int32)) : Nat → Int32 → Int32 → Int32 → (Nat → Int32) → Int32 → Int32 → Int32 → Int32 → Int64 → Int32 → Int32 → Int32 × Int32 × Int32 × Int32 × Int64 × Int32 × Int32 × Int32 × (Nat → Int32) × (Nat → Int32) × (Nat → Int32) := zLp (fun _ _ _ _ _ _ _ _ _ _ _ => (0, 0, 0, 0, 0, 0, 0, 0, (fun _ => 0), (fun _ => 0), (fun _ => 0))) (B_X10_personLine_2 m0_taped f_m0_tape f_m0_hours f_m0_courts x_3 x_2 kc_2_0)
theorem L_X10_personLine_2_s {m0_taped : Int32} {f_m0_tape : (Nat → Int32)} {f_m0_hours : (Nat → Int32)} {f_m0_courts : (Nat → Int32)} {x_3 : Int32} {x_2 : Int32} {kc_2_0 : (Int32 → Int64 → Int32 → Int32 → Int32 → Int32 → Int32 → (Nat → Int32) → Int32 × Int32 × Int32 × Int32 × Int64 × Int32 × Int32 × Int32 × (Nat → Int32) × (Nat → Int32) × (Nat → Int32))} {t : Nat} {v2_29 : Int32} {v3_30 : Int32} {v4_31 : Int32} {g_m0_at0_39 : (Nat → Int32)} {w_m0_7_32 : Int32} {w_m0_8_33 : Int32} {w_m0_9_34 : Int32} {w_m0_10_35 : Int32} {w_m0_11_36 : Int64} {w_m0_12_37 : Int32} {w_m0_13_38 : Int32} : L_X10_personLine_2 m0_taped f_m0_tape f_m0_hours f_m0_courts x_3 x_2 kc_2_0 (t + 1) v2_29 v3_30 v4_31 g_m0_at0_39 w_m0_7_32 w_m0_8_33 w_m0_9_34 w_m0_10_35 w_m0_11_36 w_m0_12_37 w_m0_13_38 = B_X10_personLine_2 m0_taped f_m0_tape f_m0_hours f_m0_courts x_3 x_2 kc_2_0 (L_X10_personLine_2 m0_taped f_m0_tape f_m0_hours f_m0_courts x_3 x_2 kc_2_0 t) v2_29 v3_30 v4_31 g_m0_at0_39 w_m0_7_32 w_m0_8_33 w_m0_9_34 w_m0_10_35 w_m0_11_36 w_m0_12_37 w_m0_13_38 := rfl
noncomputable def K_X10_personLine_1_0 (m0_taped : Int32) (f_m0_tape : Nat → Int32) (f_m0_hours : Nat → Int32) (f_m0_courts : Nat → Int32) (x_3 : Int32) (x_2 : Int32) (f_m0_stray : Nat → Int32) (f_m0_people : Nat → Int32) (x_1 : Int32) (m0_strays : Int32) (r_5 : Int32) (n_m0_6 : Int32) (n_m0_7 : Int32) (n_m0_8 : Int32) (n_m0_9 : Int32) (n_m0_10 : Int64) (n_m0_11 : Int32) (n_m0_12 : Int32) (v4_25 : Int32) (g_m0_at0_26 : Nat → Int32) : Int32 × Int32 × Int32 × Int32 × Int64 × Int32 × Int32 × Int32 × (Nat → Int32) × (Nat → Int32) × (Nat → Int32) :=
  L_X10_personLine_2 m0_taped f_m0_tape f_m0_hours f_m0_courts x_3 x_2 (K_X10_personLine_2_0 x_2 f_m0_stray f_m0_people x_1 m0_strays m0_taped f_m0_tape f_m0_courts x_3) 116005 r_5 (0 : Int32) v4_25 g_m0_at0_26 n_m0_6 n_m0_7 n_m0_8 n_m0_9 n_m0_10 n_m0_11 n_m0_12
noncomputable def B_X10_personLine_1 (x_2 : Int32) (r_5 : Int32) (kc_1_0 : Int32 → (Nat → Int32) → Int32 × Int32 × Int32 × Int32 × Int64 × Int32 × Int32 × Int32 × (Nat → Int32) × (Nat → Int32) × (Nat → Int32)) (ih_1 : Int32 → (Nat → Int32) → Int32 × Int32 × Int32 × Int32 × Int64 × Int32 × Int32 × Int32 × (Nat → Int32) × (Nat → Int32) × (Nat → Int32)) (v4_25 : Int32) (g_m0_at0_26 : Nat → Int32) : Int32 × Int32 × Int32 × Int32 × Int64 × Int32 × Int32 × Int32 × (Nat → Int32) × (Nat → Int32) × (Nat → Int32) :=
  if (48 : Int32) ≤ v4_25 then
    kc_1_0 v4_25 g_m0_at0_26
  else
    zL ((48 : Int32) * x_2) fun x_394 : Int32 =>
    zL (x_394 + v4_25) fun x_395 : Int32 =>
    zL (upd g_m0_at0_26 (Int32.toNatClampNeg x_395) r_5) fun f_396 : Nat → Int32 =>
    zL (v4_25 + Int32.ofInt 1) fun x_397 : Int32 =>
    ih_1 x_397 f_396
noncomputable def L_X10_personLine_1 (x_2 : Int32) (r_5 : Int32) (kc_1_0 : Int32 → (Nat → Int32) → Int32 × Int32 × Int32 × Int32 × Int64 × Int32 × Int32 × Int32 × (Nat → Int32) × (Nat → Int32) × (Nat → Int32)) : Nat → Int32 → (Nat → Int32) → Int32 × Int32 × Int32 × Int32 × Int64 × Int32 × Int32 × Int32 × (Nat → Int32) × (Nat → Int32) × (Nat → Int32) := zLp (fun _ _ => (0, 0, 0, 0, 0, 0, 0, 0, (fun _ => 0), (fun _ => 0), (fun _ => 0))) (B_X10_personLine_1 x_2 r_5 kc_1_0)
theorem L_X10_personLine_1_s {x_2 : Int32} {r_5 : Int32} {kc_1_0 : (Int32 → (Nat → Int32) → Int32 × Int32 × Int32 × Int32 × Int64 × Int32 × Int32 × Int32 × (Nat → Int32) × (Nat → Int32) × (Nat → Int32))} {t : Nat} {v4_25 : Int32} {g_m0_at0_26 : (Nat → Int32)} : L_X10_personLine_1 x_2 r_5 kc_1_0 (t + 1) v4_25 g_m0_at0_26 = B_X10_personLine_1 x_2 r_5 kc_1_0 (L_X10_personLine_1 x_2 r_5 kc_1_0 t) v4_25 g_m0_at0_26 := rfl
noncomputable def F_X10_personLine (m0_taped : Int32) (m0_at : Int32) (m0_token : Int32) (m0_place : Int32) (m0_value : Int32) (m0_word : Int64) (m0_bad : Int32) (m0_badPlace : Int32) (m0_strays : Int32) (f_m0_tape : Nat → Int32) (f_m0_hours : Nat → Int32) (f_m0_courts : Nat → Int32) (f_m0_people : Nat → Int32) (f_m0_at0 : Nat → Int32) (f_m0_stray : Nat → Int32) : Int32 × Int32 × Int32 × Int32 × Int64 × Int32 × Int32 × Int32 × (Nat → Int32) × (Nat → Int32) × (Nat → Int32) :=
  zL (f_m0_people (Int32.toNatClampNeg (4 : Int32))) fun x_1 : Int32 =>
  zL ((40 : Int32) + x_1) fun x_2 : Int32 =>
  zL (f_m0_courts (Int32.toNatClampNeg (4 : Int32))) fun x_3 : Int32 =>
  zL (x_3 - (1 : Int32)) fun x_4 : Int32 =>
  zL (F_X10_number_ (47 : Int64) (0 : Int32) x_4 m0_taped m0_at m0_token m0_place m0_value m0_word m0_bad m0_badPlace f_m0_tape) fun z_24 : Int32 × Int32 × Int32 × Int32 × Int32 × Int64 × Int32 × Int32 =>
  zL (z_24.1) fun r_5 : Int32 =>
  zL (z_24.2.1) fun n_m0_6 : Int32 =>
  zL (z_24.2.2.1) fun n_m0_7 : Int32 =>
  zL (z_24.2.2.2.1) fun n_m0_8 : Int32 =>
  zL (z_24.2.2.2.2.1) fun n_m0_9 : Int32 =>
  zL (z_24.2.2.2.2.2.1) fun n_m0_10 : Int64 =>
  zL (z_24.2.2.2.2.2.2.1) fun n_m0_11 : Int32 =>
  zL (z_24.2.2.2.2.2.2.2) fun n_m0_12 : Int32 =>
  L_X10_personLine_1 x_2 r_5 (K_X10_personLine_1_0 m0_taped f_m0_tape f_m0_hours f_m0_courts x_3 x_2 f_m0_stray f_m0_people x_1 m0_strays r_5 n_m0_6 n_m0_7 n_m0_8 n_m0_9 n_m0_10 n_m0_11 n_m0_12) 50 (0 : Int32) f_m0_at0
noncomputable def F_X10_is_v2 (p1 : Int64) (m0_token : Int32) (m0_word : Int64) (m0_bad : Int32) : Int32 :=
  if m0_bad = (0 : Int32) then
    if m0_token = (1 : Int32) then
      if lg_cmp m0_word p1 = 0 then
        (1 : Int32)
      else
        (0 : Int32)
    else
      (0 : Int32)
  else
    (0 : Int32)
noncomputable def F_X10_line (m0_taped : Int32) (m0_at : Int32) (m0_token : Int32) (m0_place : Int32) (m0_value : Int32) (m0_word : Int64) (m0_bad : Int32) (m0_badPlace : Int32) (m0_strays : Int32) (f_m0_tape : Nat → Int32) (f_m0_hours : Nat → Int32) (f_m0_courts : Nat → Int32) (f_m0_in : Nat → Int32) (f_m0_gates : Nat → Int32) (f_m0_gate : Nat → Int32) (f_m0_people : Nat → Int32) (f_m0_at0 : Nat → Int32) (f_m0_stray : Nat → Int32) (f_m0_set : Nat → Int32) (f_m0_once : Nat → Int32) : Int32 × Int32 × Int32 × Int32 × Int64 × Int32 × Int32 × Int32 × (Nat → Int32) × (Nat → Int32) × (Nat → Int32) × (Nat → Int32) × (Nat → Int32) × (Nat → Int32) × (Nat → Int32) × (Nat → Int32) × (Nat → Int32) :=
  zL (F_X10_is_v2 (8798 : Int64) m0_token m0_word m0_bad) fun r_1 : Int32 =>
  if r_1 = (0 : Int32) then
    zL (F_X10_is_v2 (3217595 : Int64) m0_token m0_word m0_bad) fun r_3 : Int32 =>
    if r_3 = (0 : Int32) then
      zL (F_X10_is_v2 (1905383 : Int64) m0_token m0_word m0_bad) fun r_5 : Int32 =>
      zL (F_X10_is_v2 (139055 : Int64) m0_token m0_word m0_bad) fun r_6 : Int32 =>
      if r_5 = (0 : Int32) then
        if r_6 = (0 : Int32) then
          zL (F_X10_is_v2 (232608281 : Int64) m0_token m0_word m0_bad) fun r_246 : Int32 =>
          if r_246 = (0 : Int32) then
            zL (F_X10_fails_v1 (1 : Int32) m0_place m0_bad m0_badPlace) fun z_357 : Int32 × Int32 =>
            zL (z_357.1) fun n_m0_351 : Int32 =>
            zL (z_357.2) fun n_m0_352 : Int32 =>
            zL (f_m0_people (Int32.toNatClampNeg (4 : Int32))) fun x_360 : Int32 =>
            if x_360 = (10 : Int32) then
              zL (F_X10_fails_v1 (3 : Int32) m0_place n_m0_351 n_m0_352) fun z_414 : Int32 × Int32 =>
              zL (z_414.1) fun n_m0_408 : Int32 =>
              zL (z_414.2) fun n_m0_409 : Int32 =>
              if n_m0_408 = (0 : Int32) then
                zL (F_X10_next m0_taped m0_at f_m0_tape) fun z_429 : Int32 × Int32 × Int32 × Int32 × Int64 =>
                zL (z_429.1) fun n_m0_417 : Int32 =>
                zL (z_429.2.1) fun n_m0_418 : Int32 =>
                zL (z_429.2.2.1) fun n_m0_419 : Int32 =>
                zL (z_429.2.2.2.1) fun n_m0_420 : Int32 =>
                zL (z_429.2.2.2.2) fun n_m0_421 : Int64 =>
                zL (F_X10_personLine m0_taped n_m0_417 n_m0_418 n_m0_419 n_m0_420 n_m0_421 n_m0_408 n_m0_409 m0_strays f_m0_tape f_m0_hours f_m0_courts f_m0_people f_m0_at0 f_m0_stray) fun z_459 : Int32 × Int32 × Int32 × Int32 × Int64 × Int32 × Int32 × Int32 × (Nat → Int32) × (Nat → Int32) × (Nat → Int32) =>
                zL (z_459.1) fun n_m0_433 : Int32 =>
                zL (z_459.2.1) fun n_m0_434 : Int32 =>
                zL (z_459.2.2.1) fun n_m0_435 : Int32 =>
                zL (z_459.2.2.2.1) fun n_m0_436 : Int32 =>
                zL (z_459.2.2.2.2.1) fun n_m0_437 : Int64 =>
                zL (z_459.2.2.2.2.2.1) fun n_m0_438 : Int32 =>
                zL (z_459.2.2.2.2.2.2.1) fun n_m0_439 : Int32 =>
                zL (z_459.2.2.2.2.2.2.2.1) fun n_m0_440 : Int32 =>
                zL (z_459.2.2.2.2.2.2.2.2.1) fun n_m0_people_441 : Nat → Int32 =>
                zL (z_459.2.2.2.2.2.2.2.2.2.1) fun n_m0_at0_442 : Nat → Int32 =>
                zL (z_459.2.2.2.2.2.2.2.2.2.2) fun n_m0_stray_443 : Nat → Int32 =>
                (n_m0_433, n_m0_434, n_m0_435, n_m0_436, n_m0_437, n_m0_438, n_m0_439, n_m0_440, f_m0_courts, f_m0_in, f_m0_gates, f_m0_gate, n_m0_people_441, n_m0_at0_442, n_m0_stray_443, f_m0_set, f_m0_once)
              else
                (m0_at, m0_token, m0_place, m0_value, m0_word, n_m0_408, n_m0_409, m0_strays, f_m0_courts, f_m0_in, f_m0_gates, f_m0_gate, f_m0_people, f_m0_at0, f_m0_stray, f_m0_set, f_m0_once)
            else
              if n_m0_351 = (0 : Int32) then
                zL (F_X10_next m0_taped m0_at f_m0_tape) fun z_376 : Int32 × Int32 × Int32 × Int32 × Int64 =>
                zL (z_376.1) fun n_m0_364 : Int32 =>
                zL (z_376.2.1) fun n_m0_365 : Int32 =>
                zL (z_376.2.2.1) fun n_m0_366 : Int32 =>
                zL (z_376.2.2.2.1) fun n_m0_367 : Int32 =>
                zL (z_376.2.2.2.2) fun n_m0_368 : Int64 =>
                zL (F_X10_personLine m0_taped n_m0_364 n_m0_365 n_m0_366 n_m0_367 n_m0_368 n_m0_351 n_m0_352 m0_strays f_m0_tape f_m0_hours f_m0_courts f_m0_people f_m0_at0 f_m0_stray) fun z_406 : Int32 × Int32 × Int32 × Int32 × Int64 × Int32 × Int32 × Int32 × (Nat → Int32) × (Nat → Int32) × (Nat → Int32) =>
                zL (z_406.1) fun n_m0_380 : Int32 =>
                zL (z_406.2.1) fun n_m0_381 : Int32 =>
                zL (z_406.2.2.1) fun n_m0_382 : Int32 =>
                zL (z_406.2.2.2.1) fun n_m0_383 : Int32 =>
                zL (z_406.2.2.2.2.1) fun n_m0_384 : Int64 =>
                zL (z_406.2.2.2.2.2.1) fun n_m0_385 : Int32 =>
                zL (z_406.2.2.2.2.2.2.1) fun n_m0_386 : Int32 =>
                zL (z_406.2.2.2.2.2.2.2.1) fun n_m0_387 : Int32 =>
                zL (z_406.2.2.2.2.2.2.2.2.1) fun n_m0_people_388 : Nat → Int32 =>
                zL (z_406.2.2.2.2.2.2.2.2.2.1) fun n_m0_at0_389 : Nat → Int32 =>
                zL (z_406.2.2.2.2.2.2.2.2.2.2) fun n_m0_stray_390 : Nat → Int32 =>
                (n_m0_380, n_m0_381, n_m0_382, n_m0_383, n_m0_384, n_m0_385, n_m0_386, n_m0_387, f_m0_courts, f_m0_in, f_m0_gates, f_m0_gate, n_m0_people_388, n_m0_at0_389, n_m0_stray_390, f_m0_set, f_m0_once)
              else
                (m0_at, m0_token, m0_place, m0_value, m0_word, n_m0_351, n_m0_352, m0_strays, f_m0_courts, f_m0_in, f_m0_gates, f_m0_gate, f_m0_people, f_m0_at0, f_m0_stray, f_m0_set, f_m0_once)
          else
            zL (f_m0_people (Int32.toNatClampNeg (4 : Int32))) fun x_250 : Int32 =>
            if x_250 = (10 : Int32) then
              zL (F_X10_fails_v1 (3 : Int32) m0_place m0_bad m0_badPlace) fun z_304 : Int32 × Int32 =>
              zL (z_304.1) fun n_m0_298 : Int32 =>
              zL (z_304.2) fun n_m0_299 : Int32 =>
              if n_m0_298 = (0 : Int32) then
                zL (F_X10_next m0_taped m0_at f_m0_tape) fun z_319 : Int32 × Int32 × Int32 × Int32 × Int64 =>
                zL (z_319.1) fun n_m0_307 : Int32 =>
                zL (z_319.2.1) fun n_m0_308 : Int32 =>
                zL (z_319.2.2.1) fun n_m0_309 : Int32 =>
                zL (z_319.2.2.2.1) fun n_m0_310 : Int32 =>
                zL (z_319.2.2.2.2) fun n_m0_311 : Int64 =>
                zL (F_X10_personLine m0_taped n_m0_307 n_m0_308 n_m0_309 n_m0_310 n_m0_311 n_m0_298 n_m0_299 m0_strays f_m0_tape f_m0_hours f_m0_courts f_m0_people f_m0_at0 f_m0_stray) fun z_349 : Int32 × Int32 × Int32 × Int32 × Int64 × Int32 × Int32 × Int32 × (Nat → Int32) × (Nat → Int32) × (Nat → Int32) =>
                zL (z_349.1) fun n_m0_323 : Int32 =>
                zL (z_349.2.1) fun n_m0_324 : Int32 =>
                zL (z_349.2.2.1) fun n_m0_325 : Int32 =>
                zL (z_349.2.2.2.1) fun n_m0_326 : Int32 =>
                zL (z_349.2.2.2.2.1) fun n_m0_327 : Int64 =>
                zL (z_349.2.2.2.2.2.1) fun n_m0_328 : Int32 =>
                zL (z_349.2.2.2.2.2.2.1) fun n_m0_329 : Int32 =>
                zL (z_349.2.2.2.2.2.2.2.1) fun n_m0_330 : Int32 =>
                zL (z_349.2.2.2.2.2.2.2.2.1) fun n_m0_people_331 : Nat → Int32 =>
                zL (z_349.2.2.2.2.2.2.2.2.2.1) fun n_m0_at0_332 : Nat → Int32 =>
                zL (z_349.2.2.2.2.2.2.2.2.2.2) fun n_m0_stray_333 : Nat → Int32 =>
                (n_m0_323, n_m0_324, n_m0_325, n_m0_326, n_m0_327, n_m0_328, n_m0_329, n_m0_330, f_m0_courts, f_m0_in, f_m0_gates, f_m0_gate, n_m0_people_331, n_m0_at0_332, n_m0_stray_333, f_m0_set, f_m0_once)
              else
                (m0_at, m0_token, m0_place, m0_value, m0_word, n_m0_298, n_m0_299, m0_strays, f_m0_courts, f_m0_in, f_m0_gates, f_m0_gate, f_m0_people, f_m0_at0, f_m0_stray, f_m0_set, f_m0_once)
            else
              if m0_bad = (0 : Int32) then
                zL (F_X10_next m0_taped m0_at f_m0_tape) fun z_266 : Int32 × Int32 × Int32 × Int32 × Int64 =>
                zL (z_266.1) fun n_m0_254 : Int32 =>
                zL (z_266.2.1) fun n_m0_255 : Int32 =>
                zL (z_266.2.2.1) fun n_m0_256 : Int32 =>
                zL (z_266.2.2.2.1) fun n_m0_257 : Int32 =>
                zL (z_266.2.2.2.2) fun n_m0_258 : Int64 =>
                zL (F_X10_personLine m0_taped n_m0_254 n_m0_255 n_m0_256 n_m0_257 n_m0_258 m0_bad m0_badPlace m0_strays f_m0_tape f_m0_hours f_m0_courts f_m0_people f_m0_at0 f_m0_stray) fun z_296 : Int32 × Int32 × Int32 × Int32 × Int64 × Int32 × Int32 × Int32 × (Nat → Int32) × (Nat → Int32) × (Nat → Int32) =>
                zL (z_296.1) fun n_m0_270 : Int32 =>
                zL (z_296.2.1) fun n_m0_271 : Int32 =>
                zL (z_296.2.2.1) fun n_m0_272 : Int32 =>
                zL (z_296.2.2.2.1) fun n_m0_273 : Int32 =>
                zL (z_296.2.2.2.2.1) fun n_m0_274 : Int64 =>
                zL (z_296.2.2.2.2.2.1) fun n_m0_275 : Int32 =>
                zL (z_296.2.2.2.2.2.2.1) fun n_m0_276 : Int32 =>
                zL (z_296.2.2.2.2.2.2.2.1) fun n_m0_277 : Int32 =>
                zL (z_296.2.2.2.2.2.2.2.2.1) fun n_m0_people_278 : Nat → Int32 =>
                zL (z_296.2.2.2.2.2.2.2.2.2.1) fun n_m0_at0_279 : Nat → Int32 =>
                zL (z_296.2.2.2.2.2.2.2.2.2.2) fun n_m0_stray_280 : Nat → Int32 =>
                (n_m0_270, n_m0_271, n_m0_272, n_m0_273, n_m0_274, n_m0_275, n_m0_276, n_m0_277, f_m0_courts, f_m0_in, f_m0_gates, f_m0_gate, n_m0_people_278, n_m0_at0_279, n_m0_stray_280, f_m0_set, f_m0_once)
              else
                (m0_at, m0_token, m0_place, m0_value, m0_word, m0_bad, m0_badPlace, m0_strays, f_m0_courts, f_m0_in, f_m0_gates, f_m0_gate, f_m0_people, f_m0_at0, f_m0_stray, f_m0_set, f_m0_once)
        else
          zL (f_m0_gates (Int32.toNatClampNeg (4 : Int32))) fun x_160 : Int32 =>
          if x_160 = (16 : Int32) then
            zL (F_X10_fails_v1 (3 : Int32) m0_place m0_bad m0_badPlace) fun z_207 : Int32 × Int32 =>
            zL (z_207.1) fun n_m0_201 : Int32 =>
            zL (z_207.2) fun n_m0_202 : Int32 =>
            if n_m0_201 = (0 : Int32) then
              zL (F_X10_next m0_taped m0_at f_m0_tape) fun z_222 : Int32 × Int32 × Int32 × Int32 × Int64 =>
              zL (z_222.1) fun n_m0_210 : Int32 =>
              zL (z_222.2.1) fun n_m0_211 : Int32 =>
              zL (z_222.2.2.1) fun n_m0_212 : Int32 =>
              zL (z_222.2.2.2.1) fun n_m0_213 : Int32 =>
              zL (z_222.2.2.2.2) fun n_m0_214 : Int64 =>
              zL (F_X10_gateLine m0_taped n_m0_210 n_m0_211 n_m0_212 n_m0_213 n_m0_214 n_m0_201 n_m0_202 f_m0_tape f_m0_courts f_m0_gates f_m0_gate) fun z_245 : Int32 × Int32 × Int32 × Int32 × Int64 × Int32 × Int32 × (Nat → Int32) × (Nat → Int32) =>
              zL (z_245.1) fun n_m0_225 : Int32 =>
              zL (z_245.2.1) fun n_m0_226 : Int32 =>
              zL (z_245.2.2.1) fun n_m0_227 : Int32 =>
              zL (z_245.2.2.2.1) fun n_m0_228 : Int32 =>
              zL (z_245.2.2.2.2.1) fun n_m0_229 : Int64 =>
              zL (z_245.2.2.2.2.2.1) fun n_m0_230 : Int32 =>
              zL (z_245.2.2.2.2.2.2.1) fun n_m0_231 : Int32 =>
              zL (z_245.2.2.2.2.2.2.2.1) fun n_m0_gates_232 : Nat → Int32 =>
              zL (z_245.2.2.2.2.2.2.2.2) fun n_m0_gate_233 : Nat → Int32 =>
              (n_m0_225, n_m0_226, n_m0_227, n_m0_228, n_m0_229, n_m0_230, n_m0_231, m0_strays, f_m0_courts, f_m0_in, n_m0_gates_232, n_m0_gate_233, f_m0_people, f_m0_at0, f_m0_stray, f_m0_set, f_m0_once)
            else
              (m0_at, m0_token, m0_place, m0_value, m0_word, n_m0_201, n_m0_202, m0_strays, f_m0_courts, f_m0_in, f_m0_gates, f_m0_gate, f_m0_people, f_m0_at0, f_m0_stray, f_m0_set, f_m0_once)
          else
            if m0_bad = (0 : Int32) then
              zL (F_X10_next m0_taped m0_at f_m0_tape) fun z_176 : Int32 × Int32 × Int32 × Int32 × Int64 =>
              zL (z_176.1) fun n_m0_164 : Int32 =>
              zL (z_176.2.1) fun n_m0_165 : Int32 =>
              zL (z_176.2.2.1) fun n_m0_166 : Int32 =>
              zL (z_176.2.2.2.1) fun n_m0_167 : Int32 =>
              zL (z_176.2.2.2.2) fun n_m0_168 : Int64 =>
              zL (F_X10_gateLine m0_taped n_m0_164 n_m0_165 n_m0_166 n_m0_167 n_m0_168 m0_bad m0_badPlace f_m0_tape f_m0_courts f_m0_gates f_m0_gate) fun z_199 : Int32 × Int32 × Int32 × Int32 × Int64 × Int32 × Int32 × (Nat → Int32) × (Nat → Int32) =>
              zL (z_199.1) fun n_m0_179 : Int32 =>
              zL (z_199.2.1) fun n_m0_180 : Int32 =>
              zL (z_199.2.2.1) fun n_m0_181 : Int32 =>
              zL (z_199.2.2.2.1) fun n_m0_182 : Int32 =>
              zL (z_199.2.2.2.2.1) fun n_m0_183 : Int64 =>
              zL (z_199.2.2.2.2.2.1) fun n_m0_184 : Int32 =>
              zL (z_199.2.2.2.2.2.2.1) fun n_m0_185 : Int32 =>
              zL (z_199.2.2.2.2.2.2.2.1) fun n_m0_gates_186 : Nat → Int32 =>
              zL (z_199.2.2.2.2.2.2.2.2) fun n_m0_gate_187 : Nat → Int32 =>
              (n_m0_179, n_m0_180, n_m0_181, n_m0_182, n_m0_183, n_m0_184, n_m0_185, m0_strays, f_m0_courts, f_m0_in, n_m0_gates_186, n_m0_gate_187, f_m0_people, f_m0_at0, f_m0_stray, f_m0_set, f_m0_once)
            else
              (m0_at, m0_token, m0_place, m0_value, m0_word, m0_bad, m0_badPlace, m0_strays, f_m0_courts, f_m0_in, f_m0_gates, f_m0_gate, f_m0_people, f_m0_at0, f_m0_stray, f_m0_set, f_m0_once)
      else
        zL (f_m0_courts (Int32.toNatClampNeg (4 : Int32))) fun x_9 : Int32 =>
        if x_9 = (10 : Int32) then
          zL (F_X10_fails_v1 (3 : Int32) m0_place m0_bad m0_badPlace) fun z_87 : Int32 × Int32 =>
          zL (z_87.1) fun n_m0_81 : Int32 =>
          zL (z_87.2) fun n_m0_82 : Int32 =>
          if n_m0_81 = (0 : Int32) then
            zL (F_X10_next m0_taped m0_at f_m0_tape) fun z_102 : Int32 × Int32 × Int32 × Int32 × Int64 =>
            zL (z_102.1) fun n_m0_90 : Int32 =>
            zL (z_102.2.1) fun n_m0_91 : Int32 =>
            zL (z_102.2.2.1) fun n_m0_92 : Int32 =>
            zL (z_102.2.2.2.1) fun n_m0_93 : Int32 =>
            zL (z_102.2.2.2.2) fun n_m0_94 : Int64 =>
            if r_6 = (0 : Int32) then
              zL (f_m0_courts (Int32.toNatClampNeg (4 : Int32))) fun x_105 : Int32 =>
              zL ((40 : Int32) + x_9) fun x_106 : Int32 =>
              zL (f_m0_courts (Int32.toNatClampNeg (4 : Int32))) fun x_107 : Int32 =>
              zL (x_9 - (1 : Int32)) fun x_108 : Int32 =>
              zL (F_X10_number_ (257 : Int64) (0 : Int32) x_108 m0_taped n_m0_90 n_m0_91 n_m0_92 n_m0_93 n_m0_94 n_m0_81 n_m0_82 f_m0_tape) fun z_128 : Int32 × Int32 × Int32 × Int32 × Int32 × Int64 × Int32 × Int32 =>
              zL (z_128.1) fun r_109 : Int32 =>
              zL (z_128.2.1) fun n_m0_110 : Int32 =>
              zL (z_128.2.2.1) fun n_m0_111 : Int32 =>
              zL (z_128.2.2.2.1) fun n_m0_112 : Int32 =>
              zL (z_128.2.2.2.2.1) fun n_m0_113 : Int32 =>
              zL (z_128.2.2.2.2.2.1) fun n_m0_114 : Int64 =>
              zL (z_128.2.2.2.2.2.2.1) fun n_m0_115 : Int32 =>
              zL (z_128.2.2.2.2.2.2.2) fun n_m0_116 : Int32 =>
              zL (upd f_m0_in (Int32.toNatClampNeg x_106) r_109) fun f_129 : Nat → Int32 =>
              zL (f_m0_courts (Int32.toNatClampNeg (4 : Int32))) fun x_130 : Int32 =>
              zL (x_9 + (1 : Int32)) fun x_131 : Int32 =>
              zL (upd f_m0_courts (Int32.toNatClampNeg 4) x_131) fun f_132 : Nat → Int32 =>
              (n_m0_110, n_m0_111, n_m0_112, n_m0_113, n_m0_114, n_m0_115, n_m0_116, m0_strays, f_132, f_129, f_m0_gates, f_m0_gate, f_m0_people, f_m0_at0, f_m0_stray, f_m0_set, f_m0_once)
            else
              zL (F_X10_gateLine m0_taped n_m0_90 n_m0_91 n_m0_92 n_m0_93 n_m0_94 n_m0_81 n_m0_82 f_m0_tape f_m0_courts f_m0_gates f_m0_gate) fun z_156 : Int32 × Int32 × Int32 × Int32 × Int64 × Int32 × Int32 × (Nat → Int32) × (Nat → Int32) =>
              zL (z_156.1) fun n_m0_136 : Int32 =>
              zL (z_156.2.1) fun n_m0_137 : Int32 =>
              zL (z_156.2.2.1) fun n_m0_138 : Int32 =>
              zL (z_156.2.2.2.1) fun n_m0_139 : Int32 =>
              zL (z_156.2.2.2.2.1) fun n_m0_140 : Int64 =>
              zL (z_156.2.2.2.2.2.1) fun n_m0_141 : Int32 =>
              zL (z_156.2.2.2.2.2.2.1) fun n_m0_142 : Int32 =>
              zL (z_156.2.2.2.2.2.2.2.1) fun n_m0_gates_143 : Nat → Int32 =>
              zL (z_156.2.2.2.2.2.2.2.2) fun n_m0_gate_144 : Nat → Int32 =>
              (n_m0_136, n_m0_137, n_m0_138, n_m0_139, n_m0_140, n_m0_141, n_m0_142, m0_strays, f_m0_courts, f_m0_in, n_m0_gates_143, n_m0_gate_144, f_m0_people, f_m0_at0, f_m0_stray, f_m0_set, f_m0_once)
          else
            (m0_at, m0_token, m0_place, m0_value, m0_word, n_m0_81, n_m0_82, m0_strays, f_m0_courts, f_m0_in, f_m0_gates, f_m0_gate, f_m0_people, f_m0_at0, f_m0_stray, f_m0_set, f_m0_once)
        else
          if m0_bad = (0 : Int32) then
            zL (F_X10_next m0_taped m0_at f_m0_tape) fun z_25 : Int32 × Int32 × Int32 × Int32 × Int64 =>
            zL (z_25.1) fun n_m0_13 : Int32 =>
            zL (z_25.2.1) fun n_m0_14 : Int32 =>
            zL (z_25.2.2.1) fun n_m0_15 : Int32 =>
            zL (z_25.2.2.2.1) fun n_m0_16 : Int32 =>
            zL (z_25.2.2.2.2) fun n_m0_17 : Int64 =>
            if r_6 = (0 : Int32) then
              zL (f_m0_courts (Int32.toNatClampNeg (4 : Int32))) fun x_28 : Int32 =>
              zL ((40 : Int32) + x_9) fun x_29 : Int32 =>
              zL (f_m0_courts (Int32.toNatClampNeg (4 : Int32))) fun x_30 : Int32 =>
              zL (x_9 - (1 : Int32)) fun x_31 : Int32 =>
              zL (F_X10_number_ (257 : Int64) (0 : Int32) x_31 m0_taped n_m0_13 n_m0_14 n_m0_15 n_m0_16 n_m0_17 m0_bad m0_badPlace f_m0_tape) fun z_51 : Int32 × Int32 × Int32 × Int32 × Int32 × Int64 × Int32 × Int32 =>
              zL (z_51.1) fun r_32 : Int32 =>
              zL (z_51.2.1) fun n_m0_33 : Int32 =>
              zL (z_51.2.2.1) fun n_m0_34 : Int32 =>
              zL (z_51.2.2.2.1) fun n_m0_35 : Int32 =>
              zL (z_51.2.2.2.2.1) fun n_m0_36 : Int32 =>
              zL (z_51.2.2.2.2.2.1) fun n_m0_37 : Int64 =>
              zL (z_51.2.2.2.2.2.2.1) fun n_m0_38 : Int32 =>
              zL (z_51.2.2.2.2.2.2.2) fun n_m0_39 : Int32 =>
              zL (upd f_m0_in (Int32.toNatClampNeg x_29) r_32) fun f_52 : Nat → Int32 =>
              zL (f_m0_courts (Int32.toNatClampNeg (4 : Int32))) fun x_53 : Int32 =>
              zL (x_9 + (1 : Int32)) fun x_54 : Int32 =>
              zL (upd f_m0_courts (Int32.toNatClampNeg 4) x_54) fun f_55 : Nat → Int32 =>
              (n_m0_33, n_m0_34, n_m0_35, n_m0_36, n_m0_37, n_m0_38, n_m0_39, m0_strays, f_55, f_52, f_m0_gates, f_m0_gate, f_m0_people, f_m0_at0, f_m0_stray, f_m0_set, f_m0_once)
            else
              zL (F_X10_gateLine m0_taped n_m0_13 n_m0_14 n_m0_15 n_m0_16 n_m0_17 m0_bad m0_badPlace f_m0_tape f_m0_courts f_m0_gates f_m0_gate) fun z_79 : Int32 × Int32 × Int32 × Int32 × Int64 × Int32 × Int32 × (Nat → Int32) × (Nat → Int32) =>
              zL (z_79.1) fun n_m0_59 : Int32 =>
              zL (z_79.2.1) fun n_m0_60 : Int32 =>
              zL (z_79.2.2.1) fun n_m0_61 : Int32 =>
              zL (z_79.2.2.2.1) fun n_m0_62 : Int32 =>
              zL (z_79.2.2.2.2.1) fun n_m0_63 : Int64 =>
              zL (z_79.2.2.2.2.2.1) fun n_m0_64 : Int32 =>
              zL (z_79.2.2.2.2.2.2.1) fun n_m0_65 : Int32 =>
              zL (z_79.2.2.2.2.2.2.2.1) fun n_m0_gates_66 : Nat → Int32 =>
              zL (z_79.2.2.2.2.2.2.2.2) fun n_m0_gate_67 : Nat → Int32 =>
              (n_m0_59, n_m0_60, n_m0_61, n_m0_62, n_m0_63, n_m0_64, n_m0_65, m0_strays, f_m0_courts, f_m0_in, n_m0_gates_66, n_m0_gate_67, f_m0_people, f_m0_at0, f_m0_stray, f_m0_set, f_m0_once)
          else
            (m0_at, m0_token, m0_place, m0_value, m0_word, m0_bad, m0_badPlace, m0_strays, f_m0_courts, f_m0_in, f_m0_gates, f_m0_gate, f_m0_people, f_m0_at0, f_m0_stray, f_m0_set, f_m0_once)
    else
      zL (F_X10_onceLine (1 : Int32) m0_taped m0_at m0_token m0_place m0_value m0_word m0_bad m0_badPlace f_m0_tape f_m0_set f_m0_once) fun z_481 : Int32 × Int32 × Int32 × Int32 × Int64 × Int32 × Int32 × (Nat → Int32) × (Nat → Int32) =>
      zL (z_481.1) fun n_m0_461 : Int32 =>
      zL (z_481.2.1) fun n_m0_462 : Int32 =>
      zL (z_481.2.2.1) fun n_m0_463 : Int32 =>
      zL (z_481.2.2.2.1) fun n_m0_464 : Int32 =>
      zL (z_481.2.2.2.2.1) fun n_m0_465 : Int64 =>
      zL (z_481.2.2.2.2.2.1) fun n_m0_466 : Int32 =>
      zL (z_481.2.2.2.2.2.2.1) fun n_m0_467 : Int32 =>
      zL (z_481.2.2.2.2.2.2.2.1) fun n_m0_set_468 : Nat → Int32 =>
      zL (z_481.2.2.2.2.2.2.2.2) fun n_m0_once_469 : Nat → Int32 =>
      (n_m0_461, n_m0_462, n_m0_463, n_m0_464, n_m0_465, n_m0_466, n_m0_467, m0_strays, f_m0_courts, f_m0_in, f_m0_gates, f_m0_gate, f_m0_people, f_m0_at0, f_m0_stray, n_m0_set_468, n_m0_once_469)
  else
    zL (F_X10_onceLine (0 : Int32) m0_taped m0_at m0_token m0_place m0_value m0_word m0_bad m0_badPlace f_m0_tape f_m0_set f_m0_once) fun z_503 : Int32 × Int32 × Int32 × Int32 × Int64 × Int32 × Int32 × (Nat → Int32) × (Nat → Int32) =>
    zL (z_503.1) fun n_m0_483 : Int32 =>
    zL (z_503.2.1) fun n_m0_484 : Int32 =>
    zL (z_503.2.2.1) fun n_m0_485 : Int32 =>
    zL (z_503.2.2.2.1) fun n_m0_486 : Int32 =>
    zL (z_503.2.2.2.2.1) fun n_m0_487 : Int64 =>
    zL (z_503.2.2.2.2.2.1) fun n_m0_488 : Int32 =>
    zL (z_503.2.2.2.2.2.2.1) fun n_m0_489 : Int32 =>
    zL (z_503.2.2.2.2.2.2.2.1) fun n_m0_set_490 : Nat → Int32 =>
    zL (z_503.2.2.2.2.2.2.2.2) fun n_m0_once_491 : Nat → Int32 =>
    (n_m0_483, n_m0_484, n_m0_485, n_m0_486, n_m0_487, n_m0_488, n_m0_489, m0_strays, f_m0_courts, f_m0_in, f_m0_gates, f_m0_gate, f_m0_people, f_m0_at0, f_m0_stray, n_m0_set_490, n_m0_once_491)
noncomputable def K_X10_town_1_0 (n_m0_truth_11 : Nat → Int32) (n_m0_known_12 : Nat → Int32) (w_m0_12_63 : Int32) (w_m0_13_64 : Int32) (g_m0_lines_48 : Nat → Int32) (g_m0_courts_49 : Nat → Int32) (g_m0_set_56 : Nat → Int32) (g_m0_hours_66 : Nat → Int32) (g_m0_in_50 : Nat → Int32) (g_m0_gates_51 : Nat → Int32) (g_m0_gate_52 : Nat → Int32) (g_m0_people_53 : Nat → Int32) (g_m0_at0_54 : Nat → Int32) (g_m0_stray_55 : Nat → Int32) (w_m0_7_58 : Int32) (w_m0_8_59 : Int32) (w_m0_9_60 : Int32) (w_m0_10_61 : Int32) (w_m0_11_62 : Int64) (w_m0_30_65 : Int32) (g_m0_once_57 : Nat → Int32) : Int32 × Int32 × Int32 × Int32 × Int32 × Int32 × Int32 × Int64 × Int32 × Int32 × Int32 × Int32 × Int32 × (Nat → Int32) × (Nat → Int32) × (Nat → Int32) × (Nat → Int32) × (Nat → Int32) × (Nat → Int32) × (Nat → Int32) × (Nat → Int32) × (Nat → Int32) × (Nat → Int32) × (Nat → Int32) × (Nat → Int32) × (Nat → Int32) :=
  zL (F_X10_isOver w_m0_12_63 w_m0_13_64) fun z_76 : Int32 × Int32 × Int32 =>
  zL (z_76.1) fun n_m0_70 : Int32 =>
  zL (z_76.2.1) fun n_m0_71 : Int32 =>
  zL (z_76.2.2) fun n_m0_72 : Int32 =>
  if w_m0_12_63 = (0 : Int32) then
    zL (g_m0_lines_48 (Int32.toNatClampNeg (4 : Int32))) fun x_78 : Int32 =>
    if x_78 = (0 : Int32) then
      zL (upd g_m0_courts_49 (Int32.toNatClampNeg 4) 0) fun f_112 : Nat → Int32 =>
      zL (upd g_m0_set_56 (Int32.toNatClampNeg 8) 0) fun f_113 : Nat → Int32 =>
      zL (F_X10_copyTown (4 : Int32) (0 : Int32) g_m0_lines_48 g_m0_hours_66 f_112 g_m0_in_50 g_m0_gates_51 g_m0_gate_52 g_m0_people_53 g_m0_at0_54 g_m0_stray_55 f_113 n_m0_truth_11 n_m0_known_12) fun z_145 : (Nat → Int32) × (Nat → Int32) × (Nat → Int32) × (Nat → Int32) × (Nat → Int32) × (Nat → Int32) × (Nat → Int32) × (Nat → Int32) × (Nat → Int32) × (Nat → Int32) × (Nat → Int32) × (Nat → Int32) =>
      zL (z_145.1) fun n_m0_lines_116 : Nat → Int32 =>
      zL (z_145.2.1) fun n_m0_hours_117 : Nat → Int32 =>
      zL (z_145.2.2.1) fun n_m0_courts_118 : Nat → Int32 =>
      zL (z_145.2.2.2.1) fun n_m0_in_119 : Nat → Int32 =>
      zL (z_145.2.2.2.2.1) fun n_m0_gates_120 : Nat → Int32 =>
      zL (z_145.2.2.2.2.2.1) fun n_m0_gate_121 : Nat → Int32 =>
      zL (z_145.2.2.2.2.2.2.1) fun n_m0_people_122 : Nat → Int32 =>
      zL (z_145.2.2.2.2.2.2.2.1) fun n_m0_at0_123 : Nat → Int32 =>
      zL (z_145.2.2.2.2.2.2.2.2.1) fun n_m0_stray_124 : Nat → Int32 =>
      zL (z_145.2.2.2.2.2.2.2.2.2.1) fun n_m0_set_125 : Nat → Int32 =>
      zL (z_145.2.2.2.2.2.2.2.2.2.2.1) fun n_m0_truth_126 : Nat → Int32 =>
      zL (z_145.2.2.2.2.2.2.2.2.2.2.2) fun n_m0_known_127 : Nat → Int32 =>
      zL (n_m0_lines_116 (Int32.toNatClampNeg (0 : Int32))) fun x_146 : Int32 =>
      (x_146, (0 : Int32), n_m0_70, w_m0_7_58, w_m0_8_59, w_m0_9_60, w_m0_10_61, w_m0_11_62, w_m0_12_63, w_m0_13_64, n_m0_71, n_m0_72, w_m0_30_65, n_m0_lines_116, n_m0_hours_117, n_m0_courts_118, n_m0_in_119, n_m0_gates_120, n_m0_gate_121, n_m0_people_122, n_m0_at0_123, n_m0_stray_124, n_m0_set_125, g_m0_once_57, n_m0_truth_126, n_m0_known_127)
    else
      zL (F_X10_copyTown (4 : Int32) (0 : Int32) g_m0_lines_48 g_m0_hours_66 g_m0_courts_49 g_m0_in_50 g_m0_gates_51 g_m0_gate_52 g_m0_people_53 g_m0_at0_54 g_m0_stray_55 g_m0_set_56 n_m0_truth_11 n_m0_known_12) fun z_110 : (Nat → Int32) × (Nat → Int32) × (Nat → Int32) × (Nat → Int32) × (Nat → Int32) × (Nat → Int32) × (Nat → Int32) × (Nat → Int32) × (Nat → Int32) × (Nat → Int32) × (Nat → Int32) × (Nat → Int32) =>
      zL (z_110.1) fun n_m0_lines_81 : Nat → Int32 =>
      zL (z_110.2.1) fun n_m0_hours_82 : Nat → Int32 =>
      zL (z_110.2.2.1) fun n_m0_courts_83 : Nat → Int32 =>
      zL (z_110.2.2.2.1) fun n_m0_in_84 : Nat → Int32 =>
      zL (z_110.2.2.2.2.1) fun n_m0_gates_85 : Nat → Int32 =>
      zL (z_110.2.2.2.2.2.1) fun n_m0_gate_86 : Nat → Int32 =>
      zL (z_110.2.2.2.2.2.2.1) fun n_m0_people_87 : Nat → Int32 =>
      zL (z_110.2.2.2.2.2.2.2.1) fun n_m0_at0_88 : Nat → Int32 =>
      zL (z_110.2.2.2.2.2.2.2.2.1) fun n_m0_stray_89 : Nat → Int32 =>
      zL (z_110.2.2.2.2.2.2.2.2.2.1) fun n_m0_set_90 : Nat → Int32 =>
      zL (z_110.2.2.2.2.2.2.2.2.2.2.1) fun n_m0_truth_91 : Nat → Int32 =>
      zL (z_110.2.2.2.2.2.2.2.2.2.2.2) fun n_m0_known_92 : Nat → Int32 =>
      zL (n_m0_lines_81 (Int32.toNatClampNeg (0 : Int32))) fun x_111 : Int32 =>
      (x_111, (0 : Int32), n_m0_70, w_m0_7_58, w_m0_8_59, w_m0_9_60, w_m0_10_61, w_m0_11_62, w_m0_12_63, w_m0_13_64, n_m0_71, n_m0_72, w_m0_30_65, n_m0_lines_81, n_m0_hours_82, n_m0_courts_83, n_m0_in_84, n_m0_gates_85, n_m0_gate_86, n_m0_people_87, n_m0_at0_88, n_m0_stray_89, n_m0_set_90, g_m0_once_57, n_m0_truth_91, n_m0_known_92)
  else
    ((-4 : Int32), (0 : Int32), n_m0_70, w_m0_7_58, w_m0_8_59, w_m0_9_60, w_m0_10_61, w_m0_11_62, w_m0_12_63, w_m0_13_64, n_m0_71, n_m0_72, w_m0_30_65, g_m0_lines_48, g_m0_hours_66, g_m0_courts_49, g_m0_in_50, g_m0_gates_51, g_m0_gate_52, g_m0_people_53, g_m0_at0_54, g_m0_stray_55, g_m0_set_56, g_m0_once_57, n_m0_truth_11, n_m0_known_12)
noncomputable def K_X10_town_1_1 (n_m0_truth_11 : Nat → Int32) (n_m0_known_12 : Nat → Int32) (w_m0_12_63 : Int32) (w_m0_13_64 : Int32) (g_m0_lines_48 : Nat → Int32) (g_m0_courts_49 : Nat → Int32) (g_m0_set_56 : Nat → Int32) (g_m0_hours_66 : Nat → Int32) (g_m0_in_50 : Nat → Int32) (g_m0_gates_51 : Nat → Int32) (g_m0_gate_52 : Nat → Int32) (g_m0_people_53 : Nat → Int32) (g_m0_at0_54 : Nat → Int32) (g_m0_stray_55 : Nat → Int32) (w_m0_7_58 : Int32) (w_m0_8_59 : Int32) (w_m0_9_60 : Int32) (w_m0_10_61 : Int32) (w_m0_11_62 : Int64) (w_m0_30_65 : Int32) (g_m0_once_57 : Nat → Int32) : Int32 × Int32 × Int32 × Int32 × Int32 × Int32 × Int32 × Int64 × Int32 × Int32 × Int32 × Int32 × Int32 × (Nat → Int32) × (Nat → Int32) × (Nat → Int32) × (Nat → Int32) × (Nat → Int32) × (Nat → Int32) × (Nat → Int32) × (Nat → Int32) × (Nat → Int32) × (Nat → Int32) × (Nat → Int32) × (Nat → Int32) × (Nat → Int32) :=
  zL (F_X10_isOver w_m0_12_63 w_m0_13_64) fun z_155 : Int32 × Int32 × Int32 =>
  zL (z_155.1) fun n_m0_149 : Int32 =>
  zL (z_155.2.1) fun n_m0_150 : Int32 =>
  zL (z_155.2.2) fun n_m0_151 : Int32 =>
  if w_m0_12_63 = (0 : Int32) then
    zL (g_m0_lines_48 (Int32.toNatClampNeg (4 : Int32))) fun x_157 : Int32 =>
    if x_157 = (0 : Int32) then
      zL (upd g_m0_courts_49 (Int32.toNatClampNeg 4) 0) fun f_191 : Nat → Int32 =>
      zL (upd g_m0_set_56 (Int32.toNatClampNeg 8) 0) fun f_192 : Nat → Int32 =>
      zL (F_X10_copyTown (4 : Int32) (0 : Int32) g_m0_lines_48 g_m0_hours_66 f_191 g_m0_in_50 g_m0_gates_51 g_m0_gate_52 g_m0_people_53 g_m0_at0_54 g_m0_stray_55 f_192 n_m0_truth_11 n_m0_known_12) fun z_224 : (Nat → Int32) × (Nat → Int32) × (Nat → Int32) × (Nat → Int32) × (Nat → Int32) × (Nat → Int32) × (Nat → Int32) × (Nat → Int32) × (Nat → Int32) × (Nat → Int32) × (Nat → Int32) × (Nat → Int32) =>
      zL (z_224.1) fun n_m0_lines_195 : Nat → Int32 =>
      zL (z_224.2.1) fun n_m0_hours_196 : Nat → Int32 =>
      zL (z_224.2.2.1) fun n_m0_courts_197 : Nat → Int32 =>
      zL (z_224.2.2.2.1) fun n_m0_in_198 : Nat → Int32 =>
      zL (z_224.2.2.2.2.1) fun n_m0_gates_199 : Nat → Int32 =>
      zL (z_224.2.2.2.2.2.1) fun n_m0_gate_200 : Nat → Int32 =>
      zL (z_224.2.2.2.2.2.2.1) fun n_m0_people_201 : Nat → Int32 =>
      zL (z_224.2.2.2.2.2.2.2.1) fun n_m0_at0_202 : Nat → Int32 =>
      zL (z_224.2.2.2.2.2.2.2.2.1) fun n_m0_stray_203 : Nat → Int32 =>
      zL (z_224.2.2.2.2.2.2.2.2.2.1) fun n_m0_set_204 : Nat → Int32 =>
      zL (z_224.2.2.2.2.2.2.2.2.2.2.1) fun n_m0_truth_205 : Nat → Int32 =>
      zL (z_224.2.2.2.2.2.2.2.2.2.2.2) fun n_m0_known_206 : Nat → Int32 =>
      zL (n_m0_lines_195 (Int32.toNatClampNeg (0 : Int32))) fun x_225 : Int32 =>
      (x_225, (0 : Int32), n_m0_149, w_m0_7_58, w_m0_8_59, w_m0_9_60, w_m0_10_61, w_m0_11_62, w_m0_12_63, w_m0_13_64, n_m0_150, n_m0_151, w_m0_30_65, n_m0_lines_195, n_m0_hours_196, n_m0_courts_197, n_m0_in_198, n_m0_gates_199, n_m0_gate_200, n_m0_people_201, n_m0_at0_202, n_m0_stray_203, n_m0_set_204, g_m0_once_57, n_m0_truth_205, n_m0_known_206)
    else
      zL (F_X10_copyTown (4 : Int32) (0 : Int32) g_m0_lines_48 g_m0_hours_66 g_m0_courts_49 g_m0_in_50 g_m0_gates_51 g_m0_gate_52 g_m0_people_53 g_m0_at0_54 g_m0_stray_55 g_m0_set_56 n_m0_truth_11 n_m0_known_12) fun z_189 : (Nat → Int32) × (Nat → Int32) × (Nat → Int32) × (Nat → Int32) × (Nat → Int32) × (Nat → Int32) × (Nat → Int32) × (Nat → Int32) × (Nat → Int32) × (Nat → Int32) × (Nat → Int32) × (Nat → Int32) =>
      zL (z_189.1) fun n_m0_lines_160 : Nat → Int32 =>
      zL (z_189.2.1) fun n_m0_hours_161 : Nat → Int32 =>
      zL (z_189.2.2.1) fun n_m0_courts_162 : Nat → Int32 =>
      zL (z_189.2.2.2.1) fun n_m0_in_163 : Nat → Int32 =>
      zL (z_189.2.2.2.2.1) fun n_m0_gates_164 : Nat → Int32 =>
      zL (z_189.2.2.2.2.2.1) fun n_m0_gate_165 : Nat → Int32 =>
      zL (z_189.2.2.2.2.2.2.1) fun n_m0_people_166 : Nat → Int32 =>
      zL (z_189.2.2.2.2.2.2.2.1) fun n_m0_at0_167 : Nat → Int32 =>
      zL (z_189.2.2.2.2.2.2.2.2.1) fun n_m0_stray_168 : Nat → Int32 =>
      zL (z_189.2.2.2.2.2.2.2.2.2.1) fun n_m0_set_169 : Nat → Int32 =>
      zL (z_189.2.2.2.2.2.2.2.2.2.2.1) fun n_m0_truth_170 : Nat → Int32 =>
      zL (z_189.2.2.2.2.2.2.2.2.2.2.2) fun n_m0_known_171 : Nat → Int32 =>
      zL (n_m0_lines_160 (Int32.toNatClampNeg (0 : Int32))) fun x_190 : Int32 =>
      (x_190, (0 : Int32), n_m0_149, w_m0_7_58, w_m0_8_59, w_m0_9_60, w_m0_10_61, w_m0_11_62, w_m0_12_63, w_m0_13_64, n_m0_150, n_m0_151, w_m0_30_65, n_m0_lines_160, n_m0_hours_161, n_m0_courts_162, n_m0_in_163, n_m0_gates_164, n_m0_gate_165, n_m0_people_166, n_m0_at0_167, n_m0_stray_168, n_m0_set_169, g_m0_once_57, n_m0_truth_170, n_m0_known_171)
  else
    ((-4 : Int32), (0 : Int32), n_m0_149, w_m0_7_58, w_m0_8_59, w_m0_9_60, w_m0_10_61, w_m0_11_62, w_m0_12_63, w_m0_13_64, n_m0_150, n_m0_151, w_m0_30_65, g_m0_lines_48, g_m0_hours_66, g_m0_courts_49, g_m0_in_50, g_m0_gates_51, g_m0_gate_52, g_m0_people_53, g_m0_at0_54, g_m0_stray_55, g_m0_set_56, g_m0_once_57, n_m0_truth_11, n_m0_known_12)
noncomputable def B_X10_town_1 (m0_taped : Int32) (f_m0_tape : Nat → Int32) (kc_1_0 : Int32 → Int32 → (Nat → Int32) → (Nat → Int32) → (Nat → Int32) → (Nat → Int32) → (Nat → Int32) → (Nat → Int32) → (Nat → Int32) → (Nat → Int32) → (Nat → Int32) → (Nat → Int32) → Int32 → Int32 → Int32 → Int32 → Int64 → Int32 → (Nat → Int32) → Int32 × Int32 × Int32 × Int32 × Int32 × Int32 × Int32 × Int64 × Int32 × Int32 × Int32 × Int32 × Int32 × (Nat → Int32) × (Nat → Int32) × (Nat → Int32) × (Nat → Int32) × (Nat → Int32) × (Nat → Int32) × (Nat → Int32) × (Nat → Int32) × (Nat → Int32) × (Nat → Int32) × (Nat → Int32) × (Nat → Int32) × (Nat → Int32)) (kc_1_1 : Int32 → Int32 → (Nat → Int32) → (Nat → Int32) → (Nat → Int32) → (Nat → Int32) → (Nat → Int32) → (Nat → Int32) → (Nat → Int32) → (Nat → Int32) → (Nat → Int32) → (Nat → Int32) → Int32 → Int32 → Int32 → Int32 → Int64 → Int32 → (Nat → Int32) → Int32 × Int32 × Int32 × Int32 × Int32 × Int32 × Int32 × Int64 × Int32 × Int32 × Int32 × Int32 × Int32 × (Nat → Int32) × (Nat → Int32) × (Nat → Int32) × (Nat → Int32) × (Nat → Int32) × (Nat → Int32) × (Nat → Int32) × (Nat → Int32) × (Nat → Int32) × (Nat → Int32) × (Nat → Int32) × (Nat → Int32) × (Nat → Int32)) (ih_1 : (Nat → Int32) → (Nat → Int32) → (Nat → Int32) → (Nat → Int32) → (Nat → Int32) → (Nat → Int32) → (Nat → Int32) → (Nat → Int32) → (Nat → Int32) → (Nat → Int32) → (Nat → Int32) → Int32 → Int32 → Int32 → Int32 → Int64 → Int32 → Int32 → Int32 → Int32 × Int32 × Int32 × Int32 × Int32 × Int32 × Int32 × Int64 × Int32 × Int32 × Int32 × Int32 × Int32 × (Nat → Int32) × (Nat → Int32) × (Nat → Int32) × (Nat → Int32) × (Nat → Int32) × (Nat → Int32) × (Nat → Int32) × (Nat → Int32) × (Nat → Int32) × (Nat → Int32) × (Nat → Int32) × (Nat → Int32) × (Nat → Int32)) (g_m0_gate_52 : Nat → Int32) (g_m0_at0_54 : Nat → Int32) (g_m0_lines_48 : Nat → Int32) (g_m0_hours_66 : Nat → Int32) (g_m0_courts_49 : Nat → Int32) (g_m0_in_50 : Nat → Int32) (g_m0_gates_51 : Nat → Int32) (g_m0_people_53 : Nat → Int32) (g_m0_stray_55 : Nat → Int32) (g_m0_set_56 : Nat → Int32) (g_m0_once_57 : Nat → Int32) (w_m0_7_58 : Int32) (w_m0_8_59 : Int32) (w_m0_9_60 : Int32) (w_m0_10_61 : Int32) (w_m0_11_62 : Int64) (w_m0_12_63 : Int32) (w_m0_13_64 : Int32) (w_m0_30_65 : Int32) : Int32 × Int32 × Int32 × Int32 × Int32 × Int32 × Int32 × Int64 × Int32 × Int32 × Int32 × Int32 × Int32 × (Nat → Int32) × (Nat → Int32) × (Nat → Int32) × (Nat → Int32) × (Nat → Int32) × (Nat → Int32) × (Nat → Int32) × (Nat → Int32) × (Nat → Int32) × (Nat → Int32) × (Nat → Int32) × (Nat → Int32) × (Nat → Int32) :=
  zL (F_X10_isGood_v1 w_m0_12_63) fun r_67 : Int32 =>
  if r_67 = (0 : Int32) then
    kc_1_0 w_m0_12_63 w_m0_13_64 g_m0_lines_48 g_m0_courts_49 g_m0_set_56 g_m0_hours_66 g_m0_in_50 g_m0_gates_51 g_m0_gate_52 g_m0_people_53 g_m0_at0_54 g_m0_stray_55 w_m0_7_58 w_m0_8_59 w_m0_9_60 w_m0_10_61 w_m0_11_62 w_m0_30_65 g_m0_once_57
  else
    if w_m0_8_59 = (0 : Int32) then
      kc_1_1 w_m0_12_63 w_m0_13_64 g_m0_lines_48 g_m0_courts_49 g_m0_set_56 g_m0_hours_66 g_m0_in_50 g_m0_gates_51 g_m0_gate_52 g_m0_people_53 g_m0_at0_54 g_m0_stray_55 w_m0_7_58 w_m0_8_59 w_m0_9_60 w_m0_10_61 w_m0_11_62 w_m0_30_65 g_m0_once_57
    else
      zL (g_m0_lines_48 (Int32.toNatClampNeg (4 : Int32))) fun x_226 : Int32 =>
      if x_226 = (0 : Int32) then
        zL (F_X10_asks (405230 : Int64) m0_taped w_m0_7_58 w_m0_8_59 w_m0_9_60 w_m0_10_61 w_m0_11_62 w_m0_12_63 w_m0_13_64 f_m0_tape) fun z_319 : Int32 × Int32 × Int32 × Int32 × Int64 × Int32 × Int32 =>
        zL (z_319.1) fun n_m0_302 : Int32 =>
        zL (z_319.2.1) fun n_m0_303 : Int32 =>
        zL (z_319.2.2.1) fun n_m0_304 : Int32 =>
        zL (z_319.2.2.2.1) fun n_m0_305 : Int32 =>
        zL (z_319.2.2.2.2.1) fun n_m0_306 : Int64 =>
        zL (z_319.2.2.2.2.2.1) fun n_m0_307 : Int32 =>
        zL (z_319.2.2.2.2.2.2) fun n_m0_308 : Int32 =>
        zL (F_X10_number_ (4562587 : Int64) (1 : Int32) (48 : Int32) m0_taped n_m0_302 n_m0_303 n_m0_304 n_m0_305 n_m0_306 n_m0_307 n_m0_308 f_m0_tape) fun z_339 : Int32 × Int32 × Int32 × Int32 × Int32 × Int64 × Int32 × Int32 =>
        zL (z_339.1) fun r_320 : Int32 =>
        zL (z_339.2.1) fun n_m0_321 : Int32 =>
        zL (z_339.2.2.1) fun n_m0_322 : Int32 =>
        zL (z_339.2.2.2.1) fun n_m0_323 : Int32 =>
        zL (z_339.2.2.2.2.1) fun n_m0_324 : Int32 =>
        zL (z_339.2.2.2.2.2.1) fun n_m0_325 : Int64 =>
        zL (z_339.2.2.2.2.2.2.1) fun n_m0_326 : Int32 =>
        zL (z_339.2.2.2.2.2.2.2) fun n_m0_327 : Int32 =>
        zL (upd g_m0_hours_66 (Int32.toNatClampNeg 4) r_320) fun f_340 : Nat → Int32 =>
        zL (F_X10_isGood_v1 n_m0_326) fun r_341 : Int32 =>
        if r_341 = (0 : Int32) then
          zL (g_m0_lines_48 (Int32.toNatClampNeg (4 : Int32))) fun x_343 : Int32 =>
          zL (x_226 + (1 : Int32)) fun x_344 : Int32 =>
          zL (upd g_m0_lines_48 (Int32.toNatClampNeg 4) x_344) fun f_345 : Nat → Int32 =>
          ih_1 g_m0_gate_52 g_m0_at0_54 f_345 f_340 g_m0_courts_49 g_m0_in_50 g_m0_gates_51 g_m0_people_53 g_m0_stray_55 g_m0_set_56 g_m0_once_57 n_m0_321 n_m0_322 n_m0_323 n_m0_324 n_m0_325 n_m0_326 n_m0_327 w_m0_30_65
        else
          zL (F_X10_ends m0_taped n_m0_321 n_m0_322 n_m0_323 n_m0_324 n_m0_325 n_m0_326 n_m0_327 f_m0_tape) fun z_367 : Int32 × Int32 × Int32 × Int32 × Int64 × Int32 × Int32 =>
          zL (z_367.1) fun n_m0_350 : Int32 =>
          zL (z_367.2.1) fun n_m0_351 : Int32 =>
          zL (z_367.2.2.1) fun n_m0_352 : Int32 =>
          zL (z_367.2.2.2.1) fun n_m0_353 : Int32 =>
          zL (z_367.2.2.2.2.1) fun n_m0_354 : Int64 =>
          zL (z_367.2.2.2.2.2.1) fun n_m0_355 : Int32 =>
          zL (z_367.2.2.2.2.2.2) fun n_m0_356 : Int32 =>
          zL (g_m0_lines_48 (Int32.toNatClampNeg (4 : Int32))) fun x_368 : Int32 =>
          zL (x_226 + (1 : Int32)) fun x_369 : Int32 =>
          zL (upd g_m0_lines_48 (Int32.toNatClampNeg 4) x_369) fun f_370 : Nat → Int32 =>
          ih_1 g_m0_gate_52 g_m0_at0_54 f_370 f_340 g_m0_courts_49 g_m0_in_50 g_m0_gates_51 g_m0_people_53 g_m0_stray_55 g_m0_set_56 g_m0_once_57 n_m0_350 n_m0_351 n_m0_352 n_m0_353 n_m0_354 n_m0_355 n_m0_356 w_m0_30_65
      else
        zL (F_X10_line m0_taped w_m0_7_58 w_m0_8_59 w_m0_9_60 w_m0_10_61 w_m0_11_62 w_m0_12_63 w_m0_13_64 w_m0_30_65 f_m0_tape g_m0_hours_66 g_m0_courts_49 g_m0_in_50 g_m0_gates_51 g_m0_gate_52 g_m0_people_53 g_m0_at0_54 g_m0_stray_55 g_m0_set_56 g_m0_once_57) fun z_269 : Int32 × Int32 × Int32 × Int32 × Int64 × Int32 × Int32 × Int32 × (Nat → Int32) × (Nat → Int32) × (Nat → Int32) × (Nat → Int32) × (Nat → Int32) × (Nat → Int32) × (Nat → Int32) × (Nat → Int32) × (Nat → Int32) =>
        zL (z_269.1) fun n_m0_229 : Int32 =>
        zL (z_269.2.1) fun n_m0_230 : Int32 =>
        zL (z_269.2.2.1) fun n_m0_231 : Int32 =>
        zL (z_269.2.2.2.1) fun n_m0_232 : Int32 =>
        zL (z_269.2.2.2.2.1) fun n_m0_233 : Int64 =>
        zL (z_269.2.2.2.2.2.1) fun n_m0_234 : Int32 =>
        zL (z_269.2.2.2.2.2.2.1) fun n_m0_235 : Int32 =>
        zL (z_269.2.2.2.2.2.2.2.1) fun n_m0_236 : Int32 =>
        zL (z_269.2.2.2.2.2.2.2.2.1) fun n_m0_courts_237 : Nat → Int32 =>
        zL (z_269.2.2.2.2.2.2.2.2.2.1) fun n_m0_in_238 : Nat → Int32 =>
        zL (z_269.2.2.2.2.2.2.2.2.2.2.1) fun n_m0_gates_239 : Nat → Int32 =>
        zL (z_269.2.2.2.2.2.2.2.2.2.2.2.1) fun n_m0_gate_240 : Nat → Int32 =>
        zL (z_269.2.2.2.2.2.2.2.2.2.2.2.2.1) fun n_m0_people_241 : Nat → Int32 =>
        zL (z_269.2.2.2.2.2.2.2.2.2.2.2.2.2.1) fun n_m0_at0_242 : Nat → Int32 =>
        zL (z_269.2.2.2.2.2.2.2.2.2.2.2.2.2.2.1) fun n_m0_stray_243 : Nat → Int32 =>
        zL (z_269.2.2.2.2.2.2.2.2.2.2.2.2.2.2.2.1) fun n_m0_set_244 : Nat → Int32 =>
        zL (z_269.2.2.2.2.2.2.2.2.2.2.2.2.2.2.2.2) fun n_m0_once_245 : Nat → Int32 =>
        zL (F_X10_isGood_v1 n_m0_234) fun r_270 : Int32 =>
        if r_270 = (0 : Int32) then
          zL (g_m0_lines_48 (Int32.toNatClampNeg (4 : Int32))) fun x_272 : Int32 =>
          zL (x_226 + (1 : Int32)) fun x_273 : Int32 =>
          zL (upd g_m0_lines_48 (Int32.toNatClampNeg 4) x_273) fun f_274 : Nat → Int32 =>
          ih_1 n_m0_gate_240 n_m0_at0_242 f_274 g_m0_hours_66 n_m0_courts_237 n_m0_in_238 n_m0_gates_239 n_m0_people_241 n_m0_stray_243 n_m0_set_244 n_m0_once_245 n_m0_229 n_m0_230 n_m0_231 n_m0_232 n_m0_233 n_m0_234 n_m0_235 n_m0_236
        else
          zL (F_X10_ends m0_taped n_m0_229 n_m0_230 n_m0_231 n_m0_232 n_m0_233 n_m0_234 n_m0_235 f_m0_tape) fun z_295 : Int32 × Int32 × Int32 × Int32 × Int64 × Int32 × Int32 =>
          zL (z_295.1) fun n_m0_278 : Int32 =>
          zL (z_295.2.1) fun n_m0_279 : Int32 =>
          zL (z_295.2.2.1) fun n_m0_280 : Int32 =>
          zL (z_295.2.2.2.1) fun n_m0_281 : Int32 =>
          zL (z_295.2.2.2.2.1) fun n_m0_282 : Int64 =>
          zL (z_295.2.2.2.2.2.1) fun n_m0_283 : Int32 =>
          zL (z_295.2.2.2.2.2.2) fun n_m0_284 : Int32 =>
          zL (g_m0_lines_48 (Int32.toNatClampNeg (4 : Int32))) fun x_296 : Int32 =>
          zL (x_226 + (1 : Int32)) fun x_297 : Int32 =>
          zL (upd g_m0_lines_48 (Int32.toNatClampNeg 4) x_297) fun f_298 : Nat → Int32 =>
          ih_1 n_m0_gate_240 n_m0_at0_242 f_298 g_m0_hours_66 n_m0_courts_237 n_m0_in_238 n_m0_gates_239 n_m0_people_241 n_m0_stray_243 n_m0_set_244 n_m0_once_245 n_m0_278 n_m0_279 n_m0_280 n_m0_281 n_m0_282 n_m0_283 n_m0_284 n_m0_236
noncomputable def L_X10_town_1 (m0_taped : Int32) (f_m0_tape : Nat → Int32) (kc_1_0 : Int32 → Int32 → (Nat → Int32) → (Nat → Int32) → (Nat → Int32) → (Nat → Int32) → (Nat → Int32) → (Nat → Int32) → (Nat → Int32) → (Nat → Int32) → (Nat → Int32) → (Nat → Int32) → Int32 → Int32 → Int32 → Int32 → Int64 → Int32 → (Nat → Int32) → Int32 × Int32 × Int32 × Int32 × Int32 × Int32 × Int32 × Int64 × Int32 × Int32 × Int32 × Int32 × Int32 × (Nat → Int32) × (Nat → Int32) × (Nat → Int32) × (Nat → Int32) × (Nat → Int32) × (Nat → Int32) × (Nat → Int32) × (Nat → Int32) × (Nat → Int32) × (Nat → Int32) × (Nat → Int32) × (Nat → Int32) × (Nat → Int32)) (kc_1_1 : Int32 → Int32 → (Nat → Int32) → (Nat → Int32) → (Nat → Int32) → (Nat → Int32) → (Nat → Int32) → (Nat → Int32) → (Nat → Int32) → (Nat → Int32) → (Nat → Int32) → (Nat → Int32) → Int32 → Int32 → Int32 → Int32 → Int64 → Int32 → (Nat → Int32) → Int32 × Int32 × Int32 × Int32 × Int32 × Int32 × Int32 × Int64 × Int32 × Int32 × Int32 × Int32 × Int32 × (Nat → Int32) × (Nat → Int32) × (Nat → Int32) × (Nat → Int32) × (Nat → Int32) × (Nat → Int32) × (Nat → Int32) × (Nat → Int32) × (Nat → Int32) × (Nat → Int32) × (Nat → Int32) × (Nat → Int32) × (Nat → Int32)) : Nat → (Nat → Int32) → (Nat → Int32) → (Nat → Int32) → (Nat → Int32) → (Nat → Int32) → (Nat → Int32) → (Nat → Int32) → (Nat → Int32) → (Nat → Int32) → (Nat → Int32) → (Nat → Int32) → Int32 → Int32 → Int32 → Int32 → Int64 → Int32 → Int32 → Int32 → Int32 × Int32 × Int32 × Int32 × Int32 × Int32 × Int32 × Int64 × Int32 × Int32 × Int32 × Int32 × Int32 × (Nat → Int32) × (Nat → Int32) × (Nat → Int32) × (Nat → Int32) × (Nat → Int32) × (Nat → Int32) × (Nat → Int32) × (Nat → Int32) × (Nat → Int32) × (Nat → Int32) × (Nat → Int32) × (Nat → Int32) × (Nat → Int32) := zLp (fun _ _ _ _ _ _ _ _ _ _ _ _ _ _ _ _ _ _ _ => (0, 0, 0, 0, 0, 0, 0, 0, 0, 0, 0, 0, 0, (fun _ => 0), (fun _ => 0), (fun _ => 0), (fun _ => 0), (fun _ => 0), (fun _ => 0), (fun _ => 0), (fun _ => 0), (fun _ => 0), (fun _ => 0), (fun _ => 0), (fun _ => 0), (fun _ => 0))) (B_X10_town_1 m0_taped f_m0_tape kc_1_0 kc_1_1)
theorem L_X10_town_1_s {m0_taped : Int32} {f_m0_tape : (Nat → Int32)} {kc_1_0 : (Int32 → Int32 → (Nat → Int32) → (Nat → Int32) → (Nat → Int32) → (Nat → Int32) → (Nat → Int32) → (Nat → Int32) → (Nat → Int32) → (Nat → Int32) → (Nat → Int32) → (Nat → Int32) → Int32 → Int32 → Int32 → Int32 → Int64 → Int32 → (Nat → Int32) → Int32 × Int32 × Int32 × Int32 × Int32 × Int32 × Int32 × Int64 × Int32 × Int32 × Int32 × Int32 × Int32 × (Nat → Int32) × (Nat → Int32) × (Nat → Int32) × (Nat → Int32) × (Nat → Int32) × (Nat → Int32) × (Nat → Int32) × (Nat → Int32) × (Nat → Int32) × (Nat → Int32) × (Nat → Int32) × (Nat → Int32) × (Nat → Int32))} {kc_1_1 : (Int32 → Int32 → (Nat → Int32) → (Nat → Int32) → (Nat → Int32) → (Nat → Int32) → (Nat → Int32) → (Nat → Int32) → (Nat → Int32) → (Nat → Int32) → (Nat → Int32) → (Nat → Int32) → Int32 → Int32 → Int32 → Int32 → Int64 → Int32 → (Nat → Int32) → Int32 × Int32 × Int32 × Int32 × Int32 × Int32 × Int32 × Int64 × Int32 × Int32 × Int32 × Int32 × Int32 × (Nat → Int32) × (Nat → Int32) × (Nat → Int32) × (Nat → Int32) × (Nat → Int32) × (Nat → Int32) × (Nat → Int32) × (Nat → Int32) × (Nat → Int32) × (Nat → Int32) × (Nat → Int32) × (Nat → Int32) × (Nat → Int32))} {t : Nat} {g_m0_gate_52 : (Nat → Int32)} {g_m0_at0_54 : (Nat → Int32)} {g_m0_lines_48 : (Nat → Int32)} {g_m0_hours_66 : (Nat → Int32)} {g_m0_courts_49 : (Nat → Int32)} {g_m0_in_50 : (Nat → Int32)} {g_m0_gates_51 : (Nat → Int32)} {g_m0_people_53 : (Nat → Int32)} {g_m0_stray_55 : (Nat → Int32)} {g_m0_set_56 : (Nat → Int32)} {g_m0_once_57 : (Nat → Int32)} {w_m0_7_58 : Int32} {w_m0_8_59 : Int32} {w_m0_9_60 : Int32} {w_m0_10_61 : Int32} {w_m0_11_62 : Int64} {w_m0_12_63 : Int32} {w_m0_13_64 : Int32} {w_m0_30_65 : Int32} : L_X10_town_1 m0_taped f_m0_tape kc_1_0 kc_1_1 (t + 1) g_m0_gate_52 g_m0_at0_54 g_m0_lines_48 g_m0_hours_66 g_m0_courts_49 g_m0_in_50 g_m0_gates_51 g_m0_people_53 g_m0_stray_55 g_m0_set_56 g_m0_once_57 w_m0_7_58 w_m0_8_59 w_m0_9_60 w_m0_10_61 w_m0_11_62 w_m0_12_63 w_m0_13_64 w_m0_30_65 = B_X10_town_1 m0_taped f_m0_tape kc_1_0 kc_1_1 (L_X10_town_1 m0_taped f_m0_tape kc_1_0 kc_1_1 t) g_m0_gate_52 g_m0_at0_54 g_m0_lines_48 g_m0_hours_66 g_m0_courts_49 g_m0_in_50 g_m0_gates_51 g_m0_people_53 g_m0_stray_55 g_m0_set_56 g_m0_once_57 w_m0_7_58 w_m0_8_59 w_m0_9_60 w_m0_10_61 w_m0_11_62 w_m0_12_63 w_m0_13_64 w_m0_30_65 := rfl
noncomputable def F_X10_town (m0_taped : Int32) (f_m0_tape : Nat → Int32) (f_m0_lines : Nat → Int32) (f_m0_hours : Nat → Int32) (f_m0_courts : Nat → Int32) (f_m0_in : Nat → Int32) (f_m0_gates : Nat → Int32) (f_m0_gate : Nat → Int32) (f_m0_people : Nat → Int32) (f_m0_at0 : Nat → Int32) (f_m0_stray : Nat → Int32) (f_m0_set : Nat → Int32) (f_m0_once : Nat → Int32) (f_m0_truth : Nat → Int32) (f_m0_known : Nat → Int32) : Int32 × Int32 × Int32 × Int32 × Int32 × Int32 × Int32 × Int64 × Int32 × Int32 × Int32 × Int32 × Int32 × (Nat → Int32) × (Nat → Int32) × (Nat → Int32) × (Nat → Int32) × (Nat → Int32) × (Nat → Int32) × (Nat → Int32) × (Nat → Int32) × (Nat → Int32) × (Nat → Int32) × (Nat → Int32) × (Nat → Int32) × (Nat → Int32) :=
  zL (F_X10_clears f_m0_lines f_m0_hours f_m0_courts f_m0_in f_m0_gates f_m0_people f_m0_set f_m0_once f_m0_truth f_m0_known) fun z_29 : Int32 × (Nat → Int32) × (Nat → Int32) × (Nat → Int32) × (Nat → Int32) × (Nat → Int32) × (Nat → Int32) × (Nat → Int32) × (Nat → Int32) × (Nat → Int32) × (Nat → Int32) =>
  zL (z_29.1) fun n_m0_2 : Int32 =>
  zL (z_29.2.1) fun n_m0_lines_3 : Nat → Int32 =>
  zL (z_29.2.2.1) fun n_m0_hours_4 : Nat → Int32 =>
  zL (z_29.2.2.2.1) fun n_m0_courts_5 : Nat → Int32 =>
  zL (z_29.2.2.2.2.1) fun n_m0_in_6 : Nat → Int32 =>
  zL (z_29.2.2.2.2.2.1) fun n_m0_gates_7 : Nat → Int32 =>
  zL (z_29.2.2.2.2.2.2.1) fun n_m0_people_8 : Nat → Int32 =>
  zL (z_29.2.2.2.2.2.2.2.1) fun n_m0_set_9 : Nat → Int32 =>
  zL (z_29.2.2.2.2.2.2.2.2.1) fun n_m0_once_10 : Nat → Int32 =>
  zL (z_29.2.2.2.2.2.2.2.2.2.1) fun n_m0_truth_11 : Nat → Int32 =>
  zL (z_29.2.2.2.2.2.2.2.2.2.2) fun n_m0_known_12 : Nat → Int32 =>
  zL (F_X10_begins m0_taped f_m0_tape) fun z_46 : Int32 × Int32 × Int32 × Int32 × Int64 × Int32 × Int32 =>
  zL (z_46.1) fun n_m0_31 : Int32 =>
  zL (z_46.2.1) fun n_m0_32 : Int32 =>
  zL (z_46.2.2.1) fun n_m0_33 : Int32 =>
  zL (z_46.2.2.2.1) fun n_m0_34 : Int32 =>
  zL (z_46.2.2.2.2.1) fun n_m0_35 : Int64 =>
  zL (z_46.2.2.2.2.2.1) fun n_m0_36 : Int32 =>
  zL (z_46.2.2.2.2.2.2) fun n_m0_37 : Int32 =>
  L_X10_town_1 m0_taped f_m0_tape (K_X10_town_1_0 n_m0_truth_11 n_m0_known_12) (K_X10_town_1_1 n_m0_truth_11 n_m0_known_12) 116005 f_m0_gate f_m0_at0 n_m0_lines_3 n_m0_hours_4 n_m0_courts_5 n_m0_in_6 n_m0_gates_7 n_m0_people_8 f_m0_stray n_m0_set_9 n_m0_once_10 n_m0_31 n_m0_32 n_m0_33 n_m0_34 n_m0_35 n_m0_36 n_m0_37 n_m0_2
noncomputable def K_X10_four_1_0 (w_m0_6_2 : Int32) (g_m0_tape_3 : Nat → Int32) : Int32 × (Nat → Int32) :=
  (w_m0_6_2, g_m0_tape_3)
noncomputable def B_X10_four_1 (p1 : Int32) (kc_1_0 : Int32 → (Nat → Int32) → Int32 × (Nat → Int32)) (ih_1 : Int32 → Int32 → (Nat → Int32) → Int32 × (Nat → Int32)) (v2_1 : Int32) (w_m0_6_2 : Int32) (g_m0_tape_3 : Nat → Int32) : Int32 × (Nat → Int32) :=
  if v2_1 < (0 : Int32) then
    kc_1_0 w_m0_6_2 g_m0_tape_3
  else
    zL (p1 >>> (v2_1 &&& 31)) fun x_5 : Int32 =>
    zL ((x_5).toInt8.toInt32) fun x_6 : Int32 =>
    zL (upd g_m0_tape_3 (Int32.toNatClampNeg w_m0_6_2) (vp_nar .byte x_6)) fun f_7 : Nat → Int32 =>
    zL (w_m0_6_2 + (1 : Int32)) fun x_8 : Int32 =>
    zL (v2_1 + Int32.ofInt (-8)) fun x_9 : Int32 =>
    ih_1 x_9 x_8 f_7
noncomputable def L_X10_four_1 (p1 : Int32) (kc_1_0 : Int32 → (Nat → Int32) → Int32 × (Nat → Int32)) : Nat → Int32 → Int32 → (Nat → Int32) → Int32 × (Nat → Int32) := zLp (fun _ _ _ => (0, (fun _ => 0))) (B_X10_four_1 p1 kc_1_0)
theorem L_X10_four_1_s {p1 : Int32} {kc_1_0 : (Int32 → (Nat → Int32) → Int32 × (Nat → Int32))} {t : Nat} {v2_1 : Int32} {w_m0_6_2 : Int32} {g_m0_tape_3 : (Nat → Int32)} : L_X10_four_1 p1 kc_1_0 (t + 1) v2_1 w_m0_6_2 g_m0_tape_3 = B_X10_four_1 p1 kc_1_0 (L_X10_four_1 p1 kc_1_0 t) v2_1 w_m0_6_2 g_m0_tape_3 := rfl
noncomputable def F_X10_four (p1 : Int32) (m0_taped : Int32) (f_m0_tape : Nat → Int32) : Int32 × (Nat → Int32) :=
  L_X10_four_1 p1 K_X10_four_1_0 34 (24 : Int32) m0_taped f_m0_tape
noncomputable def F_X10_feed (p1 : Int32) (p2 : Int32) (p3 : Int32) (p4 : Int32) (p5 : Int32) (m0_taped : Int32) (f_m0_tape : Nat → Int32) : Int32 × Int32 × Int32 × (Nat → Int32) :=
  zL (m0_taped + (20 : Int32)) fun x_1 : Int32 =>
  if x_1 ≤ (1600 : Int32) then
    zL (F_X10_four p1 m0_taped f_m0_tape) fun z_9 : Int32 × (Nat → Int32) =>
    zL (z_9.1) fun n_m0_4 : Int32 =>
    zL (z_9.2) fun n_m0_tape_5 : Nat → Int32 =>
    zL (F_X10_four p2 n_m0_4 n_m0_tape_5) fun z_16 : Int32 × (Nat → Int32) =>
    zL (z_16.1) fun n_m0_11 : Int32 =>
    zL (z_16.2) fun n_m0_tape_12 : Nat → Int32 =>
    zL (F_X10_four p3 n_m0_11 n_m0_tape_12) fun z_23 : Int32 × (Nat → Int32) =>
    zL (z_23.1) fun n_m0_18 : Int32 =>
    zL (z_23.2) fun n_m0_tape_19 : Nat → Int32 =>
    zL (F_X10_four p4 n_m0_18 n_m0_tape_19) fun z_30 : Int32 × (Nat → Int32) =>
    zL (z_30.1) fun n_m0_25 : Int32 =>
    zL (z_30.2) fun n_m0_tape_26 : Nat → Int32 =>
    zL (F_X10_four p5 n_m0_25 n_m0_tape_26) fun z_37 : Int32 × (Nat → Int32) =>
    zL (z_37.1) fun n_m0_32 : Int32 =>
    zL (z_37.2) fun n_m0_tape_33 : Nat → Int32 =>
    (n_m0_32, (0 : Int32), n_m0_32, n_m0_tape_33)
  else
    ((-1 : Int32), (0 : Int32), m0_taped, f_m0_tape)
