set_option linter.all false
noncomputable def F_X9_has (p1 : Int32) (p2 : Int32) : Int32 :=
  zL (p1 >>> (p2 &&& 31)) fun x_1 : Int32 =>
  zL (x_1 &&& (1 : Int32)) fun x_2 : Int32 =>
  if x_2 = (0 : Int32) then
    (0 : Int32)
  else
    (1 : Int32)
noncomputable def F_J0_coder_7d493  : Int32 :=
  (0 : Int32)
noncomputable def F_J0_length_8abf5 (wi : Nat) : Int32 :=
  zL (Int32.ofNat (zLen.getD wi 0)) fun x_1 : Int32 =>
  zL (F_J0_coder_7d493) fun r_2 : Int32 =>
  zL (x_1 >>> (r_2 &&& 31)) fun x_3 : Int32 =>
  x_3
noncomputable def F_J0_isLatin1_aae02  : Int32 :=
  (1 : Int32)
noncomputable def F_J3_checkIndex_8e157 (p0 : Int32) : Int32 :=
  p0
noncomputable def F_J3_checkIndex_8e157_v1 (p0 : Int32) : Int32 :=
  p0
noncomputable def F_J1_charAt_3b067 (p1 : Int32) (wi : Nat) : Int32 :=
  zL (Int32.ofNat (zLen.getD wi 0)) fun x_1 : Int32 =>
  zL ((zByt.getD wi []).getD (Int32.toNatClampNeg p1) 0) fun x_3 : Int32 =>
  zL (x_3 &&& (255 : Int32)) fun x_4 : Int32 =>
  zL (((x_4).toUInt32 % 65536).toInt32) fun x_5 : Int32 =>
  x_5
noncomputable def F_J0_charAt_5068e (p1 : Int32) (wi : Nat) : Int32 :=
  zL (F_J0_isLatin1_aae02) fun r_1 : Int32 =>
  zL (F_J1_charAt_3b067 p1 wi) fun r_3 : Int32 =>
  r_3
noncomputable def F_X5_kindOf (p0 : Int32) : Int32 :=
  if p0 = (32 : Int32) then
    (0 : Int32)
  else
    if p0 = (10 : Int32) then
      (0 : Int32)
    else
      if p0 < (97 : Int32) then
        if p0 < (48 : Int32) then
          (4 : Int32)
        else
          if (57 : Int32) < p0 then
            if p0 = (59 : Int32) then
              (3 : Int32)
            else
              (4 : Int32)
          else
            (2 : Int32)
      else
        if (122 : Int32) < p0 then
          (4 : Int32)
        else
          (1 : Int32)
noncomputable def F_X5_addToken (p1 : Int32) (p2 : Int32) (rd_tokens : Int32) (f_rd_kinds : Nat → Int32) (f_rd_starts : Nat → Int32) (f_rd_values : Nat → Int32) : Int32 × (Nat → Int32) × (Nat → Int32) × (Nat → Int32) :=
  zL (upd f_rd_kinds (Int32.toNatClampNeg rd_tokens) p1) fun f_1 : Nat → Int32 =>
  zL (upd f_rd_starts (Int32.toNatClampNeg rd_tokens) p2) fun f_2 : Nat → Int32 =>
  zL (upd f_rd_values (Int32.toNatClampNeg rd_tokens) 0) fun f_3 : Nat → Int32 =>
  zL (rd_tokens + (1 : Int32)) fun x_4 : Int32 =>
  (x_4, f_1, f_2, f_3)
noncomputable def F_X5_blame (p1 : Int32) (rd_fault : Int32) (rd_place : Int32) (rd_at : Int32) (f_rd_starts : Nat → Int32) : Int32 × Int32 :=
  if rd_fault = (0 : Int32) then
    zL (f_rd_starts (Int32.toNatClampNeg rd_at)) fun x_2 : Int32 =>
    (p1, x_2)
  else
    (rd_fault, rd_place)
noncomputable def F_X5_advance (rd_fault : Int32) (rd_tokens : Int32) (rd_at : Int32) : Int32 :=
  if rd_fault = (0 : Int32) then
    if rd_tokens ≤ rd_at then
      rd_at
    else
      zL (rd_at + (1 : Int32)) fun x_3 : Int32 =>
      x_3
  else
    rd_at
noncomputable def K_X5_isWord_1_0  : Int32 :=
  (1 : Int32)
noncomputable def K_X5_isWord_1_1  : Int32 :=
  (0 : Int32)
noncomputable def B_X5_isWord_1 (wi : Nat) (f_rd_starts : Nat → Int32) (rd_at : Int32) (x_4 : Int32) (f_tx : Nat → Int32) (kc_1_0 : Int32) (kc_1_1 : Int32) (ih_1 : Int32 → Int32) (v2_8 : Int32) : Int32 :=
  zL (F_J0_length_8abf5 wi) fun r_9 : Int32 =>
  if r_9 ≤ v2_8 then
    kc_1_0
  else
    zL (f_rd_starts (Int32.toNatClampNeg rd_at)) fun x_11 : Int32 =>
    zL (x_4 + v2_8) fun x_12 : Int32 =>
    zL (f_tx (Int32.toNatClampNeg x_12)) fun x_13 : Int32 =>
    zL (F_J0_charAt_5068e v2_8 wi) fun r_14 : Int32 =>
    if x_13 = r_14 then
      zL (v2_8 + Int32.ofInt 1) fun x_16 : Int32 =>
      ih_1 x_16
    else
      kc_1_1
noncomputable def L_X5_isWord_1 (wi : Nat) (f_rd_starts : Nat → Int32) (rd_at : Int32) (x_4 : Int32) (f_tx : Nat → Int32) (kc_1_0 : Int32) (kc_1_1 : Int32) : Nat → Int32 → Int32 := zLp (fun _ => 0) (B_X5_isWord_1 wi f_rd_starts rd_at x_4 f_tx kc_1_0 kc_1_1)
theorem L_X5_isWord_1_s {wi : Nat} {f_rd_starts : (Nat → Int32)} {rd_at : Int32} {x_4 : Int32} {f_tx : (Nat → Int32)} {kc_1_0 : Int32} {kc_1_1 : Int32} {t : Nat} {v2_8 : Int32} : L_X5_isWord_1 wi f_rd_starts rd_at x_4 f_tx kc_1_0 kc_1_1 (t + 1) v2_8 = B_X5_isWord_1 wi f_rd_starts rd_at x_4 f_tx kc_1_0 kc_1_1 (L_X5_isWord_1 wi f_rd_starts rd_at x_4 f_tx kc_1_0 kc_1_1 t) v2_8 := rfl
noncomputable def F_X5_isWord (rd_at : Int32) (f_rd_kinds : Nat → Int32) (f_rd_starts : Nat → Int32) (f_rd_stops : Nat → Int32) (f_tx : Nat → Int32) (wi : Nat) : Int32 :=
  zL (f_rd_kinds (Int32.toNatClampNeg rd_at)) fun x_1 : Int32 =>
  if x_1 = (1 : Int32) then
    zL (f_rd_stops (Int32.toNatClampNeg rd_at)) fun x_3 : Int32 =>
    zL (f_rd_starts (Int32.toNatClampNeg rd_at)) fun x_4 : Int32 =>
    zL (x_3 - x_4) fun x_5 : Int32 =>
    zL (F_J0_length_8abf5 wi) fun r_6 : Int32 =>
    if x_5 = r_6 then
      L_X5_isWord_1 wi f_rd_starts rd_at x_4 f_tx K_X5_isWord_1_0 K_X5_isWord_1_1 8 (0 : Int32)
    else
      (0 : Int32)
  else
    (0 : Int32)
noncomputable def F_X5_expectWord (rd_fault : Int32) (rd_place : Int32) (rd_tokens : Int32) (rd_at : Int32) (f_rd_kinds : Nat → Int32) (f_rd_starts : Nat → Int32) (f_rd_stops : Nat → Int32) (f_tx : Nat → Int32) (wi : Nat) : Int32 × Int32 × Int32 :=
  zL (F_X5_isWord rd_at f_rd_kinds f_rd_starts f_rd_stops f_tx wi) fun r_1 : Int32 =>
  if r_1 = (0 : Int32) then
    zL (F_X5_blame (1 : Int32) rd_fault rd_place rd_at f_rd_starts) fun z_12 : Int32 × Int32 =>
    zL (z_12.1) fun n_rd_7 : Int32 =>
    zL (z_12.2) fun n_rd_8 : Int32 =>
    zL (F_X5_advance n_rd_7 rd_tokens rd_at) fun n_rd_14 : Int32 =>
    (n_rd_7, n_rd_8, n_rd_14)
  else
    zL (F_X5_advance rd_fault rd_tokens rd_at) fun n_rd_4 : Int32 =>
    (rd_fault, rd_place, n_rd_4)
noncomputable def F_X5_expectNumber (p1 : Int32) (p2 : Int32) (rd_fault : Int32) (rd_place : Int32) (rd_tokens : Int32) (rd_at : Int32) (f_rd_kinds : Nat → Int32) (f_rd_starts : Nat → Int32) (f_rd_values : Nat → Int32) : Int32 × Int32 × Int32 × Int32 :=
  zL (f_rd_values (Int32.toNatClampNeg rd_at)) fun x_1 : Int32 =>
  zL (f_rd_kinds (Int32.toNatClampNeg rd_at)) fun x_2 : Int32 =>
  if x_2 = (2 : Int32) then
    if x_1 < p1 then
      zL (F_X5_blame (2 : Int32) rd_fault rd_place rd_at f_rd_starts) fun z_11 : Int32 × Int32 =>
      zL (z_11.1) fun n_rd_6 : Int32 =>
      zL (z_11.2) fun n_rd_7 : Int32 =>
      zL (F_X5_advance n_rd_6 rd_tokens rd_at) fun n_rd_13 : Int32 =>
      if n_rd_6 = (0 : Int32) then
        (x_1, n_rd_6, n_rd_7, n_rd_13)
      else
        ((0 : Int32), n_rd_6, n_rd_7, n_rd_13)
    else
      if x_1 ≤ p2 then
        zL (F_X5_advance rd_fault rd_tokens rd_at) fun n_rd_18 : Int32 =>
        if rd_fault = (0 : Int32) then
          (x_1, rd_fault, rd_place, n_rd_18)
        else
          ((0 : Int32), rd_fault, rd_place, n_rd_18)
      else
        zL (F_X5_blame (2 : Int32) rd_fault rd_place rd_at f_rd_starts) fun z_27 : Int32 × Int32 =>
        zL (z_27.1) fun n_rd_22 : Int32 =>
        zL (z_27.2) fun n_rd_23 : Int32 =>
        zL (F_X5_advance n_rd_22 rd_tokens rd_at) fun n_rd_29 : Int32 =>
        if n_rd_22 = (0 : Int32) then
          (x_1, n_rd_22, n_rd_23, n_rd_29)
        else
          ((0 : Int32), n_rd_22, n_rd_23, n_rd_29)
  else
    zL (F_X5_blame (1 : Int32) rd_fault rd_place rd_at f_rd_starts) fun z_38 : Int32 × Int32 =>
    zL (z_38.1) fun n_rd_33 : Int32 =>
    zL (z_38.2) fun n_rd_34 : Int32 =>
    zL (F_X5_advance n_rd_33 rd_tokens rd_at) fun n_rd_40 : Int32 =>
    if n_rd_33 = (0 : Int32) then
      (x_1, n_rd_33, n_rd_34, n_rd_40)
    else
      ((0 : Int32), n_rd_33, n_rd_34, n_rd_40)
noncomputable def F_X5_expectCourt (rd_fault : Int32) (rd_place : Int32) (rd_tokens : Int32) (rd_at : Int32) (f_rd_kinds : Nat → Int32) (f_rd_starts : Nat → Int32) (f_rd_values : Nat → Int32) (tn_courts : Int32) : Int32 × Int32 × Int32 × Int32 :=
  zL (tn_courts - (1 : Int32)) fun x_1 : Int32 =>
  zL (F_X5_expectNumber (0 : Int32) x_1 rd_fault rd_place rd_tokens rd_at f_rd_kinds f_rd_starts f_rd_values) fun z_9 : Int32 × Int32 × Int32 × Int32 =>
  zL (z_9.1) fun r_2 : Int32 =>
  zL (z_9.2.1) fun n_rd_3 : Int32 =>
  zL (z_9.2.2.1) fun n_rd_4 : Int32 =>
  zL (z_9.2.2.2) fun n_rd_5 : Int32 =>
  (r_2, n_rd_3, n_rd_4, n_rd_5)
noncomputable def F_X5_readHours (rd_fault : Int32) (rd_place : Int32) (rd_tokens : Int32) (rd_at : Int32) (f_rd_kinds : Nat → Int32) (f_rd_starts : Nat → Int32) (f_rd_stops : Nat → Int32) (f_rd_values : Nat → Int32) (f_tx : Nat → Int32) : Int32 × Int32 × Int32 × Int32 × Int32 × Int32 :=
  zL (F_X5_expectWord rd_fault rd_place rd_tokens rd_at f_rd_kinds f_rd_starts f_rd_stops f_tx (5)) fun z_8 : Int32 × Int32 × Int32 =>
  zL (z_8.1) fun n_rd_2 : Int32 =>
  zL (z_8.2.1) fun n_rd_3 : Int32 =>
  zL (z_8.2.2) fun n_rd_4 : Int32 =>
  zL (F_X5_expectWord n_rd_2 n_rd_3 rd_tokens n_rd_4 f_rd_kinds f_rd_starts f_rd_stops f_tx (6)) fun z_16 : Int32 × Int32 × Int32 =>
  zL (z_16.1) fun n_rd_10 : Int32 =>
  zL (z_16.2.1) fun n_rd_11 : Int32 =>
  zL (z_16.2.2) fun n_rd_12 : Int32 =>
  zL (F_X5_expectNumber (1 : Int32) (48 : Int32) n_rd_10 n_rd_11 rd_tokens n_rd_12 f_rd_kinds f_rd_starts f_rd_values) fun z_24 : Int32 × Int32 × Int32 × Int32 =>
  zL (z_24.1) fun r_17 : Int32 =>
  zL (z_24.2.1) fun n_rd_18 : Int32 =>
  zL (z_24.2.2.1) fun n_rd_19 : Int32 =>
  zL (z_24.2.2.2) fun n_rd_20 : Int32 =>
  (n_rd_18, n_rd_19, n_rd_20, r_17, (1 : Int32), (1 : Int32))
noncomputable def F_X5_readCourt (rd_fault : Int32) (rd_place : Int32) (rd_tokens : Int32) (rd_at : Int32) (f_rd_kinds : Nat → Int32) (f_rd_starts : Nat → Int32) (f_rd_stops : Nat → Int32) (f_rd_values : Nat → Int32) (f_tx : Nat → Int32) (tn_courts : Int32) (f_tn_above : Nat → Int32) : Int32 × Int32 × Int32 × Int32 × (Nat → Int32) :=
  if tn_courts < (10 : Int32) then
    zL (F_X5_advance rd_fault rd_tokens rd_at) fun n_rd_3 : Int32 =>
    zL (F_X5_expectWord rd_fault rd_place rd_tokens n_rd_3 f_rd_kinds f_rd_starts f_rd_stops f_tx (7)) fun z_12 : Int32 × Int32 × Int32 =>
    zL (z_12.1) fun n_rd_6 : Int32 =>
    zL (z_12.2.1) fun n_rd_7 : Int32 =>
    zL (z_12.2.2) fun n_rd_8 : Int32 =>
    zL (F_X5_expectCourt n_rd_6 n_rd_7 rd_tokens n_rd_8 f_rd_kinds f_rd_starts f_rd_values tn_courts) fun z_20 : Int32 × Int32 × Int32 × Int32 =>
    zL (z_20.1) fun r_13 : Int32 =>
    zL (z_20.2.1) fun n_rd_14 : Int32 =>
    zL (z_20.2.2.1) fun n_rd_15 : Int32 =>
    zL (z_20.2.2.2) fun n_rd_16 : Int32 =>
    if n_rd_14 = (0 : Int32) then
      zL (f_tn_above (Int32.toNatClampNeg r_13)) fun x_22 : Int32 =>
      zL ((1 : Int32) <<< (r_13 &&& 31)) fun x_23 : Int32 =>
      zL (x_22 ||| x_23) fun x_24 : Int32 =>
      zL (upd f_tn_above (Int32.toNatClampNeg tn_courts) x_24) fun f_25 : Nat → Int32 =>
      zL (tn_courts + (1 : Int32)) fun x_26 : Int32 =>
      (n_rd_14, n_rd_15, n_rd_16, x_26, f_25)
    else
      (n_rd_14, n_rd_15, n_rd_16, tn_courts, f_tn_above)
  else
    zL (F_X5_blame (3 : Int32) rd_fault rd_place rd_at f_rd_starts) fun z_33 : Int32 × Int32 =>
    zL (z_33.1) fun n_rd_28 : Int32 =>
    zL (z_33.2) fun n_rd_29 : Int32 =>
    (n_rd_28, n_rd_29, rd_at, tn_courts, f_tn_above)
noncomputable def F_X5_readLaw (rd_fault : Int32) (rd_place : Int32) (rd_tokens : Int32) (rd_at : Int32) (rd_lawTold : Int32) (f_rd_kinds : Nat → Int32) (f_rd_starts : Nat → Int32) (f_rd_stops : Nat → Int32) (f_tx : Nat → Int32) (tn_deep : Int32) : Int32 × Int32 × Int32 × Int32 × Int32 :=
  if rd_lawTold = (0 : Int32) then
    zL (F_X5_advance rd_fault rd_tokens rd_at) fun n_rd_3 : Int32 =>
    zL (F_X5_isWord n_rd_3 f_rd_kinds f_rd_starts f_rd_stops f_tx (12)) fun r_5 : Int32 =>
    if r_5 = (0 : Int32) then
      zL (F_X5_isWord n_rd_3 f_rd_kinds f_rd_starts f_rd_stops f_tx (13)) fun r_10 : Int32 =>
      if r_10 = (0 : Int32) then
        zL (F_X5_blame (1 : Int32) rd_fault rd_place n_rd_3 f_rd_starts) fun z_18 : Int32 × Int32 =>
        zL (z_18.1) fun n_rd_13 : Int32 =>
        zL (z_18.2) fun n_rd_14 : Int32 =>
        (n_rd_13, n_rd_14, n_rd_3, (1 : Int32), r_5)
      else
        zL (F_X5_advance rd_fault rd_tokens n_rd_3) fun n_rd_20 : Int32 =>
        (rd_fault, rd_place, n_rd_20, (1 : Int32), r_5)
    else
      zL (F_X5_advance rd_fault rd_tokens n_rd_3) fun n_rd_8 : Int32 =>
      (rd_fault, rd_place, n_rd_8, (1 : Int32), r_5)
  else
    zL (F_X5_blame (2 : Int32) rd_fault rd_place rd_at f_rd_starts) fun z_28 : Int32 × Int32 =>
    zL (z_28.1) fun n_rd_23 : Int32 =>
    zL (z_28.2) fun n_rd_24 : Int32 =>
    (n_rd_23, n_rd_24, rd_at, rd_lawTold, tn_deep)
noncomputable def F_X5_readFalse (rd_fault : Int32) (rd_place : Int32) (rd_tokens : Int32) (rd_at : Int32) (rd_falseTold : Int32) (f_rd_kinds : Nat → Int32) (f_rd_starts : Nat → Int32) (f_rd_values : Nat → Int32) (tn_falseHours : Int32) : Int32 × Int32 × Int32 × Int32 × Int32 :=
  if rd_falseTold = (0 : Int32) then
    zL (F_X5_advance rd_fault rd_tokens rd_at) fun n_rd_3 : Int32 =>
    zL (F_X5_expectNumber (0 : Int32) (9 : Int32) rd_fault rd_place rd_tokens n_rd_3 f_rd_kinds f_rd_starts f_rd_values) fun z_12 : Int32 × Int32 × Int32 × Int32 =>
    zL (z_12.1) fun r_5 : Int32 =>
    zL (z_12.2.1) fun n_rd_6 : Int32 =>
    zL (z_12.2.2.1) fun n_rd_7 : Int32 =>
    zL (z_12.2.2.2) fun n_rd_8 : Int32 =>
    (n_rd_6, n_rd_7, n_rd_8, (1 : Int32), r_5)
  else
    zL (F_X5_blame (2 : Int32) rd_fault rd_place rd_at f_rd_starts) fun z_19 : Int32 × Int32 =>
    zL (z_19.1) fun n_rd_14 : Int32 =>
    zL (z_19.2) fun n_rd_15 : Int32 =>
    (n_rd_14, n_rd_15, rd_at, rd_falseTold, tn_falseHours)
noncomputable def F_X5_readStrays (rd_fault : Int32) (rd_place : Int32) (rd_tokens : Int32) (rd_at : Int32) (rd_strayCount : Int32) (f_rd_kinds : Nat → Int32) (f_rd_starts : Nat → Int32) (f_rd_stops : Nat → Int32) (f_rd_values : Nat → Int32) (f_tx : Nat → Int32) (tn_courts : Int32) (tn_people : Int32) (tn_strayers : Int32) (f_tn_strayParts : Nat → Int32) (f_tn_strayCourts : Nat → Int32) : Int32 × Int32 × Int32 × Int32 × Int32 × (Nat → Int32) × (Nat → Int32) :=
  if rd_strayCount < (4 : Int32) then
    zL (rd_strayCount + (1 : Int32)) fun x_2 : Int32 =>
    zL (F_X5_advance rd_fault rd_tokens rd_at) fun n_rd_4 : Int32 =>
    zL ((1 : Int32) <<< (tn_people &&& 31)) fun x_6 : Int32 =>
    zL (tn_strayers ||| x_6) fun x_7 : Int32 =>
    zL (F_X5_expectNumber (1 : Int32) (99 : Int32) rd_fault rd_place rd_tokens n_rd_4 f_rd_kinds f_rd_starts f_rd_values) fun z_15 : Int32 × Int32 × Int32 × Int32 =>
    zL (z_15.1) fun r_8 : Int32 =>
    zL (z_15.2.1) fun n_rd_9 : Int32 =>
    zL (z_15.2.2.1) fun n_rd_10 : Int32 =>
    zL (z_15.2.2.2) fun n_rd_11 : Int32 =>
    zL (upd f_tn_strayParts (Int32.toNatClampNeg tn_people) r_8) fun f_16 : Nat → Int32 =>
    zL (F_X5_expectWord n_rd_9 n_rd_10 rd_tokens n_rd_11 f_rd_kinds f_rd_starts f_rd_stops f_tx (8)) fun z_24 : Int32 × Int32 × Int32 =>
    zL (z_24.1) fun n_rd_18 : Int32 =>
    zL (z_24.2.1) fun n_rd_19 : Int32 =>
    zL (z_24.2.2) fun n_rd_20 : Int32 =>
    zL (F_X5_expectCourt n_rd_18 n_rd_19 rd_tokens n_rd_20 f_rd_kinds f_rd_starts f_rd_values tn_courts) fun z_32 : Int32 × Int32 × Int32 × Int32 =>
    zL (z_32.1) fun r_25 : Int32 =>
    zL (z_32.2.1) fun n_rd_26 : Int32 =>
    zL (z_32.2.2.1) fun n_rd_27 : Int32 =>
    zL (z_32.2.2.2) fun n_rd_28 : Int32 =>
    zL (upd f_tn_strayCourts (Int32.toNatClampNeg tn_people) r_25) fun f_33 : Nat → Int32 =>
    (n_rd_26, n_rd_27, n_rd_28, x_2, x_7, f_16, f_33)
  else
    zL (F_X5_blame (2 : Int32) rd_fault rd_place rd_at f_rd_starts) fun z_40 : Int32 × Int32 =>
    zL (z_40.1) fun n_rd_35 : Int32 =>
    zL (z_40.2) fun n_rd_36 : Int32 =>
    (n_rd_35, n_rd_36, rd_at, rd_strayCount, tn_strayers, f_tn_strayParts, f_tn_strayCourts)
noncomputable def K_X5_showPlaces_1_0 (g_tn_shows_2 : Nat → Int32) : (Nat → Int32) :=
  g_tn_shows_2
noncomputable def B_X5_showPlaces_1 (tn_courts : Int32) (tn_deep : Int32) (f_tn_above : Nat → Int32) (kc_1_0 : (Nat → Int32) → (Nat → Int32)) (ih_1 : Int32 → (Nat → Int32) → (Nat → Int32)) (v1_1 : Int32) (g_tn_shows_2 : Nat → Int32) : (Nat → Int32) :=
  if tn_courts ≤ v1_1 then
    kc_1_0 g_tn_shows_2
  else
    if tn_deep = (0 : Int32) then
      zL ((1 : Int32) <<< (v1_1 &&& 31)) fun x_5 : Int32 =>
      zL (upd g_tn_shows_2 (Int32.toNatClampNeg v1_1) x_5) fun f_6 : Nat → Int32 =>
      zL (v1_1 + Int32.ofInt 1) fun x_7 : Int32 =>
      ih_1 x_7 f_6
    else
      zL (f_tn_above (Int32.toNatClampNeg v1_1)) fun x_8 : Int32 =>
      zL ((1 : Int32) <<< (v1_1 &&& 31)) fun x_9 : Int32 =>
      zL (x_8 ||| x_9) fun x_10 : Int32 =>
      zL (upd g_tn_shows_2 (Int32.toNatClampNeg v1_1) x_10) fun f_11 : Nat → Int32 =>
      zL (v1_1 + Int32.ofInt 1) fun x_12 : Int32 =>
      ih_1 x_12 f_11
noncomputable def L_X5_showPlaces_1 (tn_courts : Int32) (tn_deep : Int32) (f_tn_above : Nat → Int32) (kc_1_0 : (Nat → Int32) → (Nat → Int32)) : Nat → Int32 → (Nat → Int32) → (Nat → Int32) := zLp (fun _ _ => (fun _ => 0)) (B_X5_showPlaces_1 tn_courts tn_deep f_tn_above kc_1_0)
theorem L_X5_showPlaces_1_s {tn_courts : Int32} {tn_deep : Int32} {f_tn_above : (Nat → Int32)} {kc_1_0 : ((Nat → Int32) → (Nat → Int32))} {t : Nat} {v1_1 : Int32} {g_tn_shows_2 : (Nat → Int32)} : L_X5_showPlaces_1 tn_courts tn_deep f_tn_above kc_1_0 (t + 1) v1_1 g_tn_shows_2 = B_X5_showPlaces_1 tn_courts tn_deep f_tn_above kc_1_0 (L_X5_showPlaces_1 tn_courts tn_deep f_tn_above kc_1_0 t) v1_1 g_tn_shows_2 := rfl
noncomputable def F_X5_showPlaces (tn_courts : Int32) (tn_deep : Int32) (f_tn_above : Nat → Int32) (f_tn_shows : Nat → Int32) : (Nat → Int32) :=
  L_X5_showPlaces_1 tn_courts tn_deep f_tn_above K_X5_showPlaces_1_0 12 (0 : Int32) f_tn_shows
noncomputable def K_X5_placeFrom_1_0 (g_tn_told_2 : Nat → Int32) : (Nat → Int32) :=
  g_tn_told_2
noncomputable def B_X5_placeFrom_1 (tn_hours : Int32) (tn_people : Int32) (p2 : Int32) (kc_1_0 : (Nat → Int32) → (Nat → Int32)) (ih_1 : Int32 → (Nat → Int32) → (Nat → Int32)) (v3_1 : Int32) (g_tn_told_2 : Nat → Int32) : (Nat → Int32) :=
  if tn_hours ≤ v3_1 then
    kc_1_0 g_tn_told_2
  else
    zL (tn_people * (48 : Int32)) fun x_4 : Int32 =>
    zL (x_4 + v3_1) fun x_5 : Int32 =>
    zL (upd g_tn_told_2 (Int32.toNatClampNeg x_5) p2) fun f_6 : Nat → Int32 =>
    zL (v3_1 + Int32.ofInt 1) fun x_7 : Int32 =>
    ih_1 x_7 f_6
noncomputable def L_X5_placeFrom_1 (tn_hours : Int32) (tn_people : Int32) (p2 : Int32) (kc_1_0 : (Nat → Int32) → (Nat → Int32)) : Nat → Int32 → (Nat → Int32) → (Nat → Int32) := zLp (fun _ _ => (fun _ => 0)) (B_X5_placeFrom_1 tn_hours tn_people p2 kc_1_0)
theorem L_X5_placeFrom_1_s {tn_hours : Int32} {tn_people : Int32} {p2 : Int32} {kc_1_0 : ((Nat → Int32) → (Nat → Int32))} {t : Nat} {v3_1 : Int32} {g_tn_told_2 : (Nat → Int32)} : L_X5_placeFrom_1 tn_hours tn_people p2 kc_1_0 (t + 1) v3_1 g_tn_told_2 = B_X5_placeFrom_1 tn_hours tn_people p2 kc_1_0 (L_X5_placeFrom_1 tn_hours tn_people p2 kc_1_0 t) v3_1 g_tn_told_2 := rfl
noncomputable def F_X5_placeFrom (p1 : Int32) (p2 : Int32) (tn_hours : Int32) (tn_people : Int32) (f_tn_told : Nat → Int32) : (Nat → Int32) :=
  L_X5_placeFrom_1 tn_hours tn_people p2 K_X5_placeFrom_1_0 50 p1 f_tn_told
noncomputable def K_X5_split_1_0 (p1 : Int32) (g_rd_kinds_5 : Nat → Int32) (w_rd_7_4 : Int32) (g_rd_starts_6 : Nat → Int32) (g_rd_stops_3 : Nat → Int32) (g_rd_values_7 : Nat → Int32) : Int32 × (Nat → Int32) × (Nat → Int32) × (Nat → Int32) × (Nat → Int32) :=
  zL (upd g_rd_kinds_5 (Int32.toNatClampNeg w_rd_7_4) 5) fun f_9 : Nat → Int32 =>
  zL (upd g_rd_starts_6 (Int32.toNatClampNeg w_rd_7_4) p1) fun f_10 : Nat → Int32 =>
  (w_rd_7_4, f_9, f_10, g_rd_stops_3, g_rd_values_7)
noncomputable def B_X5_split_1 (p1 : Int32) (f_tx : Nat → Int32) (kc_1_0 : (Nat → Int32) → Int32 → (Nat → Int32) → (Nat → Int32) → (Nat → Int32) → Int32 × (Nat → Int32) × (Nat → Int32) × (Nat → Int32) × (Nat → Int32)) (ih_1 : Int32 → Int32 → Int32 → (Nat → Int32) → (Nat → Int32) → (Nat → Int32) → (Nat → Int32) → Int32 × (Nat → Int32) × (Nat → Int32) × (Nat → Int32) × (Nat → Int32)) (v2_1 : Int32) (v3_2 : Int32) (w_rd_7_4 : Int32) (g_rd_kinds_5 : Nat → Int32) (g_rd_starts_6 : Nat → Int32) (g_rd_stops_3 : Nat → Int32) (g_rd_values_7 : Nat → Int32) : Int32 × (Nat → Int32) × (Nat → Int32) × (Nat → Int32) × (Nat → Int32) :=
  if p1 ≤ v3_2 then
    kc_1_0 g_rd_kinds_5 w_rd_7_4 g_rd_starts_6 g_rd_stops_3 g_rd_values_7
  else
    zL (f_tx (Int32.toNatClampNeg v3_2)) fun x_11 : Int32 =>
    zL (F_X5_kindOf x_11) fun r_12 : Int32 =>
    if r_12 = v2_1 then
      if r_12 = (1 : Int32) then
        zL (w_rd_7_4 - (1 : Int32)) fun x_48 : Int32 =>
        zL (v3_2 + (1 : Int32)) fun x_49 : Int32 =>
        zL (upd g_rd_stops_3 (Int32.toNatClampNeg x_48) x_49) fun f_50 : Nat → Int32 =>
        zL (v3_2 + Int32.ofInt 1) fun x_52 : Int32 =>
        ih_1 r_12 x_52 w_rd_7_4 g_rd_kinds_5 g_rd_starts_6 f_50 g_rd_values_7
      else
        if r_12 = (2 : Int32) then
          zL (w_rd_7_4 - (1 : Int32)) fun x_87 : Int32 =>
          zL (v3_2 + (1 : Int32)) fun x_88 : Int32 =>
          zL (upd g_rd_stops_3 (Int32.toNatClampNeg x_87) x_88) fun f_89 : Nat → Int32 =>
          zL (w_rd_7_4 - (1 : Int32)) fun x_91 : Int32 =>
          zL (w_rd_7_4 - (1 : Int32)) fun x_92 : Int32 =>
          zL (g_rd_values_7 (Int32.toNatClampNeg x_92)) fun x_93 : Int32 =>
          zL (x_93 * (10 : Int32)) fun x_94 : Int32 =>
          zL (f_tx (Int32.toNatClampNeg v3_2)) fun x_95 : Int32 =>
          zL (x_94 + x_11) fun x_96 : Int32 =>
          zL (x_96 - (48 : Int32)) fun x_97 : Int32 =>
          zL (if (100000 : Int32) < x_97 then (100000 : Int32) else x_97) fun x_98 : Int32 =>
          zL (upd g_rd_values_7 (Int32.toNatClampNeg x_91) x_98) fun f_99 : Nat → Int32 =>
          zL (v3_2 + Int32.ofInt 1) fun x_100 : Int32 =>
          ih_1 r_12 x_100 w_rd_7_4 g_rd_kinds_5 g_rd_starts_6 f_89 f_99
        else
          if r_12 = (0 : Int32) then
            zL (v3_2 + Int32.ofInt 1) fun x_57 : Int32 =>
            ih_1 r_12 x_57 w_rd_7_4 g_rd_kinds_5 g_rd_starts_6 g_rd_stops_3 g_rd_values_7
          else
            zL (F_X5_addToken r_12 v3_2 w_rd_7_4 g_rd_kinds_5 g_rd_starts_6 g_rd_values_7) fun z_68 : Int32 × (Nat → Int32) × (Nat → Int32) × (Nat → Int32) =>
            zL (z_68.1) fun n_rd_59 : Int32 =>
            zL (z_68.2.1) fun n_rd_kinds_60 : Nat → Int32 =>
            zL (z_68.2.2.1) fun n_rd_starts_61 : Nat → Int32 =>
            zL (z_68.2.2.2) fun n_rd_values_62 : Nat → Int32 =>
            zL (n_rd_59 - (1 : Int32)) fun x_70 : Int32 =>
            zL (v3_2 + (1 : Int32)) fun x_71 : Int32 =>
            zL (upd g_rd_stops_3 (Int32.toNatClampNeg x_70) x_71) fun f_72 : Nat → Int32 =>
            if r_12 = (2 : Int32) then
              zL (n_rd_59 - (1 : Int32)) fun x_75 : Int32 =>
              zL (n_rd_59 - (1 : Int32)) fun x_76 : Int32 =>
              zL (n_rd_values_62 (Int32.toNatClampNeg x_76)) fun x_77 : Int32 =>
              zL (x_77 * (10 : Int32)) fun x_78 : Int32 =>
              zL (f_tx (Int32.toNatClampNeg v3_2)) fun x_79 : Int32 =>
              zL (x_78 + x_11) fun x_80 : Int32 =>
              zL (x_80 - (48 : Int32)) fun x_81 : Int32 =>
              zL (if (100000 : Int32) < x_81 then (100000 : Int32) else x_81) fun x_82 : Int32 =>
              zL (upd n_rd_values_62 (Int32.toNatClampNeg x_75) x_82) fun f_83 : Nat → Int32 =>
              zL (v3_2 + Int32.ofInt 1) fun x_84 : Int32 =>
              ih_1 r_12 x_84 n_rd_59 n_rd_kinds_60 n_rd_starts_61 f_72 f_83
            else
              zL (v3_2 + Int32.ofInt 1) fun x_74 : Int32 =>
              ih_1 r_12 x_74 n_rd_59 n_rd_kinds_60 n_rd_starts_61 f_72 n_rd_values_62
    else
      if r_12 = (0 : Int32) then
        zL (v3_2 + Int32.ofInt 1) fun x_17 : Int32 =>
        ih_1 r_12 x_17 w_rd_7_4 g_rd_kinds_5 g_rd_starts_6 g_rd_stops_3 g_rd_values_7
      else
        zL (F_X5_addToken r_12 v3_2 w_rd_7_4 g_rd_kinds_5 g_rd_starts_6 g_rd_values_7) fun z_28 : Int32 × (Nat → Int32) × (Nat → Int32) × (Nat → Int32) =>
        zL (z_28.1) fun n_rd_19 : Int32 =>
        zL (z_28.2.1) fun n_rd_kinds_20 : Nat → Int32 =>
        zL (z_28.2.2.1) fun n_rd_starts_21 : Nat → Int32 =>
        zL (z_28.2.2.2) fun n_rd_values_22 : Nat → Int32 =>
        zL (n_rd_19 - (1 : Int32)) fun x_30 : Int32 =>
        zL (v3_2 + (1 : Int32)) fun x_31 : Int32 =>
        zL (upd g_rd_stops_3 (Int32.toNatClampNeg x_30) x_31) fun f_32 : Nat → Int32 =>
        if r_12 = (2 : Int32) then
          zL (n_rd_19 - (1 : Int32)) fun x_35 : Int32 =>
          zL (n_rd_19 - (1 : Int32)) fun x_36 : Int32 =>
          zL (n_rd_values_22 (Int32.toNatClampNeg x_36)) fun x_37 : Int32 =>
          zL (x_37 * (10 : Int32)) fun x_38 : Int32 =>
          zL (f_tx (Int32.toNatClampNeg v3_2)) fun x_39 : Int32 =>
          zL (x_38 + x_11) fun x_40 : Int32 =>
          zL (x_40 - (48 : Int32)) fun x_41 : Int32 =>
          zL (if (100000 : Int32) < x_41 then (100000 : Int32) else x_41) fun x_42 : Int32 =>
          zL (upd n_rd_values_22 (Int32.toNatClampNeg x_35) x_42) fun f_43 : Nat → Int32 =>
          zL (v3_2 + Int32.ofInt 1) fun x_44 : Int32 =>
          ih_1 r_12 x_44 n_rd_19 n_rd_kinds_20 n_rd_starts_21 f_32 f_43
        else
          zL (v3_2 + Int32.ofInt 1) fun x_34 : Int32 =>
          ih_1 r_12 x_34 n_rd_19 n_rd_kinds_20 n_rd_starts_21 f_32 n_rd_values_22
noncomputable def L_X5_split_1 (p1 : Int32) (f_tx : Nat → Int32) (kc_1_0 : (Nat → Int32) → Int32 → (Nat → Int32) → (Nat → Int32) → (Nat → Int32) → Int32 × (Nat → Int32) × (Nat → Int32) × (Nat → Int32) × (Nat → Int32)) : Nat → Int32 → Int32 → Int32 → (Nat → Int32) → (Nat → Int32) → (Nat → Int32) → (Nat → Int32) → Int32 × (Nat → Int32) × (Nat → Int32) × (Nat → Int32) × (Nat → Int32) := zLp (fun _ _ _ _ _ _ _ => (0, (fun _ => 0), (fun _ => 0), (fun _ => 0), (fun _ => 0))) (B_X5_split_1 p1 f_tx kc_1_0)
theorem L_X5_split_1_s {p1 : Int32} {f_tx : (Nat → Int32)} {kc_1_0 : ((Nat → Int32) → Int32 → (Nat → Int32) → (Nat → Int32) → (Nat → Int32) → Int32 × (Nat → Int32) × (Nat → Int32) × (Nat → Int32) × (Nat → Int32))} {t : Nat} {v2_1 : Int32} {v3_2 : Int32} {w_rd_7_4 : Int32} {g_rd_kinds_5 : (Nat → Int32)} {g_rd_starts_6 : (Nat → Int32)} {g_rd_stops_3 : (Nat → Int32)} {g_rd_values_7 : (Nat → Int32)} : L_X5_split_1 p1 f_tx kc_1_0 (t + 1) v2_1 v3_2 w_rd_7_4 g_rd_kinds_5 g_rd_starts_6 g_rd_stops_3 g_rd_values_7 = B_X5_split_1 p1 f_tx kc_1_0 (L_X5_split_1 p1 f_tx kc_1_0 t) v2_1 v3_2 w_rd_7_4 g_rd_kinds_5 g_rd_starts_6 g_rd_stops_3 g_rd_values_7 := rfl
noncomputable def F_X5_split (p1 : Int32) (f_rd_kinds : Nat → Int32) (f_rd_starts : Nat → Int32) (f_rd_stops : Nat → Int32) (f_rd_values : Nat → Int32) (f_tx : Nat → Int32) : Int32 × (Nat → Int32) × (Nat → Int32) × (Nat → Int32) × (Nat → Int32) :=
  L_X5_split_1 p1 f_tx (K_X5_split_1_0 p1) 1602 (0 : Int32) (0 : Int32) (0 : Int32) f_rd_kinds f_rd_starts f_rd_stops f_rd_values
noncomputable def K_X5_readPerson_1_0 (f_rd_kinds : Nat → Int32) (f_rd_starts : Nat → Int32) (f_rd_stops : Nat → Int32) (f_tx : Nat → Int32) (tn_people : Int32) (rd_strayCount : Int32) (tn_strayers : Int32) (f_tn_strayParts : Nat → Int32) (f_tn_strayCourts : Nat → Int32) (rd_tokens : Int32) (f_rd_values : Nat → Int32) (tn_courts : Int32) (w_rd_0_26 : Int32) (w_rd_8_28 : Int32) (w_rd_1_27 : Int32) (g_tn_told_29 : Nat → Int32) : Int32 × Int32 × Int32 × Int32 × Int32 × Int32 × (Nat → Int32) × (Nat → Int32) × (Nat → Int32) :=
  if w_rd_0_26 = (0 : Int32) then
    zL (F_X5_isWord w_rd_8_28 f_rd_kinds f_rd_starts f_rd_stops f_tx (11)) fun r_33 : Int32 =>
    if r_33 = (0 : Int32) then
      zL (tn_people + (1 : Int32)) fun x_35 : Int32 =>
      (w_rd_0_26, w_rd_1_27, w_rd_8_28, rd_strayCount, x_35, tn_strayers, g_tn_told_29, f_tn_strayParts, f_tn_strayCourts)
    else
      zL (F_X5_readStrays w_rd_0_26 w_rd_1_27 rd_tokens w_rd_8_28 rd_strayCount f_rd_kinds f_rd_starts f_rd_stops f_rd_values f_tx tn_courts tn_people tn_strayers f_tn_strayParts f_tn_strayCourts) fun z_51 : Int32 × Int32 × Int32 × Int32 × Int32 × (Nat → Int32) × (Nat → Int32) =>
      zL (z_51.1) fun n_rd_37 : Int32 =>
      zL (z_51.2.1) fun n_rd_38 : Int32 =>
      zL (z_51.2.2.1) fun n_rd_39 : Int32 =>
      zL (z_51.2.2.2.1) fun n_rd_40 : Int32 =>
      zL (z_51.2.2.2.2.1) fun n_tn_41 : Int32 =>
      zL (z_51.2.2.2.2.2.1) fun n_tn_strayParts_42 : Nat → Int32 =>
      zL (z_51.2.2.2.2.2.2) fun n_tn_strayCourts_43 : Nat → Int32 =>
      zL (tn_people + (1 : Int32)) fun x_52 : Int32 =>
      (n_rd_37, n_rd_38, n_rd_39, n_rd_40, x_52, n_tn_41, g_tn_told_29, n_tn_strayParts_42, n_tn_strayCourts_43)
  else
    zL (tn_people + (1 : Int32)) fun x_32 : Int32 =>
    (w_rd_0_26, w_rd_1_27, w_rd_8_28, rd_strayCount, x_32, tn_strayers, g_tn_told_29, f_tn_strayParts, f_tn_strayCourts)
noncomputable def K_X5_readPerson_1_1 (f_rd_kinds : Nat → Int32) (f_rd_starts : Nat → Int32) (f_rd_stops : Nat → Int32) (f_tx : Nat → Int32) (tn_people : Int32) (rd_strayCount : Int32) (tn_strayers : Int32) (f_tn_strayParts : Nat → Int32) (f_tn_strayCourts : Nat → Int32) (rd_tokens : Int32) (f_rd_values : Nat → Int32) (tn_courts : Int32) (w_rd_0_26 : Int32) (w_rd_8_28 : Int32) (w_rd_1_27 : Int32) (g_tn_told_29 : Nat → Int32) : Int32 × Int32 × Int32 × Int32 × Int32 × Int32 × (Nat → Int32) × (Nat → Int32) × (Nat → Int32) :=
  if w_rd_0_26 = (0 : Int32) then
    zL (F_X5_isWord w_rd_8_28 f_rd_kinds f_rd_starts f_rd_stops f_tx (11)) fun r_56 : Int32 =>
    if r_56 = (0 : Int32) then
      zL (tn_people + (1 : Int32)) fun x_58 : Int32 =>
      (w_rd_0_26, w_rd_1_27, w_rd_8_28, rd_strayCount, x_58, tn_strayers, g_tn_told_29, f_tn_strayParts, f_tn_strayCourts)
    else
      zL (F_X5_readStrays w_rd_0_26 w_rd_1_27 rd_tokens w_rd_8_28 rd_strayCount f_rd_kinds f_rd_starts f_rd_stops f_rd_values f_tx tn_courts tn_people tn_strayers f_tn_strayParts f_tn_strayCourts) fun z_74 : Int32 × Int32 × Int32 × Int32 × Int32 × (Nat → Int32) × (Nat → Int32) =>
      zL (z_74.1) fun n_rd_60 : Int32 =>
      zL (z_74.2.1) fun n_rd_61 : Int32 =>
      zL (z_74.2.2.1) fun n_rd_62 : Int32 =>
      zL (z_74.2.2.2.1) fun n_rd_63 : Int32 =>
      zL (z_74.2.2.2.2.1) fun n_tn_64 : Int32 =>
      zL (z_74.2.2.2.2.2.1) fun n_tn_strayParts_65 : Nat → Int32 =>
      zL (z_74.2.2.2.2.2.2) fun n_tn_strayCourts_66 : Nat → Int32 =>
      zL (tn_people + (1 : Int32)) fun x_75 : Int32 =>
      (n_rd_60, n_rd_61, n_rd_62, n_rd_63, x_75, n_tn_64, g_tn_told_29, n_tn_strayParts_65, n_tn_strayCourts_66)
  else
    zL (tn_people + (1 : Int32)) fun x_55 : Int32 =>
    (w_rd_0_26, w_rd_1_27, w_rd_8_28, rd_strayCount, x_55, tn_strayers, g_tn_told_29, f_tn_strayParts, f_tn_strayCourts)
noncomputable def K_X5_readPerson_1_2 (f_rd_kinds : Nat → Int32) (f_rd_starts : Nat → Int32) (f_rd_stops : Nat → Int32) (f_tx : Nat → Int32) (tn_people : Int32) (rd_strayCount : Int32) (tn_strayers : Int32) (f_tn_strayParts : Nat → Int32) (f_tn_strayCourts : Nat → Int32) (rd_tokens : Int32) (f_rd_values : Nat → Int32) (tn_courts : Int32) (w_rd_8_28 : Int32) (w_rd_0_26 : Int32) (w_rd_1_27 : Int32) (g_tn_told_29 : Nat → Int32) : Int32 × Int32 × Int32 × Int32 × Int32 × Int32 × (Nat → Int32) × (Nat → Int32) × (Nat → Int32) :=
  zL (F_X5_isWord w_rd_8_28 f_rd_kinds f_rd_starts f_rd_stops f_tx (11)) fun r_79 : Int32 =>
  if r_79 = (0 : Int32) then
    zL (tn_people + (1 : Int32)) fun x_81 : Int32 =>
    (w_rd_0_26, w_rd_1_27, w_rd_8_28, rd_strayCount, x_81, tn_strayers, g_tn_told_29, f_tn_strayParts, f_tn_strayCourts)
  else
    zL (F_X5_readStrays w_rd_0_26 w_rd_1_27 rd_tokens w_rd_8_28 rd_strayCount f_rd_kinds f_rd_starts f_rd_stops f_rd_values f_tx tn_courts tn_people tn_strayers f_tn_strayParts f_tn_strayCourts) fun z_97 : Int32 × Int32 × Int32 × Int32 × Int32 × (Nat → Int32) × (Nat → Int32) =>
    zL (z_97.1) fun n_rd_83 : Int32 =>
    zL (z_97.2.1) fun n_rd_84 : Int32 =>
    zL (z_97.2.2.1) fun n_rd_85 : Int32 =>
    zL (z_97.2.2.2.1) fun n_rd_86 : Int32 =>
    zL (z_97.2.2.2.2.1) fun n_tn_87 : Int32 =>
    zL (z_97.2.2.2.2.2.1) fun n_tn_strayParts_88 : Nat → Int32 =>
    zL (z_97.2.2.2.2.2.2) fun n_tn_strayCourts_89 : Nat → Int32 =>
    zL (tn_people + (1 : Int32)) fun x_98 : Int32 =>
    (n_rd_83, n_rd_84, n_rd_85, n_rd_86, x_98, n_tn_87, g_tn_told_29, n_tn_strayParts_88, n_tn_strayCourts_89)
noncomputable def B_X5_readPerson_1 (f_rd_kinds : Nat → Int32) (f_rd_starts : Nat → Int32) (f_rd_stops : Nat → Int32) (f_tx : Nat → Int32) (rd_tokens : Int32) (tn_hours : Int32) (f_rd_values : Nat → Int32) (tn_courts : Int32) (tn_people : Int32) (kc_1_0 : Int32 → Int32 → Int32 → (Nat → Int32) → Int32 × Int32 × Int32 × Int32 × Int32 × Int32 × (Nat → Int32) × (Nat → Int32) × (Nat → Int32)) (kc_1_1 : Int32 → Int32 → Int32 → (Nat → Int32) → Int32 × Int32 × Int32 × Int32 × Int32 × Int32 × (Nat → Int32) × (Nat → Int32) × (Nat → Int32)) (kc_1_2 : Int32 → Int32 → Int32 → (Nat → Int32) → Int32 × Int32 × Int32 × Int32 × Int32 × Int32 × (Nat → Int32) × (Nat → Int32) × (Nat → Int32)) (ih_1 : Int32 → Int32 → Int32 → Int32 → Int32 → (Nat → Int32) → Int32 × Int32 × Int32 × Int32 × Int32 × Int32 × (Nat → Int32) × (Nat → Int32) × (Nat → Int32)) (v1_24 : Int32) (v2_25 : Int32) (w_rd_0_26 : Int32) (w_rd_1_27 : Int32) (w_rd_8_28 : Int32) (g_tn_told_29 : Nat → Int32) : Int32 × Int32 × Int32 × Int32 × Int32 × Int32 × (Nat → Int32) × (Nat → Int32) × (Nat → Int32) :=
  if (48 : Int32) ≤ v2_25 then
    kc_1_0 w_rd_0_26 w_rd_8_28 w_rd_1_27 g_tn_told_29
  else
    if w_rd_0_26 = (0 : Int32) then
      zL (F_X5_isWord w_rd_8_28 f_rd_kinds f_rd_starts f_rd_stops f_tx (10)) fun r_76 : Int32 =>
      if r_76 = (0 : Int32) then
        kc_1_2 w_rd_8_28 w_rd_0_26 w_rd_1_27 g_tn_told_29
      else
        zL (F_X5_advance w_rd_0_26 rd_tokens w_rd_8_28) fun n_rd_100 : Int32 =>
        zL (v1_24 + (1 : Int32)) fun x_102 : Int32 =>
        zL (tn_hours - (1 : Int32)) fun x_103 : Int32 =>
        zL (F_X5_expectNumber x_102 x_103 w_rd_0_26 w_rd_1_27 rd_tokens n_rd_100 f_rd_kinds f_rd_starts f_rd_values) fun z_111 : Int32 × Int32 × Int32 × Int32 =>
        zL (z_111.1) fun r_104 : Int32 =>
        zL (z_111.2.1) fun n_rd_105 : Int32 =>
        zL (z_111.2.2.1) fun n_rd_106 : Int32 =>
        zL (z_111.2.2.2) fun n_rd_107 : Int32 =>
        zL (F_X5_expectWord n_rd_105 n_rd_106 rd_tokens n_rd_107 f_rd_kinds f_rd_starts f_rd_stops f_tx (9)) fun z_119 : Int32 × Int32 × Int32 =>
        zL (z_119.1) fun n_rd_113 : Int32 =>
        zL (z_119.2.1) fun n_rd_114 : Int32 =>
        zL (z_119.2.2) fun n_rd_115 : Int32 =>
        zL (F_X5_expectCourt n_rd_113 n_rd_114 rd_tokens n_rd_115 f_rd_kinds f_rd_starts f_rd_values tn_courts) fun z_127 : Int32 × Int32 × Int32 × Int32 =>
        zL (z_127.1) fun r_120 : Int32 =>
        zL (z_127.2.1) fun n_rd_121 : Int32 =>
        zL (z_127.2.2.1) fun n_rd_122 : Int32 =>
        zL (z_127.2.2.2) fun n_rd_123 : Int32 =>
        zL (F_X5_placeFrom r_104 r_120 tn_hours tn_people g_tn_told_29) fun n_tn_told_129 : Nat → Int32 =>
        zL (v2_25 + Int32.ofInt 1) fun x_131 : Int32 =>
        ih_1 r_104 x_131 n_rd_121 n_rd_122 n_rd_123 n_tn_told_129
    else
      kc_1_1 w_rd_0_26 w_rd_8_28 w_rd_1_27 g_tn_told_29
noncomputable def L_X5_readPerson_1 (f_rd_kinds : Nat → Int32) (f_rd_starts : Nat → Int32) (f_rd_stops : Nat → Int32) (f_tx : Nat → Int32) (rd_tokens : Int32) (tn_hours : Int32) (f_rd_values : Nat → Int32) (tn_courts : Int32) (tn_people : Int32) (kc_1_0 : Int32 → Int32 → Int32 → (Nat → Int32) → Int32 × Int32 × Int32 × Int32 × Int32 × Int32 × (Nat → Int32) × (Nat → Int32) × (Nat → Int32)) (kc_1_1 : Int32 → Int32 → Int32 → (Nat → Int32) → Int32 × Int32 × Int32 × Int32 × Int32 × Int32 × (Nat → Int32) × (Nat → Int32) × (Nat → Int32)) (kc_1_2 : Int32 → Int32 → Int32 → (Nat → Int32) → Int32 × Int32 × Int32 × Int32 × Int32 × Int32 × (Nat → Int32) × (Nat → Int32) × (Nat → Int32)) : Nat → Int32 → Int32 → Int32 → Int32 → Int32 → (Nat → Int32) → Int32 × Int32 × Int32 × Int32 × Int32 × Int32 × (Nat → Int32) × (Nat → Int32) × (Nat → Int32) := zLp (fun _ _ _ _ _ _ => (0, 0, 0, 0, 0, 0, (fun _ => 0), (fun _ => 0), (fun _ => 0))) (B_X5_readPerson_1 f_rd_kinds f_rd_starts f_rd_stops f_tx rd_tokens tn_hours f_rd_values tn_courts tn_people kc_1_0 kc_1_1 kc_1_2)
theorem L_X5_readPerson_1_s {f_rd_kinds : (Nat → Int32)} {f_rd_starts : (Nat → Int32)} {f_rd_stops : (Nat → Int32)} {f_tx : (Nat → Int32)} {rd_tokens : Int32} {tn_hours : Int32} {f_rd_values : (Nat → Int32)} {tn_courts : Int32} {tn_people : Int32} {kc_1_0 : (Int32 → Int32 → Int32 → (Nat → Int32) → Int32 × Int32 × Int32 × Int32 × Int32 × Int32 × (Nat → Int32) × (Nat → Int32) × (Nat → Int32))} {kc_1_1 : (Int32 → Int32 → Int32 → (Nat → Int32) → Int32 × Int32 × Int32 × Int32 × Int32 × Int32 × (Nat → Int32) × (Nat → Int32) × (Nat → Int32))} {kc_1_2 : (Int32 → Int32 → Int32 → (Nat → Int32) → Int32 × Int32 × Int32 × Int32 × Int32 × Int32 × (Nat → Int32) × (Nat → Int32) × (Nat → Int32))} {t : Nat} {v1_24 : Int32} {v2_25 : Int32} {w_rd_0_26 : Int32} {w_rd_1_27 : Int32} {w_rd_8_28 : Int32} {g_tn_told_29 : (Nat → Int32)} : L_X5_readPerson_1 f_rd_kinds f_rd_starts f_rd_stops f_tx rd_tokens tn_hours f_rd_values tn_courts tn_people kc_1_0 kc_1_1 kc_1_2 (t + 1) v1_24 v2_25 w_rd_0_26 w_rd_1_27 w_rd_8_28 g_tn_told_29 = B_X5_readPerson_1 f_rd_kinds f_rd_starts f_rd_stops f_tx rd_tokens tn_hours f_rd_values tn_courts tn_people kc_1_0 kc_1_1 kc_1_2 (L_X5_readPerson_1 f_rd_kinds f_rd_starts f_rd_stops f_tx rd_tokens tn_hours f_rd_values tn_courts tn_people kc_1_0 kc_1_1 kc_1_2 t) v1_24 v2_25 w_rd_0_26 w_rd_1_27 w_rd_8_28 g_tn_told_29 := rfl
noncomputable def F_X5_readPerson (rd_fault : Int32) (rd_place : Int32) (rd_tokens : Int32) (rd_at : Int32) (rd_strayCount : Int32) (f_rd_kinds : Nat → Int32) (f_rd_starts : Nat → Int32) (f_rd_stops : Nat → Int32) (f_rd_values : Nat → Int32) (f_tx : Nat → Int32) (tn_hours : Int32) (tn_courts : Int32) (tn_people : Int32) (tn_strayers : Int32) (f_tn_told : Nat → Int32) (f_tn_strayParts : Nat → Int32) (f_tn_strayCourts : Nat → Int32) : Int32 × Int32 × Int32 × Int32 × Int32 × Int32 × (Nat → Int32) × (Nat → Int32) × (Nat → Int32) :=
  if tn_people < (10 : Int32) then
    zL (F_X5_advance rd_fault rd_tokens rd_at) fun n_rd_3 : Int32 =>
    zL (F_X5_expectWord rd_fault rd_place rd_tokens n_rd_3 f_rd_kinds f_rd_starts f_rd_stops f_tx (9)) fun z_12 : Int32 × Int32 × Int32 =>
    zL (z_12.1) fun n_rd_6 : Int32 =>
    zL (z_12.2.1) fun n_rd_7 : Int32 =>
    zL (z_12.2.2) fun n_rd_8 : Int32 =>
    zL (F_X5_expectCourt n_rd_6 n_rd_7 rd_tokens n_rd_8 f_rd_kinds f_rd_starts f_rd_values tn_courts) fun z_20 : Int32 × Int32 × Int32 × Int32 =>
    zL (z_20.1) fun r_13 : Int32 =>
    zL (z_20.2.1) fun n_rd_14 : Int32 =>
    zL (z_20.2.2.1) fun n_rd_15 : Int32 =>
    zL (z_20.2.2.2) fun n_rd_16 : Int32 =>
    zL (F_X5_placeFrom (0 : Int32) r_13 tn_hours tn_people f_tn_told) fun n_tn_told_22 : Nat → Int32 =>
    L_X5_readPerson_1 f_rd_kinds f_rd_starts f_rd_stops f_tx rd_tokens tn_hours f_rd_values tn_courts tn_people (K_X5_readPerson_1_0 f_rd_kinds f_rd_starts f_rd_stops f_tx tn_people rd_strayCount tn_strayers f_tn_strayParts f_tn_strayCourts rd_tokens f_rd_values tn_courts) (K_X5_readPerson_1_1 f_rd_kinds f_rd_starts f_rd_stops f_tx tn_people rd_strayCount tn_strayers f_tn_strayParts f_tn_strayCourts rd_tokens f_rd_values tn_courts) (K_X5_readPerson_1_2 f_rd_kinds f_rd_starts f_rd_stops f_tx tn_people rd_strayCount tn_strayers f_tn_strayParts f_tn_strayCourts rd_tokens f_rd_values tn_courts) 50 (0 : Int32) (0 : Int32) n_rd_14 n_rd_15 n_rd_16 n_tn_told_22
  else
    zL (F_X5_blame (3 : Int32) rd_fault rd_place rd_at f_rd_starts) fun z_138 : Int32 × Int32 =>
    zL (z_138.1) fun n_rd_133 : Int32 =>
    zL (z_138.2) fun n_rd_134 : Int32 =>
    (n_rd_133, n_rd_134, rd_at, rd_strayCount, tn_people, tn_strayers, f_tn_told, f_tn_strayParts, f_tn_strayCourts)
noncomputable def F_X9_has_v1 (p0 : Int32) (p1 : Int32) : Int32 :=
  zL (p0 >>> (p1 &&& 31)) fun x_1 : Int32 =>
  zL (x_1 &&& (1 : Int32)) fun x_2 : Int32 =>
  if x_2 = (0 : Int32) then
    (0 : Int32)
  else
    (1 : Int32)
noncomputable def F_X5_joinTo (p1 : Int32) (p2 : Int32) (f_tn_doors : Nat → Int32) (f_tn_degrees : Nat → Int32) (f_tn_neighbours : Nat → Int32) : (Nat → Int32) × (Nat → Int32) × (Nat → Int32) :=
  zL (f_tn_doors (Int32.toNatClampNeg p1)) fun x_1 : Int32 =>
  zL (F_X9_has_v1 x_1 p2) fun r_2 : Int32 =>
  if r_2 = (0 : Int32) then
    zL (f_tn_doors (Int32.toNatClampNeg p1)) fun x_4 : Int32 =>
    zL ((1 : Int32) <<< (p2 &&& 31)) fun x_5 : Int32 =>
    zL (x_1 ||| x_5) fun x_6 : Int32 =>
    zL (upd f_tn_doors (Int32.toNatClampNeg p1) x_6) fun f_7 : Nat → Int32 =>
    zL (p1 * (10 : Int32)) fun x_8 : Int32 =>
    zL (f_tn_degrees (Int32.toNatClampNeg p1)) fun x_9 : Int32 =>
    zL (x_8 + x_9) fun x_10 : Int32 =>
    zL (upd f_tn_neighbours (Int32.toNatClampNeg x_10) p2) fun f_11 : Nat → Int32 =>
    zL (f_tn_degrees (Int32.toNatClampNeg p1)) fun x_12 : Int32 =>
    zL (x_9 + (1 : Int32)) fun x_13 : Int32 =>
    zL (upd f_tn_degrees (Int32.toNatClampNeg p1) x_13) fun f_14 : Nat → Int32 =>
    (f_7, f_14, f_11)
  else
    (f_tn_doors, f_tn_degrees, f_tn_neighbours)
noncomputable def F_X5_readGate (rd_fault : Int32) (rd_place : Int32) (rd_tokens : Int32) (rd_at : Int32) (f_rd_kinds : Nat → Int32) (f_rd_starts : Nat → Int32) (f_rd_stops : Nat → Int32) (f_rd_values : Nat → Int32) (f_tx : Nat → Int32) (tn_courts : Int32) (tn_gateCount : Int32) (f_tn_doors : Nat → Int32) (f_tn_degrees : Nat → Int32) (f_tn_neighbours : Nat → Int32) (f_tn_oneEnd : Nat → Int32) (f_tn_otherEnd : Nat → Int32) : Int32 × Int32 × Int32 × Int32 × (Nat → Int32) × (Nat → Int32) × (Nat → Int32) × (Nat → Int32) × (Nat → Int32) :=
  if tn_gateCount < (16 : Int32) then
    zL (F_X5_advance rd_fault rd_tokens rd_at) fun n_rd_3 : Int32 =>
    zL (F_X5_expectCourt rd_fault rd_place rd_tokens n_rd_3 f_rd_kinds f_rd_starts f_rd_values tn_courts) fun z_12 : Int32 × Int32 × Int32 × Int32 =>
    zL (z_12.1) fun r_5 : Int32 =>
    zL (z_12.2.1) fun n_rd_6 : Int32 =>
    zL (z_12.2.2.1) fun n_rd_7 : Int32 =>
    zL (z_12.2.2.2) fun n_rd_8 : Int32 =>
    zL (F_X5_expectWord n_rd_6 n_rd_7 rd_tokens n_rd_8 f_rd_kinds f_rd_starts f_rd_stops f_tx (8)) fun z_20 : Int32 × Int32 × Int32 =>
    zL (z_20.1) fun n_rd_14 : Int32 =>
    zL (z_20.2.1) fun n_rd_15 : Int32 =>
    zL (z_20.2.2) fun n_rd_16 : Int32 =>
    zL (f_rd_kinds (Int32.toNatClampNeg n_rd_16)) fun x_21 : Int32 =>
    if x_21 = (2 : Int32) then
      zL (f_rd_values (Int32.toNatClampNeg n_rd_16)) fun x_55 : Int32 =>
      if x_55 = r_5 then
        zL (F_X5_blame (2 : Int32) n_rd_14 n_rd_15 n_rd_16 f_rd_starts) fun z_95 : Int32 × Int32 =>
        zL (z_95.1) fun n_rd_90 : Int32 =>
        zL (z_95.2) fun n_rd_91 : Int32 =>
        zL (F_X5_expectCourt n_rd_90 n_rd_91 rd_tokens n_rd_16 f_rd_kinds f_rd_starts f_rd_values tn_courts) fun z_103 : Int32 × Int32 × Int32 × Int32 =>
        zL (z_103.1) fun r_96 : Int32 =>
        zL (z_103.2.1) fun n_rd_97 : Int32 =>
        zL (z_103.2.2.1) fun n_rd_98 : Int32 =>
        zL (z_103.2.2.2) fun n_rd_99 : Int32 =>
        if n_rd_97 = (0 : Int32) then
          zL (upd f_tn_oneEnd (Int32.toNatClampNeg tn_gateCount) r_5) fun f_105 : Nat → Int32 =>
          zL (upd f_tn_otherEnd (Int32.toNatClampNeg tn_gateCount) r_96) fun f_106 : Nat → Int32 =>
          zL (tn_gateCount + (1 : Int32)) fun x_107 : Int32 =>
          zL (F_X5_joinTo r_5 r_96 f_tn_doors f_tn_degrees f_tn_neighbours) fun z_117 : (Nat → Int32) × (Nat → Int32) × (Nat → Int32) =>
          zL (z_117.1) fun n_tn_doors_109 : Nat → Int32 =>
          zL (z_117.2.1) fun n_tn_degrees_110 : Nat → Int32 =>
          zL (z_117.2.2) fun n_tn_neighbours_111 : Nat → Int32 =>
          zL (F_X5_joinTo r_96 r_5 n_tn_doors_109 n_tn_degrees_110 n_tn_neighbours_111) fun z_127 : (Nat → Int32) × (Nat → Int32) × (Nat → Int32) =>
          zL (z_127.1) fun n_tn_doors_119 : Nat → Int32 =>
          zL (z_127.2.1) fun n_tn_degrees_120 : Nat → Int32 =>
          zL (z_127.2.2) fun n_tn_neighbours_121 : Nat → Int32 =>
          (n_rd_97, n_rd_98, n_rd_99, x_107, n_tn_doors_119, n_tn_degrees_120, n_tn_neighbours_121, f_105, f_106)
        else
          (n_rd_97, n_rd_98, n_rd_99, tn_gateCount, f_tn_doors, f_tn_degrees, f_tn_neighbours, f_tn_oneEnd, f_tn_otherEnd)
      else
        zL (F_X5_expectCourt n_rd_14 n_rd_15 rd_tokens n_rd_16 f_rd_kinds f_rd_starts f_rd_values tn_courts) fun z_64 : Int32 × Int32 × Int32 × Int32 =>
        zL (z_64.1) fun r_57 : Int32 =>
        zL (z_64.2.1) fun n_rd_58 : Int32 =>
        zL (z_64.2.2.1) fun n_rd_59 : Int32 =>
        zL (z_64.2.2.2) fun n_rd_60 : Int32 =>
        if n_rd_58 = (0 : Int32) then
          zL (upd f_tn_oneEnd (Int32.toNatClampNeg tn_gateCount) r_5) fun f_66 : Nat → Int32 =>
          zL (upd f_tn_otherEnd (Int32.toNatClampNeg tn_gateCount) r_57) fun f_67 : Nat → Int32 =>
          zL (tn_gateCount + (1 : Int32)) fun x_68 : Int32 =>
          zL (F_X5_joinTo r_5 r_57 f_tn_doors f_tn_degrees f_tn_neighbours) fun z_78 : (Nat → Int32) × (Nat → Int32) × (Nat → Int32) =>
          zL (z_78.1) fun n_tn_doors_70 : Nat → Int32 =>
          zL (z_78.2.1) fun n_tn_degrees_71 : Nat → Int32 =>
          zL (z_78.2.2) fun n_tn_neighbours_72 : Nat → Int32 =>
          zL (F_X5_joinTo r_57 r_5 n_tn_doors_70 n_tn_degrees_71 n_tn_neighbours_72) fun z_88 : (Nat → Int32) × (Nat → Int32) × (Nat → Int32) =>
          zL (z_88.1) fun n_tn_doors_80 : Nat → Int32 =>
          zL (z_88.2.1) fun n_tn_degrees_81 : Nat → Int32 =>
          zL (z_88.2.2) fun n_tn_neighbours_82 : Nat → Int32 =>
          (n_rd_58, n_rd_59, n_rd_60, x_68, n_tn_doors_80, n_tn_degrees_81, n_tn_neighbours_82, f_66, f_67)
        else
          (n_rd_58, n_rd_59, n_rd_60, tn_gateCount, f_tn_doors, f_tn_degrees, f_tn_neighbours, f_tn_oneEnd, f_tn_otherEnd)
    else
      zL (F_X5_expectCourt n_rd_14 n_rd_15 rd_tokens n_rd_16 f_rd_kinds f_rd_starts f_rd_values tn_courts) fun z_30 : Int32 × Int32 × Int32 × Int32 =>
      zL (z_30.1) fun r_23 : Int32 =>
      zL (z_30.2.1) fun n_rd_24 : Int32 =>
      zL (z_30.2.2.1) fun n_rd_25 : Int32 =>
      zL (z_30.2.2.2) fun n_rd_26 : Int32 =>
      if n_rd_24 = (0 : Int32) then
        zL (upd f_tn_oneEnd (Int32.toNatClampNeg tn_gateCount) r_5) fun f_32 : Nat → Int32 =>
        zL (upd f_tn_otherEnd (Int32.toNatClampNeg tn_gateCount) r_23) fun f_33 : Nat → Int32 =>
        zL (tn_gateCount + (1 : Int32)) fun x_34 : Int32 =>
        zL (F_X5_joinTo r_5 r_23 f_tn_doors f_tn_degrees f_tn_neighbours) fun z_44 : (Nat → Int32) × (Nat → Int32) × (Nat → Int32) =>
        zL (z_44.1) fun n_tn_doors_36 : Nat → Int32 =>
        zL (z_44.2.1) fun n_tn_degrees_37 : Nat → Int32 =>
        zL (z_44.2.2) fun n_tn_neighbours_38 : Nat → Int32 =>
        zL (F_X5_joinTo r_23 r_5 n_tn_doors_36 n_tn_degrees_37 n_tn_neighbours_38) fun z_54 : (Nat → Int32) × (Nat → Int32) × (Nat → Int32) =>
        zL (z_54.1) fun n_tn_doors_46 : Nat → Int32 =>
        zL (z_54.2.1) fun n_tn_degrees_47 : Nat → Int32 =>
        zL (z_54.2.2) fun n_tn_neighbours_48 : Nat → Int32 =>
        (n_rd_24, n_rd_25, n_rd_26, x_34, n_tn_doors_46, n_tn_degrees_47, n_tn_neighbours_48, f_32, f_33)
      else
        (n_rd_24, n_rd_25, n_rd_26, tn_gateCount, f_tn_doors, f_tn_degrees, f_tn_neighbours, f_tn_oneEnd, f_tn_otherEnd)
  else
    zL (F_X5_blame (3 : Int32) rd_fault rd_place rd_at f_rd_starts) fun z_134 : Int32 × Int32 =>
    zL (z_134.1) fun n_rd_129 : Int32 =>
    zL (z_134.2) fun n_rd_130 : Int32 =>
    (n_rd_129, n_rd_130, rd_at, tn_gateCount, f_tn_doors, f_tn_degrees, f_tn_neighbours, f_tn_oneEnd, f_tn_otherEnd)
noncomputable def F_X5_readLine (rd_fault : Int32) (rd_place : Int32) (rd_tokens : Int32) (rd_at : Int32) (rd_strayCount : Int32) (rd_lawTold : Int32) (rd_falseTold : Int32) (f_rd_kinds : Nat → Int32) (f_rd_starts : Nat → Int32) (f_rd_stops : Nat → Int32) (f_rd_values : Nat → Int32) (f_tx : Nat → Int32) (tn_hours : Int32) (tn_courts : Int32) (tn_gateCount : Int32) (tn_people : Int32) (tn_lines : Int32) (tn_falseHours : Int32) (tn_strayers : Int32) (tn_deep : Int32) (f_tn_above : Nat → Int32) (f_tn_doors : Nat → Int32) (f_tn_degrees : Nat → Int32) (f_tn_neighbours : Nat → Int32) (f_tn_oneEnd : Nat → Int32) (f_tn_otherEnd : Nat → Int32) (f_tn_told : Nat → Int32) (f_tn_strayParts : Nat → Int32) (f_tn_strayCourts : Nat → Int32) : Int32 × Int32 × Int32 × Int32 × Int32 × Int32 × Int32 × Int32 × Int32 × Int32 × Int32 × Int32 × Int32 × Int32 × (Nat → Int32) × (Nat → Int32) × (Nat → Int32) × (Nat → Int32) × (Nat → Int32) × (Nat → Int32) × (Nat → Int32) × (Nat → Int32) × (Nat → Int32) :=
  if tn_lines = (0 : Int32) then
    zL (F_X5_readHours rd_fault rd_place rd_tokens rd_at f_rd_kinds f_rd_starts f_rd_stops f_rd_values f_tx) fun z_211 : Int32 × Int32 × Int32 × Int32 × Int32 × Int32 =>
    zL (z_211.1) fun n_rd_199 : Int32 =>
    zL (z_211.2.1) fun n_rd_200 : Int32 =>
    zL (z_211.2.2.1) fun n_rd_201 : Int32 =>
    zL (z_211.2.2.2.1) fun n_tn_202 : Int32 =>
    zL (z_211.2.2.2.2.1) fun n_tn_203 : Int32 =>
    zL (z_211.2.2.2.2.2) fun n_tn_204 : Int32 =>
    zL (f_rd_kinds (Int32.toNatClampNeg n_rd_201)) fun x_212 : Int32 =>
    if x_212 = (3 : Int32) then
      zL (F_X5_advance n_rd_199 rd_tokens n_rd_201) fun n_rd_215 : Int32 =>
      zL (tn_lines + (1 : Int32)) fun x_217 : Int32 =>
      (n_rd_199, n_rd_200, n_rd_215, rd_strayCount, rd_lawTold, rd_falseTold, n_tn_202, n_tn_203, tn_gateCount, tn_people, x_217, tn_falseHours, tn_strayers, n_tn_204, f_tn_above, f_tn_doors, f_tn_degrees, f_tn_neighbours, f_tn_oneEnd, f_tn_otherEnd, f_tn_told, f_tn_strayParts, f_tn_strayCourts)
    else
      zL (F_X5_blame (1 : Int32) n_rd_199 n_rd_200 n_rd_201 f_rd_starts) fun z_224 : Int32 × Int32 =>
      zL (z_224.1) fun n_rd_219 : Int32 =>
      zL (z_224.2) fun n_rd_220 : Int32 =>
      zL (F_X5_advance n_rd_219 rd_tokens n_rd_201) fun n_rd_226 : Int32 =>
      zL (tn_lines + (1 : Int32)) fun x_228 : Int32 =>
      (n_rd_219, n_rd_220, n_rd_226, rd_strayCount, rd_lawTold, rd_falseTold, n_tn_202, n_tn_203, tn_gateCount, tn_people, x_228, tn_falseHours, tn_strayers, n_tn_204, f_tn_above, f_tn_doors, f_tn_degrees, f_tn_neighbours, f_tn_oneEnd, f_tn_otherEnd, f_tn_told, f_tn_strayParts, f_tn_strayCourts)
  else
    zL (F_X5_isWord rd_at f_rd_kinds f_rd_starts f_rd_stops f_tx (0)) fun r_2 : Int32 =>
    if r_2 = (0 : Int32) then
      zL (F_X5_isWord rd_at f_rd_kinds f_rd_starts f_rd_stops f_tx (1)) fun r_4 : Int32 =>
      if r_4 = (0 : Int32) then
        zL (F_X5_isWord rd_at f_rd_kinds f_rd_starts f_rd_stops f_tx (2)) fun r_6 : Int32 =>
        if r_6 = (0 : Int32) then
          zL (F_X5_isWord rd_at f_rd_kinds f_rd_starts f_rd_stops f_tx (3)) fun r_8 : Int32 =>
          if r_8 = (0 : Int32) then
            zL (F_X5_isWord rd_at f_rd_kinds f_rd_starts f_rd_stops f_tx (4)) fun r_10 : Int32 =>
            if r_10 = (0 : Int32) then
              zL (F_X5_blame (1 : Int32) rd_fault rd_place rd_at f_rd_starts) fun z_18 : Int32 × Int32 =>
              zL (z_18.1) fun n_rd_13 : Int32 =>
              zL (z_18.2) fun n_rd_14 : Int32 =>
              zL (f_rd_kinds (Int32.toNatClampNeg rd_at)) fun x_19 : Int32 =>
              if x_19 = (3 : Int32) then
                zL (F_X5_advance n_rd_13 rd_tokens rd_at) fun n_rd_22 : Int32 =>
                zL (tn_lines + (1 : Int32)) fun x_24 : Int32 =>
                (n_rd_13, n_rd_14, n_rd_22, rd_strayCount, rd_lawTold, rd_falseTold, tn_hours, tn_courts, tn_gateCount, tn_people, x_24, tn_falseHours, tn_strayers, tn_deep, f_tn_above, f_tn_doors, f_tn_degrees, f_tn_neighbours, f_tn_oneEnd, f_tn_otherEnd, f_tn_told, f_tn_strayParts, f_tn_strayCourts)
              else
                zL (F_X5_blame (1 : Int32) n_rd_13 n_rd_14 rd_at f_rd_starts) fun z_31 : Int32 × Int32 =>
                zL (z_31.1) fun n_rd_26 : Int32 =>
                zL (z_31.2) fun n_rd_27 : Int32 =>
                zL (F_X5_advance n_rd_26 rd_tokens rd_at) fun n_rd_33 : Int32 =>
                zL (tn_lines + (1 : Int32)) fun x_35 : Int32 =>
                (n_rd_26, n_rd_27, n_rd_33, rd_strayCount, rd_lawTold, rd_falseTold, tn_hours, tn_courts, tn_gateCount, tn_people, x_35, tn_falseHours, tn_strayers, tn_deep, f_tn_above, f_tn_doors, f_tn_degrees, f_tn_neighbours, f_tn_oneEnd, f_tn_otherEnd, f_tn_told, f_tn_strayParts, f_tn_strayCourts)
            else
              zL (F_X5_readFalse rd_fault rd_place rd_tokens rd_at rd_falseTold f_rd_kinds f_rd_starts f_rd_values tn_falseHours) fun z_47 : Int32 × Int32 × Int32 × Int32 × Int32 =>
              zL (z_47.1) fun n_rd_37 : Int32 =>
              zL (z_47.2.1) fun n_rd_38 : Int32 =>
              zL (z_47.2.2.1) fun n_rd_39 : Int32 =>
              zL (z_47.2.2.2.1) fun n_rd_40 : Int32 =>
              zL (z_47.2.2.2.2) fun n_tn_41 : Int32 =>
              zL (f_rd_kinds (Int32.toNatClampNeg n_rd_39)) fun x_48 : Int32 =>
              if x_48 = (3 : Int32) then
                zL (F_X5_advance n_rd_37 rd_tokens n_rd_39) fun n_rd_51 : Int32 =>
                zL (tn_lines + (1 : Int32)) fun x_53 : Int32 =>
                (n_rd_37, n_rd_38, n_rd_51, rd_strayCount, rd_lawTold, n_rd_40, tn_hours, tn_courts, tn_gateCount, tn_people, x_53, n_tn_41, tn_strayers, tn_deep, f_tn_above, f_tn_doors, f_tn_degrees, f_tn_neighbours, f_tn_oneEnd, f_tn_otherEnd, f_tn_told, f_tn_strayParts, f_tn_strayCourts)
              else
                zL (F_X5_blame (1 : Int32) n_rd_37 n_rd_38 n_rd_39 f_rd_starts) fun z_60 : Int32 × Int32 =>
                zL (z_60.1) fun n_rd_55 : Int32 =>
                zL (z_60.2) fun n_rd_56 : Int32 =>
                zL (F_X5_advance n_rd_55 rd_tokens n_rd_39) fun n_rd_62 : Int32 =>
                zL (tn_lines + (1 : Int32)) fun x_64 : Int32 =>
                (n_rd_55, n_rd_56, n_rd_62, rd_strayCount, rd_lawTold, n_rd_40, tn_hours, tn_courts, tn_gateCount, tn_people, x_64, n_tn_41, tn_strayers, tn_deep, f_tn_above, f_tn_doors, f_tn_degrees, f_tn_neighbours, f_tn_oneEnd, f_tn_otherEnd, f_tn_told, f_tn_strayParts, f_tn_strayCourts)
          else
            zL (F_X5_readLaw rd_fault rd_place rd_tokens rd_at rd_lawTold f_rd_kinds f_rd_starts f_rd_stops f_tx tn_deep) fun z_76 : Int32 × Int32 × Int32 × Int32 × Int32 =>
            zL (z_76.1) fun n_rd_66 : Int32 =>
            zL (z_76.2.1) fun n_rd_67 : Int32 =>
            zL (z_76.2.2.1) fun n_rd_68 : Int32 =>
            zL (z_76.2.2.2.1) fun n_rd_69 : Int32 =>
            zL (z_76.2.2.2.2) fun n_tn_70 : Int32 =>
            zL (f_rd_kinds (Int32.toNatClampNeg n_rd_68)) fun x_77 : Int32 =>
            if x_77 = (3 : Int32) then
              zL (F_X5_advance n_rd_66 rd_tokens n_rd_68) fun n_rd_80 : Int32 =>
              zL (tn_lines + (1 : Int32)) fun x_82 : Int32 =>
              (n_rd_66, n_rd_67, n_rd_80, rd_strayCount, n_rd_69, rd_falseTold, tn_hours, tn_courts, tn_gateCount, tn_people, x_82, tn_falseHours, tn_strayers, n_tn_70, f_tn_above, f_tn_doors, f_tn_degrees, f_tn_neighbours, f_tn_oneEnd, f_tn_otherEnd, f_tn_told, f_tn_strayParts, f_tn_strayCourts)
            else
              zL (F_X5_blame (1 : Int32) n_rd_66 n_rd_67 n_rd_68 f_rd_starts) fun z_89 : Int32 × Int32 =>
              zL (z_89.1) fun n_rd_84 : Int32 =>
              zL (z_89.2) fun n_rd_85 : Int32 =>
              zL (F_X5_advance n_rd_84 rd_tokens n_rd_68) fun n_rd_91 : Int32 =>
              zL (tn_lines + (1 : Int32)) fun x_93 : Int32 =>
              (n_rd_84, n_rd_85, n_rd_91, rd_strayCount, n_rd_69, rd_falseTold, tn_hours, tn_courts, tn_gateCount, tn_people, x_93, tn_falseHours, tn_strayers, n_tn_70, f_tn_above, f_tn_doors, f_tn_degrees, f_tn_neighbours, f_tn_oneEnd, f_tn_otherEnd, f_tn_told, f_tn_strayParts, f_tn_strayCourts)
        else
          zL (F_X5_readPerson rd_fault rd_place rd_tokens rd_at rd_strayCount f_rd_kinds f_rd_starts f_rd_stops f_rd_values f_tx tn_hours tn_courts tn_people tn_strayers f_tn_told f_tn_strayParts f_tn_strayCourts) fun z_113 : Int32 × Int32 × Int32 × Int32 × Int32 × Int32 × (Nat → Int32) × (Nat → Int32) × (Nat → Int32) =>
          zL (z_113.1) fun n_rd_95 : Int32 =>
          zL (z_113.2.1) fun n_rd_96 : Int32 =>
          zL (z_113.2.2.1) fun n_rd_97 : Int32 =>
          zL (z_113.2.2.2.1) fun n_rd_98 : Int32 =>
          zL (z_113.2.2.2.2.1) fun n_tn_99 : Int32 =>
          zL (z_113.2.2.2.2.2.1) fun n_tn_100 : Int32 =>
          zL (z_113.2.2.2.2.2.2.1) fun n_tn_told_101 : Nat → Int32 =>
          zL (z_113.2.2.2.2.2.2.2.1) fun n_tn_strayParts_102 : Nat → Int32 =>
          zL (z_113.2.2.2.2.2.2.2.2) fun n_tn_strayCourts_103 : Nat → Int32 =>
          zL (f_rd_kinds (Int32.toNatClampNeg n_rd_97)) fun x_114 : Int32 =>
          if x_114 = (3 : Int32) then
            zL (F_X5_advance n_rd_95 rd_tokens n_rd_97) fun n_rd_117 : Int32 =>
            zL (tn_lines + (1 : Int32)) fun x_119 : Int32 =>
            (n_rd_95, n_rd_96, n_rd_117, n_rd_98, rd_lawTold, rd_falseTold, tn_hours, tn_courts, tn_gateCount, n_tn_99, x_119, tn_falseHours, n_tn_100, tn_deep, f_tn_above, f_tn_doors, f_tn_degrees, f_tn_neighbours, f_tn_oneEnd, f_tn_otherEnd, n_tn_told_101, n_tn_strayParts_102, n_tn_strayCourts_103)
          else
            zL (F_X5_blame (1 : Int32) n_rd_95 n_rd_96 n_rd_97 f_rd_starts) fun z_126 : Int32 × Int32 =>
            zL (z_126.1) fun n_rd_121 : Int32 =>
            zL (z_126.2) fun n_rd_122 : Int32 =>
            zL (F_X5_advance n_rd_121 rd_tokens n_rd_97) fun n_rd_128 : Int32 =>
            zL (tn_lines + (1 : Int32)) fun x_130 : Int32 =>
            (n_rd_121, n_rd_122, n_rd_128, n_rd_98, rd_lawTold, rd_falseTold, tn_hours, tn_courts, tn_gateCount, n_tn_99, x_130, tn_falseHours, n_tn_100, tn_deep, f_tn_above, f_tn_doors, f_tn_degrees, f_tn_neighbours, f_tn_oneEnd, f_tn_otherEnd, n_tn_told_101, n_tn_strayParts_102, n_tn_strayCourts_103)
      else
        zL (F_X5_readGate rd_fault rd_place rd_tokens rd_at f_rd_kinds f_rd_starts f_rd_stops f_rd_values f_tx tn_courts tn_gateCount f_tn_doors f_tn_degrees f_tn_neighbours f_tn_oneEnd f_tn_otherEnd) fun z_151 : Int32 × Int32 × Int32 × Int32 × (Nat → Int32) × (Nat → Int32) × (Nat → Int32) × (Nat → Int32) × (Nat → Int32) =>
        zL (z_151.1) fun n_rd_132 : Int32 =>
        zL (z_151.2.1) fun n_rd_133 : Int32 =>
        zL (z_151.2.2.1) fun n_rd_134 : Int32 =>
        zL (z_151.2.2.2.1) fun n_tn_135 : Int32 =>
        zL (z_151.2.2.2.2.1) fun n_tn_doors_136 : Nat → Int32 =>
        zL (z_151.2.2.2.2.2.1) fun n_tn_degrees_137 : Nat → Int32 =>
        zL (z_151.2.2.2.2.2.2.1) fun n_tn_neighbours_138 : Nat → Int32 =>
        zL (z_151.2.2.2.2.2.2.2.1) fun n_tn_oneEnd_139 : Nat → Int32 =>
        zL (z_151.2.2.2.2.2.2.2.2) fun n_tn_otherEnd_140 : Nat → Int32 =>
        zL (f_rd_kinds (Int32.toNatClampNeg n_rd_134)) fun x_152 : Int32 =>
        if x_152 = (3 : Int32) then
          zL (F_X5_advance n_rd_132 rd_tokens n_rd_134) fun n_rd_155 : Int32 =>
          zL (tn_lines + (1 : Int32)) fun x_157 : Int32 =>
          (n_rd_132, n_rd_133, n_rd_155, rd_strayCount, rd_lawTold, rd_falseTold, tn_hours, tn_courts, n_tn_135, tn_people, x_157, tn_falseHours, tn_strayers, tn_deep, f_tn_above, n_tn_doors_136, n_tn_degrees_137, n_tn_neighbours_138, n_tn_oneEnd_139, n_tn_otherEnd_140, f_tn_told, f_tn_strayParts, f_tn_strayCourts)
        else
          zL (F_X5_blame (1 : Int32) n_rd_132 n_rd_133 n_rd_134 f_rd_starts) fun z_164 : Int32 × Int32 =>
          zL (z_164.1) fun n_rd_159 : Int32 =>
          zL (z_164.2) fun n_rd_160 : Int32 =>
          zL (F_X5_advance n_rd_159 rd_tokens n_rd_134) fun n_rd_166 : Int32 =>
          zL (tn_lines + (1 : Int32)) fun x_168 : Int32 =>
          (n_rd_159, n_rd_160, n_rd_166, rd_strayCount, rd_lawTold, rd_falseTold, tn_hours, tn_courts, n_tn_135, tn_people, x_168, tn_falseHours, tn_strayers, tn_deep, f_tn_above, n_tn_doors_136, n_tn_degrees_137, n_tn_neighbours_138, n_tn_oneEnd_139, n_tn_otherEnd_140, f_tn_told, f_tn_strayParts, f_tn_strayCourts)
    else
      zL (F_X5_readCourt rd_fault rd_place rd_tokens rd_at f_rd_kinds f_rd_starts f_rd_stops f_rd_values f_tx tn_courts f_tn_above) fun z_180 : Int32 × Int32 × Int32 × Int32 × (Nat → Int32) =>
      zL (z_180.1) fun n_rd_170 : Int32 =>
      zL (z_180.2.1) fun n_rd_171 : Int32 =>
      zL (z_180.2.2.1) fun n_rd_172 : Int32 =>
      zL (z_180.2.2.2.1) fun n_tn_173 : Int32 =>
      zL (z_180.2.2.2.2) fun n_tn_above_174 : Nat → Int32 =>
      zL (f_rd_kinds (Int32.toNatClampNeg n_rd_172)) fun x_181 : Int32 =>
      if x_181 = (3 : Int32) then
        zL (F_X5_advance n_rd_170 rd_tokens n_rd_172) fun n_rd_184 : Int32 =>
        zL (tn_lines + (1 : Int32)) fun x_186 : Int32 =>
        (n_rd_170, n_rd_171, n_rd_184, rd_strayCount, rd_lawTold, rd_falseTold, tn_hours, n_tn_173, tn_gateCount, tn_people, x_186, tn_falseHours, tn_strayers, tn_deep, n_tn_above_174, f_tn_doors, f_tn_degrees, f_tn_neighbours, f_tn_oneEnd, f_tn_otherEnd, f_tn_told, f_tn_strayParts, f_tn_strayCourts)
      else
        zL (F_X5_blame (1 : Int32) n_rd_170 n_rd_171 n_rd_172 f_rd_starts) fun z_193 : Int32 × Int32 =>
        zL (z_193.1) fun n_rd_188 : Int32 =>
        zL (z_193.2) fun n_rd_189 : Int32 =>
        zL (F_X5_advance n_rd_188 rd_tokens n_rd_172) fun n_rd_195 : Int32 =>
        zL (tn_lines + (1 : Int32)) fun x_197 : Int32 =>
        (n_rd_188, n_rd_189, n_rd_195, rd_strayCount, rd_lawTold, rd_falseTold, tn_hours, n_tn_173, tn_gateCount, tn_people, x_197, tn_falseHours, tn_strayers, tn_deep, n_tn_above_174, f_tn_doors, f_tn_degrees, f_tn_neighbours, f_tn_oneEnd, f_tn_otherEnd, f_tn_told, f_tn_strayParts, f_tn_strayCourts)
noncomputable def K_X5_read_1_0 (g_36 : Nat → Int32) (n_rd_3 : Int32) (n_rd_kinds_4 : Nat → Int32) (n_rd_starts_5 : Nat → Int32) (n_rd_stops_6 : Nat → Int32) (n_rd_values_7 : Nat → Int32) (w_q_14_1_52 : Int32) (w_q_14_7_58 : Int32) (g_q_16_59 : Nat → Int32) (w_rd_0_45 : Int32) (w_rd_1_46 : Int32) (w_rd_8_47 : Int32) (w_rd_10_48 : Int32) (w_rd_11_49 : Int32) (w_rd_12_50 : Int32) (w_q_14_0_51 : Int32) (w_q_14_2_53 : Int32) (w_q_14_3_54 : Int32) (w_q_14_4_55 : Int32) (w_q_14_5_56 : Int32) (w_q_14_6_57 : Int32) (g_q_17_60 : Nat → Int32) (g_q_18_61 : Nat → Int32) (g_q_19_62 : Nat → Int32) (g_q_21_63 : Nat → Int32) (g_q_22_64 : Nat → Int32) (g_q_23_65 : Nat → Int32) (g_q_24_66 : Nat → Int32) (g_q_25_67 : Nat → Int32) : Int32 × Int32 × Int32 × Int32 × Int32 × Int32 × Int32 × (Nat → Int32) × (Nat → Int32) × (Nat → Int32) × (Nat → Int32) × Int32 × Int32 × Int32 × Int32 × Int32 × Int32 × Int32 × Int32 × (Nat → Int32) × (Nat → Int32) × (Nat → Int32) × (Nat → Int32) × (Nat → Int32) × (Nat → Int32) × (Nat → Int32) × (Nat → Int32) × (Nat → Int32) × (Nat → Int32) :=
  zL (F_X5_showPlaces w_q_14_1_52 w_q_14_7_58 g_q_16_59 g_36) fun n_tn_shows_70 : Nat → Int32 =>
  (w_rd_0_45, w_rd_1_46, n_rd_3, w_rd_8_47, w_rd_10_48, w_rd_11_49, w_rd_12_50, n_rd_kinds_4, n_rd_starts_5, n_rd_stops_6, n_rd_values_7, w_q_14_0_51, w_q_14_1_52, w_q_14_2_53, w_q_14_3_54, w_q_14_4_55, w_q_14_5_56, w_q_14_6_57, w_q_14_7_58, g_q_16_59, g_q_17_60, g_q_18_61, g_q_19_62, n_tn_shows_70, g_q_21_63, g_q_22_64, g_q_23_65, g_q_24_66, g_q_25_67)
noncomputable def K_X5_read_1_1 (g_36 : Nat → Int32) (n_rd_3 : Int32) (n_rd_kinds_4 : Nat → Int32) (n_rd_starts_5 : Nat → Int32) (n_rd_stops_6 : Nat → Int32) (n_rd_values_7 : Nat → Int32) (w_q_14_1_52 : Int32) (w_q_14_7_58 : Int32) (g_q_16_59 : Nat → Int32) (w_rd_0_45 : Int32) (w_rd_1_46 : Int32) (w_rd_8_47 : Int32) (w_rd_10_48 : Int32) (w_rd_11_49 : Int32) (w_rd_12_50 : Int32) (w_q_14_0_51 : Int32) (w_q_14_2_53 : Int32) (w_q_14_3_54 : Int32) (w_q_14_4_55 : Int32) (w_q_14_5_56 : Int32) (w_q_14_6_57 : Int32) (g_q_17_60 : Nat → Int32) (g_q_18_61 : Nat → Int32) (g_q_19_62 : Nat → Int32) (g_q_21_63 : Nat → Int32) (g_q_22_64 : Nat → Int32) (g_q_23_65 : Nat → Int32) (g_q_24_66 : Nat → Int32) (g_q_25_67 : Nat → Int32) : Int32 × Int32 × Int32 × Int32 × Int32 × Int32 × Int32 × (Nat → Int32) × (Nat → Int32) × (Nat → Int32) × (Nat → Int32) × Int32 × Int32 × Int32 × Int32 × Int32 × Int32 × Int32 × Int32 × (Nat → Int32) × (Nat → Int32) × (Nat → Int32) × (Nat → Int32) × (Nat → Int32) × (Nat → Int32) × (Nat → Int32) × (Nat → Int32) × (Nat → Int32) × (Nat → Int32) :=
  zL (F_X5_showPlaces w_q_14_1_52 w_q_14_7_58 g_q_16_59 g_36) fun n_tn_shows_75 : Nat → Int32 =>
  (w_rd_0_45, w_rd_1_46, n_rd_3, w_rd_8_47, w_rd_10_48, w_rd_11_49, w_rd_12_50, n_rd_kinds_4, n_rd_starts_5, n_rd_stops_6, n_rd_values_7, w_q_14_0_51, w_q_14_1_52, w_q_14_2_53, w_q_14_3_54, w_q_14_4_55, w_q_14_5_56, w_q_14_6_57, w_q_14_7_58, g_q_16_59, g_q_17_60, g_q_18_61, g_q_19_62, n_tn_shows_75, g_q_21_63, g_q_22_64, g_q_23_65, g_q_24_66, g_q_25_67)
noncomputable def K_X5_read_1_2 (g_36 : Nat → Int32) (n_rd_3 : Int32) (n_rd_kinds_4 : Nat → Int32) (n_rd_starts_5 : Nat → Int32) (n_rd_stops_6 : Nat → Int32) (n_rd_values_7 : Nat → Int32) (w_q_14_1_52 : Int32) (w_q_14_7_58 : Int32) (g_q_16_59 : Nat → Int32) (w_rd_0_45 : Int32) (w_rd_1_46 : Int32) (w_rd_8_47 : Int32) (w_rd_10_48 : Int32) (w_rd_11_49 : Int32) (w_rd_12_50 : Int32) (w_q_14_0_51 : Int32) (w_q_14_2_53 : Int32) (w_q_14_3_54 : Int32) (w_q_14_4_55 : Int32) (w_q_14_5_56 : Int32) (w_q_14_6_57 : Int32) (g_q_17_60 : Nat → Int32) (g_q_18_61 : Nat → Int32) (g_q_19_62 : Nat → Int32) (g_q_21_63 : Nat → Int32) (g_q_22_64 : Nat → Int32) (g_q_23_65 : Nat → Int32) (g_q_24_66 : Nat → Int32) (g_q_25_67 : Nat → Int32) : Int32 × Int32 × Int32 × Int32 × Int32 × Int32 × Int32 × (Nat → Int32) × (Nat → Int32) × (Nat → Int32) × (Nat → Int32) × Int32 × Int32 × Int32 × Int32 × Int32 × Int32 × Int32 × Int32 × (Nat → Int32) × (Nat → Int32) × (Nat → Int32) × (Nat → Int32) × (Nat → Int32) × (Nat → Int32) × (Nat → Int32) × (Nat → Int32) × (Nat → Int32) × (Nat → Int32) :=
  zL (F_X5_showPlaces w_q_14_1_52 w_q_14_7_58 g_q_16_59 g_36) fun n_tn_shows_79 : Nat → Int32 =>
  (w_rd_0_45, w_rd_1_46, n_rd_3, w_rd_8_47, w_rd_10_48, w_rd_11_49, w_rd_12_50, n_rd_kinds_4, n_rd_starts_5, n_rd_stops_6, n_rd_values_7, w_q_14_0_51, w_q_14_1_52, w_q_14_2_53, w_q_14_3_54, w_q_14_4_55, w_q_14_5_56, w_q_14_6_57, w_q_14_7_58, g_q_16_59, g_q_17_60, g_q_18_61, g_q_19_62, n_tn_shows_79, g_q_21_63, g_q_22_64, g_q_23_65, g_q_24_66, g_q_25_67)
noncomputable def B_X5_read_1 (n_rd_kinds_4 : Nat → Int32) (n_rd_3 : Int32) (n_rd_starts_5 : Nat → Int32) (n_rd_stops_6 : Nat → Int32) (n_rd_values_7 : Nat → Int32) (f_tx : Nat → Int32) (kc_1_0 : Int32 → Int32 → (Nat → Int32) → Int32 → Int32 → Int32 → Int32 → Int32 → Int32 → Int32 → Int32 → Int32 → Int32 → Int32 → Int32 → (Nat → Int32) → (Nat → Int32) → (Nat → Int32) → (Nat → Int32) → (Nat → Int32) → (Nat → Int32) → (Nat → Int32) → (Nat → Int32) → Int32 × Int32 × Int32 × Int32 × Int32 × Int32 × Int32 × (Nat → Int32) × (Nat → Int32) × (Nat → Int32) × (Nat → Int32) × Int32 × Int32 × Int32 × Int32 × Int32 × Int32 × Int32 × Int32 × (Nat → Int32) × (Nat → Int32) × (Nat → Int32) × (Nat → Int32) × (Nat → Int32) × (Nat → Int32) × (Nat → Int32) × (Nat → Int32) × (Nat → Int32) × (Nat → Int32)) (kc_1_1 : Int32 → Int32 → (Nat → Int32) → Int32 → Int32 → Int32 → Int32 → Int32 → Int32 → Int32 → Int32 → Int32 → Int32 → Int32 → Int32 → (Nat → Int32) → (Nat → Int32) → (Nat → Int32) → (Nat → Int32) → (Nat → Int32) → (Nat → Int32) → (Nat → Int32) → (Nat → Int32) → Int32 × Int32 × Int32 × Int32 × Int32 × Int32 × Int32 × (Nat → Int32) × (Nat → Int32) × (Nat → Int32) × (Nat → Int32) × Int32 × Int32 × Int32 × Int32 × Int32 × Int32 × Int32 × Int32 × (Nat → Int32) × (Nat → Int32) × (Nat → Int32) × (Nat → Int32) × (Nat → Int32) × (Nat → Int32) × (Nat → Int32) × (Nat → Int32) × (Nat → Int32) × (Nat → Int32)) (kc_1_2 : Int32 → Int32 → (Nat → Int32) → Int32 → Int32 → Int32 → Int32 → Int32 → Int32 → Int32 → Int32 → Int32 → Int32 → Int32 → Int32 → (Nat → Int32) → (Nat → Int32) → (Nat → Int32) → (Nat → Int32) → (Nat → Int32) → (Nat → Int32) → (Nat → Int32) → (Nat → Int32) → Int32 × Int32 × Int32 × Int32 × Int32 × Int32 × Int32 × (Nat → Int32) × (Nat → Int32) × (Nat → Int32) × (Nat → Int32) × Int32 × Int32 × Int32 × Int32 × Int32 × Int32 × Int32 × Int32 × (Nat → Int32) × (Nat → Int32) × (Nat → Int32) × (Nat → Int32) × (Nat → Int32) × (Nat → Int32) × (Nat → Int32) × (Nat → Int32) × (Nat → Int32) × (Nat → Int32)) (ih_1 : Int32 → Int32 → Int32 → Int32 → Int32 → Int32 → Int32 → Int32 → Int32 → Int32 → Int32 → Int32 → Int32 → Int32 → Int32 → (Nat → Int32) → (Nat → Int32) → (Nat → Int32) → (Nat → Int32) → (Nat → Int32) → (Nat → Int32) → (Nat → Int32) → (Nat → Int32) → (Nat → Int32) → Int32 × Int32 × Int32 × Int32 × Int32 × Int32 × Int32 × (Nat → Int32) × (Nat → Int32) × (Nat → Int32) × (Nat → Int32) × Int32 × Int32 × Int32 × Int32 × Int32 × Int32 × Int32 × Int32 × (Nat → Int32) × (Nat → Int32) × (Nat → Int32) × (Nat → Int32) × (Nat → Int32) × (Nat → Int32) × (Nat → Int32) × (Nat → Int32) × (Nat → Int32) × (Nat → Int32)) (v3_44 : Int32) (w_rd_0_45 : Int32) (w_rd_1_46 : Int32) (w_rd_8_47 : Int32) (w_rd_10_48 : Int32) (w_rd_11_49 : Int32) (w_rd_12_50 : Int32) (w_q_14_0_51 : Int32) (w_q_14_1_52 : Int32) (w_q_14_2_53 : Int32) (w_q_14_3_54 : Int32) (w_q_14_4_55 : Int32) (w_q_14_5_56 : Int32) (w_q_14_6_57 : Int32) (w_q_14_7_58 : Int32) (g_q_16_59 : Nat → Int32) (g_q_17_60 : Nat → Int32) (g_q_18_61 : Nat → Int32) (g_q_19_62 : Nat → Int32) (g_q_21_63 : Nat → Int32) (g_q_22_64 : Nat → Int32) (g_q_23_65 : Nat → Int32) (g_q_24_66 : Nat → Int32) (g_q_25_67 : Nat → Int32) : Int32 × Int32 × Int32 × Int32 × Int32 × Int32 × Int32 × (Nat → Int32) × (Nat → Int32) × (Nat → Int32) × (Nat → Int32) × Int32 × Int32 × Int32 × Int32 × Int32 × Int32 × Int32 × Int32 × (Nat → Int32) × (Nat → Int32) × (Nat → Int32) × (Nat → Int32) × (Nat → Int32) × (Nat → Int32) × (Nat → Int32) × (Nat → Int32) × (Nat → Int32) × (Nat → Int32) :=
  if (1600 : Int32) ≤ v3_44 then
    kc_1_0 w_q_14_1_52 w_q_14_7_58 g_q_16_59 w_rd_0_45 w_rd_1_46 w_rd_8_47 w_rd_10_48 w_rd_11_49 w_rd_12_50 w_q_14_0_51 w_q_14_2_53 w_q_14_3_54 w_q_14_4_55 w_q_14_5_56 w_q_14_6_57 g_q_17_60 g_q_18_61 g_q_19_62 g_q_21_63 g_q_22_64 g_q_23_65 g_q_24_66 g_q_25_67
  else
    zL (n_rd_kinds_4 (Int32.toNatClampNeg w_rd_8_47)) fun x_72 : Int32 =>
    if x_72 = (5 : Int32) then
      kc_1_1 w_q_14_1_52 w_q_14_7_58 g_q_16_59 w_rd_0_45 w_rd_1_46 w_rd_8_47 w_rd_10_48 w_rd_11_49 w_rd_12_50 w_q_14_0_51 w_q_14_2_53 w_q_14_3_54 w_q_14_4_55 w_q_14_5_56 w_q_14_6_57 g_q_17_60 g_q_18_61 g_q_19_62 g_q_21_63 g_q_22_64 g_q_23_65 g_q_24_66 g_q_25_67
    else
      if w_rd_0_45 = (0 : Int32) then
        zL (F_X5_readLine w_rd_0_45 w_rd_1_46 n_rd_3 w_rd_8_47 w_rd_10_48 w_rd_11_49 w_rd_12_50 n_rd_kinds_4 n_rd_starts_5 n_rd_stops_6 n_rd_values_7 f_tx w_q_14_0_51 w_q_14_1_52 w_q_14_2_53 w_q_14_3_54 w_q_14_4_55 w_q_14_5_56 w_q_14_6_57 w_q_14_7_58 g_q_16_59 g_q_17_60 g_q_18_61 g_q_19_62 g_q_21_63 g_q_22_64 g_q_23_65 g_q_24_66 g_q_25_67) fun z_129 : Int32 × Int32 × Int32 × Int32 × Int32 × Int32 × Int32 × Int32 × Int32 × Int32 × Int32 × Int32 × Int32 × Int32 × (Nat → Int32) × (Nat → Int32) × (Nat → Int32) × (Nat → Int32) × (Nat → Int32) × (Nat → Int32) × (Nat → Int32) × (Nat → Int32) × (Nat → Int32) =>
        zL (z_129.1) fun n_rd_82 : Int32 =>
        zL (z_129.2.1) fun n_rd_83 : Int32 =>
        zL (z_129.2.2.1) fun n_rd_84 : Int32 =>
        zL (z_129.2.2.2.1) fun n_rd_85 : Int32 =>
        zL (z_129.2.2.2.2.1) fun n_rd_86 : Int32 =>
        zL (z_129.2.2.2.2.2.1) fun n_rd_87 : Int32 =>
        zL (z_129.2.2.2.2.2.2.1) fun n_tn_88 : Int32 =>
        zL (z_129.2.2.2.2.2.2.2.1) fun n_tn_89 : Int32 =>
        zL (z_129.2.2.2.2.2.2.2.2.1) fun n_tn_90 : Int32 =>
        zL (z_129.2.2.2.2.2.2.2.2.2.1) fun n_tn_91 : Int32 =>
        zL (z_129.2.2.2.2.2.2.2.2.2.2.1) fun n_tn_92 : Int32 =>
        zL (z_129.2.2.2.2.2.2.2.2.2.2.2.1) fun n_tn_93 : Int32 =>
        zL (z_129.2.2.2.2.2.2.2.2.2.2.2.2.1) fun n_tn_94 : Int32 =>
        zL (z_129.2.2.2.2.2.2.2.2.2.2.2.2.2.1) fun n_tn_95 : Int32 =>
        zL (z_129.2.2.2.2.2.2.2.2.2.2.2.2.2.2.1) fun n_tn_above_96 : Nat → Int32 =>
        zL (z_129.2.2.2.2.2.2.2.2.2.2.2.2.2.2.2.1) fun n_tn_doors_97 : Nat → Int32 =>
        zL (z_129.2.2.2.2.2.2.2.2.2.2.2.2.2.2.2.2.1) fun n_tn_degrees_98 : Nat → Int32 =>
        zL (z_129.2.2.2.2.2.2.2.2.2.2.2.2.2.2.2.2.2.1) fun n_tn_neighbours_99 : Nat → Int32 =>
        zL (z_129.2.2.2.2.2.2.2.2.2.2.2.2.2.2.2.2.2.2.1) fun n_tn_oneEnd_100 : Nat → Int32 =>
        zL (z_129.2.2.2.2.2.2.2.2.2.2.2.2.2.2.2.2.2.2.2.1) fun n_tn_otherEnd_101 : Nat → Int32 =>
        zL (z_129.2.2.2.2.2.2.2.2.2.2.2.2.2.2.2.2.2.2.2.2.1) fun n_tn_told_102 : Nat → Int32 =>
        zL (z_129.2.2.2.2.2.2.2.2.2.2.2.2.2.2.2.2.2.2.2.2.2.1) fun n_tn_strayParts_103 : Nat → Int32 =>
        zL (z_129.2.2.2.2.2.2.2.2.2.2.2.2.2.2.2.2.2.2.2.2.2.2) fun n_tn_strayCourts_104 : Nat → Int32 =>
        zL (v3_44 + Int32.ofInt 1) fun x_130 : Int32 =>
        ih_1 x_130 n_rd_82 n_rd_83 n_rd_84 n_rd_85 n_rd_86 n_rd_87 n_tn_88 n_tn_89 n_tn_90 n_tn_91 n_tn_92 n_tn_93 n_tn_94 n_tn_95 n_tn_above_96 n_tn_doors_97 n_tn_degrees_98 n_tn_neighbours_99 n_tn_oneEnd_100 n_tn_otherEnd_101 n_tn_told_102 n_tn_strayParts_103 n_tn_strayCourts_104
      else
        kc_1_2 w_q_14_1_52 w_q_14_7_58 g_q_16_59 w_rd_0_45 w_rd_1_46 w_rd_8_47 w_rd_10_48 w_rd_11_49 w_rd_12_50 w_q_14_0_51 w_q_14_2_53 w_q_14_3_54 w_q_14_4_55 w_q_14_5_56 w_q_14_6_57 g_q_17_60 g_q_18_61 g_q_19_62 g_q_21_63 g_q_22_64 g_q_23_65 g_q_24_66 g_q_25_67
noncomputable def L_X5_read_1 (n_rd_kinds_4 : Nat → Int32) (n_rd_3 : Int32) (n_rd_starts_5 : Nat → Int32) (n_rd_stops_6 : Nat → Int32) (n_rd_values_7 : Nat → Int32) (f_tx : Nat → Int32) (kc_1_0 : Int32 → Int32 → (Nat → Int32) → Int32 → Int32 → Int32 → Int32 → Int32 → Int32 → Int32 → Int32 → Int32 → Int32 → Int32 → Int32 → (Nat → Int32) → (Nat → Int32) → (Nat → Int32) → (Nat → Int32) → (Nat → Int32) → (Nat → Int32) → (Nat → Int32) → (Nat → Int32) → Int32 × Int32 × Int32 × Int32 × Int32 × Int32 × Int32 × (Nat → Int32) × (Nat → Int32) × (Nat → Int32) × (Nat → Int32) × Int32 × Int32 × Int32 × Int32 × Int32 × Int32 × Int32 × Int32 × (Nat → Int32) × (Nat → Int32) × (Nat → Int32) × (Nat → Int32) × (Nat → Int32) × (Nat → Int32) × (Nat → Int32) × (Nat → Int32) × (Nat → Int32) × (Nat → Int32)) (kc_1_1 : Int32 → Int32 → (Nat → Int32) → Int32 → Int32 → Int32 → Int32 → Int32 → Int32 → Int32 → Int32 → Int32 → Int32 → Int32 → Int32 → (Nat → Int32) → (Nat → Int32) → (Nat → Int32) → (Nat → Int32) → (Nat → Int32) → (Nat → Int32) → (Nat → Int32) → (Nat → Int32) → Int32 × Int32 × Int32 × Int32 × Int32 × Int32 × Int32 × (Nat → Int32) × (Nat → Int32) × (Nat → Int32) × (Nat → Int32) × Int32 × Int32 × Int32 × Int32 × Int32 × Int32 × Int32 × Int32 × (Nat → Int32) × (Nat → Int32) × (Nat → Int32) × (Nat → Int32) × (Nat → Int32) × (Nat → Int32) × (Nat → Int32) × (Nat → Int32) × (Nat → Int32) × (Nat → Int32)) (kc_1_2 : Int32 → Int32 → (Nat → Int32) → Int32 → Int32 → Int32 → Int32 → Int32 → Int32 → Int32 → Int32 → Int32 → Int32 → Int32 → Int32 → (Nat → Int32) → (Nat → Int32) → (Nat → Int32) → (Nat → Int32) → (Nat → Int32) → (Nat → Int32) → (Nat → Int32) → (Nat → Int32) → Int32 × Int32 × Int32 × Int32 × Int32 × Int32 × Int32 × (Nat → Int32) × (Nat → Int32) × (Nat → Int32) × (Nat → Int32) × Int32 × Int32 × Int32 × Int32 × Int32 × Int32 × Int32 × Int32 × (Nat → Int32) × (Nat → Int32) × (Nat → Int32) × (Nat → Int32) × (Nat → Int32) × (Nat → Int32) × (Nat → Int32) × (Nat → Int32) × (Nat → Int32) × (Nat → Int32)) : Nat → Int32 → Int32 → Int32 → Int32 → Int32 → Int32 → Int32 → Int32 → Int32 → Int32 → Int32 → Int32 → Int32 → Int32 → Int32 → (Nat → Int32) → (Nat → Int32) → (Nat → Int32) → (Nat → Int32) → (Nat → Int32) → (Nat → Int32) → (Nat → Int32) → (Nat → Int32) → (Nat → Int32) → Int32 × Int32 × Int32 × Int32 × Int32 × Int32 × Int32 × (Nat → Int32) × (Nat → Int32) × (Nat → Int32) × (Nat → Int32) × Int32 × Int32 × Int32 × Int32 × Int32 × Int32 × Int32 × Int32 × (Nat → Int32) × (Nat → Int32) × (Nat → Int32) × (Nat → Int32) × (Nat → Int32) × (Nat → Int32) × (Nat → Int32) × (Nat → Int32) × (Nat → Int32) × (Nat → Int32) := zLp (fun _ _ _ _ _ _ _ _ _ _ _ _ _ _ _ _ _ _ _ _ _ _ _ _ => (0, 0, 0, 0, 0, 0, 0, (fun _ => 0), (fun _ => 0), (fun _ => 0), (fun _ => 0), 0, 0, 0, 0, 0, 0, 0, 0, (fun _ => 0), (fun _ => 0), (fun _ => 0), (fun _ => 0), (fun _ => 0), (fun _ => 0), (fun _ => 0), (fun _ => 0), (fun _ => 0), (fun _ => 0))) (B_X5_read_1 n_rd_kinds_4 n_rd_3 n_rd_starts_5 n_rd_stops_6 n_rd_values_7 f_tx kc_1_0 kc_1_1 kc_1_2)
theorem L_X5_read_1_s {n_rd_kinds_4 : (Nat → Int32)} {n_rd_3 : Int32} {n_rd_starts_5 : (Nat → Int32)} {n_rd_stops_6 : (Nat → Int32)} {n_rd_values_7 : (Nat → Int32)} {f_tx : (Nat → Int32)} {kc_1_0 : (Int32 → Int32 → (Nat → Int32) → Int32 → Int32 → Int32 → Int32 → Int32 → Int32 → Int32 → Int32 → Int32 → Int32 → Int32 → Int32 → (Nat → Int32) → (Nat → Int32) → (Nat → Int32) → (Nat → Int32) → (Nat → Int32) → (Nat → Int32) → (Nat → Int32) → (Nat → Int32) → Int32 × Int32 × Int32 × Int32 × Int32 × Int32 × Int32 × (Nat → Int32) × (Nat → Int32) × (Nat → Int32) × (Nat → Int32) × Int32 × Int32 × Int32 × Int32 × Int32 × Int32 × Int32 × Int32 × (Nat → Int32) × (Nat → Int32) × (Nat → Int32) × (Nat → Int32) × (Nat → Int32) × (Nat → Int32) × (Nat → Int32) × (Nat → Int32) × (Nat → Int32) × (Nat → Int32))} {kc_1_1 : (Int32 → Int32 → (Nat → Int32) → Int32 → Int32 → Int32 → Int32 → Int32 → Int32 → Int32 → Int32 → Int32 → Int32 → Int32 → Int32 → (Nat → Int32) → (Nat → Int32) → (Nat → Int32) → (Nat → Int32) → (Nat → Int32) → (Nat → Int32) → (Nat → Int32) → (Nat → Int32) → Int32 × Int32 × Int32 × Int32 × Int32 × Int32 × Int32 × (Nat → Int32) × (Nat → Int32) × (Nat → Int32) × (Nat → Int32) × Int32 × Int32 × Int32 × Int32 × Int32 × Int32 × Int32 × Int32 × (Nat → Int32) × (Nat → Int32) × (Nat → Int32) × (Nat → Int32) × (Nat → Int32) × (Nat → Int32) × (Nat → Int32) × (Nat → Int32) × (Nat → Int32) × (Nat → Int32))} {kc_1_2 : (Int32 → Int32 → (Nat → Int32) → Int32 → Int32 → Int32 → Int32 → Int32 → Int32 → Int32 → Int32 → Int32 → Int32 → Int32 → Int32 → (Nat → Int32) → (Nat → Int32) → (Nat → Int32) → (Nat → Int32) → (Nat → Int32) → (Nat → Int32) → (Nat → Int32) → (Nat → Int32) → Int32 × Int32 × Int32 × Int32 × Int32 × Int32 × Int32 × (Nat → Int32) × (Nat → Int32) × (Nat → Int32) × (Nat → Int32) × Int32 × Int32 × Int32 × Int32 × Int32 × Int32 × Int32 × Int32 × (Nat → Int32) × (Nat → Int32) × (Nat → Int32) × (Nat → Int32) × (Nat → Int32) × (Nat → Int32) × (Nat → Int32) × (Nat → Int32) × (Nat → Int32) × (Nat → Int32))} {t : Nat} {v3_44 : Int32} {w_rd_0_45 : Int32} {w_rd_1_46 : Int32} {w_rd_8_47 : Int32} {w_rd_10_48 : Int32} {w_rd_11_49 : Int32} {w_rd_12_50 : Int32} {w_q_14_0_51 : Int32} {w_q_14_1_52 : Int32} {w_q_14_2_53 : Int32} {w_q_14_3_54 : Int32} {w_q_14_4_55 : Int32} {w_q_14_5_56 : Int32} {w_q_14_6_57 : Int32} {w_q_14_7_58 : Int32} {g_q_16_59 : (Nat → Int32)} {g_q_17_60 : (Nat → Int32)} {g_q_18_61 : (Nat → Int32)} {g_q_19_62 : (Nat → Int32)} {g_q_21_63 : (Nat → Int32)} {g_q_22_64 : (Nat → Int32)} {g_q_23_65 : (Nat → Int32)} {g_q_24_66 : (Nat → Int32)} {g_q_25_67 : (Nat → Int32)} : L_X5_read_1 n_rd_kinds_4 n_rd_3 n_rd_starts_5 n_rd_stops_6 n_rd_values_7 f_tx kc_1_0 kc_1_1 kc_1_2 (t + 1) v3_44 w_rd_0_45 w_rd_1_46 w_rd_8_47 w_rd_10_48 w_rd_11_49 w_rd_12_50 w_q_14_0_51 w_q_14_1_52 w_q_14_2_53 w_q_14_3_54 w_q_14_4_55 w_q_14_5_56 w_q_14_6_57 w_q_14_7_58 g_q_16_59 g_q_17_60 g_q_18_61 g_q_19_62 g_q_21_63 g_q_22_64 g_q_23_65 g_q_24_66 g_q_25_67 = B_X5_read_1 n_rd_kinds_4 n_rd_3 n_rd_starts_5 n_rd_stops_6 n_rd_values_7 f_tx kc_1_0 kc_1_1 kc_1_2 (L_X5_read_1 n_rd_kinds_4 n_rd_3 n_rd_starts_5 n_rd_stops_6 n_rd_values_7 f_tx kc_1_0 kc_1_1 kc_1_2 t) v3_44 w_rd_0_45 w_rd_1_46 w_rd_8_47 w_rd_10_48 w_rd_11_49 w_rd_12_50 w_q_14_0_51 w_q_14_1_52 w_q_14_2_53 w_q_14_3_54 w_q_14_4_55 w_q_14_5_56 w_q_14_6_57 w_q_14_7_58 g_q_16_59 g_q_17_60 g_q_18_61 g_q_19_62 g_q_21_63 g_q_22_64 g_q_23_65 g_q_24_66 g_q_25_67 := rfl
noncomputable def F_X5_read (p2 : Int32) (f_rd_kinds : Nat → Int32) (f_rd_starts : Nat → Int32) (f_rd_stops : Nat → Int32) (f_rd_values : Nat → Int32) (f_tx : Nat → Int32) : Int32 × Int32 × Int32 × Int32 × Int32 × Int32 × Int32 × (Nat → Int32) × (Nat → Int32) × (Nat → Int32) × (Nat → Int32) × Int32 × Int32 × Int32 × Int32 × Int32 × Int32 × Int32 × Int32 × (Nat → Int32) × (Nat → Int32) × (Nat → Int32) × (Nat → Int32) × (Nat → Int32) × (Nat → Int32) × (Nat → Int32) × (Nat → Int32) × (Nat → Int32) × (Nat → Int32) :=
  zL (if (1600 : Int32) < p2 then (1600 : Int32) else p2) fun x_1 : Int32 =>
  zL (F_X5_split x_1 f_rd_kinds f_rd_starts f_rd_stops f_rd_values f_tx) fun z_13 : Int32 × (Nat → Int32) × (Nat → Int32) × (Nat → Int32) × (Nat → Int32) =>
  zL (z_13.1) fun n_rd_3 : Int32 =>
  zL (z_13.2.1) fun n_rd_kinds_4 : Nat → Int32 =>
  zL (z_13.2.2.1) fun n_rd_starts_5 : Nat → Int32 =>
  zL (z_13.2.2.2.1) fun n_rd_stops_6 : Nat → Int32 =>
  zL (z_13.2.2.2.2) fun n_rd_values_7 : Nat → Int32 =>
  zL (fun _ => (0 : Int32)) fun g_36 : Nat → Int32 =>
  L_X5_read_1 n_rd_kinds_4 n_rd_3 n_rd_starts_5 n_rd_stops_6 n_rd_values_7 f_tx (K_X5_read_1_0 g_36 n_rd_3 n_rd_kinds_4 n_rd_starts_5 n_rd_stops_6 n_rd_values_7) (K_X5_read_1_1 g_36 n_rd_3 n_rd_kinds_4 n_rd_starts_5 n_rd_stops_6 n_rd_values_7) (K_X5_read_1_2 g_36 n_rd_3 n_rd_kinds_4 n_rd_starts_5 n_rd_stops_6 n_rd_values_7) 1602 (0 : Int32) (0 : Int32) (-1 : Int32) (0 : Int32) (0 : Int32) (0 : Int32) (0 : Int32) (0 : Int32) (0 : Int32) (0 : Int32) (0 : Int32) (0 : Int32) (0 : Int32) (0 : Int32) (0 : Int32) g_36 g_36 g_36 g_36 g_36 g_36 g_36 g_36 g_36
noncomputable def F_X3_settle  : Int32 × Int32 × Int32 × Int32 :=
  ((0 : Int32), (0 : Int32), (0 : Int32), (0 : Int32))
noncomputable def F_X3_take (ot_strayed : Int32) (ot_names : Int32) (ot_known : Int32) (ot_gone : Int32) : Int32 × Int32 × Int32 × Int32 :=
  (ot_strayed, ot_names, ot_known, ot_gone)
noncomputable def F_X9_town (h0_tapeLength : Int32) (f_tp : Nat → Int32) (nw_strayed : Int32) (nw_names : Int32) (nw_known : Int32) (nw_gone : Int32) (f_rd_kinds : Nat → Int32) (f_rd_starts : Nat → Int32) (f_rd_stops : Nat → Int32) (f_rd_values : Nat → Int32) : Int32 × Int32 × Int32 × Int32 × Int32 × Int32 × Int32 × Int32 × Int32 × Int32 × Int32 × Int32 × Int32 × Int32 × Int32 × (Nat → Int32) × (Nat → Int32) × (Nat → Int32) × (Nat → Int32) × Int32 × Int32 × Int32 × Int32 × Int32 × Int32 × Int32 × Int32 × (Nat → Int32) × (Nat → Int32) × (Nat → Int32) × (Nat → Int32) × (Nat → Int32) × (Nat → Int32) × (Nat → Int32) × (Nat → Int32) × (Nat → Int32) × (Nat → Int32) :=
  zL (F_X5_read h0_tapeLength f_rd_kinds f_rd_starts f_rd_stops f_rd_values f_tp) fun z_81 : Int32 × Int32 × Int32 × Int32 × Int32 × Int32 × Int32 × (Nat → Int32) × (Nat → Int32) × (Nat → Int32) × (Nat → Int32) × Int32 × Int32 × Int32 × Int32 × Int32 × Int32 × Int32 × Int32 × (Nat → Int32) × (Nat → Int32) × (Nat → Int32) × (Nat → Int32) × (Nat → Int32) × (Nat → Int32) × (Nat → Int32) × (Nat → Int32) × (Nat → Int32) × (Nat → Int32) =>
  zL (z_81.1) fun n_rd_2 : Int32 =>
  zL (z_81.2.1) fun n_rd_3 : Int32 =>
  zL (z_81.2.2.1) fun n_rd_4 : Int32 =>
  zL (z_81.2.2.2.1) fun n_rd_5 : Int32 =>
  zL (z_81.2.2.2.2.1) fun n_rd_6 : Int32 =>
  zL (z_81.2.2.2.2.2.1) fun n_rd_7 : Int32 =>
  zL (z_81.2.2.2.2.2.2.1) fun n_rd_8 : Int32 =>
  zL (z_81.2.2.2.2.2.2.2.1) fun n_rd_kinds_9 : Nat → Int32 =>
  zL (z_81.2.2.2.2.2.2.2.2.1) fun n_rd_starts_10 : Nat → Int32 =>
  zL (z_81.2.2.2.2.2.2.2.2.2.1) fun n_rd_stops_11 : Nat → Int32 =>
  zL (z_81.2.2.2.2.2.2.2.2.2.2.1) fun n_rd_values_12 : Nat → Int32 =>
  zL (z_81.2.2.2.2.2.2.2.2.2.2.2.1) fun nt_hours_13 : Int32 =>
  zL (z_81.2.2.2.2.2.2.2.2.2.2.2.2.1) fun nt_courts_14 : Int32 =>
  zL (z_81.2.2.2.2.2.2.2.2.2.2.2.2.2.1) fun nt_gateCount_15 : Int32 =>
  zL (z_81.2.2.2.2.2.2.2.2.2.2.2.2.2.2.1) fun nt_people_16 : Int32 =>
  zL (z_81.2.2.2.2.2.2.2.2.2.2.2.2.2.2.2.1) fun nt_lines_17 : Int32 =>
  zL (z_81.2.2.2.2.2.2.2.2.2.2.2.2.2.2.2.2.1) fun nt_falseHours_18 : Int32 =>
  zL (z_81.2.2.2.2.2.2.2.2.2.2.2.2.2.2.2.2.2.1) fun nt_strayers_19 : Int32 =>
  zL (z_81.2.2.2.2.2.2.2.2.2.2.2.2.2.2.2.2.2.2.1) fun nt_deep_20 : Int32 =>
  zL (z_81.2.2.2.2.2.2.2.2.2.2.2.2.2.2.2.2.2.2.2.1) fun f_nt_above_32 : Nat → Int32 =>
  zL (z_81.2.2.2.2.2.2.2.2.2.2.2.2.2.2.2.2.2.2.2.2.1) fun f_nt_doors_34 : Nat → Int32 =>
  zL (z_81.2.2.2.2.2.2.2.2.2.2.2.2.2.2.2.2.2.2.2.2.2.1) fun f_nt_degrees_36 : Nat → Int32 =>
  zL (z_81.2.2.2.2.2.2.2.2.2.2.2.2.2.2.2.2.2.2.2.2.2.2.1) fun f_nt_neighbours_38 : Nat → Int32 =>
  zL (z_81.2.2.2.2.2.2.2.2.2.2.2.2.2.2.2.2.2.2.2.2.2.2.2.1) fun f_nt_shows_40 : Nat → Int32 =>
  zL (z_81.2.2.2.2.2.2.2.2.2.2.2.2.2.2.2.2.2.2.2.2.2.2.2.2.1) fun f_nt_oneEnd_42 : Nat → Int32 =>
  zL (z_81.2.2.2.2.2.2.2.2.2.2.2.2.2.2.2.2.2.2.2.2.2.2.2.2.2.1) fun f_nt_otherEnd_44 : Nat → Int32 =>
  zL (z_81.2.2.2.2.2.2.2.2.2.2.2.2.2.2.2.2.2.2.2.2.2.2.2.2.2.2.1) fun f_nt_told_46 : Nat → Int32 =>
  zL (z_81.2.2.2.2.2.2.2.2.2.2.2.2.2.2.2.2.2.2.2.2.2.2.2.2.2.2.2.1) fun f_nt_strayParts_48 : Nat → Int32 =>
  zL (z_81.2.2.2.2.2.2.2.2.2.2.2.2.2.2.2.2.2.2.2.2.2.2.2.2.2.2.2.2) fun f_nt_strayCourts_50 : Nat → Int32 =>
  if n_rd_2 = (0 : Int32) then
    zL (F_X3_settle) fun z_92 : Int32 × Int32 × Int32 × Int32 =>
    zL (z_92.1) fun n_nw_84 : Int32 =>
    zL (z_92.2.1) fun n_nw_85 : Int32 =>
    zL (z_92.2.2.1) fun n_nw_86 : Int32 =>
    zL (z_92.2.2.2) fun n_nw_87 : Int32 =>
    (nt_lines_17, (0 : Int32), n_rd_2, n_rd_3, n_nw_84, n_nw_85, n_nw_86, n_nw_87, n_rd_2, n_rd_3, n_rd_4, n_rd_5, n_rd_6, n_rd_7, n_rd_8, n_rd_kinds_9, n_rd_starts_10, n_rd_stops_11, n_rd_values_12, nt_hours_13, nt_courts_14, nt_gateCount_15, nt_people_16, nt_lines_17, nt_falseHours_18, nt_strayers_19, nt_deep_20, f_nt_above_32, f_nt_doors_34, f_nt_degrees_36, f_nt_neighbours_38, f_nt_shows_40, f_nt_oneEnd_42, f_nt_otherEnd_44, f_nt_told_46, f_nt_strayParts_48, f_nt_strayCourts_50)
  else
    ((-4 : Int32), (0 : Int32), n_rd_2, n_rd_3, nw_strayed, nw_names, nw_known, nw_gone, n_rd_2, n_rd_3, n_rd_4, n_rd_5, n_rd_6, n_rd_7, n_rd_8, n_rd_kinds_9, n_rd_starts_10, n_rd_stops_11, n_rd_values_12, nt_hours_13, nt_courts_14, nt_gateCount_15, nt_people_16, nt_lines_17, nt_falseHours_18, nt_strayers_19, nt_deep_20, f_nt_above_32, f_nt_doors_34, f_nt_degrees_36, f_nt_neighbours_38, f_nt_shows_40, f_nt_oneEnd_42, f_nt_otherEnd_44, f_nt_told_46, f_nt_strayParts_48, f_nt_strayCourts_50)
noncomputable def K_X9_putFour_1_0 (w_h0_1_2 : Int32) (g_tp_3 : Nat → Int32) : Int32 × (Nat → Int32) :=
  (w_h0_1_2, g_tp_3)
noncomputable def B_X9_putFour_1 (p1 : Int32) (kc_1_0 : Int32 → (Nat → Int32) → Int32 × (Nat → Int32)) (ih_1 : Int32 → Int32 → (Nat → Int32) → Int32 × (Nat → Int32)) (v2_1 : Int32) (w_h0_1_2 : Int32) (g_tp_3 : Nat → Int32) : Int32 × (Nat → Int32) :=
  if v2_1 < (0 : Int32) then
    kc_1_0 w_h0_1_2 g_tp_3
  else
    zL (p1 >>> (v2_1 &&& 31)) fun x_5 : Int32 =>
    zL ((x_5).toInt8.toInt32) fun x_6 : Int32 =>
    zL (upd g_tp_3 (Int32.toNatClampNeg w_h0_1_2) (vp_nar .byte x_6)) fun f_7 : Nat → Int32 =>
    zL (w_h0_1_2 + (1 : Int32)) fun x_8 : Int32 =>
    zL (v2_1 + Int32.ofInt (-8)) fun x_9 : Int32 =>
    ih_1 x_9 x_8 f_7
noncomputable def L_X9_putFour_1 (p1 : Int32) (kc_1_0 : Int32 → (Nat → Int32) → Int32 × (Nat → Int32)) : Nat → Int32 → Int32 → (Nat → Int32) → Int32 × (Nat → Int32) := zLp (fun _ _ _ => (0, (fun _ => 0))) (B_X9_putFour_1 p1 kc_1_0)
theorem L_X9_putFour_1_s {p1 : Int32} {kc_1_0 : (Int32 → (Nat → Int32) → Int32 × (Nat → Int32))} {t : Nat} {v2_1 : Int32} {w_h0_1_2 : Int32} {g_tp_3 : (Nat → Int32)} : L_X9_putFour_1 p1 kc_1_0 (t + 1) v2_1 w_h0_1_2 g_tp_3 = B_X9_putFour_1 p1 kc_1_0 (L_X9_putFour_1 p1 kc_1_0 t) v2_1 w_h0_1_2 g_tp_3 := rfl
noncomputable def F_X9_putFour (p1 : Int32) (h0_tapeLength : Int32) (f_tp : Nat → Int32) : Int32 × (Nat → Int32) :=
  L_X9_putFour_1 p1 K_X9_putFour_1_0 34 (24 : Int32) h0_tapeLength f_tp
noncomputable def F_X9_feed (p1 : Int32) (p2 : Int32) (p3 : Int32) (p4 : Int32) (p5 : Int32) (h0_tapeLength : Int32) (f_tp : Nat → Int32) : Int32 × Int32 × (Nat → Int32) :=
  zL (h0_tapeLength + (20 : Int32)) fun x_1 : Int32 =>
  if x_1 ≤ (1600 : Int32) then
    zL (F_X9_putFour p1 h0_tapeLength f_tp) fun z_9 : Int32 × (Nat → Int32) =>
    zL (z_9.1) fun n_h0_4 : Int32 =>
    zL (z_9.2) fun n_tp_5 : Nat → Int32 =>
    zL (F_X9_putFour p2 n_h0_4 n_tp_5) fun z_16 : Int32 × (Nat → Int32) =>
    zL (z_16.1) fun n_h0_11 : Int32 =>
    zL (z_16.2) fun n_tp_12 : Nat → Int32 =>
    zL (F_X9_putFour p3 n_h0_11 n_tp_12) fun z_23 : Int32 × (Nat → Int32) =>
    zL (z_23.1) fun n_h0_18 : Int32 =>
    zL (z_23.2) fun n_tp_19 : Nat → Int32 =>
    zL (F_X9_putFour p4 n_h0_18 n_tp_19) fun z_30 : Int32 × (Nat → Int32) =>
    zL (z_30.1) fun n_h0_25 : Int32 =>
    zL (z_30.2) fun n_tp_26 : Nat → Int32 =>
    zL (F_X9_putFour p5 n_h0_25 n_tp_26) fun z_37 : Int32 × (Nat → Int32) =>
    zL (z_37.1) fun n_h0_32 : Int32 =>
    zL (z_37.2) fun n_tp_33 : Nat → Int32 =>
    (n_h0_32, n_h0_32, n_tp_33)
  else
    ((-1 : Int32), h0_tapeLength, f_tp)
noncomputable def F_X9_end (p1 : Int32) (h0_tapeLength : Int32) : Int32 × Int32 :=
  if p1 < (0 : Int32) then
    ((-1 : Int32), h0_tapeLength)
  else
    if p1 ≤ h0_tapeLength then
      (p1, p1)
    else
      ((-1 : Int32), h0_tapeLength)
noncomputable def F_X9_fault (p1 : Int32) (h0_faultKind : Int32) (h0_faultPlace : Int32) : Int32 :=
  if p1 = (0 : Int32) then
    h0_faultKind
  else
    if p1 = (1 : Int32) then
      h0_faultPlace
    else
      (-1 : Int32)
