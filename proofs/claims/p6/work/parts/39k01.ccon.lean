set_option linter.all false
set_option maxHeartbeats 4000000 in
set_option maxRecDepth 100000 in
theorem kf_X5_readLaw (l : Launch) (sa : Nat → Nat) (dC : Nat → ClassId) (dI : Nat → Nat → Nat) (rd : Nat) (rd_fault : Int32) (rd_place : Int32) (tx : Nat) (rd_kinds : Nat) (rd_starts : Nat) (rd_stops : Nat) (rd_values : Nat) (rd_tokens : Int32) (rd_at : Int32) (tn : Nat) (rd_strayCount : Int32) (rd_lawTold : Int32) (rd_falseTold : Int32) (cA_rd_kinds : ClassId) (f_rd_kinds : Nat → Int32) (cA_rd_starts : ClassId) (f_rd_starts : Nat → Int32) (cA_rd_stops : ClassId) (f_rd_stops : Nat → Int32) (cA_tx : ClassId) (f_tx : Nat → Int32) (tn_hours : Int32) (tn_courts : Int32) (tn_gateCount : Int32) (tn_people : Int32) (tn_lines : Int32) (tn_falseHours : Int32) (tn_strayers : Int32) (tn_deep : Int32) (tn_above : Nat) (tn_doors : Nat) (tn_degrees : Nat) (tn_neighbours : Nat) (tn_shows : Nat) (tn_oneEnd : Nat) (tn_otherEnd : Nat) (tn_told : Nat) (tn_strayParts : Nat) (tn_strayCourts : Nat) (b_rd_tokens : 0 ≤ rd_tokens.toInt ∧ rd_tokens.toInt ≤ 1600) (b_rd_at : 0 ≤ rd_at.toInt ∧ rd_at.toInt ≤ 1600) (b_rd_strayCount : 0 ≤ rd_strayCount.toInt ∧ rd_strayCount.toInt ≤ 4) (b_rd_lawTold : 0 ≤ rd_lawTold.toInt ∧ rd_lawTold.toInt ≤ 1) (b_rd_falseTold : 0 ≤ rd_falseTold.toInt ∧ rd_falseTold.toInt ≤ 1) (b_f_rd_kinds : ∀ j : Nat, 0 ≤ (f_rd_kinds j).toInt ∧ (f_rd_kinds j).toInt ≤ 5) (b_f_rd_starts : ∀ j : Nat, 0 ≤ (f_rd_starts j).toInt ∧ (f_rd_starts j).toInt ≤ 1600) (b_f_rd_stops : ∀ j : Nat, 0 ≤ (f_rd_stops j).toInt ∧ (f_rd_stops j).toInt ≤ 1600) (b_tn_hours : 0 ≤ tn_hours.toInt ∧ tn_hours.toInt ≤ 48) (b_tn_courts : 0 ≤ tn_courts.toInt ∧ tn_courts.toInt ≤ 10) (b_tn_gateCount : 0 ≤ tn_gateCount.toInt ∧ tn_gateCount.toInt ≤ 16) (b_tn_people : 0 ≤ tn_people.toInt ∧ tn_people.toInt ≤ 10) (b_tn_falseHours : 0 ≤ tn_falseHours.toInt ∧ tn_falseHours.toInt ≤ 9) (b_tn_deep : 0 ≤ tn_deep.toInt ∧ tn_deep.toInt ≤ 1) (sz : Nat) : Met l yX5_readLaw (.code yX5_readLaw cX5_readLaw 1 none :: zT) ({ frames := 5, cells := 0, slots := 0, locals := 107 }) (va_Pc [.ref rd] (zB sa dC dI (zV219 rd rd_fault rd_place tx rd_kinds rd_starts rd_stops rd_values rd_tokens rd_at tn rd_strayCount rd_lawTold rd_falseTold rd_kinds cA_rd_kinds f_rd_kinds rd_starts cA_rd_starts f_rd_starts rd_stops cA_rd_stops f_rd_stops tx cA_tx f_tx tn tn_hours tn_courts tn_gateCount tn_people tn_lines tn_falseHours tn_strayers tn_deep tn_above tn_doors tn_degrees tn_neighbours tn_shows tn_oneEnd tn_otherEnd tn_told tn_strayParts tn_strayCourts) [(cA_rd_kinds, .int), (cA_rd_starts, .int), (cA_rd_stops, .int), (cA_tx, .byte)] sz)) (va_Qv (fun _ : Unit => True) (fun _ t => ∃ (n_rd_0 : Int32) (n_rd_1 : Int32) (n_rd_8 : Int32) (n_rd_11 : Int32) (n_tn_7 : Int32), (0 ≤ n_rd_8.toInt ∧ n_rd_8.toInt ≤ 1600) ∧ (0 ≤ n_rd_11.toInt ∧ n_rd_11.toInt ≤ 1) ∧ (0 ≤ n_tn_7.toInt ∧ n_tn_7.toInt ≤ 1) ∧ (n_rd_0 = (F_X5_readLaw rd_fault rd_place rd_tokens rd_at rd_lawTold f_rd_kinds f_rd_starts f_rd_stops f_tx tn_deep).1) ∧ (n_rd_1 = (F_X5_readLaw rd_fault rd_place rd_tokens rd_at rd_lawTold f_rd_kinds f_rd_starts f_rd_stops f_tx tn_deep).2.1) ∧ (n_rd_8 = (F_X5_readLaw rd_fault rd_place rd_tokens rd_at rd_lawTold f_rd_kinds f_rd_starts f_rd_stops f_tx tn_deep).2.2.1) ∧ (n_rd_11 = (F_X5_readLaw rd_fault rd_place rd_tokens rd_at rd_lawTold f_rd_kinds f_rd_starts f_rd_stops f_tx tn_deep).2.2.2.1) ∧ (n_tn_7 = (F_X5_readLaw rd_fault rd_place rd_tokens rd_at rd_lawTold f_rd_kinds f_rd_starts f_rd_stops f_tx tn_deep).2.2.2.2) ∧ zW dC dI (zV219 rd n_rd_0 n_rd_1 tx rd_kinds rd_starts rd_stops rd_values rd_tokens n_rd_8 tn rd_strayCount n_rd_11 rd_falseTold rd_kinds cA_rd_kinds f_rd_kinds rd_starts cA_rd_starts f_rd_starts rd_stops cA_rd_stops f_rd_stops tx cA_tx f_tx tn tn_hours tn_courts tn_gateCount tn_people tn_lines tn_falseHours tn_strayers n_tn_7 tn_above tn_doors tn_degrees tn_neighbours tn_shows tn_oneEnd tn_otherEnd tn_told tn_strayParts tn_strayCourts) [] (va_A (zV219 rd rd_fault rd_place tx rd_kinds rd_starts rd_stops rd_values rd_tokens rd_at tn rd_strayCount rd_lawTold rd_falseTold rd_kinds cA_rd_kinds f_rd_kinds rd_starts cA_rd_starts f_rd_starts rd_stops cA_rd_stops f_rd_stops tx cA_tx f_tx tn tn_hours tn_courts tn_gateCount tn_people tn_lines tn_falseHours tn_strayers tn_deep tn_above tn_doors tn_degrees tn_neighbours tn_shows tn_oneEnd tn_otherEnd tn_told tn_strayParts tn_strayCourts) sz) t) (va_A (zV219 rd rd_fault rd_place tx rd_kinds rd_starts rd_stops rd_values rd_tokens rd_at tn rd_strayCount rd_lawTold rd_falseTold rd_kinds cA_rd_kinds f_rd_kinds rd_starts cA_rd_starts f_rd_starts rd_stops cA_rd_stops f_rd_stops tx cA_tx f_tx tn tn_hours tn_courts tn_gateCount tn_people tn_lines tn_falseHours tn_strayers tn_deep tn_above tn_doors tn_degrees tn_neighbours tn_shows tn_oneEnd tn_otherEnd tn_told tn_strayParts tn_strayCourts) sz)) 0 0 (va_A (zV219 rd rd_fault rd_place tx rd_kinds rd_starts rd_stops rd_values rd_tokens rd_at tn rd_strayCount rd_lawTold rd_falseTold rd_kinds cA_rd_kinds f_rd_kinds rd_starts cA_rd_starts f_rd_starts rd_stops cA_rd_stops f_rd_stops tx cA_tx f_tx tn tn_hours tn_courts tn_gateCount tn_people tn_lines tn_falseHours tn_strayers tn_deep tn_above tn_doors tn_degrees tn_neighbours tn_shows tn_oneEnd tn_otherEnd tn_told tn_strayParts tn_strayCourts) sz) := by
  refine z_enter (by decide) (by exact (Nat.le_of_ble_eq_true rfl)) ?_
  intro p e s m args below meth c ls A R Qc hargs hsz hQe hAe hRe hx hb hml hr hts hown hlocks hin hl hP hK hD hN hXs hA hS
  rw [hAe] at hQe
  have hown : s.vm.findClass RX5 = some m.cls := hown
  have hl : lv_has ls 1 [(0, .ref rd)] := hl
  obtain ⟨RR, hRR⟩ : ∃ z : Int32 × Int32 × Int32 × Int32 × Int32, z = (F_X5_readLaw rd_fault rd_place rd_tokens rd_at rd_lawTold f_rd_kinds f_rd_starts f_rd_stops f_tx tn_deep) := ⟨_, rfl⟩
  have hF : RR = (F_X5_readLaw rd_fault rd_place rd_tokens rd_at rd_lawTold f_rd_kinds f_rd_starts f_rd_stops f_tx tn_deep) := hRR
  refine lv_aload_n hx hb dX5_readLaw_0 rfl (lv_at hl 0 rfl) ?_
  refine va_get (D := (dC, dI)) (ci := 5) (v := .int rd_lawTold) (C := RX5) (T := TX5) (N := 13) hx hb hts zl_X5 hown hK hP 0 rfl rfl 11 (by decide) (hts _ zw_t1_206) (fun _ h9 => h9) rfl dX5_readLaw_1 ?_
  refine lv_if_eq (tgt := 13) hx hb dX5_readLaw_4 (by decide) (fun c_1 => ?_) (fun c_1 => ?_)
  · have ic_1 := zz_eq rfl (show Int32.toInt 0 = 0 from by decide) c_1
    replace hF := hF.trans (if_pos c_1)
    refine lv_aload_n hx hb dX5_readLaw_13 rfl (lv_at hl 0 rfl) ?_
    refine lv_iconst (v := 1) hx hb dX5_readLaw_14 (by decide) ?_
    refine va_put (D := (dC, dI)) (ci := 5) (v := .int 1) (ty := .boolean) (C := RX5) (T := TX5) (N := 13) hx hb hts zl_X5 tyX5 tyX5_ok nmX5 hown hK hP hD hS 0 rfl rfl 11 (by decide) (hts _ zw_t1_206) (fun _ h9 => h9) rfl (by decide +kernel) (by decide) (by decide) (Nat.le_of_ble_eq_true rfl) dX5_readLaw_15 (fun H locs hP hD hS => ?_)
    have hP : va_P (dC, dI) vwCl [(rd, .inr (5, [.int rd_fault, .int rd_place, .ref tx, .ref rd_kinds, .ref rd_starts, .ref rd_stops, .ref rd_values, .int rd_tokens, .int rd_at, .ref tn, .int rd_strayCount, .int 1, .int rd_falseTold])), (rd_kinds, .inl (cA_rd_kinds, 1601, .inl f_rd_kinds)), (rd_starts, .inl (cA_rd_starts, 1601, .inl f_rd_starts)), (rd_stops, .inl (cA_rd_stops, 1601, .inl f_rd_stops)), (tx, .inl (cA_tx, 1600, .inl f_tx)), (tn, .inr (7, [.int tn_hours, .int tn_courts, .int tn_gateCount, .int tn_people, .int tn_lines, .int tn_falseHours, .int tn_strayers, .int tn_deep, .ref tn_above, .ref tn_doors, .ref tn_degrees, .ref tn_neighbours, .ref tn_shows, .ref tn_oneEnd, .ref tn_otherEnd, .ref tn_told, .ref tn_strayParts, .ref tn_strayCourts]))] H := hP
    have hD : va_D A [(rd, .inr (5, [.int rd_fault, .int rd_place, .ref tx, .ref rd_kinds, .ref rd_starts, .ref rd_stops, .ref rd_values, .int rd_tokens, .int rd_at, .ref tn, .int rd_strayCount, .int 1, .int rd_falseTold])), (rd_kinds, .inl (cA_rd_kinds, 1601, .inl f_rd_kinds)), (rd_starts, .inl (cA_rd_starts, 1601, .inl f_rd_starts)), (rd_stops, .inl (cA_rd_stops, 1601, .inl f_rd_stops)), (tx, .inl (cA_tx, 1600, .inl f_tx)), (tn, .inr (7, [.int tn_hours, .int tn_courts, .int tn_gateCount, .int tn_people, .int tn_lines, .int tn_falseHours, .int tn_strayers, .int tn_deep, .ref tn_above, .ref tn_doors, .ref tn_degrees, .ref tn_neighbours, .ref tn_shows, .ref tn_oneEnd, .ref tn_otherEnd, .ref tn_told, .ref tn_strayParts, .ref tn_strayCourts]))] := hD
    refine lv_aload_n hx hb dX5_readLaw_18 rfl (lv_at hl 0 rfl) ?_
    obtain ⟨hPc, hDc, hFc⟩ := z_cut (wc := [(rd, .inr (5, [.int rd_fault, .int rd_place, .ref tx, .ref rd_kinds, .ref rd_starts, .ref rd_stops, .ref rd_values, .int rd_tokens, .int rd_at, .ref tn, .int rd_strayCount, .int 1, .int rd_falseTold]))]) hP hD hS hA [0] rfl (by decide +kernel)
    have hKc := hK.sub (tys' := []) [] rfl
    refine va_callv (va_runV (As := []) (rest := []) ⟨hx, hb, hml, hown, hts⟩ (kf_X5_advance l sa dC dI rd rd_fault rd_place tx rd_kinds rd_starts rd_stops rd_values rd_tokens rd_at tn rd_strayCount (1) rd_falseTold b_rd_tokens b_rd_at b_rd_strayCount (by decide) b_rd_falseTold H.size) (cwV 0 hts (z_gV zw_t3_93 zw_t3_95 zw_s1_8 zw_t1_4 zw_t3_96) rfl rfl rfl (by decide +kernel) (by rw [← hRe]; exact ⟨(Nat.le_of_ble_eq_true rfl), (Nat.le_of_ble_eq_true rfl)⟩)) (z_preV hPc hKc hDc hN hXs hS hFc (q := (RX5, TX5, 13)) (ci := 5) (q0 := 0) rfl rfl) rfl rfl hl.1 rfl (lv_room (Nat.le_of_ble_eq_true rfl)) dX5_readLaw_19 (by rw [← hRe]; exact ⟨(Nat.le_of_ble_eq_true rfl), (Nat.le_of_ble_eq_true rfl)⟩)) hS (fun q _ h => hFc q h) hFc (fun u t H1 locs ht hvm hw hB hz1 hk1 hS => ?_)
    obtain ⟨n_rd_3, b_n_rd_3, hf_4, hB⟩ := hB
    obtain ⟨hP, hD, hK⟩ := z_after3 (wn := [(rd_kinds, .inl (cA_rd_kinds, 1601, .inl f_rd_kinds)), (rd_starts, .inl (cA_rd_starts, 1601, .inl f_rd_starts)), (rd_stops, .inl (cA_rd_stops, 1601, .inl f_rd_stops)), (tx, .inl (cA_tx, 1600, .inl f_tx)), (tn, .inr (7, [.int tn_hours, .int tn_courts, .int tn_gateCount, .int tn_people, .int tn_lines, .int tn_falseHours, .int tn_strayers, .int tn_deep, .ref tn_above, .ref tn_doors, .ref tn_degrees, .ref tn_neighbours, .ref tn_shows, .ref tn_oneEnd, .ref tn_otherEnd, .ref tn_told, .ref tn_strayParts, .ref tn_strayCourts])), (rd, .inr (5, [.int rd_fault, .int rd_place, .ref tx, .ref rd_kinds, .ref rd_starts, .ref rd_stops, .ref rd_values, .int rd_tokens, .int n_rd_3, .ref tn, .int rd_strayCount, .int 1, .int rd_falseTold]))]) hB ht hvm hP hD hK [0] [1, 2, 3, 4, 5] rfl 6 rfl (by decide +kernel) rfl (by decide +kernel) hk1 hFc
    generalize H1 = H at hP hS ⊢
    have hK : va_K (dC, dI) vwCl [(cA_rd_kinds, .int), (cA_rd_starts, .int), (cA_rd_stops, .int), (cA_tx, .byte)] s := hK
    replace hF := hF.trans (zL_eq hf_4)
    refine lv_aload_n hx hb dX5_readLaw_22 rfl (lv_at hl 0 rfl) ?_
    refine va_get (D := (dC, dI)) (ci := 5) (v := .ref tn) (C := RX5) (T := TX5) (N := 13) hx hb hts zl_X5 hown hK hP 5 rfl rfl 9 (by decide) (hts _ zw_t1_204) (fun _ h9 => h9) rfl dX5_readLaw_23 ?_
    refine lv_aload_n hx hb dX5_readLaw_26 rfl (lv_at hl 0 rfl) ?_
    refine va_ldcS (index := 216) hx hb hown (hXs.2.2.2.2.2.2.2 12 (by decide)) dX5_readLaw_27 ?_
    obtain ⟨hPc, hDc, hFc⟩ := z_cut (wc := [(rd, .inr (5, [.int rd_fault, .int rd_place, .ref tx, .ref rd_kinds, .ref rd_starts, .ref rd_stops, .ref rd_values, .int rd_tokens, .int n_rd_3, .ref tn, .int rd_strayCount, .int 1, .int rd_falseTold])), (rd_kinds, .inl (cA_rd_kinds, 1601, .inl f_rd_kinds)), (rd_starts, .inl (cA_rd_starts, 1601, .inl f_rd_starts)), (rd_stops, .inl (cA_rd_stops, 1601, .inl f_rd_stops)), (tx, .inl (cA_tx, 1600, .inl f_tx))]) hP hD hS hA [5, 0, 1, 2, 3] rfl (by decide +kernel)
    have hKc := hK.sub (tys' := [(cA_rd_kinds, .int), (cA_rd_starts, .int), (cA_rd_stops, .int), (cA_tx, .byte)]) [0, 1, 2, 3] rfl
    refine va_calli (va_runV (As := [.ref (sa (2 + 2 * 12))]) (rest := [.ref tn]) ⟨hx, hb, hml, hown, hts⟩ (kf_X5_isWord l sa dC dI rd rd_fault rd_place tx rd_kinds rd_starts rd_stops rd_values rd_tokens n_rd_3 tn rd_strayCount (1) rd_falseTold cA_rd_kinds f_rd_kinds cA_rd_starts f_rd_starts cA_rd_stops f_rd_stops cA_tx f_tx (12) b_rd_tokens (by first | with_reducible assumption | omega) b_rd_strayCount (by decide) b_rd_falseTold b_f_rd_kinds b_f_rd_starts b_f_rd_stops (by decide) H.size) (cwV 1 hts (z_gV zw_t3_37 zw_t3_39 zw_s1_6 zw_t1_4 zw_t3_40) rfl rfl rfl (by decide +kernel) (by rw [← hRe]; exact ⟨(Nat.le_of_ble_eq_true rfl), (Nat.le_of_ble_eq_true rfl)⟩)) (z_preV hPc hKc hDc hN hXs hS hFc (q := (RX5, TX5, 13)) (ci := 5) (q0 := 0) rfl rfl) rfl rfl hl.1 rfl (lv_room (Nat.le_of_ble_eq_true rfl)) dX5_readLaw_29 (by rw [← hRe]; exact ⟨(Nat.le_of_ble_eq_true rfl), (Nat.le_of_ble_eq_true rfl)⟩)) hS (fun q _ h => hFc q h) hFc (fun r_5 u t H1 locs ht hvm hw hB hz1 hk1 hS => ?_)
    obtain ⟨hP, hD, hK⟩ := z_after3 (wn := (zV220 tn tn_hours tn_courts tn_gateCount tn_people tn_lines tn_falseHours tn_strayers tn_deep tn_above tn_doors tn_degrees tn_neighbours tn_shows tn_oneEnd tn_otherEnd tn_told tn_strayParts tn_strayCourts rd rd_fault rd_place tx rd_kinds rd_starts rd_stops rd_values rd_tokens n_rd_3 tn rd_strayCount rd_falseTold rd_kinds cA_rd_kinds f_rd_kinds rd_starts cA_rd_starts f_rd_starts rd_stops cA_rd_stops f_rd_stops tx cA_tx f_tx)) hB ht hvm hP hD hK [5, 0, 1, 2, 3] [4] rfl 6 rfl (by decide +kernel) rfl (by decide +kernel) hk1 hFc
    generalize H1 = H at hP hS ⊢
    have hK : va_K (dC, dI) vwCl [(cA_rd_kinds, .int), (cA_rd_starts, .int), (cA_rd_stops, .int), (cA_tx, .byte)] s := hK
    have b_r_5 : 0 ≤ r_5.toInt ∧ r_5.toInt ≤ 1 := hw.1
    have sf_r_5 := hw.2
    replace hF := hF.trans (zL_eq sf_r_5)
    refine va_put (D := (dC, dI)) (ci := 7) (v := .int r_5) (ty := .boolean) (C := RX7) (T := TX7) (N := 18) hx hb hts zl_X7 tyX7 tyX7_ok nmX7 hown hK hP hD hS 0 rfl rfl 7 (by decide) (hts _ zw_t1_77) (fun _ h9 => h9) rfl (by decide +kernel) (zi_bool (by first | with_reducible assumption | omega)) (zi_boolf (by first | with_reducible assumption | omega)) (Nat.le_of_ble_eq_true rfl) dX5_readLaw_32 (fun H locs hP hD hS => ?_)
    have hP : va_P (dC, dI) vwCl (zV220 tn tn_hours tn_courts tn_gateCount tn_people tn_lines tn_falseHours tn_strayers r_5 tn_above tn_doors tn_degrees tn_neighbours tn_shows tn_oneEnd tn_otherEnd tn_told tn_strayParts tn_strayCourts rd rd_fault rd_place tx rd_kinds rd_starts rd_stops rd_values rd_tokens n_rd_3 tn rd_strayCount rd_falseTold rd_kinds cA_rd_kinds f_rd_kinds rd_starts cA_rd_starts f_rd_starts rd_stops cA_rd_stops f_rd_stops tx cA_tx f_tx) H := hP
    have hD : va_D A (zV220 tn tn_hours tn_courts tn_gateCount tn_people tn_lines tn_falseHours tn_strayers r_5 tn_above tn_doors tn_degrees tn_neighbours tn_shows tn_oneEnd tn_otherEnd tn_told tn_strayParts tn_strayCourts rd rd_fault rd_place tx rd_kinds rd_starts rd_stops rd_values rd_tokens n_rd_3 tn rd_strayCount rd_falseTold rd_kinds cA_rd_kinds f_rd_kinds rd_starts cA_rd_starts f_rd_starts rd_stops cA_rd_stops f_rd_stops tx cA_tx f_tx) := hD
    refine lv_aload_n hx hb dX5_readLaw_35 rfl (lv_at hl 0 rfl) ?_
    refine va_get (D := (dC, dI)) (ci := 5) (v := .ref tn) (C := RX5) (T := TX5) (N := 13) hx hb hts zl_X5 hown hK hP 1 rfl rfl 9 (by decide) (hts _ zw_t1_204) (fun _ h9 => h9) rfl dX5_readLaw_36 ?_
    refine va_get (D := (dC, dI)) (ci := 7) (v := .int r_5) (C := RX7) (T := TX7) (N := 18) hx hb hts zl_X7 hown hK hP 0 rfl rfl 7 (by decide) (hts _ zw_t1_77) (fun _ h9 => h9) rfl dX5_readLaw_39 ?_
    refine lv_if_ne (tgt := 54) hx hb dX5_readLaw_42 (by decide) (fun c_6 => ?_) (fun c_6 => ?_)
    · have ic_6 := zz_ne rfl (show Int32.toInt 0 = 0 from by decide) c_6
      replace hF := hF.trans (if_neg c_6)
      refine lv_aload_n hx hb dX5_readLaw_54 rfl (lv_at hl 0 rfl) ?_
      obtain ⟨hPc, hDc, hFc⟩ := z_cut (wc := [(rd, .inr (5, [.int rd_fault, .int rd_place, .ref tx, .ref rd_kinds, .ref rd_starts, .ref rd_stops, .ref rd_values, .int rd_tokens, .int n_rd_3, .ref tn, .int rd_strayCount, .int 1, .int rd_falseTold]))]) hP hD hS hA [1] rfl (by decide +kernel)
      have hKc := hK.sub (tys' := []) [] rfl
      refine va_callv (va_runV (As := []) (rest := []) ⟨hx, hb, hml, hown, hts⟩ (kf_X5_advance l sa dC dI rd rd_fault rd_place tx rd_kinds rd_starts rd_stops rd_values rd_tokens n_rd_3 tn rd_strayCount (1) rd_falseTold b_rd_tokens (by first | with_reducible assumption | omega) b_rd_strayCount (by decide) b_rd_falseTold H.size) (cwV 0 hts (z_gV zw_t3_93 zw_t3_95 zw_s1_8 zw_t1_4 zw_t3_96) rfl rfl rfl (by decide +kernel) (by rw [← hRe]; exact ⟨(Nat.le_of_ble_eq_true rfl), (Nat.le_of_ble_eq_true rfl)⟩)) (z_preV hPc hKc hDc hN hXs hS hFc (q := (RX5, TX5, 13)) (ci := 5) (q0 := 0) rfl rfl) rfl rfl hl.1 rfl (lv_room (Nat.le_of_ble_eq_true rfl)) dX5_readLaw_55 (by rw [← hRe]; exact ⟨(Nat.le_of_ble_eq_true rfl), (Nat.le_of_ble_eq_true rfl)⟩)) hS (fun q _ h => hFc q h) hFc (fun u t H1 locs ht hvm hw hB hz1 hk1 hS => ?_)
      obtain ⟨n_rd_8, b_n_rd_8, hf_9, hB⟩ := hB
      obtain ⟨hP, hD, hK⟩ := z_after3 (wn := [(tn, .inr (7, [.int tn_hours, .int tn_courts, .int tn_gateCount, .int tn_people, .int tn_lines, .int tn_falseHours, .int tn_strayers, .int r_5, .ref tn_above, .ref tn_doors, .ref tn_degrees, .ref tn_neighbours, .ref tn_shows, .ref tn_oneEnd, .ref tn_otherEnd, .ref tn_told, .ref tn_strayParts, .ref tn_strayCourts])), (rd_kinds, .inl (cA_rd_kinds, 1601, .inl f_rd_kinds)), (rd_starts, .inl (cA_rd_starts, 1601, .inl f_rd_starts)), (rd_stops, .inl (cA_rd_stops, 1601, .inl f_rd_stops)), (tx, .inl (cA_tx, 1600, .inl f_tx)), (rd, .inr (5, [.int rd_fault, .int rd_place, .ref tx, .ref rd_kinds, .ref rd_starts, .ref rd_stops, .ref rd_values, .int rd_tokens, .int n_rd_8, .ref tn, .int rd_strayCount, .int 1, .int rd_falseTold]))]) hB ht hvm hP hD hK [1] [0, 2, 3, 4, 5] rfl 6 rfl (by decide +kernel) rfl (by decide +kernel) hk1 hFc
      generalize H1 = H at hP hS ⊢
      have hK : va_K (dC, dI) vwCl [(cA_rd_kinds, .int), (cA_rd_starts, .int), (cA_rd_stops, .int), (cA_tx, .byte)] s := hK
      replace hF := hF.trans (zL_eq hf_9)
      refine lv_goto (tgt := 66) hx hb dX5_readLaw_58 (by decide) ?_
      have hF : RR = (rd_fault, rd_place, n_rd_8, (1 : Int32), r_5) := hF
      exact W.vret hx hb hr (fun t ht hW => by rw [← hQe]; exact ⟨⟨(), rfl, trivial, ⟨rd_fault, rd_place, n_rd_8, (1), r_5, (by first | with_reducible assumption | omega), (by decide), (by first | with_reducible assumption | omega), (by rw [← hRR, hF]), (by rw [← hRR, hF]), (by rw [← hRR, hF]), (by rw [← hRR, hF]), (by rw [← hRR, hF]), z_ret hP hK hD ht hW [5, 1, 2, 3, 4, 0] [] rfl (by decide) rfl⟩⟩, hS.F ht⟩) hS.2.2 dX5_readLaw_66
    · have ic_6 := zz_nne rfl (show Int32.toInt 0 = 0 from by decide) c_6
      replace hF := hF.trans (if_pos c_6)
      refine lv_aload_n hx hb dX5_readLaw_45 rfl (lv_at hl 0 rfl) ?_
      refine va_ldcS (index := 217) hx hb hown (hXs.2.2.2.2.2.2.2 13 (by decide)) dX5_readLaw_46 ?_
      obtain ⟨hPc, hDc, hFc⟩ := z_cut (wc := [(rd, .inr (5, [.int rd_fault, .int rd_place, .ref tx, .ref rd_kinds, .ref rd_starts, .ref rd_stops, .ref rd_values, .int rd_tokens, .int n_rd_3, .ref tn, .int rd_strayCount, .int 1, .int rd_falseTold])), (rd_kinds, .inl (cA_rd_kinds, 1601, .inl f_rd_kinds)), (rd_starts, .inl (cA_rd_starts, 1601, .inl f_rd_starts)), (rd_stops, .inl (cA_rd_stops, 1601, .inl f_rd_stops)), (tx, .inl (cA_tx, 1600, .inl f_tx))]) hP hD hS hA [1, 2, 3, 4, 5] rfl (by decide +kernel)
      have hKc := hK.sub (tys' := [(cA_rd_kinds, .int), (cA_rd_starts, .int), (cA_rd_stops, .int), (cA_tx, .byte)]) [0, 1, 2, 3] rfl
      refine va_calli (va_runV (As := [.ref (sa (2 + 2 * 13))]) (rest := []) ⟨hx, hb, hml, hown, hts⟩ (kf_X5_isWord l sa dC dI rd rd_fault rd_place tx rd_kinds rd_starts rd_stops rd_values rd_tokens n_rd_3 tn rd_strayCount (1) rd_falseTold cA_rd_kinds f_rd_kinds cA_rd_starts f_rd_starts cA_rd_stops f_rd_stops cA_tx f_tx (13) b_rd_tokens (by first | with_reducible assumption | omega) b_rd_strayCount (by decide) b_rd_falseTold b_f_rd_kinds b_f_rd_starts b_f_rd_stops (by decide) H.size) (cwV 1 hts (z_gV zw_t3_37 zw_t3_39 zw_s1_6 zw_t1_4 zw_t3_40) rfl rfl rfl (by decide +kernel) (by rw [← hRe]; exact ⟨(Nat.le_of_ble_eq_true rfl), (Nat.le_of_ble_eq_true rfl)⟩)) (z_preV hPc hKc hDc hN hXs hS hFc (q := (RX5, TX5, 13)) (ci := 5) (q0 := 0) rfl rfl) rfl rfl hl.1 rfl (lv_room (Nat.le_of_ble_eq_true rfl)) dX5_readLaw_48 (by rw [← hRe]; exact ⟨(Nat.le_of_ble_eq_true rfl), (Nat.le_of_ble_eq_true rfl)⟩)) hS (fun q _ h => hFc q h) hFc (fun r_10 u t H1 locs ht hvm hw hB hz1 hk1 hS => ?_)
      obtain ⟨hP, hD, hK⟩ := z_after3 (wn := (zV220 tn tn_hours tn_courts tn_gateCount tn_people tn_lines tn_falseHours tn_strayers r_5 tn_above tn_doors tn_degrees tn_neighbours tn_shows tn_oneEnd tn_otherEnd tn_told tn_strayParts tn_strayCourts rd rd_fault rd_place tx rd_kinds rd_starts rd_stops rd_values rd_tokens n_rd_3 tn rd_strayCount rd_falseTold rd_kinds cA_rd_kinds f_rd_kinds rd_starts cA_rd_starts f_rd_starts rd_stops cA_rd_stops f_rd_stops tx cA_tx f_tx)) hB ht hvm hP hD hK [1, 2, 3, 4, 5] [0] rfl 6 rfl (by decide +kernel) rfl (by decide +kernel) hk1 hFc
      generalize H1 = H at hP hS ⊢
      have hK : va_K (dC, dI) vwCl [(cA_rd_kinds, .int), (cA_rd_starts, .int), (cA_rd_stops, .int), (cA_tx, .byte)] s := hK
      have b_r_10 : 0 ≤ r_10.toInt ∧ r_10.toInt ≤ 1 := hw.1
      have sf_r_10 := hw.2
      replace hF := hF.trans (zL_eq sf_r_10)
      refine lv_if_eq (tgt := 61) hx hb dX5_readLaw_51 (by decide) (fun c_11 => ?_) (fun c_11 => ?_)
      · have ic_11 := zz_eq rfl (show Int32.toInt 0 = 0 from by decide) c_11
        replace hF := hF.trans (if_pos c_11)
        refine lv_aload_n hx hb dX5_readLaw_61 rfl (lv_at hl 0 rfl) ?_
        refine lv_iconst (v := 1) hx hb dX5_readLaw_62 (by decide) ?_
        obtain ⟨hPc, hDc, hFc⟩ := z_cut (wc := [(rd, .inr (5, [.int rd_fault, .int rd_place, .ref tx, .ref rd_kinds, .ref rd_starts, .ref rd_stops, .ref rd_values, .int rd_tokens, .int n_rd_3, .ref tn, .int rd_strayCount, .int 1, .int rd_falseTold])), (rd_starts, .inl (cA_rd_starts, 1601, .inl f_rd_starts))]) hP hD hS hA [1, 3] rfl (by decide +kernel)
        have hKc := hK.sub (tys' := [(cA_rd_starts, .int)]) [1] rfl
        refine va_callv (va_runV (As := [.int 1]) (rest := []) ⟨hx, hb, hml, hown, hts⟩ (kf_X5_blame l sa dC dI rd (1) rd_fault rd_place tx rd_kinds rd_starts rd_stops rd_values rd_tokens n_rd_3 tn rd_strayCount (1) rd_falseTold cA_rd_starts f_rd_starts (by decide) b_rd_tokens (by first | with_reducible assumption | omega) b_rd_strayCount (by decide) b_rd_falseTold b_f_rd_starts H.size) (cwV 1 hts (z_gV zw_t3_89 zw_t3_91 zw_s1_7 zw_t1_4 zw_t3_92) rfl rfl rfl (by decide +kernel) (by rw [← hRe]; exact ⟨(Nat.le_of_ble_eq_true rfl), (Nat.le_of_ble_eq_true rfl)⟩)) (z_preV hPc hKc hDc hN hXs hS hFc (q := (RX5, TX5, 13)) (ci := 5) (q0 := 0) rfl rfl) rfl rfl hl.1 rfl (lv_room (Nat.le_of_ble_eq_true rfl)) dX5_readLaw_63 (by rw [← hRe]; exact ⟨(Nat.le_of_ble_eq_true rfl), (Nat.le_of_ble_eq_true rfl)⟩)) hS (fun q _ h => hFc q h) hFc (fun u t H1 locs ht hvm hw hB hz1 hk1 hS => ?_)
        refine hB.elim fun n_rd_13 ze1 => ze1.elim fun n_rd_14 ze2 => ze2.elim fun hf_15 ze3 => ze3.elim fun hf_16 ze4 => ze4.elim fun hf_17 ze5 => ?_
        clear hB ze1 ze2 ze3 ze4
        have hB := ze5
        clear ze5
        obtain ⟨hP, hD, hK⟩ := z_after3 (wn := [(tn, .inr (7, [.int tn_hours, .int tn_courts, .int tn_gateCount, .int tn_people, .int tn_lines, .int tn_falseHours, .int tn_strayers, .int r_5, .ref tn_above, .ref tn_doors, .ref tn_degrees, .ref tn_neighbours, .ref tn_shows, .ref tn_oneEnd, .ref tn_otherEnd, .ref tn_told, .ref tn_strayParts, .ref tn_strayCourts])), (rd_kinds, .inl (cA_rd_kinds, 1601, .inl f_rd_kinds)), (rd_stops, .inl (cA_rd_stops, 1601, .inl f_rd_stops)), (tx, .inl (cA_tx, 1600, .inl f_tx)), (rd, .inr (5, [.int n_rd_13, .int n_rd_14, .ref tx, .ref rd_kinds, .ref rd_starts, .ref rd_stops, .ref rd_values, .int rd_tokens, .int n_rd_3, .ref tn, .int rd_strayCount, .int 1, .int rd_falseTold])), (rd_starts, .inl (cA_rd_starts, 1601, .inl f_rd_starts))]) hB ht hvm hP hD hK [1, 3] [0, 2, 4, 5] rfl 6 rfl (by decide +kernel) rfl (by decide +kernel) hk1 hFc
        generalize H1 = H at hP hS ⊢
        have hK : va_K (dC, dI) vwCl [(cA_rd_kinds, .int), (cA_rd_starts, .int), (cA_rd_stops, .int), (cA_tx, .byte)] s := hK
        replace hF := hF.trans (zL_eq rfl)
        replace hF := hF.trans (zL_eq hf_16)
        replace hF := hF.trans (zL_eq hf_17)
        have hF : RR = (n_rd_13, n_rd_14, n_rd_3, (1 : Int32), r_5) := hF
        exact W.vret hx hb hr (fun t ht hW => by rw [← hQe]; exact ⟨⟨(), rfl, trivial, ⟨n_rd_13, n_rd_14, n_rd_3, (1), r_5, (by first | with_reducible assumption | omega), (by decide), (by first | with_reducible assumption | omega), (by rw [← hRR, hF]), (by rw [← hRR, hF]), (by rw [← hRR, hF]), (by rw [← hRR, hF]), (by rw [← hRR, hF]), z_ret hP hK hD ht hW [4, 1, 5, 2, 3, 0] [] rfl (by decide) rfl⟩⟩, hS.F ht⟩) hS.2.2 dX5_readLaw_66
      · have ic_11 := zz_neq rfl (show Int32.toInt 0 = 0 from by decide) c_11
        replace hF := hF.trans (if_neg c_11)
        refine lv_aload_n hx hb dX5_readLaw_54 rfl (lv_at hl 0 rfl) ?_
        obtain ⟨hPc, hDc, hFc⟩ := z_cut (wc := [(rd, .inr (5, [.int rd_fault, .int rd_place, .ref tx, .ref rd_kinds, .ref rd_starts, .ref rd_stops, .ref rd_values, .int rd_tokens, .int n_rd_3, .ref tn, .int rd_strayCount, .int 1, .int rd_falseTold]))]) hP hD hS hA [1] rfl (by decide +kernel)
        have hKc := hK.sub (tys' := []) [] rfl
        refine va_callv (va_runV (As := []) (rest := []) ⟨hx, hb, hml, hown, hts⟩ (kf_X5_advance l sa dC dI rd rd_fault rd_place tx rd_kinds rd_starts rd_stops rd_values rd_tokens n_rd_3 tn rd_strayCount (1) rd_falseTold b_rd_tokens (by first | with_reducible assumption | omega) b_rd_strayCount (by decide) b_rd_falseTold H.size) (cwV 0 hts (z_gV zw_t3_93 zw_t3_95 zw_s1_8 zw_t1_4 zw_t3_96) rfl rfl rfl (by decide +kernel) (by rw [← hRe]; exact ⟨(Nat.le_of_ble_eq_true rfl), (Nat.le_of_ble_eq_true rfl)⟩)) (z_preV hPc hKc hDc hN hXs hS hFc (q := (RX5, TX5, 13)) (ci := 5) (q0 := 0) rfl rfl) rfl rfl hl.1 rfl (lv_room (Nat.le_of_ble_eq_true rfl)) dX5_readLaw_55 (by rw [← hRe]; exact ⟨(Nat.le_of_ble_eq_true rfl), (Nat.le_of_ble_eq_true rfl)⟩)) hS (fun q _ h => hFc q h) hFc (fun u t H1 locs ht hvm hw hB hz1 hk1 hS => ?_)
        obtain ⟨n_rd_20, b_n_rd_20, hf_21, hB⟩ := hB
        obtain ⟨hP, hD, hK⟩ := z_after3 (wn := [(tn, .inr (7, [.int tn_hours, .int tn_courts, .int tn_gateCount, .int tn_people, .int tn_lines, .int tn_falseHours, .int tn_strayers, .int r_5, .ref tn_above, .ref tn_doors, .ref tn_degrees, .ref tn_neighbours, .ref tn_shows, .ref tn_oneEnd, .ref tn_otherEnd, .ref tn_told, .ref tn_strayParts, .ref tn_strayCourts])), (rd_kinds, .inl (cA_rd_kinds, 1601, .inl f_rd_kinds)), (rd_starts, .inl (cA_rd_starts, 1601, .inl f_rd_starts)), (rd_stops, .inl (cA_rd_stops, 1601, .inl f_rd_stops)), (tx, .inl (cA_tx, 1600, .inl f_tx)), (rd, .inr (5, [.int rd_fault, .int rd_place, .ref tx, .ref rd_kinds, .ref rd_starts, .ref rd_stops, .ref rd_values, .int rd_tokens, .int n_rd_20, .ref tn, .int rd_strayCount, .int 1, .int rd_falseTold]))]) hB ht hvm hP hD hK [1] [0, 2, 3, 4, 5] rfl 6 rfl (by decide +kernel) rfl (by decide +kernel) hk1 hFc
        generalize H1 = H at hP hS ⊢
        have hK : va_K (dC, dI) vwCl [(cA_rd_kinds, .int), (cA_rd_starts, .int), (cA_rd_stops, .int), (cA_tx, .byte)] s := hK
        replace hF := hF.trans (zL_eq hf_21)
        refine lv_goto (tgt := 66) hx hb dX5_readLaw_58 (by decide) ?_
        have hF : RR = (rd_fault, rd_place, n_rd_20, (1 : Int32), r_5) := hF
        exact W.vret hx hb hr (fun t ht hW => by rw [← hQe]; exact ⟨⟨(), rfl, trivial, ⟨rd_fault, rd_place, n_rd_20, (1), r_5, (by first | with_reducible assumption | omega), (by decide), (by first | with_reducible assumption | omega), (by rw [← hRR, hF]), (by rw [← hRR, hF]), (by rw [← hRR, hF]), (by rw [← hRR, hF]), (by rw [← hRR, hF]), z_ret hP hK hD ht hW [5, 1, 2, 3, 4, 0] [] rfl (by decide) rfl⟩⟩, hS.F ht⟩) hS.2.2 dX5_readLaw_66
  · have ic_1 := zz_neq rfl (show Int32.toInt 0 = 0 from by decide) c_1
    replace hF := hF.trans (if_neg c_1)
    refine lv_aload_n hx hb dX5_readLaw_7 rfl (lv_at hl 0 rfl) ?_
    refine lv_iconst (v := 2) hx hb dX5_readLaw_8 (by decide) ?_
    obtain ⟨hPc, hDc, hFc⟩ := z_cut (wc := (zV211 rd rd_fault rd_place tx rd_kinds rd_starts rd_stops rd_values rd_tokens rd_at tn rd_strayCount rd_lawTold rd_falseTold rd_starts cA_rd_starts f_rd_starts)) hP hD hS hA [0, 2] rfl (by decide +kernel)
    have hKc := hK.sub (tys' := [(cA_rd_starts, .int)]) [1] rfl
    refine va_callv (va_runV (As := [.int 2]) (rest := []) ⟨hx, hb, hml, hown, hts⟩ (kf_X5_blame l sa dC dI rd (2) rd_fault rd_place tx rd_kinds rd_starts rd_stops rd_values rd_tokens rd_at tn rd_strayCount rd_lawTold rd_falseTold cA_rd_starts f_rd_starts (by decide) b_rd_tokens b_rd_at b_rd_strayCount b_rd_lawTold b_rd_falseTold b_f_rd_starts s.heap.size) (cwV 1 hts (z_gV zw_t3_89 zw_t3_91 zw_s1_7 zw_t1_4 zw_t3_92) rfl rfl rfl (by decide +kernel) (by rw [← hRe]; exact ⟨(Nat.le_of_ble_eq_true rfl), (Nat.le_of_ble_eq_true rfl)⟩)) (z_preV hPc hKc hDc hN hXs hS hFc (q := (RX5, TX5, 13)) (ci := 5) (q0 := 0) rfl rfl) rfl rfl hl.1 rfl (lv_room (Nat.le_of_ble_eq_true rfl)) dX5_readLaw_9 (by rw [← hRe]; exact ⟨(Nat.le_of_ble_eq_true rfl), (Nat.le_of_ble_eq_true rfl)⟩)) hS (fun q _ h => hFc q h) hFc (fun u t H1 locs ht hvm hw hB hz1 hk1 hS => ?_)
    refine hB.elim fun n_rd_23 ze1 => ze1.elim fun n_rd_24 ze2 => ze2.elim fun hf_25 ze3 => ze3.elim fun hf_26 ze4 => ze4.elim fun hf_27 ze5 => ?_
    clear hB ze1 ze2 ze3 ze4
    have hB := ze5
    clear ze5
    obtain ⟨hP, hD, hK⟩ := z_after3 (wn := [(rd_kinds, .inl (cA_rd_kinds, 1601, .inl f_rd_kinds)), (rd_stops, .inl (cA_rd_stops, 1601, .inl f_rd_stops)), (tx, .inl (cA_tx, 1600, .inl f_tx)), (tn, .inr (7, [.int tn_hours, .int tn_courts, .int tn_gateCount, .int tn_people, .int tn_lines, .int tn_falseHours, .int tn_strayers, .int tn_deep, .ref tn_above, .ref tn_doors, .ref tn_degrees, .ref tn_neighbours, .ref tn_shows, .ref tn_oneEnd, .ref tn_otherEnd, .ref tn_told, .ref tn_strayParts, .ref tn_strayCourts])), (rd, .inr (5, [.int n_rd_23, .int n_rd_24, .ref tx, .ref rd_kinds, .ref rd_starts, .ref rd_stops, .ref rd_values, .int rd_tokens, .int rd_at, .ref tn, .int rd_strayCount, .int rd_lawTold, .int rd_falseTold])), (rd_starts, .inl (cA_rd_starts, 1601, .inl f_rd_starts))]) hB ht hvm hP hD hK [0, 2] [1, 3, 4, 5] rfl 6 rfl (by decide +kernel) rfl (by decide +kernel) hk1 hFc
    generalize H1 = H at hP hS ⊢
    have hK : va_K (dC, dI) vwCl [(cA_rd_kinds, .int), (cA_rd_starts, .int), (cA_rd_stops, .int), (cA_tx, .byte)] s := hK
    replace hF := hF.trans (zL_eq rfl)
    replace hF := hF.trans (zL_eq hf_26)
    replace hF := hF.trans (zL_eq hf_27)
    have hF : RR = (n_rd_23, n_rd_24, rd_at, rd_lawTold, tn_deep) := hF
    exact W.vret hx hb hr (fun t ht hW => by rw [← hQe]; exact ⟨⟨(), rfl, trivial, ⟨n_rd_23, n_rd_24, rd_at, rd_lawTold, tn_deep, (by first | with_reducible assumption | omega), (by first | with_reducible assumption | omega), (by first | with_reducible assumption | omega), (by rw [← hRR, hF]), (by rw [← hRR, hF]), (by rw [← hRR, hF]), (by rw [← hRR, hF]), (by rw [← hRR, hF]), z_ret hP hK hD ht hW [4, 0, 5, 1, 2, 3] [] rfl (by decide) rfl⟩⟩, hS.F ht⟩) hS.2.2 dX5_readLaw_12
set_option maxHeartbeats 4000000 in
set_option maxRecDepth 100000 in
theorem kf_X5_readFalse (l : Launch) (sa : Nat → Nat) (dC : Nat → ClassId) (dI : Nat → Nat → Nat) (rd : Nat) (rd_fault : Int32) (rd_place : Int32) (tx : Nat) (rd_kinds : Nat) (rd_starts : Nat) (rd_stops : Nat) (rd_values : Nat) (rd_tokens : Int32) (rd_at : Int32) (tn : Nat) (rd_strayCount : Int32) (rd_lawTold : Int32) (rd_falseTold : Int32) (cA_rd_kinds : ClassId) (f_rd_kinds : Nat → Int32) (cA_rd_starts : ClassId) (f_rd_starts : Nat → Int32) (cA_rd_values : ClassId) (f_rd_values : Nat → Int32) (tn_hours : Int32) (tn_courts : Int32) (tn_gateCount : Int32) (tn_people : Int32) (tn_lines : Int32) (tn_falseHours : Int32) (tn_strayers : Int32) (tn_deep : Int32) (tn_above : Nat) (tn_doors : Nat) (tn_degrees : Nat) (tn_neighbours : Nat) (tn_shows : Nat) (tn_oneEnd : Nat) (tn_otherEnd : Nat) (tn_told : Nat) (tn_strayParts : Nat) (tn_strayCourts : Nat) (b_rd_tokens : 0 ≤ rd_tokens.toInt ∧ rd_tokens.toInt ≤ 1600) (b_rd_at : 0 ≤ rd_at.toInt ∧ rd_at.toInt ≤ 1600) (b_rd_strayCount : 0 ≤ rd_strayCount.toInt ∧ rd_strayCount.toInt ≤ 4) (b_rd_lawTold : 0 ≤ rd_lawTold.toInt ∧ rd_lawTold.toInt ≤ 1) (b_rd_falseTold : 0 ≤ rd_falseTold.toInt ∧ rd_falseTold.toInt ≤ 1) (b_f_rd_kinds : ∀ j : Nat, 0 ≤ (f_rd_kinds j).toInt ∧ (f_rd_kinds j).toInt ≤ 5) (b_f_rd_starts : ∀ j : Nat, 0 ≤ (f_rd_starts j).toInt ∧ (f_rd_starts j).toInt ≤ 1600) (b_f_rd_values : ∀ j : Nat, 0 ≤ (f_rd_values j).toInt ∧ (f_rd_values j).toInt ≤ 100000) (b_tn_hours : 0 ≤ tn_hours.toInt ∧ tn_hours.toInt ≤ 48) (b_tn_courts : 0 ≤ tn_courts.toInt ∧ tn_courts.toInt ≤ 10) (b_tn_gateCount : 0 ≤ tn_gateCount.toInt ∧ tn_gateCount.toInt ≤ 16) (b_tn_people : 0 ≤ tn_people.toInt ∧ tn_people.toInt ≤ 10) (b_tn_falseHours : 0 ≤ tn_falseHours.toInt ∧ tn_falseHours.toInt ≤ 9) (b_tn_deep : 0 ≤ tn_deep.toInt ∧ tn_deep.toInt ≤ 1) (sz : Nat) : Met l yX5_readFalse (.code yX5_readFalse cX5_readFalse 1 none :: zT) ({ frames := 2, cells := 0, slots := 0, locals := 44 }) (va_Pc [.ref rd] (zB sa dC dI (zV215 rd rd_fault rd_place tx rd_kinds rd_starts rd_stops rd_values rd_tokens rd_at tn rd_strayCount rd_lawTold rd_falseTold rd_kinds cA_rd_kinds f_rd_kinds rd_starts cA_rd_starts f_rd_starts rd_values cA_rd_values f_rd_values tn tn_hours tn_courts tn_gateCount tn_people tn_lines tn_falseHours tn_strayers tn_deep tn_above tn_doors tn_degrees tn_neighbours tn_shows tn_oneEnd tn_otherEnd tn_told tn_strayParts tn_strayCourts) [(cA_rd_kinds, .int), (cA_rd_starts, .int), (cA_rd_values, .int)] sz)) (va_Qv (fun _ : Unit => True) (fun _ t => ∃ (n_rd_0 : Int32) (n_rd_1 : Int32) (n_rd_8 : Int32) (n_rd_12 : Int32) (n_tn_5 : Int32), (0 ≤ n_rd_8.toInt ∧ n_rd_8.toInt ≤ 1600) ∧ (0 ≤ n_rd_12.toInt ∧ n_rd_12.toInt ≤ 1) ∧ (0 ≤ n_tn_5.toInt ∧ n_tn_5.toInt ≤ 9) ∧ (n_rd_0 = (F_X5_readFalse rd_fault rd_place rd_tokens rd_at rd_falseTold f_rd_kinds f_rd_starts f_rd_values tn_falseHours).1) ∧ (n_rd_1 = (F_X5_readFalse rd_fault rd_place rd_tokens rd_at rd_falseTold f_rd_kinds f_rd_starts f_rd_values tn_falseHours).2.1) ∧ (n_rd_8 = (F_X5_readFalse rd_fault rd_place rd_tokens rd_at rd_falseTold f_rd_kinds f_rd_starts f_rd_values tn_falseHours).2.2.1) ∧ (n_rd_12 = (F_X5_readFalse rd_fault rd_place rd_tokens rd_at rd_falseTold f_rd_kinds f_rd_starts f_rd_values tn_falseHours).2.2.2.1) ∧ (n_tn_5 = (F_X5_readFalse rd_fault rd_place rd_tokens rd_at rd_falseTold f_rd_kinds f_rd_starts f_rd_values tn_falseHours).2.2.2.2) ∧ zW dC dI (zV215 rd n_rd_0 n_rd_1 tx rd_kinds rd_starts rd_stops rd_values rd_tokens n_rd_8 tn rd_strayCount rd_lawTold n_rd_12 rd_kinds cA_rd_kinds f_rd_kinds rd_starts cA_rd_starts f_rd_starts rd_values cA_rd_values f_rd_values tn tn_hours tn_courts tn_gateCount tn_people tn_lines n_tn_5 tn_strayers tn_deep tn_above tn_doors tn_degrees tn_neighbours tn_shows tn_oneEnd tn_otherEnd tn_told tn_strayParts tn_strayCourts) [] (va_A (zV215 rd rd_fault rd_place tx rd_kinds rd_starts rd_stops rd_values rd_tokens rd_at tn rd_strayCount rd_lawTold rd_falseTold rd_kinds cA_rd_kinds f_rd_kinds rd_starts cA_rd_starts f_rd_starts rd_values cA_rd_values f_rd_values tn tn_hours tn_courts tn_gateCount tn_people tn_lines tn_falseHours tn_strayers tn_deep tn_above tn_doors tn_degrees tn_neighbours tn_shows tn_oneEnd tn_otherEnd tn_told tn_strayParts tn_strayCourts) sz) t) (va_A (zV215 rd rd_fault rd_place tx rd_kinds rd_starts rd_stops rd_values rd_tokens rd_at tn rd_strayCount rd_lawTold rd_falseTold rd_kinds cA_rd_kinds f_rd_kinds rd_starts cA_rd_starts f_rd_starts rd_values cA_rd_values f_rd_values tn tn_hours tn_courts tn_gateCount tn_people tn_lines tn_falseHours tn_strayers tn_deep tn_above tn_doors tn_degrees tn_neighbours tn_shows tn_oneEnd tn_otherEnd tn_told tn_strayParts tn_strayCourts) sz)) 0 0 (va_A (zV215 rd rd_fault rd_place tx rd_kinds rd_starts rd_stops rd_values rd_tokens rd_at tn rd_strayCount rd_lawTold rd_falseTold rd_kinds cA_rd_kinds f_rd_kinds rd_starts cA_rd_starts f_rd_starts rd_values cA_rd_values f_rd_values tn tn_hours tn_courts tn_gateCount tn_people tn_lines tn_falseHours tn_strayers tn_deep tn_above tn_doors tn_degrees tn_neighbours tn_shows tn_oneEnd tn_otherEnd tn_told tn_strayParts tn_strayCourts) sz) := by
  refine z_enter (by decide) (by exact (Nat.le_of_ble_eq_true rfl)) ?_
  intro p e s m args below meth c ls A R Qc hargs hsz hQe hAe hRe hx hb hml hr hts hown hlocks hin hl hP hK hD hN hXs hA hS
  rw [hAe] at hQe
  have hown : s.vm.findClass RX5 = some m.cls := hown
  have hl : lv_has ls 1 [(0, .ref rd)] := hl
  obtain ⟨RR, hRR⟩ : ∃ z : Int32 × Int32 × Int32 × Int32 × Int32, z = (F_X5_readFalse rd_fault rd_place rd_tokens rd_at rd_falseTold f_rd_kinds f_rd_starts f_rd_values tn_falseHours) := ⟨_, rfl⟩
  have hF : RR = (F_X5_readFalse rd_fault rd_place rd_tokens rd_at rd_falseTold f_rd_kinds f_rd_starts f_rd_values tn_falseHours) := hRR
  refine lv_aload_n hx hb dX5_readFalse_0 rfl (lv_at hl 0 rfl) ?_
  refine va_get (D := (dC, dI)) (ci := 5) (v := .int rd_falseTold) (C := RX5) (T := TX5) (N := 13) hx hb hts zl_X5 hown hK hP 0 rfl rfl 12 (by decide) (hts _ zw_t1_207) (fun _ h9 => h9) rfl dX5_readFalse_1 ?_
  refine lv_if_eq (tgt := 13) hx hb dX5_readFalse_4 (by decide) (fun c_1 => ?_) (fun c_1 => ?_)
  · have ic_1 := zz_eq rfl (show Int32.toInt 0 = 0 from by decide) c_1
    replace hF := hF.trans (if_pos c_1)
    refine lv_aload_n hx hb dX5_readFalse_13 rfl (lv_at hl 0 rfl) ?_
    refine lv_iconst (v := 1) hx hb dX5_readFalse_14 (by decide) ?_
    refine va_put (D := (dC, dI)) (ci := 5) (v := .int 1) (ty := .boolean) (C := RX5) (T := TX5) (N := 13) hx hb hts zl_X5 tyX5 tyX5_ok nmX5 hown hK hP hD hS 0 rfl rfl 12 (by decide) (hts _ zw_t1_207) (fun _ h9 => h9) rfl (by decide +kernel) (by decide) (by decide) (Nat.le_of_ble_eq_true rfl) dX5_readFalse_15 (fun H locs hP hD hS => ?_)
    have hP : va_P (dC, dI) vwCl [(rd, .inr (5, [.int rd_fault, .int rd_place, .ref tx, .ref rd_kinds, .ref rd_starts, .ref rd_stops, .ref rd_values, .int rd_tokens, .int rd_at, .ref tn, .int rd_strayCount, .int rd_lawTold, .int 1])), (rd_kinds, .inl (cA_rd_kinds, 1601, .inl f_rd_kinds)), (rd_starts, .inl (cA_rd_starts, 1601, .inl f_rd_starts)), (rd_values, .inl (cA_rd_values, 1601, .inl f_rd_values)), (tn, .inr (7, [.int tn_hours, .int tn_courts, .int tn_gateCount, .int tn_people, .int tn_lines, .int tn_falseHours, .int tn_strayers, .int tn_deep, .ref tn_above, .ref tn_doors, .ref tn_degrees, .ref tn_neighbours, .ref tn_shows, .ref tn_oneEnd, .ref tn_otherEnd, .ref tn_told, .ref tn_strayParts, .ref tn_strayCourts]))] H := hP
    have hD : va_D A [(rd, .inr (5, [.int rd_fault, .int rd_place, .ref tx, .ref rd_kinds, .ref rd_starts, .ref rd_stops, .ref rd_values, .int rd_tokens, .int rd_at, .ref tn, .int rd_strayCount, .int rd_lawTold, .int 1])), (rd_kinds, .inl (cA_rd_kinds, 1601, .inl f_rd_kinds)), (rd_starts, .inl (cA_rd_starts, 1601, .inl f_rd_starts)), (rd_values, .inl (cA_rd_values, 1601, .inl f_rd_values)), (tn, .inr (7, [.int tn_hours, .int tn_courts, .int tn_gateCount, .int tn_people, .int tn_lines, .int tn_falseHours, .int tn_strayers, .int tn_deep, .ref tn_above, .ref tn_doors, .ref tn_degrees, .ref tn_neighbours, .ref tn_shows, .ref tn_oneEnd, .ref tn_otherEnd, .ref tn_told, .ref tn_strayParts, .ref tn_strayCourts]))] := hD
    refine lv_aload_n hx hb dX5_readFalse_18 rfl (lv_at hl 0 rfl) ?_
    obtain ⟨hPc, hDc, hFc⟩ := z_cut (wc := [(rd, .inr (5, [.int rd_fault, .int rd_place, .ref tx, .ref rd_kinds, .ref rd_starts, .ref rd_stops, .ref rd_values, .int rd_tokens, .int rd_at, .ref tn, .int rd_strayCount, .int rd_lawTold, .int 1]))]) hP hD hS hA [0] rfl (by decide +kernel)
    have hKc := hK.sub (tys' := []) [] rfl
    refine va_callv (va_runV (As := []) (rest := []) ⟨hx, hb, hml, hown, hts⟩ (kf_X5_advance l sa dC dI rd rd_fault rd_place tx rd_kinds rd_starts rd_stops rd_values rd_tokens rd_at tn rd_strayCount rd_lawTold (1) b_rd_tokens b_rd_at b_rd_strayCount b_rd_lawTold (by decide) H.size) (cwV 0 hts (z_gV zw_t3_93 zw_t3_95 zw_s1_8 zw_t1_4 zw_t3_96) rfl rfl rfl (by decide +kernel) (by rw [← hRe]; exact ⟨(Nat.le_of_ble_eq_true rfl), (Nat.le_of_ble_eq_true rfl)⟩)) (z_preV hPc hKc hDc hN hXs hS hFc (q := (RX5, TX5, 13)) (ci := 5) (q0 := 0) rfl rfl) rfl rfl hl.1 rfl (lv_room (Nat.le_of_ble_eq_true rfl)) dX5_readFalse_19 (by rw [← hRe]; exact ⟨(Nat.le_of_ble_eq_true rfl), (Nat.le_of_ble_eq_true rfl)⟩)) hS (fun q _ h => hFc q h) hFc (fun u t H1 locs ht hvm hw hB hz1 hk1 hS => ?_)
    obtain ⟨n_rd_3, b_n_rd_3, hf_4, hB⟩ := hB
    obtain ⟨hP, hD, hK⟩ := z_after3 (wn := [(rd_kinds, .inl (cA_rd_kinds, 1601, .inl f_rd_kinds)), (rd_starts, .inl (cA_rd_starts, 1601, .inl f_rd_starts)), (rd_values, .inl (cA_rd_values, 1601, .inl f_rd_values)), (tn, .inr (7, [.int tn_hours, .int tn_courts, .int tn_gateCount, .int tn_people, .int tn_lines, .int tn_falseHours, .int tn_strayers, .int tn_deep, .ref tn_above, .ref tn_doors, .ref tn_degrees, .ref tn_neighbours, .ref tn_shows, .ref tn_oneEnd, .ref tn_otherEnd, .ref tn_told, .ref tn_strayParts, .ref tn_strayCourts])), (rd, .inr (5, [.int rd_fault, .int rd_place, .ref tx, .ref rd_kinds, .ref rd_starts, .ref rd_stops, .ref rd_values, .int rd_tokens, .int n_rd_3, .ref tn, .int rd_strayCount, .int rd_lawTold, .int 1]))]) hB ht hvm hP hD hK [0] [1, 2, 3, 4] rfl 5 rfl (by decide +kernel) rfl (by decide +kernel) hk1 hFc
    generalize H1 = H at hP hS ⊢
    have hK : va_K (dC, dI) vwCl [(cA_rd_kinds, .int), (cA_rd_starts, .int), (cA_rd_values, .int)] s := hK
    replace hF := hF.trans (zL_eq hf_4)
    refine lv_aload_n hx hb dX5_readFalse_22 rfl (lv_at hl 0 rfl) ?_
    refine va_get (D := (dC, dI)) (ci := 5) (v := .ref tn) (C := RX5) (T := TX5) (N := 13) hx hb hts zl_X5 hown hK hP 4 rfl rfl 9 (by decide) (hts _ zw_t1_204) (fun _ h9 => h9) rfl dX5_readFalse_23 ?_
    refine lv_aload_n hx hb dX5_readFalse_26 rfl (lv_at hl 0 rfl) ?_
    refine lv_iconst (v := 0) hx hb dX5_readFalse_27 (by decide) ?_
    refine lv_bipush (v := 9) hx hb dX5_readFalse_28 (by decide) ?_
    obtain ⟨hPc, hDc, hFc⟩ := z_cut (wc := [(rd, .inr (5, [.int rd_fault, .int rd_place, .ref tx, .ref rd_kinds, .ref rd_starts, .ref rd_stops, .ref rd_values, .int rd_tokens, .int n_rd_3, .ref tn, .int rd_strayCount, .int rd_lawTold, .int 1])), (rd_kinds, .inl (cA_rd_kinds, 1601, .inl f_rd_kinds)), (rd_starts, .inl (cA_rd_starts, 1601, .inl f_rd_starts)), (rd_values, .inl (cA_rd_values, 1601, .inl f_rd_values))]) hP hD hS hA [4, 0, 1, 2] rfl (by decide +kernel)
    have hKc := hK.sub (tys' := [(cA_rd_kinds, .int), (cA_rd_starts, .int), (cA_rd_values, .int)]) [0, 1, 2] rfl
    refine va_calli (va_runV (As := [.int 0, .int 9]) (rest := [.ref tn]) ⟨hx, hb, hml, hown, hts⟩ (kf_X5_expectNumber l sa dC dI rd (0) (9) rd_fault rd_place tx rd_kinds rd_starts rd_stops rd_values rd_tokens n_rd_3 tn rd_strayCount rd_lawTold (1) cA_rd_kinds f_rd_kinds cA_rd_starts f_rd_starts cA_rd_values f_rd_values (by decide) (by decide) b_rd_tokens (by first | with_reducible assumption | omega) b_rd_strayCount b_rd_lawTold (by decide) b_f_rd_kinds b_f_rd_starts b_f_rd_values H.size) (cwV 2 hts (z_gV zw_t3_98 zw_t3_100 zw_s1_9 zw_t1_4 zw_t3_101) rfl rfl rfl (by decide +kernel) (by rw [← hRe]; exact ⟨(Nat.le_of_ble_eq_true rfl), (Nat.le_of_ble_eq_true rfl)⟩)) (z_preV hPc hKc hDc hN hXs hS hFc (q := (RX5, TX5, 13)) (ci := 5) (q0 := 0) rfl rfl) rfl rfl hl.1 rfl (lv_room (Nat.le_of_ble_eq_true rfl)) dX5_readFalse_30 (by rw [← hRe]; exact ⟨(Nat.le_of_ble_eq_true rfl), (Nat.le_of_ble_eq_true rfl)⟩)) hS (fun q _ h => hFc q h) hFc (fun r_5 u t H1 locs ht hvm hw hB hz1 hk1 hS => ?_)
    refine hB.elim fun n_rd_6 ze1 => ze1.elim fun n_rd_7 ze2 => ze2.elim fun n_rd_8 ze3 => ze3.elim fun b_n_rd_8 ze4 => ze4.elim fun hf_9 ze5 => ze5.elim fun hf_10 ze6 => ze6.elim fun hf_11 ze7 => ?_
    clear hB ze1 ze2 ze3 ze4 ze5 ze6
    have hB := ze7
    clear ze7
    obtain ⟨hP, hD, hK⟩ := z_after3 (wn := [(tn, .inr (7, [.int tn_hours, .int tn_courts, .int tn_gateCount, .int tn_people, .int tn_lines, .int tn_falseHours, .int tn_strayers, .int tn_deep, .ref tn_above, .ref tn_doors, .ref tn_degrees, .ref tn_neighbours, .ref tn_shows, .ref tn_oneEnd, .ref tn_otherEnd, .ref tn_told, .ref tn_strayParts, .ref tn_strayCourts])), (rd, .inr (5, [.int n_rd_6, .int n_rd_7, .ref tx, .ref rd_kinds, .ref rd_starts, .ref rd_stops, .ref rd_values, .int rd_tokens, .int n_rd_8, .ref tn, .int rd_strayCount, .int rd_lawTold, .int 1])), (rd_kinds, .inl (cA_rd_kinds, 1601, .inl f_rd_kinds)), (rd_starts, .inl (cA_rd_starts, 1601, .inl f_rd_starts)), (rd_values, .inl (cA_rd_values, 1601, .inl f_rd_values))]) hB ht hvm hP hD hK [4, 0, 1, 2] [3] rfl 5 rfl (by decide +kernel) rfl (by decide +kernel) hk1 hFc
    generalize H1 = H at hP hS ⊢
    have hK : va_K (dC, dI) vwCl [(cA_rd_kinds, .int), (cA_rd_starts, .int), (cA_rd_values, .int)] s := hK
    have b_r_5 : 0 ≤ r_5.toInt ∧ r_5.toInt ≤ 100000 := hw.1
    have s_r_5 := hw.2.1
    have sf_r_5 := hw.2.2
    have za_0 : Int32.toInt 0 = 0 := by decide
    have za_9 : Int32.toInt 9 = 9 := by decide
    replace hF := hF.trans (zL_eq rfl)
    replace hF := hF.trans (zL_eq sf_r_5)
    replace hF := hF.trans (zL_eq hf_9)
    replace hF := hF.trans (zL_eq hf_10)
    replace hF := hF.trans (zL_eq hf_11)
    refine va_put (D := (dC, dI)) (ci := 7) (v := .int r_5) (ty := .int) (C := RX7) (T := TX7) (N := 18) hx hb hts zl_X7 tyX7 tyX7_ok nmX7 hown hK hP hD hS 0 rfl rfl 5 (by decide) (hts _ zw_t1_70) (fun _ h9 => h9) rfl (by decide +kernel) rfl rfl (Nat.le_of_ble_eq_true rfl) dX5_readFalse_33 (fun H locs hP hD hS => ?_)
    have hP : va_P (dC, dI) vwCl [(tn, .inr (7, [.int tn_hours, .int tn_courts, .int tn_gateCount, .int tn_people, .int tn_lines, .int r_5, .int tn_strayers, .int tn_deep, .ref tn_above, .ref tn_doors, .ref tn_degrees, .ref tn_neighbours, .ref tn_shows, .ref tn_oneEnd, .ref tn_otherEnd, .ref tn_told, .ref tn_strayParts, .ref tn_strayCourts])), (rd, .inr (5, [.int n_rd_6, .int n_rd_7, .ref tx, .ref rd_kinds, .ref rd_starts, .ref rd_stops, .ref rd_values, .int rd_tokens, .int n_rd_8, .ref tn, .int rd_strayCount, .int rd_lawTold, .int 1])), (rd_kinds, .inl (cA_rd_kinds, 1601, .inl f_rd_kinds)), (rd_starts, .inl (cA_rd_starts, 1601, .inl f_rd_starts)), (rd_values, .inl (cA_rd_values, 1601, .inl f_rd_values))] H := hP
    have hD : va_D A [(tn, .inr (7, [.int tn_hours, .int tn_courts, .int tn_gateCount, .int tn_people, .int tn_lines, .int r_5, .int tn_strayers, .int tn_deep, .ref tn_above, .ref tn_doors, .ref tn_degrees, .ref tn_neighbours, .ref tn_shows, .ref tn_oneEnd, .ref tn_otherEnd, .ref tn_told, .ref tn_strayParts, .ref tn_strayCourts])), (rd, .inr (5, [.int n_rd_6, .int n_rd_7, .ref tx, .ref rd_kinds, .ref rd_starts, .ref rd_stops, .ref rd_values, .int rd_tokens, .int n_rd_8, .ref tn, .int rd_strayCount, .int rd_lawTold, .int 1])), (rd_kinds, .inl (cA_rd_kinds, 1601, .inl f_rd_kinds)), (rd_starts, .inl (cA_rd_starts, 1601, .inl f_rd_starts)), (rd_values, .inl (cA_rd_values, 1601, .inl f_rd_values))] := hD
    have hF : RR = (n_rd_6, n_rd_7, n_rd_8, (1 : Int32), r_5) := hF
    exact W.vret hx hb hr (fun t ht hW => by rw [← hQe]; exact ⟨⟨(), rfl, trivial, ⟨n_rd_6, n_rd_7, n_rd_8, (1), r_5, (by first | with_reducible assumption | omega), (by decide), (by first | with_reducible assumption | omega), (by rw [← hRR, hF]), (by rw [← hRR, hF]), (by rw [← hRR, hF]), (by rw [← hRR, hF]), (by rw [← hRR, hF]), z_ret hP hK hD ht hW [1, 2, 3, 4, 0] [] rfl (by decide) rfl⟩⟩, hS.F ht⟩) hS.2.2 dX5_readFalse_36
  · have ic_1 := zz_neq rfl (show Int32.toInt 0 = 0 from by decide) c_1
    replace hF := hF.trans (if_neg c_1)
    refine lv_aload_n hx hb dX5_readFalse_7 rfl (lv_at hl 0 rfl) ?_
    refine lv_iconst (v := 2) hx hb dX5_readFalse_8 (by decide) ?_
    obtain ⟨hPc, hDc, hFc⟩ := z_cut (wc := (zV211 rd rd_fault rd_place tx rd_kinds rd_starts rd_stops rd_values rd_tokens rd_at tn rd_strayCount rd_lawTold rd_falseTold rd_starts cA_rd_starts f_rd_starts)) hP hD hS hA [0, 2] rfl (by decide +kernel)
    have hKc := hK.sub (tys' := [(cA_rd_starts, .int)]) [1] rfl
    refine va_callv (va_runV (As := [.int 2]) (rest := []) ⟨hx, hb, hml, hown, hts⟩ (kf_X5_blame l sa dC dI rd (2) rd_fault rd_place tx rd_kinds rd_starts rd_stops rd_values rd_tokens rd_at tn rd_strayCount rd_lawTold rd_falseTold cA_rd_starts f_rd_starts (by decide) b_rd_tokens b_rd_at b_rd_strayCount b_rd_lawTold b_rd_falseTold b_f_rd_starts s.heap.size) (cwV 1 hts (z_gV zw_t3_89 zw_t3_91 zw_s1_7 zw_t1_4 zw_t3_92) rfl rfl rfl (by decide +kernel) (by rw [← hRe]; exact ⟨(Nat.le_of_ble_eq_true rfl), (Nat.le_of_ble_eq_true rfl)⟩)) (z_preV hPc hKc hDc hN hXs hS hFc (q := (RX5, TX5, 13)) (ci := 5) (q0 := 0) rfl rfl) rfl rfl hl.1 rfl (lv_room (Nat.le_of_ble_eq_true rfl)) dX5_readFalse_9 (by rw [← hRe]; exact ⟨(Nat.le_of_ble_eq_true rfl), (Nat.le_of_ble_eq_true rfl)⟩)) hS (fun q _ h => hFc q h) hFc (fun u t H1 locs ht hvm hw hB hz1 hk1 hS => ?_)
    refine hB.elim fun n_rd_14 ze1 => ze1.elim fun n_rd_15 ze2 => ze2.elim fun hf_16 ze3 => ze3.elim fun hf_17 ze4 => ze4.elim fun hf_18 ze5 => ?_
    clear hB ze1 ze2 ze3 ze4
    have hB := ze5
    clear ze5
    obtain ⟨hP, hD, hK⟩ := z_after3 (wn := [(rd_kinds, .inl (cA_rd_kinds, 1601, .inl f_rd_kinds)), (rd_values, .inl (cA_rd_values, 1601, .inl f_rd_values)), (tn, .inr (7, [.int tn_hours, .int tn_courts, .int tn_gateCount, .int tn_people, .int tn_lines, .int tn_falseHours, .int tn_strayers, .int tn_deep, .ref tn_above, .ref tn_doors, .ref tn_degrees, .ref tn_neighbours, .ref tn_shows, .ref tn_oneEnd, .ref tn_otherEnd, .ref tn_told, .ref tn_strayParts, .ref tn_strayCourts])), (rd, .inr (5, [.int n_rd_14, .int n_rd_15, .ref tx, .ref rd_kinds, .ref rd_starts, .ref rd_stops, .ref rd_values, .int rd_tokens, .int rd_at, .ref tn, .int rd_strayCount, .int rd_lawTold, .int rd_falseTold])), (rd_starts, .inl (cA_rd_starts, 1601, .inl f_rd_starts))]) hB ht hvm hP hD hK [0, 2] [1, 3, 4] rfl 5 rfl (by decide +kernel) rfl (by decide +kernel) hk1 hFc
    generalize H1 = H at hP hS ⊢
    have hK : va_K (dC, dI) vwCl [(cA_rd_kinds, .int), (cA_rd_starts, .int), (cA_rd_values, .int)] s := hK
    replace hF := hF.trans (zL_eq rfl)
    replace hF := hF.trans (zL_eq hf_17)
    replace hF := hF.trans (zL_eq hf_18)
    have hF : RR = (n_rd_14, n_rd_15, rd_at, rd_falseTold, tn_falseHours) := hF
    exact W.vret hx hb hr (fun t ht hW => by rw [← hQe]; exact ⟨⟨(), rfl, trivial, ⟨n_rd_14, n_rd_15, rd_at, rd_falseTold, tn_falseHours, (by first | with_reducible assumption | omega), (by first | with_reducible assumption | omega), (by first | with_reducible assumption | omega), (by rw [← hRR, hF]), (by rw [← hRR, hF]), (by rw [← hRR, hF]), (by rw [← hRR, hF]), (by rw [← hRR, hF]), z_ret hP hK hD ht hW [3, 0, 4, 1, 2] [] rfl (by decide) rfl⟩⟩, hS.F ht⟩) hS.2.2 dX5_readFalse_12
set_option maxHeartbeats 4000000 in
set_option maxRecDepth 100000 in
theorem kf_X5_readStrays (l : Launch) (sa : Nat → Nat) (dC : Nat → ClassId) (dI : Nat → Nat → Nat) (rd : Nat) (rd_fault : Int32) (rd_place : Int32) (tx : Nat) (rd_kinds : Nat) (rd_starts : Nat) (rd_stops : Nat) (rd_values : Nat) (rd_tokens : Int32) (rd_at : Int32) (tn : Nat) (rd_strayCount : Int32) (rd_lawTold : Int32) (rd_falseTold : Int32) (cA_rd_kinds : ClassId) (f_rd_kinds : Nat → Int32) (cA_rd_starts : ClassId) (f_rd_starts : Nat → Int32) (cA_rd_stops : ClassId) (f_rd_stops : Nat → Int32) (cA_rd_values : ClassId) (f_rd_values : Nat → Int32) (cA_tx : ClassId) (f_tx : Nat → Int32) (tn_hours : Int32) (tn_courts : Int32) (tn_gateCount : Int32) (tn_people : Int32) (tn_lines : Int32) (tn_falseHours : Int32) (tn_strayers : Int32) (tn_deep : Int32) (tn_above : Nat) (tn_doors : Nat) (tn_degrees : Nat) (tn_neighbours : Nat) (tn_shows : Nat) (tn_oneEnd : Nat) (tn_otherEnd : Nat) (tn_told : Nat) (tn_strayParts : Nat) (tn_strayCourts : Nat) (cA_tn_strayParts : ClassId) (f_tn_strayParts : Nat → Int32) (cA_tn_strayCourts : ClassId) (f_tn_strayCourts : Nat → Int32) (b_rd_tokens : 0 ≤ rd_tokens.toInt ∧ rd_tokens.toInt ≤ 1600) (b_rd_at : 0 ≤ rd_at.toInt ∧ rd_at.toInt ≤ 1600) (b_rd_strayCount : 0 ≤ rd_strayCount.toInt ∧ rd_strayCount.toInt ≤ 4) (b_rd_lawTold : 0 ≤ rd_lawTold.toInt ∧ rd_lawTold.toInt ≤ 1) (b_rd_falseTold : 0 ≤ rd_falseTold.toInt ∧ rd_falseTold.toInt ≤ 1) (b_f_rd_kinds : ∀ j : Nat, 0 ≤ (f_rd_kinds j).toInt ∧ (f_rd_kinds j).toInt ≤ 5) (b_f_rd_starts : ∀ j : Nat, 0 ≤ (f_rd_starts j).toInt ∧ (f_rd_starts j).toInt ≤ 1600) (b_f_rd_stops : ∀ j : Nat, 0 ≤ (f_rd_stops j).toInt ∧ (f_rd_stops j).toInt ≤ 1600) (b_f_rd_values : ∀ j : Nat, 0 ≤ (f_rd_values j).toInt ∧ (f_rd_values j).toInt ≤ 100000) (b_tn_hours : 0 ≤ tn_hours.toInt ∧ tn_hours.toInt ≤ 48) (b_tn_courts : 0 ≤ tn_courts.toInt ∧ tn_courts.toInt ≤ 10) (b_tn_gateCount : 0 ≤ tn_gateCount.toInt ∧ tn_gateCount.toInt ≤ 16) (b_tn_people : 0 ≤ tn_people.toInt ∧ tn_people.toInt ≤ 9) (b_tn_falseHours : 0 ≤ tn_falseHours.toInt ∧ tn_falseHours.toInt ≤ 9) (b_tn_deep : 0 ≤ tn_deep.toInt ∧ tn_deep.toInt ≤ 1) (b_f_tn_strayParts : ∀ j : Nat, 0 ≤ (f_tn_strayParts j).toInt ∧ (f_tn_strayParts j).toInt ≤ 99) (b_f_tn_strayCourts : ∀ j : Nat, 0 ≤ (f_tn_strayCourts j).toInt ∧ (f_tn_strayCourts j).toInt ≤ 9) (sz : Nat) : Met l yX5_readStrays (.code yX5_readStrays cX5_readStrays 1 none :: zT) ({ frames := 6, cells := 0, slots := 0, locals := 128 }) (va_Pc [.ref rd] (zB sa dC dI (zV221 rd rd_fault rd_place tx rd_kinds rd_starts rd_stops rd_values rd_tokens rd_at tn rd_strayCount rd_lawTold rd_falseTold rd_kinds cA_rd_kinds f_rd_kinds rd_starts cA_rd_starts f_rd_starts rd_stops cA_rd_stops f_rd_stops rd_values cA_rd_values f_rd_values tx cA_tx f_tx tn tn_hours tn_courts tn_gateCount tn_people tn_lines tn_falseHours tn_strayers tn_deep tn_above tn_doors tn_degrees tn_neighbours tn_shows tn_oneEnd tn_otherEnd tn_told tn_strayParts tn_strayCourts tn_strayParts cA_tn_strayParts f_tn_strayParts tn_strayCourts cA_tn_strayCourts f_tn_strayCourts) [(cA_rd_kinds, .int), (cA_rd_starts, .int), (cA_rd_stops, .int), (cA_rd_values, .int), (cA_tx, .byte), (cA_tn_strayParts, .int), (cA_tn_strayCourts, .int)] sz)) (va_Qv (fun _ : Unit => True) (fun _ t => ∃ (n_rd_0 : Int32) (n_rd_1 : Int32) (n_rd_8 : Int32) (n_rd_10 : Int32) (n_tn_6 : Int32) (n_tn_strayParts : Nat → Int32) (n_tn_strayCourts : Nat → Int32), (0 ≤ n_rd_8.toInt ∧ n_rd_8.toInt ≤ 1600) ∧ (0 ≤ n_rd_10.toInt ∧ n_rd_10.toInt ≤ 4) ∧ (∀ j : Nat, 0 ≤ (n_tn_strayParts j).toInt ∧ (n_tn_strayParts j).toInt ≤ 99) ∧ (∀ j : Nat, 0 ≤ (n_tn_strayCourts j).toInt ∧ (n_tn_strayCourts j).toInt ≤ 9) ∧ (n_rd_0 = (F_X5_readStrays rd_fault rd_place rd_tokens rd_at rd_strayCount f_rd_kinds f_rd_starts f_rd_stops f_rd_values f_tx tn_courts tn_people tn_strayers f_tn_strayParts f_tn_strayCourts).1) ∧ (n_rd_1 = (F_X5_readStrays rd_fault rd_place rd_tokens rd_at rd_strayCount f_rd_kinds f_rd_starts f_rd_stops f_rd_values f_tx tn_courts tn_people tn_strayers f_tn_strayParts f_tn_strayCourts).2.1) ∧ (n_rd_8 = (F_X5_readStrays rd_fault rd_place rd_tokens rd_at rd_strayCount f_rd_kinds f_rd_starts f_rd_stops f_rd_values f_tx tn_courts tn_people tn_strayers f_tn_strayParts f_tn_strayCourts).2.2.1) ∧ (n_rd_10 = (F_X5_readStrays rd_fault rd_place rd_tokens rd_at rd_strayCount f_rd_kinds f_rd_starts f_rd_stops f_rd_values f_tx tn_courts tn_people tn_strayers f_tn_strayParts f_tn_strayCourts).2.2.2.1) ∧ (n_tn_6 = (F_X5_readStrays rd_fault rd_place rd_tokens rd_at rd_strayCount f_rd_kinds f_rd_starts f_rd_stops f_rd_values f_tx tn_courts tn_people tn_strayers f_tn_strayParts f_tn_strayCourts).2.2.2.2.1) ∧ (n_tn_strayParts = (F_X5_readStrays rd_fault rd_place rd_tokens rd_at rd_strayCount f_rd_kinds f_rd_starts f_rd_stops f_rd_values f_tx tn_courts tn_people tn_strayers f_tn_strayParts f_tn_strayCourts).2.2.2.2.2.1) ∧ (n_tn_strayCourts = (F_X5_readStrays rd_fault rd_place rd_tokens rd_at rd_strayCount f_rd_kinds f_rd_starts f_rd_stops f_rd_values f_tx tn_courts tn_people tn_strayers f_tn_strayParts f_tn_strayCourts).2.2.2.2.2.2) ∧ zW dC dI (zV221 rd n_rd_0 n_rd_1 tx rd_kinds rd_starts rd_stops rd_values rd_tokens n_rd_8 tn n_rd_10 rd_lawTold rd_falseTold rd_kinds cA_rd_kinds f_rd_kinds rd_starts cA_rd_starts f_rd_starts rd_stops cA_rd_stops f_rd_stops rd_values cA_rd_values f_rd_values tx cA_tx f_tx tn tn_hours tn_courts tn_gateCount tn_people tn_lines tn_falseHours n_tn_6 tn_deep tn_above tn_doors tn_degrees tn_neighbours tn_shows tn_oneEnd tn_otherEnd tn_told tn_strayParts tn_strayCourts tn_strayParts cA_tn_strayParts n_tn_strayParts tn_strayCourts cA_tn_strayCourts n_tn_strayCourts) [] (va_A (zV221 rd rd_fault rd_place tx rd_kinds rd_starts rd_stops rd_values rd_tokens rd_at tn rd_strayCount rd_lawTold rd_falseTold rd_kinds cA_rd_kinds f_rd_kinds rd_starts cA_rd_starts f_rd_starts rd_stops cA_rd_stops f_rd_stops rd_values cA_rd_values f_rd_values tx cA_tx f_tx tn tn_hours tn_courts tn_gateCount tn_people tn_lines tn_falseHours tn_strayers tn_deep tn_above tn_doors tn_degrees tn_neighbours tn_shows tn_oneEnd tn_otherEnd tn_told tn_strayParts tn_strayCourts tn_strayParts cA_tn_strayParts f_tn_strayParts tn_strayCourts cA_tn_strayCourts f_tn_strayCourts) sz) t) (va_A (zV221 rd rd_fault rd_place tx rd_kinds rd_starts rd_stops rd_values rd_tokens rd_at tn rd_strayCount rd_lawTold rd_falseTold rd_kinds cA_rd_kinds f_rd_kinds rd_starts cA_rd_starts f_rd_starts rd_stops cA_rd_stops f_rd_stops rd_values cA_rd_values f_rd_values tx cA_tx f_tx tn tn_hours tn_courts tn_gateCount tn_people tn_lines tn_falseHours tn_strayers tn_deep tn_above tn_doors tn_degrees tn_neighbours tn_shows tn_oneEnd tn_otherEnd tn_told tn_strayParts tn_strayCourts tn_strayParts cA_tn_strayParts f_tn_strayParts tn_strayCourts cA_tn_strayCourts f_tn_strayCourts) sz)) 0 0 (va_A (zV221 rd rd_fault rd_place tx rd_kinds rd_starts rd_stops rd_values rd_tokens rd_at tn rd_strayCount rd_lawTold rd_falseTold rd_kinds cA_rd_kinds f_rd_kinds rd_starts cA_rd_starts f_rd_starts rd_stops cA_rd_stops f_rd_stops rd_values cA_rd_values f_rd_values tx cA_tx f_tx tn tn_hours tn_courts tn_gateCount tn_people tn_lines tn_falseHours tn_strayers tn_deep tn_above tn_doors tn_degrees tn_neighbours tn_shows tn_oneEnd tn_otherEnd tn_told tn_strayParts tn_strayCourts tn_strayParts cA_tn_strayParts f_tn_strayParts tn_strayCourts cA_tn_strayCourts f_tn_strayCourts) sz) := by
  refine z_enter (by decide) (by exact (Nat.le_of_ble_eq_true rfl)) ?_
  intro p e s m args below meth c ls A R Qc hargs hsz hQe hAe hRe hx hb hml hr hts hown hlocks hin hl hP hK hD hN hXs hA hS
  rw [hAe] at hQe
  have hown : s.vm.findClass RX5 = some m.cls := hown
  have hl : lv_has ls 1 [(0, .ref rd)] := hl
  obtain ⟨RR, hRR⟩ : ∃ z : Int32 × Int32 × Int32 × Int32 × Int32 × (Nat → Int32) × (Nat → Int32), z = (F_X5_readStrays rd_fault rd_place rd_tokens rd_at rd_strayCount f_rd_kinds f_rd_starts f_rd_stops f_rd_values f_tx tn_courts tn_people tn_strayers f_tn_strayParts f_tn_strayCourts) := ⟨_, rfl⟩
  have hF : RR = (F_X5_readStrays rd_fault rd_place rd_tokens rd_at rd_strayCount f_rd_kinds f_rd_starts f_rd_stops f_rd_values f_tx tn_courts tn_people tn_strayers f_tn_strayParts f_tn_strayCourts) := hRR
  refine lv_aload_n hx hb dX5_readStrays_0 rfl (lv_at hl 0 rfl) ?_
  refine va_get (D := (dC, dI)) (ci := 5) (v := .int rd_strayCount) (C := RX5) (T := TX5) (N := 13) hx hb hts zl_X5 hown hK hP 0 rfl rfl 10 (by decide) (hts _ zw_t1_205) (fun _ h9 => h9) rfl dX5_readStrays_1 ?_
  refine lv_iconst (v := 4) hx hb dX5_readStrays_4 (by decide) ?_
  refine lv_icmp_lt (tgt := 14) hx hb dX5_readStrays_5 (by decide) (fun c_1 => ?_) (fun c_1 => ?_)
  · have ic_1 := zz_lt rfl (show Int32.toInt 4 = 4 from by decide) c_1
    replace hF := hF.trans (if_pos c_1)
    refine lv_aload_n hx hb dX5_readStrays_14 rfl (lv_at hl 0 rfl) ?_
    refine lv_dup hx hb dX5_readStrays_15 rfl ?_
    refine va_get (D := (dC, dI)) (ci := 5) (v := .int rd_strayCount) (C := RX5) (T := TX5) (N := 13) hx hb hts zl_X5 hown hK hP 0 rfl rfl 10 (by decide) (hts _ zw_t1_205) (fun _ h9 => h9) rfl dX5_readStrays_16 ?_
    refine lv_iconst (v := 1) hx hb dX5_readStrays_19 (by decide) ?_
    refine lv_iadd hx hb dX5_readStrays_20 ?_
    refine lv_topi (fun x_2 ex_2 => ?_)
    replace hF := hF.trans (zL_eq ex_2)
    have b_x_2 : x_2.toInt = rd_strayCount.toInt + 1 := by rw [ex_2]; exact zi_add rfl (show Int32.toInt 1 = 1 from by decide) (z_rac b_rd_strayCount (by decide))
    refine va_put (D := (dC, dI)) (ci := 5) (v := .int x_2) (ty := .int) (C := RX5) (T := TX5) (N := 13) hx hb hts zl_X5 tyX5 tyX5_ok nmX5 hown hK hP hD hS 0 rfl rfl 10 (by decide) (hts _ zw_t1_205) (fun _ h9 => h9) rfl (by decide +kernel) rfl rfl (Nat.le_of_ble_eq_true rfl) dX5_readStrays_21 (fun H locs hP hD hS => ?_)
    have hP : va_P (dC, dI) vwCl (zV221 rd rd_fault rd_place tx rd_kinds rd_starts rd_stops rd_values rd_tokens rd_at tn x_2 rd_lawTold rd_falseTold rd_kinds cA_rd_kinds f_rd_kinds rd_starts cA_rd_starts f_rd_starts rd_stops cA_rd_stops f_rd_stops rd_values cA_rd_values f_rd_values tx cA_tx f_tx tn tn_hours tn_courts tn_gateCount tn_people tn_lines tn_falseHours tn_strayers tn_deep tn_above tn_doors tn_degrees tn_neighbours tn_shows tn_oneEnd tn_otherEnd tn_told tn_strayParts tn_strayCourts tn_strayParts cA_tn_strayParts f_tn_strayParts tn_strayCourts cA_tn_strayCourts f_tn_strayCourts) H := hP
    have hD : va_D A (zV221 rd rd_fault rd_place tx rd_kinds rd_starts rd_stops rd_values rd_tokens rd_at tn x_2 rd_lawTold rd_falseTold rd_kinds cA_rd_kinds f_rd_kinds rd_starts cA_rd_starts f_rd_starts rd_stops cA_rd_stops f_rd_stops rd_values cA_rd_values f_rd_values tx cA_tx f_tx tn tn_hours tn_courts tn_gateCount tn_people tn_lines tn_falseHours tn_strayers tn_deep tn_above tn_doors tn_degrees tn_neighbours tn_shows tn_oneEnd tn_otherEnd tn_told tn_strayParts tn_strayCourts tn_strayParts cA_tn_strayParts f_tn_strayParts tn_strayCourts cA_tn_strayCourts f_tn_strayCourts) := hD
    refine lv_aload_n hx hb dX5_readStrays_24 rfl (lv_at hl 0 rfl) ?_
    obtain ⟨hPc, hDc, hFc⟩ := z_cut (wc := (zV212 rd rd_fault rd_place tx rd_kinds rd_starts rd_stops rd_values rd_tokens rd_at tn x_2 rd_lawTold rd_falseTold)) hP hD hS hA [0] rfl (by decide +kernel)
    have hKc := hK.sub (tys' := []) [] rfl
    refine va_callv (va_runV (As := []) (rest := []) ⟨hx, hb, hml, hown, hts⟩ (kf_X5_advance l sa dC dI rd rd_fault rd_place tx rd_kinds rd_starts rd_stops rd_values rd_tokens rd_at tn x_2 rd_lawTold rd_falseTold b_rd_tokens b_rd_at (by first | with_reducible assumption | omega) b_rd_lawTold b_rd_falseTold H.size) (cwV 0 hts (z_gV zw_t3_93 zw_t3_95 zw_s1_8 zw_t1_4 zw_t3_96) rfl rfl rfl (by decide +kernel) (by rw [← hRe]; exact ⟨(Nat.le_of_ble_eq_true rfl), (Nat.le_of_ble_eq_true rfl)⟩)) (z_preV hPc hKc hDc hN hXs hS hFc (q := (RX5, TX5, 13)) (ci := 5) (q0 := 0) rfl rfl) rfl rfl hl.1 rfl (lv_room (Nat.le_of_ble_eq_true rfl)) dX5_readStrays_25 (by rw [← hRe]; exact ⟨(Nat.le_of_ble_eq_true rfl), (Nat.le_of_ble_eq_true rfl)⟩)) hS (fun q _ h => hFc q h) hFc (fun u t H1 locs ht hvm hw hB hz1 hk1 hS => ?_)
    obtain ⟨n_rd_4, b_n_rd_4, hf_5, hB⟩ := hB
    obtain ⟨hP, hD, hK⟩ := z_after3 (wn := [(rd_kinds, .inl (cA_rd_kinds, 1601, .inl f_rd_kinds)), (rd_starts, .inl (cA_rd_starts, 1601, .inl f_rd_starts)), (rd_stops, .inl (cA_rd_stops, 1601, .inl f_rd_stops)), (rd_values, .inl (cA_rd_values, 1601, .inl f_rd_values)), (tx, .inl (cA_tx, 1600, .inl f_tx)), (tn, .inr (7, [.int tn_hours, .int tn_courts, .int tn_gateCount, .int tn_people, .int tn_lines, .int tn_falseHours, .int tn_strayers, .int tn_deep, .ref tn_above, .ref tn_doors, .ref tn_degrees, .ref tn_neighbours, .ref tn_shows, .ref tn_oneEnd, .ref tn_otherEnd, .ref tn_told, .ref tn_strayParts, .ref tn_strayCourts])), (tn_strayParts, .inl (cA_tn_strayParts, 10, .inl f_tn_strayParts)), (tn_strayCourts, .inl (cA_tn_strayCourts, 10, .inl f_tn_strayCourts)), (rd, .inr (5, [.int rd_fault, .int rd_place, .ref tx, .ref rd_kinds, .ref rd_starts, .ref rd_stops, .ref rd_values, .int rd_tokens, .int n_rd_4, .ref tn, .int x_2, .int rd_lawTold, .int rd_falseTold]))]) hB ht hvm hP hD hK [0] [1, 2, 3, 4, 5, 6, 7, 8] rfl 9 rfl (by decide +kernel) rfl (by decide +kernel) hk1 hFc
    generalize H1 = H at hP hS ⊢
    have hK : va_K (dC, dI) vwCl [(cA_rd_kinds, .int), (cA_rd_starts, .int), (cA_rd_stops, .int), (cA_rd_values, .int), (cA_tx, .byte), (cA_tn_strayParts, .int), (cA_tn_strayCourts, .int)] s := hK
    replace hF := hF.trans (zL_eq hf_5)
    refine lv_aload_n hx hb dX5_readStrays_28 rfl (lv_at hl 0 rfl) ?_
    refine va_get (D := (dC, dI)) (ci := 5) (v := .ref tn) (C := RX5) (T := TX5) (N := 13) hx hb hts zl_X5 hown hK hP 8 rfl rfl 9 (by decide) (hts _ zw_t1_204) (fun _ h9 => h9) rfl dX5_readStrays_29 ?_
    refine lv_dup hx hb dX5_readStrays_32 rfl ?_
    refine va_get (D := (dC, dI)) (ci := 7) (v := .int tn_strayers) (C := RX7) (T := TX7) (N := 18) hx hb hts zl_X7 hown hK hP 5 rfl rfl 6 (by decide) (hts _ zw_t1_76) (fun _ h9 => h9) rfl dX5_readStrays_33 ?_
    refine lv_iconst (v := 1) hx hb dX5_readStrays_36 (by decide) ?_
    refine lv_aload_n hx hb dX5_readStrays_37 rfl (lv_at hl 0 rfl) ?_
    refine va_get (D := (dC, dI)) (ci := 5) (v := .ref tn) (C := RX5) (T := TX5) (N := 13) hx hb hts zl_X5 hown hK hP 8 rfl rfl 9 (by decide) (hts _ zw_t1_204) (fun _ h9 => h9) rfl dX5_readStrays_38 ?_
    refine va_get (D := (dC, dI)) (ci := 7) (v := .int tn_people) (C := RX7) (T := TX7) (N := 18) hx hb hts zl_X7 hown hK hP 5 rfl rfl 3 (by decide) (hts _ zw_t1_64) (fun _ h9 => h9) rfl dX5_readStrays_41 ?_
    refine lv_ishl hx hb dX5_readStrays_44 ?_
    refine lv_topi (fun x_6 ex_6 => ?_)
    replace hF := hF.trans (zL_eq ex_6)
    have b_x_6 : 1 ≤ x_6.toInt ∧ x_6.toInt ≤ 512 := by rw [ex_6]; exact zi_shl9 rfl (by first | with_reducible assumption | omega)
    refine lv_ior hx hb dX5_readStrays_45 ?_
    refine lv_topi (fun x_7 ex_7 => ?_)
    replace hF := hF.trans (zL_eq ex_7)
    refine va_put (D := (dC, dI)) (ci := 7) (v := .int x_7) (ty := .int) (C := RX7) (T := TX7) (N := 18) hx hb hts zl_X7 tyX7 tyX7_ok nmX7 hown hK hP hD hS 5 rfl rfl 6 (by decide) (hts _ zw_t1_76) (fun _ h9 => h9) rfl (by decide +kernel) rfl rfl (Nat.le_of_ble_eq_true rfl) dX5_readStrays_46 (fun H locs hP hD hS => ?_)
    have hP : va_P (dC, dI) vwCl [(rd_kinds, .inl (cA_rd_kinds, 1601, .inl f_rd_kinds)), (rd_starts, .inl (cA_rd_starts, 1601, .inl f_rd_starts)), (rd_stops, .inl (cA_rd_stops, 1601, .inl f_rd_stops)), (rd_values, .inl (cA_rd_values, 1601, .inl f_rd_values)), (tx, .inl (cA_tx, 1600, .inl f_tx)), (tn, .inr (7, [.int tn_hours, .int tn_courts, .int tn_gateCount, .int tn_people, .int tn_lines, .int tn_falseHours, .int x_7, .int tn_deep, .ref tn_above, .ref tn_doors, .ref tn_degrees, .ref tn_neighbours, .ref tn_shows, .ref tn_oneEnd, .ref tn_otherEnd, .ref tn_told, .ref tn_strayParts, .ref tn_strayCourts])), (tn_strayParts, .inl (cA_tn_strayParts, 10, .inl f_tn_strayParts)), (tn_strayCourts, .inl (cA_tn_strayCourts, 10, .inl f_tn_strayCourts)), (rd, .inr (5, [.int rd_fault, .int rd_place, .ref tx, .ref rd_kinds, .ref rd_starts, .ref rd_stops, .ref rd_values, .int rd_tokens, .int n_rd_4, .ref tn, .int x_2, .int rd_lawTold, .int rd_falseTold]))] H := hP
    have hD : va_D A [(rd_kinds, .inl (cA_rd_kinds, 1601, .inl f_rd_kinds)), (rd_starts, .inl (cA_rd_starts, 1601, .inl f_rd_starts)), (rd_stops, .inl (cA_rd_stops, 1601, .inl f_rd_stops)), (rd_values, .inl (cA_rd_values, 1601, .inl f_rd_values)), (tx, .inl (cA_tx, 1600, .inl f_tx)), (tn, .inr (7, [.int tn_hours, .int tn_courts, .int tn_gateCount, .int tn_people, .int tn_lines, .int tn_falseHours, .int x_7, .int tn_deep, .ref tn_above, .ref tn_doors, .ref tn_degrees, .ref tn_neighbours, .ref tn_shows, .ref tn_oneEnd, .ref tn_otherEnd, .ref tn_told, .ref tn_strayParts, .ref tn_strayCourts])), (tn_strayParts, .inl (cA_tn_strayParts, 10, .inl f_tn_strayParts)), (tn_strayCourts, .inl (cA_tn_strayCourts, 10, .inl f_tn_strayCourts)), (rd, .inr (5, [.int rd_fault, .int rd_place, .ref tx, .ref rd_kinds, .ref rd_starts, .ref rd_stops, .ref rd_values, .int rd_tokens, .int n_rd_4, .ref tn, .int x_2, .int rd_lawTold, .int rd_falseTold]))] := hD
    refine lv_aload_n hx hb dX5_readStrays_49 rfl (lv_at hl 0 rfl) ?_
    refine va_get (D := (dC, dI)) (ci := 5) (v := .ref tn) (C := RX5) (T := TX5) (N := 13) hx hb hts zl_X5 hown hK hP 8 rfl rfl 9 (by decide) (hts _ zw_t1_204) (fun _ h9 => h9) rfl dX5_readStrays_50 ?_
    refine va_get (D := (dC, dI)) (ci := 7) (v := .ref tn_strayParts) (C := RX7) (T := TX7) (N := 18) hx hb hts zl_X7 hown hK hP 5 rfl rfl 16 (by decide) (hts _ zw_t1_110) (fun _ h9 => h9) rfl dX5_readStrays_53 ?_
    refine lv_aload_n hx hb dX5_readStrays_56 rfl (lv_at hl 0 rfl) ?_
    refine va_get (D := (dC, dI)) (ci := 5) (v := .ref tn) (C := RX5) (T := TX5) (N := 13) hx hb hts zl_X5 hown hK hP 8 rfl rfl 9 (by decide) (hts _ zw_t1_204) (fun _ h9 => h9) rfl dX5_readStrays_57 ?_
    refine va_get (D := (dC, dI)) (ci := 7) (v := .int tn_people) (C := RX7) (T := TX7) (N := 18) hx hb hts zl_X7 hown hK hP 5 rfl rfl 3 (by decide) (hts _ zw_t1_64) (fun _ h9 => h9) rfl dX5_readStrays_60 ?_
    refine lv_aload_n hx hb dX5_readStrays_63 rfl (lv_at hl 0 rfl) ?_
    refine lv_iconst (v := 1) hx hb dX5_readStrays_64 (by decide) ?_
    refine lv_bipush (v := 99) hx hb dX5_readStrays_65 (by decide) ?_
    obtain ⟨hPc, hDc, hFc⟩ := z_cut (wc := (zV210 rd rd_fault rd_place tx rd_kinds rd_starts rd_stops rd_values rd_tokens n_rd_4 tn x_2 rd_lawTold rd_falseTold rd_kinds cA_rd_kinds f_rd_kinds rd_starts cA_rd_starts f_rd_starts rd_values cA_rd_values f_rd_values)) hP hD hS hA [8, 0, 1, 3] rfl (by decide +kernel)
    have hKc := hK.sub (tys' := [(cA_rd_kinds, .int), (cA_rd_starts, .int), (cA_rd_values, .int)]) [0, 1, 3] rfl
    refine va_calli (va_runV (As := [.int 1, .int 99]) (rest := [.int tn_people, .ref tn_strayParts]) ⟨hx, hb, hml, hown, hts⟩ (kf_X5_expectNumber l sa dC dI rd (1) (99) rd_fault rd_place tx rd_kinds rd_starts rd_stops rd_values rd_tokens n_rd_4 tn x_2 rd_lawTold rd_falseTold cA_rd_kinds f_rd_kinds cA_rd_starts f_rd_starts cA_rd_values f_rd_values (by decide) (by decide) b_rd_tokens (by first | with_reducible assumption | omega) (by first | with_reducible assumption | omega) b_rd_lawTold b_rd_falseTold b_f_rd_kinds b_f_rd_starts b_f_rd_values H.size) (cwV 2 hts (z_gV zw_t3_98 zw_t3_100 zw_s1_9 zw_t1_4 zw_t3_101) rfl rfl rfl (by decide +kernel) (by rw [← hRe]; exact ⟨(Nat.le_of_ble_eq_true rfl), (Nat.le_of_ble_eq_true rfl)⟩)) (z_preV hPc hKc hDc hN hXs hS hFc (q := (RX5, TX5, 13)) (ci := 5) (q0 := 0) rfl rfl) rfl rfl hl.1 rfl (lv_room (Nat.le_of_ble_eq_true rfl)) dX5_readStrays_67 (by rw [← hRe]; exact ⟨(Nat.le_of_ble_eq_true rfl), (Nat.le_of_ble_eq_true rfl)⟩)) hS (fun q _ h => hFc q h) hFc (fun r_8 u t H1 locs ht hvm hw hB hz1 hk1 hS => ?_)
    refine hB.elim fun n_rd_9 ze1 => ze1.elim fun n_rd_10 ze2 => ze2.elim fun n_rd_11 ze3 => ze3.elim fun b_n_rd_11 ze4 => ze4.elim fun hf_12 ze5 => ze5.elim fun hf_13 ze6 => ze6.elim fun hf_14 ze7 => ?_
    clear hB ze1 ze2 ze3 ze4 ze5 ze6
    have hB := ze7
    clear ze7
    obtain ⟨hP, hD, hK⟩ := z_after3 (wn := [(rd_stops, .inl (cA_rd_stops, 1601, .inl f_rd_stops)), (tx, .inl (cA_tx, 1600, .inl f_tx)), (tn, .inr (7, [.int tn_hours, .int tn_courts, .int tn_gateCount, .int tn_people, .int tn_lines, .int tn_falseHours, .int x_7, .int tn_deep, .ref tn_above, .ref tn_doors, .ref tn_degrees, .ref tn_neighbours, .ref tn_shows, .ref tn_oneEnd, .ref tn_otherEnd, .ref tn_told, .ref tn_strayParts, .ref tn_strayCourts])), (tn_strayParts, .inl (cA_tn_strayParts, 10, .inl f_tn_strayParts)), (tn_strayCourts, .inl (cA_tn_strayCourts, 10, .inl f_tn_strayCourts)), (rd, .inr (5, [.int n_rd_9, .int n_rd_10, .ref tx, .ref rd_kinds, .ref rd_starts, .ref rd_stops, .ref rd_values, .int rd_tokens, .int n_rd_11, .ref tn, .int x_2, .int rd_lawTold, .int rd_falseTold])), (rd_kinds, .inl (cA_rd_kinds, 1601, .inl f_rd_kinds)), (rd_starts, .inl (cA_rd_starts, 1601, .inl f_rd_starts)), (rd_values, .inl (cA_rd_values, 1601, .inl f_rd_values))]) hB ht hvm hP hD hK [8, 0, 1, 3] [2, 4, 5, 6, 7] rfl 9 rfl (by decide +kernel) rfl (by decide +kernel) hk1 hFc
    generalize H1 = H at hP hS ⊢
    have hK : va_K (dC, dI) vwCl [(cA_rd_kinds, .int), (cA_rd_starts, .int), (cA_rd_stops, .int), (cA_rd_values, .int), (cA_tx, .byte), (cA_tn_strayParts, .int), (cA_tn_strayCourts, .int)] s := hK
    have b_r_8 : 0 ≤ r_8.toInt ∧ r_8.toInt ≤ 100000 := hw.1
    have s_r_8 := hw.2.1
    have sf_r_8 := hw.2.2
    have za_1 : Int32.toInt 1 = 1 := by decide
    have za_99 : Int32.toInt 99 = 99 := by decide
    replace hF := hF.trans (zL_eq rfl)
    replace hF := hF.trans (zL_eq sf_r_8)
    replace hF := hF.trans (zL_eq hf_12)
    replace hF := hF.trans (zL_eq hf_13)
    replace hF := hF.trans (zL_eq hf_14)
    refine va_iast hx hb hK hP hD hS 3 5 rfl rfl (zi_in rfl (by first | with_reducible assumption | omega)) dX5_readStrays_70 (fun H locs hP hD hS => ?_)
    obtain ⟨f_16, ef_16⟩ : ∃ g : Nat → Int32, g = upd f_tn_strayParts (Int32.toNatClampNeg tn_people) r_8 := ⟨_, rfl⟩
    replace hF := hF.trans (zL_eq ef_16)
    have b_f_16 : ∀ j : Nat, 0 ≤ (f_16 j).toInt ∧ (f_16 j).toInt ≤ 99 := by rw [ef_16]; exact zi_upd b_f_tn_strayParts rfl (by first | with_reducible assumption | omega)
    have hP : va_P (dC, dI) vwCl [(rd_stops, .inl (cA_rd_stops, 1601, .inl f_rd_stops)), (tx, .inl (cA_tx, 1600, .inl f_tx)), (tn, .inr (7, [.int tn_hours, .int tn_courts, .int tn_gateCount, .int tn_people, .int tn_lines, .int tn_falseHours, .int x_7, .int tn_deep, .ref tn_above, .ref tn_doors, .ref tn_degrees, .ref tn_neighbours, .ref tn_shows, .ref tn_oneEnd, .ref tn_otherEnd, .ref tn_told, .ref tn_strayParts, .ref tn_strayCourts])), (tn_strayParts, .inl (cA_tn_strayParts, 10, .inl (upd f_tn_strayParts (Int32.toNatClampNeg tn_people) r_8))), (tn_strayCourts, .inl (cA_tn_strayCourts, 10, .inl f_tn_strayCourts)), (rd, .inr (5, [.int n_rd_9, .int n_rd_10, .ref tx, .ref rd_kinds, .ref rd_starts, .ref rd_stops, .ref rd_values, .int rd_tokens, .int n_rd_11, .ref tn, .int x_2, .int rd_lawTold, .int rd_falseTold])), (rd_kinds, .inl (cA_rd_kinds, 1601, .inl f_rd_kinds)), (rd_starts, .inl (cA_rd_starts, 1601, .inl f_rd_starts)), (rd_values, .inl (cA_rd_values, 1601, .inl f_rd_values))] H := hP
    have hD : va_D A [(rd_stops, .inl (cA_rd_stops, 1601, .inl f_rd_stops)), (tx, .inl (cA_tx, 1600, .inl f_tx)), (tn, .inr (7, [.int tn_hours, .int tn_courts, .int tn_gateCount, .int tn_people, .int tn_lines, .int tn_falseHours, .int x_7, .int tn_deep, .ref tn_above, .ref tn_doors, .ref tn_degrees, .ref tn_neighbours, .ref tn_shows, .ref tn_oneEnd, .ref tn_otherEnd, .ref tn_told, .ref tn_strayParts, .ref tn_strayCourts])), (tn_strayParts, .inl (cA_tn_strayParts, 10, .inl (upd f_tn_strayParts (Int32.toNatClampNeg tn_people) r_8))), (tn_strayCourts, .inl (cA_tn_strayCourts, 10, .inl f_tn_strayCourts)), (rd, .inr (5, [.int n_rd_9, .int n_rd_10, .ref tx, .ref rd_kinds, .ref rd_starts, .ref rd_stops, .ref rd_values, .int rd_tokens, .int n_rd_11, .ref tn, .int x_2, .int rd_lawTold, .int rd_falseTold])), (rd_kinds, .inl (cA_rd_kinds, 1601, .inl f_rd_kinds)), (rd_starts, .inl (cA_rd_starts, 1601, .inl f_rd_starts)), (rd_values, .inl (cA_rd_values, 1601, .inl f_rd_values))] := hD
    rw [← ef_16] at hP hD
    refine lv_aload_n hx hb dX5_readStrays_71 rfl (lv_at hl 0 rfl) ?_
    refine va_ldcS (index := 166) hx hb hown (hXs.2.2.2.2.2.2.2 8 (by decide)) dX5_readStrays_72 ?_
    obtain ⟨hPc, hDc, hFc⟩ := z_cut (wc := (zV213 rd n_rd_9 n_rd_10 tx rd_kinds rd_starts rd_stops rd_values rd_tokens n_rd_11 tn x_2 rd_lawTold rd_falseTold rd_kinds cA_rd_kinds f_rd_kinds rd_starts cA_rd_starts f_rd_starts rd_stops cA_rd_stops f_rd_stops tx cA_tx f_tx)) hP hD hS hA [5, 6, 7, 0, 1] rfl (by decide +kernel)
    have hKc := hK.sub (tys' := [(cA_rd_kinds, .int), (cA_rd_starts, .int), (cA_rd_stops, .int), (cA_tx, .byte)]) [0, 1, 2, 4] rfl
    refine va_callv (va_runV (As := [.ref (sa (2 + 2 * 8))]) (rest := []) ⟨hx, hb, hml, hown, hts⟩ (kf_X5_expectWord l sa dC dI rd n_rd_9 n_rd_10 tx rd_kinds rd_starts rd_stops rd_values rd_tokens n_rd_11 tn x_2 rd_lawTold rd_falseTold cA_rd_kinds f_rd_kinds cA_rd_starts f_rd_starts cA_rd_stops f_rd_stops cA_tx f_tx (8) b_rd_tokens (by first | with_reducible assumption | omega) (by first | with_reducible assumption | omega) b_rd_lawTold b_rd_falseTold b_f_rd_kinds b_f_rd_starts b_f_rd_stops (by decide) H.size) (cwV 1 hts (z_gV zw_t3_33 zw_t3_35 zw_s1_5 zw_t1_4 zw_t3_36) rfl rfl rfl (by decide +kernel) (by rw [← hRe]; exact ⟨(Nat.le_of_ble_eq_true rfl), (Nat.le_of_ble_eq_true rfl)⟩)) (z_preV hPc hKc hDc hN hXs hS hFc (q := (RX5, TX5, 13)) (ci := 5) (q0 := 0) rfl rfl) rfl rfl hl.1 rfl (lv_room (Nat.le_of_ble_eq_true rfl)) dX5_readStrays_74 (by rw [← hRe]; exact ⟨(Nat.le_of_ble_eq_true rfl), (Nat.le_of_ble_eq_true rfl)⟩)) hS (fun q _ h => hFc q h) hFc (fun u t H1 locs ht hvm hw hB hz1 hk1 hS => ?_)
    refine hB.elim fun n_rd_18 ze1 => ze1.elim fun n_rd_19 ze2 => ze2.elim fun n_rd_20 ze3 => ze3.elim fun b_n_rd_20 ze4 => ze4.elim fun hf_21 ze5 => ze5.elim fun hf_22 ze6 => ze6.elim fun hf_23 ze7 => ?_
    clear hB ze1 ze2 ze3 ze4 ze5 ze6
    have hB := ze7
    clear ze7
    obtain ⟨hP, hD, hK⟩ := z_after3 (wn := [(tn, .inr (7, [.int tn_hours, .int tn_courts, .int tn_gateCount, .int tn_people, .int tn_lines, .int tn_falseHours, .int x_7, .int tn_deep, .ref tn_above, .ref tn_doors, .ref tn_degrees, .ref tn_neighbours, .ref tn_shows, .ref tn_oneEnd, .ref tn_otherEnd, .ref tn_told, .ref tn_strayParts, .ref tn_strayCourts])), (tn_strayParts, .inl (cA_tn_strayParts, 10, .inl f_16)), (tn_strayCourts, .inl (cA_tn_strayCourts, 10, .inl f_tn_strayCourts)), (rd_values, .inl (cA_rd_values, 1601, .inl f_rd_values)), (rd, .inr (5, [.int n_rd_18, .int n_rd_19, .ref tx, .ref rd_kinds, .ref rd_starts, .ref rd_stops, .ref rd_values, .int rd_tokens, .int n_rd_20, .ref tn, .int x_2, .int rd_lawTold, .int rd_falseTold])), (rd_kinds, .inl (cA_rd_kinds, 1601, .inl f_rd_kinds)), (rd_starts, .inl (cA_rd_starts, 1601, .inl f_rd_starts)), (rd_stops, .inl (cA_rd_stops, 1601, .inl f_rd_stops)), (tx, .inl (cA_tx, 1600, .inl f_tx))]) hB ht hvm hP hD hK [5, 6, 7, 0, 1] [2, 3, 4, 8] rfl 9 rfl (by decide +kernel) rfl (by decide +kernel) hk1 hFc
    generalize H1 = H at hP hS ⊢
    have hK : va_K (dC, dI) vwCl [(cA_rd_kinds, .int), (cA_rd_starts, .int), (cA_rd_stops, .int), (cA_rd_values, .int), (cA_tx, .byte), (cA_tn_strayParts, .int), (cA_tn_strayCourts, .int)] s := hK
    replace hF := hF.trans (zL_eq rfl)
    replace hF := hF.trans (zL_eq hf_21)
    replace hF := hF.trans (zL_eq hf_22)
    replace hF := hF.trans (zL_eq hf_23)
    refine lv_aload_n hx hb dX5_readStrays_77 rfl (lv_at hl 0 rfl) ?_
    refine va_get (D := (dC, dI)) (ci := 5) (v := .ref tn) (C := RX5) (T := TX5) (N := 13) hx hb hts zl_X5 hown hK hP 4 rfl rfl 9 (by decide) (hts _ zw_t1_204) (fun _ h9 => h9) rfl dX5_readStrays_78 ?_
    refine va_get (D := (dC, dI)) (ci := 7) (v := .ref tn_strayCourts) (C := RX7) (T := TX7) (N := 18) hx hb hts zl_X7 hown hK hP 0 rfl rfl 17 (by decide) (hts _ zw_t1_112) (fun _ h9 => h9) rfl dX5_readStrays_81 ?_
    refine lv_aload_n hx hb dX5_readStrays_84 rfl (lv_at hl 0 rfl) ?_
    refine va_get (D := (dC, dI)) (ci := 5) (v := .ref tn) (C := RX5) (T := TX5) (N := 13) hx hb hts zl_X5 hown hK hP 4 rfl rfl 9 (by decide) (hts _ zw_t1_204) (fun _ h9 => h9) rfl dX5_readStrays_85 ?_
    refine va_get (D := (dC, dI)) (ci := 7) (v := .int tn_people) (C := RX7) (T := TX7) (N := 18) hx hb hts zl_X7 hown hK hP 0 rfl rfl 3 (by decide) (hts _ zw_t1_64) (fun _ h9 => h9) rfl dX5_readStrays_88 ?_
    refine lv_aload_n hx hb dX5_readStrays_91 rfl (lv_at hl 0 rfl) ?_
    obtain ⟨hPc, hDc, hFc⟩ := z_cut (wc := (zV215 rd n_rd_18 n_rd_19 tx rd_kinds rd_starts rd_stops rd_values rd_tokens n_rd_20 tn x_2 rd_lawTold rd_falseTold rd_kinds cA_rd_kinds f_rd_kinds rd_starts cA_rd_starts f_rd_starts rd_values cA_rd_values f_rd_values tn tn_hours tn_courts tn_gateCount tn_people tn_lines tn_falseHours x_7 tn_deep tn_above tn_doors tn_degrees tn_neighbours tn_shows tn_oneEnd tn_otherEnd tn_told tn_strayParts tn_strayCourts)) hP hD hS hA [4, 5, 6, 3, 0] rfl (by decide +kernel)
    have hKc := hK.sub (tys' := [(cA_rd_kinds, .int), (cA_rd_starts, .int), (cA_rd_values, .int)]) [0, 1, 3] rfl
    refine va_calli (va_runV (As := []) (rest := [.int tn_people, .ref tn_strayCourts]) ⟨hx, hb, hml, hown, hts⟩ (kf_X5_expectCourt l sa dC dI rd n_rd_18 n_rd_19 tx rd_kinds rd_starts rd_stops rd_values rd_tokens n_rd_20 tn x_2 rd_lawTold rd_falseTold cA_rd_kinds f_rd_kinds cA_rd_starts f_rd_starts cA_rd_values f_rd_values tn_hours tn_courts tn_gateCount tn_people tn_lines tn_falseHours x_7 tn_deep tn_above tn_doors tn_degrees tn_neighbours tn_shows tn_oneEnd tn_otherEnd tn_told tn_strayParts tn_strayCourts b_rd_tokens (by first | with_reducible assumption | omega) (by first | with_reducible assumption | omega) b_rd_lawTold b_rd_falseTold b_f_rd_kinds b_f_rd_starts b_f_rd_values b_tn_hours b_tn_courts b_tn_gateCount (by first | with_reducible assumption | omega) b_tn_falseHours b_tn_deep H.size) (cwV 0 hts (z_gV zw_t3_108 zw_t3_110 zw_s1_11 zw_t1_4 zw_t3_111) rfl rfl rfl (by decide +kernel) (by rw [← hRe]; exact ⟨(Nat.le_of_ble_eq_true rfl), (Nat.le_of_ble_eq_true rfl)⟩)) (z_preV hPc hKc hDc hN hXs hS hFc (q := (RX5, TX5, 13)) (ci := 5) (q0 := 0) rfl rfl) rfl rfl hl.1 rfl (lv_room (Nat.le_of_ble_eq_true rfl)) dX5_readStrays_92 (by rw [← hRe]; exact ⟨(Nat.le_of_ble_eq_true rfl), (Nat.le_of_ble_eq_true rfl)⟩)) hS (fun q _ h => hFc q h) hFc (fun r_25 u t H1 locs ht hvm hw hB hz1 hk1 hS => ?_)
    refine hB.elim fun n_rd_26 ze1 => ze1.elim fun n_rd_27 ze2 => ze2.elim fun n_rd_28 ze3 => ze3.elim fun b_n_rd_28 ze4 => ze4.elim fun hf_29 ze5 => ze5.elim fun hf_30 ze6 => ze6.elim fun hf_31 ze7 => ?_
    clear hB ze1 ze2 ze3 ze4 ze5 ze6
    have hB := ze7
    clear ze7
    obtain ⟨hP, hD, hK⟩ := z_after3 (wn := [(tn_strayParts, .inl (cA_tn_strayParts, 10, .inl f_16)), (tn_strayCourts, .inl (cA_tn_strayCourts, 10, .inl f_tn_strayCourts)), (rd_stops, .inl (cA_rd_stops, 1601, .inl f_rd_stops)), (tx, .inl (cA_tx, 1600, .inl f_tx)), (rd, .inr (5, [.int n_rd_26, .int n_rd_27, .ref tx, .ref rd_kinds, .ref rd_starts, .ref rd_stops, .ref rd_values, .int rd_tokens, .int n_rd_28, .ref tn, .int x_2, .int rd_lawTold, .int rd_falseTold])), (rd_kinds, .inl (cA_rd_kinds, 1601, .inl f_rd_kinds)), (rd_starts, .inl (cA_rd_starts, 1601, .inl f_rd_starts)), (rd_values, .inl (cA_rd_values, 1601, .inl f_rd_values)), (tn, .inr (7, [.int tn_hours, .int tn_courts, .int tn_gateCount, .int tn_people, .int tn_lines, .int tn_falseHours, .int x_7, .int tn_deep, .ref tn_above, .ref tn_doors, .ref tn_degrees, .ref tn_neighbours, .ref tn_shows, .ref tn_oneEnd, .ref tn_otherEnd, .ref tn_told, .ref tn_strayParts, .ref tn_strayCourts]))]) hB ht hvm hP hD hK [4, 5, 6, 3, 0] [1, 2, 7, 8] rfl 9 rfl (by decide +kernel) rfl (by decide +kernel) hk1 hFc
    generalize H1 = H at hP hS ⊢
    have hK : va_K (dC, dI) vwCl [(cA_rd_kinds, .int), (cA_rd_starts, .int), (cA_rd_stops, .int), (cA_rd_values, .int), (cA_tx, .byte), (cA_tn_strayParts, .int), (cA_tn_strayCourts, .int)] s := hK
    have b_r_25 : 0 ≤ r_25.toInt ∧ r_25.toInt ≤ 9 := hw.1
    have sf_r_25 := hw.2
    replace hF := hF.trans (zL_eq rfl)
    replace hF := hF.trans (zL_eq sf_r_25)
    replace hF := hF.trans (zL_eq hf_29)
    replace hF := hF.trans (zL_eq hf_30)
    replace hF := hF.trans (zL_eq hf_31)
    refine va_iast hx hb hK hP hD hS 1 6 rfl rfl (zi_in rfl (by first | with_reducible assumption | omega)) dX5_readStrays_95 (fun H locs hP hD hS => ?_)
    obtain ⟨f_33, ef_33⟩ : ∃ g : Nat → Int32, g = upd f_tn_strayCourts (Int32.toNatClampNeg tn_people) r_25 := ⟨_, rfl⟩
    replace hF := hF.trans (zL_eq ef_33)
    have b_f_33 : ∀ j : Nat, 0 ≤ (f_33 j).toInt ∧ (f_33 j).toInt ≤ 9 := by rw [ef_33]; exact zi_upd b_f_tn_strayCourts rfl (by first | with_reducible assumption | omega)
    have hP : va_P (dC, dI) vwCl [(tn_strayParts, .inl (cA_tn_strayParts, 10, .inl f_16)), (tn_strayCourts, .inl (cA_tn_strayCourts, 10, .inl (upd f_tn_strayCourts (Int32.toNatClampNeg tn_people) r_25))), (rd_stops, .inl (cA_rd_stops, 1601, .inl f_rd_stops)), (tx, .inl (cA_tx, 1600, .inl f_tx)), (rd, .inr (5, [.int n_rd_26, .int n_rd_27, .ref tx, .ref rd_kinds, .ref rd_starts, .ref rd_stops, .ref rd_values, .int rd_tokens, .int n_rd_28, .ref tn, .int x_2, .int rd_lawTold, .int rd_falseTold])), (rd_kinds, .inl (cA_rd_kinds, 1601, .inl f_rd_kinds)), (rd_starts, .inl (cA_rd_starts, 1601, .inl f_rd_starts)), (rd_values, .inl (cA_rd_values, 1601, .inl f_rd_values)), (tn, .inr (7, [.int tn_hours, .int tn_courts, .int tn_gateCount, .int tn_people, .int tn_lines, .int tn_falseHours, .int x_7, .int tn_deep, .ref tn_above, .ref tn_doors, .ref tn_degrees, .ref tn_neighbours, .ref tn_shows, .ref tn_oneEnd, .ref tn_otherEnd, .ref tn_told, .ref tn_strayParts, .ref tn_strayCourts]))] H := hP
    have hD : va_D A [(tn_strayParts, .inl (cA_tn_strayParts, 10, .inl f_16)), (tn_strayCourts, .inl (cA_tn_strayCourts, 10, .inl (upd f_tn_strayCourts (Int32.toNatClampNeg tn_people) r_25))), (rd_stops, .inl (cA_rd_stops, 1601, .inl f_rd_stops)), (tx, .inl (cA_tx, 1600, .inl f_tx)), (rd, .inr (5, [.int n_rd_26, .int n_rd_27, .ref tx, .ref rd_kinds, .ref rd_starts, .ref rd_stops, .ref rd_values, .int rd_tokens, .int n_rd_28, .ref tn, .int x_2, .int rd_lawTold, .int rd_falseTold])), (rd_kinds, .inl (cA_rd_kinds, 1601, .inl f_rd_kinds)), (rd_starts, .inl (cA_rd_starts, 1601, .inl f_rd_starts)), (rd_values, .inl (cA_rd_values, 1601, .inl f_rd_values)), (tn, .inr (7, [.int tn_hours, .int tn_courts, .int tn_gateCount, .int tn_people, .int tn_lines, .int tn_falseHours, .int x_7, .int tn_deep, .ref tn_above, .ref tn_doors, .ref tn_degrees, .ref tn_neighbours, .ref tn_shows, .ref tn_oneEnd, .ref tn_otherEnd, .ref tn_told, .ref tn_strayParts, .ref tn_strayCourts]))] := hD
    rw [← ef_33] at hP hD
    have hF : RR = (n_rd_26, n_rd_27, n_rd_28, x_2, x_7, f_16, f_33) := hF
    exact W.vret hx hb hr (fun t ht hW => by rw [← hQe]; exact ⟨⟨(), rfl, trivial, ⟨n_rd_26, n_rd_27, n_rd_28, x_2, x_7, f_16, f_33, (by first | with_reducible assumption | omega), (by first | with_reducible assumption | omega), b_f_16, b_f_33, (by rw [← hRR, hF]), (by rw [← hRR, hF]), (by rw [← hRR, hF]), (by rw [← hRR, hF]), (by rw [← hRR, hF]), (by rw [← hRR, hF]), (by rw [← hRR, hF]), z_ret hP hK hD ht hW [4, 5, 6, 2, 7, 3, 8, 0, 1] [] rfl (by decide) rfl⟩⟩, hS.F ht⟩) hS.2.2 dX5_readStrays_96
  · have ic_1 := zz_nlt rfl (show Int32.toInt 4 = 4 from by decide) c_1
    replace hF := hF.trans (if_neg c_1)
    refine lv_aload_n hx hb dX5_readStrays_8 rfl (lv_at hl 0 rfl) ?_
    refine lv_iconst (v := 2) hx hb dX5_readStrays_9 (by decide) ?_
    obtain ⟨hPc, hDc, hFc⟩ := z_cut (wc := (zV211 rd rd_fault rd_place tx rd_kinds rd_starts rd_stops rd_values rd_tokens rd_at tn rd_strayCount rd_lawTold rd_falseTold rd_starts cA_rd_starts f_rd_starts)) hP hD hS hA [0, 2] rfl (by decide +kernel)
    have hKc := hK.sub (tys' := [(cA_rd_starts, .int)]) [1] rfl
    refine va_callv (va_runV (As := [.int 2]) (rest := []) ⟨hx, hb, hml, hown, hts⟩ (kf_X5_blame l sa dC dI rd (2) rd_fault rd_place tx rd_kinds rd_starts rd_stops rd_values rd_tokens rd_at tn rd_strayCount rd_lawTold rd_falseTold cA_rd_starts f_rd_starts (by decide) b_rd_tokens b_rd_at b_rd_strayCount b_rd_lawTold b_rd_falseTold b_f_rd_starts s.heap.size) (cwV 1 hts (z_gV zw_t3_89 zw_t3_91 zw_s1_7 zw_t1_4 zw_t3_92) rfl rfl rfl (by decide +kernel) (by rw [← hRe]; exact ⟨(Nat.le_of_ble_eq_true rfl), (Nat.le_of_ble_eq_true rfl)⟩)) (z_preV hPc hKc hDc hN hXs hS hFc (q := (RX5, TX5, 13)) (ci := 5) (q0 := 0) rfl rfl) rfl rfl hl.1 rfl (lv_room (Nat.le_of_ble_eq_true rfl)) dX5_readStrays_10 (by rw [← hRe]; exact ⟨(Nat.le_of_ble_eq_true rfl), (Nat.le_of_ble_eq_true rfl)⟩)) hS (fun q _ h => hFc q h) hFc (fun u t H1 locs ht hvm hw hB hz1 hk1 hS => ?_)
    refine hB.elim fun n_rd_35 ze1 => ze1.elim fun n_rd_36 ze2 => ze2.elim fun hf_37 ze3 => ze3.elim fun hf_38 ze4 => ze4.elim fun hf_39 ze5 => ?_
    clear hB ze1 ze2 ze3 ze4
    have hB := ze5
    clear ze5
    obtain ⟨hP, hD, hK⟩ := z_after3 (wn := [(rd_kinds, .inl (cA_rd_kinds, 1601, .inl f_rd_kinds)), (rd_stops, .inl (cA_rd_stops, 1601, .inl f_rd_stops)), (rd_values, .inl (cA_rd_values, 1601, .inl f_rd_values)), (tx, .inl (cA_tx, 1600, .inl f_tx)), (tn, .inr (7, [.int tn_hours, .int tn_courts, .int tn_gateCount, .int tn_people, .int tn_lines, .int tn_falseHours, .int tn_strayers, .int tn_deep, .ref tn_above, .ref tn_doors, .ref tn_degrees, .ref tn_neighbours, .ref tn_shows, .ref tn_oneEnd, .ref tn_otherEnd, .ref tn_told, .ref tn_strayParts, .ref tn_strayCourts])), (tn_strayParts, .inl (cA_tn_strayParts, 10, .inl f_tn_strayParts)), (tn_strayCourts, .inl (cA_tn_strayCourts, 10, .inl f_tn_strayCourts)), (rd, .inr (5, [.int n_rd_35, .int n_rd_36, .ref tx, .ref rd_kinds, .ref rd_starts, .ref rd_stops, .ref rd_values, .int rd_tokens, .int rd_at, .ref tn, .int rd_strayCount, .int rd_lawTold, .int rd_falseTold])), (rd_starts, .inl (cA_rd_starts, 1601, .inl f_rd_starts))]) hB ht hvm hP hD hK [0, 2] [1, 3, 4, 5, 6, 7, 8] rfl 9 rfl (by decide +kernel) rfl (by decide +kernel) hk1 hFc
    generalize H1 = H at hP hS ⊢
    have hK : va_K (dC, dI) vwCl [(cA_rd_kinds, .int), (cA_rd_starts, .int), (cA_rd_stops, .int), (cA_rd_values, .int), (cA_tx, .byte), (cA_tn_strayParts, .int), (cA_tn_strayCourts, .int)] s := hK
    replace hF := hF.trans (zL_eq rfl)
    replace hF := hF.trans (zL_eq hf_38)
    replace hF := hF.trans (zL_eq hf_39)
    have hF : RR = (n_rd_35, n_rd_36, rd_at, rd_strayCount, tn_strayers, f_tn_strayParts, f_tn_strayCourts) := hF
    exact W.vret hx hb hr (fun t ht hW => by rw [← hQe]; exact ⟨⟨(), rfl, trivial, ⟨n_rd_35, n_rd_36, rd_at, rd_strayCount, tn_strayers, f_tn_strayParts, f_tn_strayCourts, (by first | with_reducible assumption | omega), (by first | with_reducible assumption | omega), b_f_tn_strayParts, b_f_tn_strayCourts, (by rw [← hRR, hF]), (by rw [← hRR, hF]), (by rw [← hRR, hF]), (by rw [← hRR, hF]), (by rw [← hRR, hF]), (by rw [← hRR, hF]), (by rw [← hRR, hF]), z_ret hP hK hD ht hW [7, 0, 8, 1, 2, 3, 4, 5, 6] [] rfl (by decide) rfl⟩⟩, hS.F ht⟩) hS.2.2 dX5_readStrays_13
set_option maxHeartbeats 4000000 in
set_option maxRecDepth 100000 in
theorem kf_X5_showPlaces (l : Launch) (sa : Nat → Nat) (dC : Nat → ClassId) (dI : Nat → Nat → Nat) (rd : Nat) (rd_fault : Int32) (rd_place : Int32) (tx : Nat) (rd_kinds : Nat) (rd_starts : Nat) (rd_stops : Nat) (rd_values : Nat) (rd_tokens : Int32) (rd_at : Int32) (tn : Nat) (rd_strayCount : Int32) (rd_lawTold : Int32) (rd_falseTold : Int32) (tn_hours : Int32) (tn_courts : Int32) (tn_gateCount : Int32) (tn_people : Int32) (tn_lines : Int32) (tn_falseHours : Int32) (tn_strayers : Int32) (tn_deep : Int32) (tn_above : Nat) (tn_doors : Nat) (tn_degrees : Nat) (tn_neighbours : Nat) (tn_shows : Nat) (tn_oneEnd : Nat) (tn_otherEnd : Nat) (tn_told : Nat) (tn_strayParts : Nat) (tn_strayCourts : Nat) (cA_tn_above : ClassId) (f_tn_above : Nat → Int32) (cA_tn_shows : ClassId) (f_tn_shows : Nat → Int32) (b_rd_tokens : 0 ≤ rd_tokens.toInt ∧ rd_tokens.toInt ≤ 1600) (b_rd_at : 0 ≤ rd_at.toInt ∧ rd_at.toInt ≤ 1600) (b_rd_strayCount : 0 ≤ rd_strayCount.toInt ∧ rd_strayCount.toInt ≤ 4) (b_rd_lawTold : 0 ≤ rd_lawTold.toInt ∧ rd_lawTold.toInt ≤ 1) (b_rd_falseTold : 0 ≤ rd_falseTold.toInt ∧ rd_falseTold.toInt ≤ 1) (b_tn_hours : 0 ≤ tn_hours.toInt ∧ tn_hours.toInt ≤ 48) (b_tn_courts : 0 ≤ tn_courts.toInt ∧ tn_courts.toInt ≤ 10) (b_tn_gateCount : 0 ≤ tn_gateCount.toInt ∧ tn_gateCount.toInt ≤ 16) (b_tn_people : 0 ≤ tn_people.toInt ∧ tn_people.toInt ≤ 10) (b_tn_falseHours : 0 ≤ tn_falseHours.toInt ∧ tn_falseHours.toInt ≤ 9) (b_tn_deep : 0 ≤ tn_deep.toInt ∧ tn_deep.toInt ≤ 1) (sz : Nat) : Met l yX5_showPlaces (.code yX5_showPlaces cX5_showPlaces 2 none :: zT) ({ frames := 0, cells := 0, slots := 0, locals := 0 }) (va_Pc [.ref rd] (zB sa dC dI (zV222 rd rd_fault rd_place tx rd_kinds rd_starts rd_stops rd_values rd_tokens rd_at tn rd_strayCount rd_lawTold rd_falseTold tn tn_hours tn_courts tn_gateCount tn_people tn_lines tn_falseHours tn_strayers tn_deep tn_above tn_doors tn_degrees tn_neighbours tn_shows tn_oneEnd tn_otherEnd tn_told tn_strayParts tn_strayCourts tn_above cA_tn_above f_tn_above tn_shows cA_tn_shows f_tn_shows) [(cA_tn_above, .int), (cA_tn_shows, .int)] sz)) (va_Qv (fun _ : Unit => True) (fun _ t => ∃ (n_tn_shows : Nat → Int32), (n_tn_shows = (F_X5_showPlaces tn_courts tn_deep f_tn_above f_tn_shows)) ∧ zW dC dI (zV222 rd rd_fault rd_place tx rd_kinds rd_starts rd_stops rd_values rd_tokens rd_at tn rd_strayCount rd_lawTold rd_falseTold tn tn_hours tn_courts tn_gateCount tn_people tn_lines tn_falseHours tn_strayers tn_deep tn_above tn_doors tn_degrees tn_neighbours tn_shows tn_oneEnd tn_otherEnd tn_told tn_strayParts tn_strayCourts tn_above cA_tn_above f_tn_above tn_shows cA_tn_shows n_tn_shows) [] (va_A (zV222 rd rd_fault rd_place tx rd_kinds rd_starts rd_stops rd_values rd_tokens rd_at tn rd_strayCount rd_lawTold rd_falseTold tn tn_hours tn_courts tn_gateCount tn_people tn_lines tn_falseHours tn_strayers tn_deep tn_above tn_doors tn_degrees tn_neighbours tn_shows tn_oneEnd tn_otherEnd tn_told tn_strayParts tn_strayCourts tn_above cA_tn_above f_tn_above tn_shows cA_tn_shows f_tn_shows) sz) t) (va_A (zV222 rd rd_fault rd_place tx rd_kinds rd_starts rd_stops rd_values rd_tokens rd_at tn rd_strayCount rd_lawTold rd_falseTold tn tn_hours tn_courts tn_gateCount tn_people tn_lines tn_falseHours tn_strayers tn_deep tn_above tn_doors tn_degrees tn_neighbours tn_shows tn_oneEnd tn_otherEnd tn_told tn_strayParts tn_strayCourts tn_above cA_tn_above f_tn_above tn_shows cA_tn_shows f_tn_shows) sz)) 0 0 (va_A (zV222 rd rd_fault rd_place tx rd_kinds rd_starts rd_stops rd_values rd_tokens rd_at tn rd_strayCount rd_lawTold rd_falseTold tn tn_hours tn_courts tn_gateCount tn_people tn_lines tn_falseHours tn_strayers tn_deep tn_above tn_doors tn_degrees tn_neighbours tn_shows tn_oneEnd tn_otherEnd tn_told tn_strayParts tn_strayCourts tn_above cA_tn_above f_tn_above tn_shows cA_tn_shows f_tn_shows) sz) := by
  refine z_enter (by decide) (by exact (Nat.le_of_ble_eq_true rfl)) ?_
  intro p e s m args below meth c ls A R Qc hargs hsz hQe hAe hRe hx hb hml hr hts hown hlocks hin hl hP hK hD hN hXs hA hS
  rw [hAe] at hQe
  have hown : s.vm.findClass RX5 = some m.cls := hown
  have hl : lv_has ls 2 [(0, .ref rd)] := hl
  obtain ⟨RR, hRR⟩ : ∃ z : (Nat → Int32), z = (F_X5_showPlaces tn_courts tn_deep f_tn_above f_tn_shows) := ⟨_, rfl⟩
  have hF : RR = (F_X5_showPlaces tn_courts tn_deep f_tn_above f_tn_shows) := hRR
  refine lv_iconst (v := 0) hx hb dX5_showPlaces_0 (by decide) ?_
  refine lv_istore_n (lv' := [(1, .int 0), (0, .ref rd)]) hx hb dX5_showPlaces_1 rfl hl (by decide) rfl (fun ls hl => ?_)
  have loop_1 : ∀ (t_1 : Nat) (v1_1 : Int32) (g_tn_shows_2 : Nat → Int32) (b_v1_1 : 0 ≤ v1_1.toInt ∧ v1_1.toInt ≤ 10) (H : Heap) (locs : List Loc) (ls : Array Slot), 10 - v1_1.toInt < (t_1 : Int) → RR = L_X5_showPlaces_1 tn_courts tn_deep f_tn_above K_X5_showPlaces_1_0 t_1 v1_1 g_tn_shows_2 → va_P (dC, dI) vwCl (zV222 rd rd_fault rd_place tx rd_kinds rd_starts rd_stops rd_values rd_tokens rd_at tn rd_strayCount rd_lawTold rd_falseTold tn tn_hours tn_courts tn_gateCount tn_people tn_lines tn_falseHours tn_strayers tn_deep tn_above tn_doors tn_degrees tn_neighbours tn_shows tn_oneEnd tn_otherEnd tn_told tn_strayParts tn_strayCourts tn_above cA_tn_above f_tn_above tn_shows cA_tn_shows g_tn_shows_2) H → va_D A (zV222 rd rd_fault rd_place tx rd_kinds rd_starts rd_stops rd_values rd_tokens rd_at tn rd_strayCount rd_lawTold rd_falseTold tn tn_hours tn_courts tn_gateCount tn_people tn_lines tn_falseHours tn_strayers tn_deep tn_above tn_doors tn_degrees tn_neighbours tn_shows tn_oneEnd tn_otherEnd tn_told tn_strayParts tn_strayCourts tn_above cA_tn_above f_tn_above tn_shows cA_tn_shows g_tn_shows_2) → va_S A s.heap H locs → lv_has ls 2 [(0, .ref rd), (1, .int v1_1)] → W p l e R s m args below meth c H locs 0 0 (MQ below Qc args s 0 0 A) (F0 m 2 ls []) := by
    intro t_1
    induction t_1 with
    | zero => intro v1_1 g_tn_shows_2 b_v1_1 H locs ls hmu _ _ _ _ _; exact absurd hmu (by first | with_reducible assumption | omega)
    | succ t_1 ih_1 =>
      intro v1_1 g_tn_shows_2 b_v1_1 H locs ls hmu hF hP hD hS hl
      replace hF := hF.trans L_X5_showPlaces_1_s
      refine lv_iload_n hx hb dX5_showPlaces_2 rfl (lv_at hl 1 rfl) ?_
      refine lv_aload_n hx hb dX5_showPlaces_3 rfl (lv_at hl 0 rfl) ?_
      refine va_get (D := (dC, dI)) (ci := 5) (v := .ref tn) (C := RX5) (T := TX5) (N := 13) hx hb hts zl_X5 hown hK hP 0 rfl rfl 9 (by decide) (hts _ zw_t1_204) (fun _ h9 => h9) rfl dX5_showPlaces_4 ?_
      refine va_get (D := (dC, dI)) (ci := 7) (v := .int tn_courts) (C := RX7) (T := TX7) (N := 18) hx hb hts zl_X7 hown hK hP 1 rfl rfl 1 (by decide) (hts _ zw_t1_51) (fun _ h9 => h9) rfl dX5_showPlaces_7 ?_
      refine lv_icmp_ge (tgt := 57) hx hb dX5_showPlaces_10 (by decide) (fun c_3 => ?_) (fun c_3 => ?_)
      · have ic_3 := zz_ge rfl rfl c_3
        replace hF := hF.trans (if_pos c_3)
        have hF : RR = g_tn_shows_2 := hF
        exact W.vret hx hb hr (fun t ht hW => by rw [← hQe]; exact ⟨⟨(), rfl, trivial, ⟨g_tn_shows_2, (by rw [← hRR, hF]), z_ret hP hK hD ht hW [0, 1, 2, 3] [] rfl (by decide) rfl⟩⟩, hS.F ht⟩) hS.2.2 dX5_showPlaces_57
      · have ic_3 := zz_nge rfl rfl c_3
        replace hF := hF.trans (if_neg c_3)
        refine lv_aload_n hx hb dX5_showPlaces_13 rfl (lv_at hl 0 rfl) ?_
        refine va_get (D := (dC, dI)) (ci := 5) (v := .ref tn) (C := RX5) (T := TX5) (N := 13) hx hb hts zl_X5 hown hK hP 0 rfl rfl 9 (by decide) (hts _ zw_t1_204) (fun _ h9 => h9) rfl dX5_showPlaces_14 ?_
        refine va_get (D := (dC, dI)) (ci := 7) (v := .ref tn_shows) (C := RX7) (T := TX7) (N := 18) hx hb hts zl_X7 hown hK hP 1 rfl rfl 12 (by decide) (hts _ zw_t1_97) (fun _ h9 => h9) rfl dX5_showPlaces_17 ?_
        refine lv_iload_n hx hb dX5_showPlaces_20 rfl (lv_at hl 1 rfl) ?_
        refine lv_aload_n hx hb dX5_showPlaces_21 rfl (lv_at hl 0 rfl) ?_
        refine va_get (D := (dC, dI)) (ci := 5) (v := .ref tn) (C := RX5) (T := TX5) (N := 13) hx hb hts zl_X5 hown hK hP 0 rfl rfl 9 (by decide) (hts _ zw_t1_204) (fun _ h9 => h9) rfl dX5_showPlaces_22 ?_
        refine va_get (D := (dC, dI)) (ci := 7) (v := .int tn_deep) (C := RX7) (T := TX7) (N := 18) hx hb hts zl_X7 hown hK hP 1 rfl rfl 7 (by decide) (hts _ zw_t1_77) (fun _ h9 => h9) rfl dX5_showPlaces_25 ?_
        refine lv_if_eq (tgt := 47) hx hb dX5_showPlaces_28 (by decide) (fun c_4 => ?_) (fun c_4 => ?_)
        · have ic_4 := zz_eq rfl (show Int32.toInt 0 = 0 from by decide) c_4
          replace hF := hF.trans (if_pos c_4)
          refine lv_iconst (v := 1) hx hb dX5_showPlaces_47 (by decide) ?_
          refine lv_iload_n hx hb dX5_showPlaces_48 rfl (lv_at hl 1 rfl) ?_
          refine lv_ishl hx hb dX5_showPlaces_49 ?_
          refine lv_topi (fun x_5 ex_5 => ?_)
          replace hF := hF.trans (zL_eq ex_5)
          have b_x_5 : 1 ≤ x_5.toInt ∧ x_5.toInt ≤ 512 := by rw [ex_5]; exact zi_shl9 rfl (by first | with_reducible assumption | omega)
          refine va_iast hx hb hK hP hD hS 3 1 rfl rfl (zi_in rfl (by first | with_reducible assumption | omega)) dX5_showPlaces_50 (fun H locs hP hD hS => ?_)
          obtain ⟨f_6, ef_6⟩ : ∃ g : Nat → Int32, g = upd g_tn_shows_2 (Int32.toNatClampNeg v1_1) x_5 := ⟨_, rfl⟩
          replace hF := hF.trans (zL_eq ef_6)
          have hP : va_P (dC, dI) vwCl (zV222 rd rd_fault rd_place tx rd_kinds rd_starts rd_stops rd_values rd_tokens rd_at tn rd_strayCount rd_lawTold rd_falseTold tn tn_hours tn_courts tn_gateCount tn_people tn_lines tn_falseHours tn_strayers tn_deep tn_above tn_doors tn_degrees tn_neighbours tn_shows tn_oneEnd tn_otherEnd tn_told tn_strayParts tn_strayCourts tn_above cA_tn_above f_tn_above tn_shows cA_tn_shows (upd g_tn_shows_2 (Int32.toNatClampNeg v1_1) x_5)) H := hP
          have hD : va_D A (zV222 rd rd_fault rd_place tx rd_kinds rd_starts rd_stops rd_values rd_tokens rd_at tn rd_strayCount rd_lawTold rd_falseTold tn tn_hours tn_courts tn_gateCount tn_people tn_lines tn_falseHours tn_strayers tn_deep tn_above tn_doors tn_degrees tn_neighbours tn_shows tn_oneEnd tn_otherEnd tn_told tn_strayParts tn_strayCourts tn_above cA_tn_above f_tn_above tn_shows cA_tn_shows (upd g_tn_shows_2 (Int32.toNatClampNeg v1_1) x_5)) := hD
          rw [← ef_6] at hP hD
          obtain ⟨x_7, ex_7⟩ : ∃ z : Int32, z = v1_1 + Int32.ofInt 1 := ⟨_, rfl⟩
          have b_x_7 : x_7.toInt = v1_1.toInt + 1 := by rw [ex_7]; exact zi_add rfl (show (Int32.ofInt 1).toInt = 1 from by decide) (z_rac b_v1_1 (by decide))
          refine lv_iinc (v := x_7) (lv' := [(1, .int x_7), (0, .ref rd)]) hx hb dX5_showPlaces_51 hl (k := 1) rfl ex_7.symm (by decide) rfl (fun ls hl => ?_)
          replace hF := hF.trans (zL_eq ex_7)
          refine lv_goto (tgt := 2) hx hb dX5_showPlaces_54 (by decide) ?_
          exact ih_1 x_7 f_6 (by first | with_reducible assumption | omega) _ _ _ (by first | with_reducible assumption | omega) hF (hP.sub (ws' := (zV222 rd rd_fault rd_place tx rd_kinds rd_starts rd_stops rd_values rd_tokens rd_at tn rd_strayCount rd_lawTold rd_falseTold tn tn_hours tn_courts tn_gateCount tn_people tn_lines tn_falseHours tn_strayers tn_deep tn_above tn_doors tn_degrees tn_neighbours tn_shows tn_oneEnd tn_otherEnd tn_told tn_strayParts tn_strayCourts tn_above cA_tn_above f_tn_above tn_shows cA_tn_shows f_6)) [0, 1, 2, 3] rfl) (hD.sub (ws' := (zV222 rd rd_fault rd_place tx rd_kinds rd_starts rd_stops rd_values rd_tokens rd_at tn rd_strayCount rd_lawTold rd_falseTold tn tn_hours tn_courts tn_gateCount tn_people tn_lines tn_falseHours tn_strayers tn_deep tn_above tn_doors tn_degrees tn_neighbours tn_shows tn_oneEnd tn_otherEnd tn_told tn_strayParts tn_strayCourts tn_above cA_tn_above f_tn_above tn_shows cA_tn_shows f_6)) [0, 1, 2, 3] (by decide) rfl) hS (lv_sub hl [1, 0] rfl)
        · have ic_4 := zz_neq rfl (show Int32.toInt 0 = 0 from by decide) c_4
          replace hF := hF.trans (if_neg c_4)
          refine lv_aload_n hx hb dX5_showPlaces_31 rfl (lv_at hl 0 rfl) ?_
          refine va_get (D := (dC, dI)) (ci := 5) (v := .ref tn) (C := RX5) (T := TX5) (N := 13) hx hb hts zl_X5 hown hK hP 0 rfl rfl 9 (by decide) (hts _ zw_t1_204) (fun _ h9 => h9) rfl dX5_showPlaces_32 ?_
          refine va_get (D := (dC, dI)) (ci := 7) (v := .ref tn_above) (C := RX7) (T := TX7) (N := 18) hx hb hts zl_X7 hown hK hP 1 rfl rfl 8 (by decide) (hts _ zw_t1_81) (fun _ h9 => h9) rfl dX5_showPlaces_35 ?_
          refine lv_iload_n hx hb dX5_showPlaces_38 rfl (lv_at hl 1 rfl) ?_
          refine va_iald hx hb hK hP 2 0 rfl rfl (zi_in rfl (by first | exact z_rin b_v1_1 (by decide) | omega)) dX5_showPlaces_39 ?_
          refine lv_topi (fun x_8 ex_8 => ?_)
          replace hF := hF.trans (zL_eq ex_8)
          refine lv_iconst (v := 1) hx hb dX5_showPlaces_40 (by decide) ?_
          refine lv_iload_n hx hb dX5_showPlaces_41 rfl (lv_at hl 1 rfl) ?_
          refine lv_ishl hx hb dX5_showPlaces_42 ?_
          refine lv_topi (fun x_9 ex_9 => ?_)
          replace hF := hF.trans (zL_eq ex_9)
          have b_x_9 : 1 ≤ x_9.toInt ∧ x_9.toInt ≤ 512 := by rw [ex_9]; exact zi_shl9 rfl (by first | with_reducible assumption | omega)
          refine lv_ior hx hb dX5_showPlaces_43 ?_
          refine lv_topi (fun x_10 ex_10 => ?_)
          replace hF := hF.trans (zL_eq ex_10)
          refine lv_goto (tgt := 50) hx hb dX5_showPlaces_44 (by decide) ?_
          refine va_iast hx hb hK hP hD hS 3 1 rfl rfl (zi_in rfl (by first | with_reducible assumption | omega)) dX5_showPlaces_50 (fun H locs hP hD hS => ?_)
          obtain ⟨f_11, ef_11⟩ : ∃ g : Nat → Int32, g = upd g_tn_shows_2 (Int32.toNatClampNeg v1_1) x_10 := ⟨_, rfl⟩
          replace hF := hF.trans (zL_eq ef_11)
          have hP : va_P (dC, dI) vwCl (zV222 rd rd_fault rd_place tx rd_kinds rd_starts rd_stops rd_values rd_tokens rd_at tn rd_strayCount rd_lawTold rd_falseTold tn tn_hours tn_courts tn_gateCount tn_people tn_lines tn_falseHours tn_strayers tn_deep tn_above tn_doors tn_degrees tn_neighbours tn_shows tn_oneEnd tn_otherEnd tn_told tn_strayParts tn_strayCourts tn_above cA_tn_above f_tn_above tn_shows cA_tn_shows (upd g_tn_shows_2 (Int32.toNatClampNeg v1_1) x_10)) H := hP
          have hD : va_D A (zV222 rd rd_fault rd_place tx rd_kinds rd_starts rd_stops rd_values rd_tokens rd_at tn rd_strayCount rd_lawTold rd_falseTold tn tn_hours tn_courts tn_gateCount tn_people tn_lines tn_falseHours tn_strayers tn_deep tn_above tn_doors tn_degrees tn_neighbours tn_shows tn_oneEnd tn_otherEnd tn_told tn_strayParts tn_strayCourts tn_above cA_tn_above f_tn_above tn_shows cA_tn_shows (upd g_tn_shows_2 (Int32.toNatClampNeg v1_1) x_10)) := hD
          rw [← ef_11] at hP hD
          obtain ⟨x_12, ex_12⟩ : ∃ z : Int32, z = v1_1 + Int32.ofInt 1 := ⟨_, rfl⟩
          have b_x_12 : x_12.toInt = v1_1.toInt + 1 := by rw [ex_12]; exact zi_add rfl (show (Int32.ofInt 1).toInt = 1 from by decide) (z_rac b_v1_1 (by decide))
          refine lv_iinc (v := x_12) (lv' := [(1, .int x_12), (0, .ref rd)]) hx hb dX5_showPlaces_51 hl (k := 1) rfl ex_12.symm (by decide) rfl (fun ls hl => ?_)
          replace hF := hF.trans (zL_eq ex_12)
          refine lv_goto (tgt := 2) hx hb dX5_showPlaces_54 (by decide) ?_
          exact ih_1 x_12 f_11 (by first | with_reducible assumption | omega) _ _ _ (by first | with_reducible assumption | omega) hF (hP.sub (ws' := (zV222 rd rd_fault rd_place tx rd_kinds rd_starts rd_stops rd_values rd_tokens rd_at tn rd_strayCount rd_lawTold rd_falseTold tn tn_hours tn_courts tn_gateCount tn_people tn_lines tn_falseHours tn_strayers tn_deep tn_above tn_doors tn_degrees tn_neighbours tn_shows tn_oneEnd tn_otherEnd tn_told tn_strayParts tn_strayCourts tn_above cA_tn_above f_tn_above tn_shows cA_tn_shows f_11)) [0, 1, 2, 3] rfl) (hD.sub (ws' := (zV222 rd rd_fault rd_place tx rd_kinds rd_starts rd_stops rd_values rd_tokens rd_at tn rd_strayCount rd_lawTold rd_falseTold tn tn_hours tn_courts tn_gateCount tn_people tn_lines tn_falseHours tn_strayers tn_deep tn_above tn_doors tn_degrees tn_neighbours tn_shows tn_oneEnd tn_otherEnd tn_told tn_strayParts tn_strayCourts tn_above cA_tn_above f_tn_above tn_shows cA_tn_shows f_11)) [0, 1, 2, 3] (by decide) rfl) hS (lv_sub hl [1, 0] rfl)
  exact loop_1 12 (0) f_tn_shows (by decide) _ _ _ (by decide) hF hP hD hS (lv_sub hl [1, 0] rfl)
set_option maxHeartbeats 4000000 in
set_option maxRecDepth 100000 in
theorem kf_X5_placeFrom (l : Launch) (sa : Nat → Nat) (dC : Nat → ClassId) (dI : Nat → Nat → Nat) (rd : Nat) (p1 : Int32) (p2 : Int32) (rd_fault : Int32) (rd_place : Int32) (tx : Nat) (rd_kinds : Nat) (rd_starts : Nat) (rd_stops : Nat) (rd_values : Nat) (rd_tokens : Int32) (rd_at : Int32) (tn : Nat) (rd_strayCount : Int32) (rd_lawTold : Int32) (rd_falseTold : Int32) (tn_hours : Int32) (tn_courts : Int32) (tn_gateCount : Int32) (tn_people : Int32) (tn_lines : Int32) (tn_falseHours : Int32) (tn_strayers : Int32) (tn_deep : Int32) (tn_above : Nat) (tn_doors : Nat) (tn_degrees : Nat) (tn_neighbours : Nat) (tn_shows : Nat) (tn_oneEnd : Nat) (tn_otherEnd : Nat) (tn_told : Nat) (tn_strayParts : Nat) (tn_strayCourts : Nat) (cA_tn_told : ClassId) (f_tn_told : Nat → Int32) (b_p1 : 0 ≤ p1.toInt ∧ p1.toInt ≤ 47) (b_p2 : 0 ≤ p2.toInt ∧ p2.toInt ≤ 9) (b_rd_tokens : 0 ≤ rd_tokens.toInt ∧ rd_tokens.toInt ≤ 1600) (b_rd_at : 0 ≤ rd_at.toInt ∧ rd_at.toInt ≤ 1600) (b_rd_strayCount : 0 ≤ rd_strayCount.toInt ∧ rd_strayCount.toInt ≤ 4) (b_rd_lawTold : 0 ≤ rd_lawTold.toInt ∧ rd_lawTold.toInt ≤ 1) (b_rd_falseTold : 0 ≤ rd_falseTold.toInt ∧ rd_falseTold.toInt ≤ 1) (b_tn_hours : 0 ≤ tn_hours.toInt ∧ tn_hours.toInt ≤ 48) (b_tn_courts : 0 ≤ tn_courts.toInt ∧ tn_courts.toInt ≤ 10) (b_tn_gateCount : 0 ≤ tn_gateCount.toInt ∧ tn_gateCount.toInt ≤ 16) (b_tn_people : 0 ≤ tn_people.toInt ∧ tn_people.toInt ≤ 9) (b_tn_falseHours : 0 ≤ tn_falseHours.toInt ∧ tn_falseHours.toInt ≤ 9) (b_tn_deep : 0 ≤ tn_deep.toInt ∧ tn_deep.toInt ≤ 1) (b_f_tn_told : ∀ j : Nat, 0 ≤ (f_tn_told j).toInt ∧ (f_tn_told j).toInt ≤ 9) (sz : Nat) : Met l yX5_placeFrom (.code yX5_placeFrom cX5_placeFrom 4 none :: zT) ({ frames := 0, cells := 0, slots := 0, locals := 0 }) (va_Pc [.ref rd, .int p1, .int p2] (zB sa dC dI (zV223 rd rd_fault rd_place tx rd_kinds rd_starts rd_stops rd_values rd_tokens rd_at tn rd_strayCount rd_lawTold rd_falseTold tn tn_hours tn_courts tn_gateCount tn_people tn_lines tn_falseHours tn_strayers tn_deep tn_above tn_doors tn_degrees tn_neighbours tn_shows tn_oneEnd tn_otherEnd tn_told tn_strayParts tn_strayCourts tn_told cA_tn_told f_tn_told) [(cA_tn_told, .int)] sz)) (va_Qv (fun _ : Unit => True) (fun _ t => ∃ (n_tn_told : Nat → Int32), (∀ j : Nat, 0 ≤ (n_tn_told j).toInt ∧ (n_tn_told j).toInt ≤ 9) ∧ (n_tn_told = (F_X5_placeFrom p1 p2 tn_hours tn_people f_tn_told)) ∧ zW dC dI (zV223 rd rd_fault rd_place tx rd_kinds rd_starts rd_stops rd_values rd_tokens rd_at tn rd_strayCount rd_lawTold rd_falseTold tn tn_hours tn_courts tn_gateCount tn_people tn_lines tn_falseHours tn_strayers tn_deep tn_above tn_doors tn_degrees tn_neighbours tn_shows tn_oneEnd tn_otherEnd tn_told tn_strayParts tn_strayCourts tn_told cA_tn_told n_tn_told) [] (va_A (zV223 rd rd_fault rd_place tx rd_kinds rd_starts rd_stops rd_values rd_tokens rd_at tn rd_strayCount rd_lawTold rd_falseTold tn tn_hours tn_courts tn_gateCount tn_people tn_lines tn_falseHours tn_strayers tn_deep tn_above tn_doors tn_degrees tn_neighbours tn_shows tn_oneEnd tn_otherEnd tn_told tn_strayParts tn_strayCourts tn_told cA_tn_told f_tn_told) sz) t) (va_A (zV223 rd rd_fault rd_place tx rd_kinds rd_starts rd_stops rd_values rd_tokens rd_at tn rd_strayCount rd_lawTold rd_falseTold tn tn_hours tn_courts tn_gateCount tn_people tn_lines tn_falseHours tn_strayers tn_deep tn_above tn_doors tn_degrees tn_neighbours tn_shows tn_oneEnd tn_otherEnd tn_told tn_strayParts tn_strayCourts tn_told cA_tn_told f_tn_told) sz)) 0 0 (va_A (zV223 rd rd_fault rd_place tx rd_kinds rd_starts rd_stops rd_values rd_tokens rd_at tn rd_strayCount rd_lawTold rd_falseTold tn tn_hours tn_courts tn_gateCount tn_people tn_lines tn_falseHours tn_strayers tn_deep tn_above tn_doors tn_degrees tn_neighbours tn_shows tn_oneEnd tn_otherEnd tn_told tn_strayParts tn_strayCourts tn_told cA_tn_told f_tn_told) sz) := by
  refine z_enter (by decide) (by exact (Nat.le_of_ble_eq_true rfl)) ?_
  intro p e s m args below meth c ls A R Qc hargs hsz hQe hAe hRe hx hb hml hr hts hown hlocks hin hl hP hK hD hN hXs hA hS
  rw [hAe] at hQe
  have hown : s.vm.findClass RX5 = some m.cls := hown
  have hl : lv_has ls 4 [(0, .ref rd), (1, .int p1), (2, .int p2)] := hl
  obtain ⟨RR, hRR⟩ : ∃ z : (Nat → Int32), z = (F_X5_placeFrom p1 p2 tn_hours tn_people f_tn_told) := ⟨_, rfl⟩
  have hF : RR = (F_X5_placeFrom p1 p2 tn_hours tn_people f_tn_told) := hRR
  refine lv_iload_n hx hb dX5_placeFrom_0 rfl (lv_at hl 1 rfl) ?_
  refine lv_istore_n (lv' := [(3, .int p1), (0, .ref rd), (1, .int p1), (2, .int p2)]) hx hb dX5_placeFrom_1 rfl hl (by decide) rfl (fun ls hl => ?_)
  have loop_1 : ∀ (t_1 : Nat) (v3_1 : Int32) (g_tn_told_2 : Nat → Int32) (b_v3_1 : 0 ≤ v3_1.toInt ∧ v3_1.toInt ≤ 48) (ge_v3_1 : p1.toInt ≤ v3_1.toInt) (b_g_tn_told_2 : ∀ j : Nat, 0 ≤ (g_tn_told_2 j).toInt ∧ (g_tn_told_2 j).toInt ≤ 9) (H : Heap) (locs : List Loc) (ls : Array Slot), 48 - v3_1.toInt < (t_1 : Int) → RR = L_X5_placeFrom_1 tn_hours tn_people p2 K_X5_placeFrom_1_0 t_1 v3_1 g_tn_told_2 → va_P (dC, dI) vwCl (zV223 rd rd_fault rd_place tx rd_kinds rd_starts rd_stops rd_values rd_tokens rd_at tn rd_strayCount rd_lawTold rd_falseTold tn tn_hours tn_courts tn_gateCount tn_people tn_lines tn_falseHours tn_strayers tn_deep tn_above tn_doors tn_degrees tn_neighbours tn_shows tn_oneEnd tn_otherEnd tn_told tn_strayParts tn_strayCourts tn_told cA_tn_told g_tn_told_2) H → va_D A (zV223 rd rd_fault rd_place tx rd_kinds rd_starts rd_stops rd_values rd_tokens rd_at tn rd_strayCount rd_lawTold rd_falseTold tn tn_hours tn_courts tn_gateCount tn_people tn_lines tn_falseHours tn_strayers tn_deep tn_above tn_doors tn_degrees tn_neighbours tn_shows tn_oneEnd tn_otherEnd tn_told tn_strayParts tn_strayCourts tn_told cA_tn_told g_tn_told_2) → va_S A s.heap H locs → lv_has ls 4 [(0, .ref rd), (1, .int p1), (2, .int p2), (3, .int v3_1)] → W p l e R s m args below meth c H locs 0 0 (MQ below Qc args s 0 0 A) (F0 m 2 ls []) := by
    intro t_1
    induction t_1 with
    | zero => intro v3_1 g_tn_told_2 b_v3_1 ge_v3_1 b_g_tn_told_2 H locs ls hmu _ _ _ _ _; exact absurd hmu (by first | with_reducible assumption | omega)
    | succ t_1 ih_1 =>
      intro v3_1 g_tn_told_2 b_v3_1 ge_v3_1 b_g_tn_told_2 H locs ls hmu hF hP hD hS hl
      replace hF := hF.trans L_X5_placeFrom_1_s
      refine lv_iload_n hx hb dX5_placeFrom_2 rfl (lv_at hl 3 rfl) ?_
      refine lv_aload_n hx hb dX5_placeFrom_3 rfl (lv_at hl 0 rfl) ?_
      refine va_get (D := (dC, dI)) (ci := 5) (v := .ref tn) (C := RX5) (T := TX5) (N := 13) hx hb hts zl_X5 hown hK hP 0 rfl rfl 9 (by decide) (hts _ zw_t1_204) (fun _ h9 => h9) rfl dX5_placeFrom_4 ?_
      refine va_get (D := (dC, dI)) (ci := 7) (v := .int tn_hours) (C := RX7) (T := TX7) (N := 18) hx hb hts zl_X7 hown hK hP 1 rfl rfl 0 (by decide) (hts _ zw_t1_45) (fun _ h9 => h9) rfl dX5_placeFrom_7 ?_
      refine lv_icmp_ge (tgt := 40) hx hb dX5_placeFrom_10 (by decide) (fun c_3 => ?_) (fun c_3 => ?_)
      · have ic_3 := zz_ge rfl rfl c_3
        replace hF := hF.trans (if_pos c_3)
        have hF : RR = g_tn_told_2 := hF
        exact W.vret hx hb hr (fun t ht hW => by rw [← hQe]; exact ⟨⟨(), rfl, trivial, ⟨g_tn_told_2, b_g_tn_told_2, (by rw [← hRR, hF]), z_ret hP hK hD ht hW [0, 1, 2] [] rfl (by decide) rfl⟩⟩, hS.F ht⟩) hS.2.2 dX5_placeFrom_40
      · have ic_3 := zz_nge rfl rfl c_3
        replace hF := hF.trans (if_neg c_3)
        refine lv_aload_n hx hb dX5_placeFrom_13 rfl (lv_at hl 0 rfl) ?_
        refine va_get (D := (dC, dI)) (ci := 5) (v := .ref tn) (C := RX5) (T := TX5) (N := 13) hx hb hts zl_X5 hown hK hP 0 rfl rfl 9 (by decide) (hts _ zw_t1_204) (fun _ h9 => h9) rfl dX5_placeFrom_14 ?_
        refine va_get (D := (dC, dI)) (ci := 7) (v := .ref tn_told) (C := RX7) (T := TX7) (N := 18) hx hb hts zl_X7 hown hK hP 1 rfl rfl 15 (by decide) (hts _ zw_t1_106) (fun _ h9 => h9) rfl dX5_placeFrom_17 ?_
        refine lv_aload_n hx hb dX5_placeFrom_20 rfl (lv_at hl 0 rfl) ?_
        refine va_get (D := (dC, dI)) (ci := 5) (v := .ref tn) (C := RX5) (T := TX5) (N := 13) hx hb hts zl_X5 hown hK hP 0 rfl rfl 9 (by decide) (hts _ zw_t1_204) (fun _ h9 => h9) rfl dX5_placeFrom_21 ?_
        refine va_get (D := (dC, dI)) (ci := 7) (v := .int tn_people) (C := RX7) (T := TX7) (N := 18) hx hb hts zl_X7 hown hK hP 1 rfl rfl 3 (by decide) (hts _ zw_t1_64) (fun _ h9 => h9) rfl dX5_placeFrom_24 ?_
        refine lv_bipush (v := 48) hx hb dX5_placeFrom_27 (by decide) ?_
        refine lv_imul hx hb dX5_placeFrom_29 ?_
        refine lv_topi (fun x_4 ex_4 => ?_)
        replace hF := hF.trans (zL_eq ex_4)
        have b_x_4 : x_4.toInt = tn_people.toInt * 48 := by rw [ex_4]; exact zi_mul rfl (show Int32.toInt 48 = 48 from by decide) (z_rcm b_tn_people (by decide))
        refine lv_iload_n hx hb dX5_placeFrom_30 rfl (lv_at hl 3 rfl) ?_
        refine lv_iadd hx hb dX5_placeFrom_31 ?_
        refine lv_topi (fun x_5 ex_5 => ?_)
        replace hF := hF.trans (zL_eq ex_5)
        have b_x_5 : x_5.toInt = x_4.toInt + v3_1.toInt := by rw [ex_5]; exact zi_add rfl rfl (z_raa (z_ecm (c := 48) b_x_4 b_tn_people) b_v3_1 (by decide))
        refine lv_iload_n hx hb dX5_placeFrom_32 rfl (lv_at hl 2 rfl) ?_
        refine va_iast hx hb hK hP hD hS 2 0 rfl rfl (zi_in rfl (by first | exact z_rin (z_ead b_x_5 (z_ecm (c := 48) b_x_4 b_tn_people) b_v3_1) (by decide) | omega)) dX5_placeFrom_33 (fun H locs hP hD hS => ?_)
        obtain ⟨f_6, ef_6⟩ : ∃ g : Nat → Int32, g = upd g_tn_told_2 (Int32.toNatClampNeg x_5) p2 := ⟨_, rfl⟩
        replace hF := hF.trans (zL_eq ef_6)
        have b_f_6 : ∀ j : Nat, 0 ≤ (f_6 j).toInt ∧ (f_6 j).toInt ≤ 9 := by rw [ef_6]; exact zi_upd b_g_tn_told_2 rfl (by first | with_reducible assumption | omega)
        have hP : va_P (dC, dI) vwCl (zV223 rd rd_fault rd_place tx rd_kinds rd_starts rd_stops rd_values rd_tokens rd_at tn rd_strayCount rd_lawTold rd_falseTold tn tn_hours tn_courts tn_gateCount tn_people tn_lines tn_falseHours tn_strayers tn_deep tn_above tn_doors tn_degrees tn_neighbours tn_shows tn_oneEnd tn_otherEnd tn_told tn_strayParts tn_strayCourts tn_told cA_tn_told (upd g_tn_told_2 (Int32.toNatClampNeg x_5) p2)) H := hP
        have hD : va_D A (zV223 rd rd_fault rd_place tx rd_kinds rd_starts rd_stops rd_values rd_tokens rd_at tn rd_strayCount rd_lawTold rd_falseTold tn tn_hours tn_courts tn_gateCount tn_people tn_lines tn_falseHours tn_strayers tn_deep tn_above tn_doors tn_degrees tn_neighbours tn_shows tn_oneEnd tn_otherEnd tn_told tn_strayParts tn_strayCourts tn_told cA_tn_told (upd g_tn_told_2 (Int32.toNatClampNeg x_5) p2)) := hD
        rw [← ef_6] at hP hD
        obtain ⟨x_7, ex_7⟩ : ∃ z : Int32, z = v3_1 + Int32.ofInt 1 := ⟨_, rfl⟩
        have b_x_7 : x_7.toInt = v3_1.toInt + 1 := by rw [ex_7]; exact zi_add rfl (show (Int32.ofInt 1).toInt = 1 from by decide) (z_rac b_v3_1 (by decide))
        refine lv_iinc (v := x_7) (lv' := [(3, .int x_7), (0, .ref rd), (1, .int p1), (2, .int p2)]) hx hb dX5_placeFrom_34 hl (k := 3) rfl ex_7.symm (by decide) rfl (fun ls hl => ?_)
        replace hF := hF.trans (zL_eq ex_7)
        refine lv_goto (tgt := 2) hx hb dX5_placeFrom_37 (by decide) ?_
        exact ih_1 x_7 f_6 (by first | with_reducible assumption | omega) (by first | with_reducible assumption | omega) b_f_6 _ _ _ (by first | with_reducible assumption | omega) hF (hP.sub (ws' := (zV223 rd rd_fault rd_place tx rd_kinds rd_starts rd_stops rd_values rd_tokens rd_at tn rd_strayCount rd_lawTold rd_falseTold tn tn_hours tn_courts tn_gateCount tn_people tn_lines tn_falseHours tn_strayers tn_deep tn_above tn_doors tn_degrees tn_neighbours tn_shows tn_oneEnd tn_otherEnd tn_told tn_strayParts tn_strayCourts tn_told cA_tn_told f_6)) [0, 1, 2] rfl) (hD.sub (ws' := (zV223 rd rd_fault rd_place tx rd_kinds rd_starts rd_stops rd_values rd_tokens rd_at tn rd_strayCount rd_lawTold rd_falseTold tn tn_hours tn_courts tn_gateCount tn_people tn_lines tn_falseHours tn_strayers tn_deep tn_above tn_doors tn_degrees tn_neighbours tn_shows tn_oneEnd tn_otherEnd tn_told tn_strayParts tn_strayCourts tn_told cA_tn_told f_6)) [0, 1, 2] (by decide) rfl) hS (lv_sub hl [1, 2, 3, 0] rfl)
  exact loop_1 50 p1 f_tn_told (by first | with_reducible assumption | omega) (by first | with_reducible assumption | omega) b_f_tn_told _ _ _ (by first | with_reducible assumption | omega) hF hP hD hS (lv_sub hl [1, 2, 3, 0] rfl)
set_option maxHeartbeats 4000000 in
set_option maxRecDepth 100000 in
theorem kf_X5_split (l : Launch) (sa : Nat → Nat) (dC : Nat → ClassId) (dI : Nat → Nat → Nat) (rd : Nat) (p1 : Int32) (rd_fault : Int32) (rd_place : Int32) (tx : Nat) (rd_kinds : Nat) (rd_starts : Nat) (rd_stops : Nat) (rd_values : Nat) (rd_tokens : Int32) (rd_at : Int32) (tn : Nat) (rd_strayCount : Int32) (rd_lawTold : Int32) (rd_falseTold : Int32) (cA_rd_kinds : ClassId) (f_rd_kinds : Nat → Int32) (cA_rd_starts : ClassId) (f_rd_starts : Nat → Int32) (cA_rd_stops : ClassId) (f_rd_stops : Nat → Int32) (cA_rd_values : ClassId) (f_rd_values : Nat → Int32) (cA_tx : ClassId) (f_tx : Nat → Int32) (b_p1 : 0 ≤ p1.toInt ∧ p1.toInt ≤ 1600) (b_rd_tokens : 0 ≤ rd_tokens.toInt ∧ rd_tokens.toInt ≤ 1600) (b_rd_at : 0 ≤ rd_at.toInt ∧ rd_at.toInt ≤ 1600) (b_rd_strayCount : 0 ≤ rd_strayCount.toInt ∧ rd_strayCount.toInt ≤ 4) (b_rd_lawTold : 0 ≤ rd_lawTold.toInt ∧ rd_lawTold.toInt ≤ 1) (b_rd_falseTold : 0 ≤ rd_falseTold.toInt ∧ rd_falseTold.toInt ≤ 1) (b_f_rd_kinds : ∀ j : Nat, 0 ≤ (f_rd_kinds j).toInt ∧ (f_rd_kinds j).toInt ≤ 5) (b_f_rd_starts : ∀ j : Nat, 0 ≤ (f_rd_starts j).toInt ∧ (f_rd_starts j).toInt ≤ 1600) (b_f_rd_stops : ∀ j : Nat, 0 ≤ (f_rd_stops j).toInt ∧ (f_rd_stops j).toInt ≤ 1600) (b_f_rd_values : ∀ j : Nat, 0 ≤ (f_rd_values j).toInt ∧ (f_rd_values j).toInt ≤ 100000) (sz : Nat) : Met l yX5_split (.code yX5_split cX5_split 6 none :: zT) ({ frames := 1, cells := 0, slots := 0, locals := 22 }) (va_Pc [.ref rd, .int p1] (zB sa dC dI (zV224 rd rd_fault rd_place tx rd_kinds rd_starts rd_stops rd_values rd_tokens rd_at tn rd_strayCount rd_lawTold rd_falseTold rd_kinds cA_rd_kinds f_rd_kinds rd_starts cA_rd_starts f_rd_starts rd_stops cA_rd_stops f_rd_stops rd_values cA_rd_values f_rd_values tx cA_tx f_tx) [(cA_rd_kinds, .int), (cA_rd_starts, .int), (cA_rd_stops, .int), (cA_rd_values, .int), (cA_tx, .byte)] sz)) (va_Qv (fun _ : Unit => True) (fun _ t => ∃ (n_rd_7 : Int32) (n_rd_kinds : Nat → Int32) (n_rd_starts : Nat → Int32) (n_rd_stops : Nat → Int32) (n_rd_values : Nat → Int32), (0 ≤ n_rd_7.toInt ∧ n_rd_7.toInt ≤ 1600) ∧ (∀ j : Nat, 0 ≤ (n_rd_kinds j).toInt ∧ (n_rd_kinds j).toInt ≤ 5) ∧ (∀ j : Nat, 0 ≤ (n_rd_starts j).toInt ∧ (n_rd_starts j).toInt ≤ 1600) ∧ (∀ j : Nat, 0 ≤ (n_rd_stops j).toInt ∧ (n_rd_stops j).toInt ≤ 1600) ∧ (∀ j : Nat, 0 ≤ (n_rd_values j).toInt ∧ (n_rd_values j).toInt ≤ 100000) ∧ (n_rd_7 = (F_X5_split p1 f_rd_kinds f_rd_starts f_rd_stops f_rd_values f_tx).1) ∧ (n_rd_kinds = (F_X5_split p1 f_rd_kinds f_rd_starts f_rd_stops f_rd_values f_tx).2.1) ∧ (n_rd_starts = (F_X5_split p1 f_rd_kinds f_rd_starts f_rd_stops f_rd_values f_tx).2.2.1) ∧ (n_rd_stops = (F_X5_split p1 f_rd_kinds f_rd_starts f_rd_stops f_rd_values f_tx).2.2.2.1) ∧ (n_rd_values = (F_X5_split p1 f_rd_kinds f_rd_starts f_rd_stops f_rd_values f_tx).2.2.2.2) ∧ zW dC dI (zV224 rd rd_fault rd_place tx rd_kinds rd_starts rd_stops rd_values n_rd_7 rd_at tn rd_strayCount rd_lawTold rd_falseTold rd_kinds cA_rd_kinds n_rd_kinds rd_starts cA_rd_starts n_rd_starts rd_stops cA_rd_stops n_rd_stops rd_values cA_rd_values n_rd_values tx cA_tx f_tx) [] (va_A (zV224 rd rd_fault rd_place tx rd_kinds rd_starts rd_stops rd_values rd_tokens rd_at tn rd_strayCount rd_lawTold rd_falseTold rd_kinds cA_rd_kinds f_rd_kinds rd_starts cA_rd_starts f_rd_starts rd_stops cA_rd_stops f_rd_stops rd_values cA_rd_values f_rd_values tx cA_tx f_tx) sz) t) (va_A (zV224 rd rd_fault rd_place tx rd_kinds rd_starts rd_stops rd_values rd_tokens rd_at tn rd_strayCount rd_lawTold rd_falseTold rd_kinds cA_rd_kinds f_rd_kinds rd_starts cA_rd_starts f_rd_starts rd_stops cA_rd_stops f_rd_stops rd_values cA_rd_values f_rd_values tx cA_tx f_tx) sz)) 0 0 (va_A (zV224 rd rd_fault rd_place tx rd_kinds rd_starts rd_stops rd_values rd_tokens rd_at tn rd_strayCount rd_lawTold rd_falseTold rd_kinds cA_rd_kinds f_rd_kinds rd_starts cA_rd_starts f_rd_starts rd_stops cA_rd_stops f_rd_stops rd_values cA_rd_values f_rd_values tx cA_tx f_tx) sz) := by
  refine z_enter (by decide) (by exact (Nat.le_of_ble_eq_true rfl)) ?_
  intro p e s m args below meth c ls A R Qc hargs hsz hQe hAe hRe hx hb hml hr hts hown hlocks hin hl hP hK hD hN hXs hA hS
  rw [hAe] at hQe
  have hown : s.vm.findClass RX5 = some m.cls := hown
  have hl : lv_has ls 6 [(0, .ref rd), (1, .int p1)] := hl
  obtain ⟨RR, hRR⟩ : ∃ z : Int32 × (Nat → Int32) × (Nat → Int32) × (Nat → Int32) × (Nat → Int32), z = (F_X5_split p1 f_rd_kinds f_rd_starts f_rd_stops f_rd_values f_tx) := ⟨_, rfl⟩
  have hF : RR = (F_X5_split p1 f_rd_kinds f_rd_starts f_rd_stops f_rd_values f_tx) := hRR
  refine lv_aload_n hx hb dX5_split_0 rfl (lv_at hl 0 rfl) ?_
  refine lv_iconst (v := 0) hx hb dX5_split_1 (by decide) ?_
  refine va_put (D := (dC, dI)) (ci := 5) (v := .int 0) (ty := .int) (C := RX5) (T := TX5) (N := 13) hx hb hts zl_X5 tyX5 tyX5_ok nmX5 hown hK hP hD hS 0 rfl rfl 7 (by decide) (hts _ zw_t1_202) (fun _ h9 => h9) rfl (by decide +kernel) rfl rfl (Nat.le_of_ble_eq_true rfl) dX5_split_2 (fun H locs hP hD hS => ?_)
  have hP : va_P (dC, dI) vwCl [(rd, .inr (5, [.int rd_fault, .int rd_place, .ref tx, .ref rd_kinds, .ref rd_starts, .ref rd_stops, .ref rd_values, .int 0, .int rd_at, .ref tn, .int rd_strayCount, .int rd_lawTold, .int rd_falseTold])), (rd_kinds, .inl (cA_rd_kinds, 1601, .inl f_rd_kinds)), (rd_starts, .inl (cA_rd_starts, 1601, .inl f_rd_starts)), (rd_stops, .inl (cA_rd_stops, 1601, .inl f_rd_stops)), (rd_values, .inl (cA_rd_values, 1601, .inl f_rd_values)), (tx, .inl (cA_tx, 1600, .inl f_tx))] H := hP
  have hD : va_D A [(rd, .inr (5, [.int rd_fault, .int rd_place, .ref tx, .ref rd_kinds, .ref rd_starts, .ref rd_stops, .ref rd_values, .int 0, .int rd_at, .ref tn, .int rd_strayCount, .int rd_lawTold, .int rd_falseTold])), (rd_kinds, .inl (cA_rd_kinds, 1601, .inl f_rd_kinds)), (rd_starts, .inl (cA_rd_starts, 1601, .inl f_rd_starts)), (rd_stops, .inl (cA_rd_stops, 1601, .inl f_rd_stops)), (rd_values, .inl (cA_rd_values, 1601, .inl f_rd_values)), (tx, .inl (cA_tx, 1600, .inl f_tx))] := hD
  refine lv_iconst (v := 0) hx hb dX5_split_5 (by decide) ?_
  refine lv_istore_n (lv' := [(2, .int 0), (0, .ref rd), (1, .int p1)]) hx hb dX5_split_6 rfl hl (by decide) rfl (fun ls hl => ?_)
  refine lv_iconst (v := 0) hx hb dX5_split_7 (by decide) ?_
  refine lv_istore_n (lv' := [(3, .int 0), (2, .int 0), (0, .ref rd), (1, .int p1)]) hx hb dX5_split_8 rfl hl (by decide) rfl (fun ls hl => ?_)
  have loop_1 : ∀ (t_1 : Nat) (v2_1 : Int32) (v3_2 : Int32) (w_rd_7_4 : Int32) (g_rd_kinds_5 : Nat → Int32) (g_rd_starts_6 : Nat → Int32) (g_rd_stops_3 : Nat → Int32) (g_rd_values_7 : Nat → Int32) (b_v2_1 : 0 ≤ v2_1.toInt ∧ v2_1.toInt ≤ 4) (b_v3_2 : 0 ≤ v3_2.toInt ∧ v3_2.toInt ≤ 1600) (b_w_rd_7_4 : 0 ≤ w_rd_7_4.toInt ∧ w_rd_7_4.toInt ≤ 1600) (b_g_rd_kinds_5 : ∀ j : Nat, 0 ≤ (g_rd_kinds_5 j).toInt ∧ (g_rd_kinds_5 j).toInt ≤ 5) (b_g_rd_starts_6 : ∀ j : Nat, 0 ≤ (g_rd_starts_6 j).toInt ∧ (g_rd_starts_6 j).toInt ≤ 1600) (b_g_rd_stops_3 : ∀ j : Nat, 0 ≤ (g_rd_stops_3 j).toInt ∧ (g_rd_stops_3 j).toInt ≤ 1600) (b_g_rd_values_7 : ∀ j : Nat, 0 ≤ (g_rd_values_7 j).toInt ∧ (g_rd_values_7 j).toInt ≤ 100000) (ex_1 : w_rd_7_4.toInt ≤ v3_2.toInt ∧ (v2_1.toInt = 0 ∨ 1 ≤ w_rd_7_4.toInt)) (H : Heap) (locs : List Loc) (ls : Array Slot), 1600 - v3_2.toInt < (t_1 : Int) → RR = L_X5_split_1 p1 f_tx (K_X5_split_1_0 p1) t_1 v2_1 v3_2 w_rd_7_4 g_rd_kinds_5 g_rd_starts_6 g_rd_stops_3 g_rd_values_7 → va_P (dC, dI) vwCl (zV224 rd rd_fault rd_place tx rd_kinds rd_starts rd_stops rd_values w_rd_7_4 rd_at tn rd_strayCount rd_lawTold rd_falseTold rd_kinds cA_rd_kinds g_rd_kinds_5 rd_starts cA_rd_starts g_rd_starts_6 rd_stops cA_rd_stops g_rd_stops_3 rd_values cA_rd_values g_rd_values_7 tx cA_tx f_tx) H → va_D A (zV224 rd rd_fault rd_place tx rd_kinds rd_starts rd_stops rd_values w_rd_7_4 rd_at tn rd_strayCount rd_lawTold rd_falseTold rd_kinds cA_rd_kinds g_rd_kinds_5 rd_starts cA_rd_starts g_rd_starts_6 rd_stops cA_rd_stops g_rd_stops_3 rd_values cA_rd_values g_rd_values_7 tx cA_tx f_tx) → va_S A s.heap H locs → lv_has ls 6 [(0, .ref rd), (1, .int p1), (2, .int v2_1), (3, .int v3_2)] → W p l e R s m args below meth c H locs 0 0 (MQ below Qc args s 0 0 A) (F0 m 9 ls []) := by
    intro t_1
    induction t_1 with
    | zero => intro v2_1 v3_2 w_rd_7_4 g_rd_kinds_5 g_rd_starts_6 g_rd_stops_3 g_rd_values_7 b_v2_1 b_v3_2 b_w_rd_7_4 b_g_rd_kinds_5 b_g_rd_starts_6 b_g_rd_stops_3 b_g_rd_values_7 ex_1 H locs ls hmu _ _ _ _ _; exact absurd hmu (by first | with_reducible assumption | omega)
    | succ t_1 ih_1 =>
      intro v2_1 v3_2 w_rd_7_4 g_rd_kinds_5 g_rd_starts_6 g_rd_stops_3 g_rd_values_7 b_v2_1 b_v3_2 b_w_rd_7_4 b_g_rd_kinds_5 b_g_rd_starts_6 b_g_rd_stops_3 b_g_rd_values_7 ex_1 H locs ls hmu hF hP hD hS hl
      replace hF := hF.trans L_X5_split_1_s
      refine lv_iload_n hx hb dX5_split_9 rfl (lv_at hl 3 rfl) ?_
      refine lv_iload_n hx hb dX5_split_10 rfl (lv_at hl 1 rfl) ?_
      refine lv_icmp_ge (tgt := 141) hx hb dX5_split_11 (by decide) (fun c_8 => ?_) (fun c_8 => ?_)
      · have ic_8 := zz_ge rfl rfl c_8
        replace hF := hF.trans (if_pos c_8)
        refine lv_aload_n hx hb dX5_split_141 rfl (lv_at hl 0 rfl) ?_
        refine va_get (D := (dC, dI)) (ci := 5) (v := .ref rd_kinds) (C := RX5) (T := TX5) (N := 13) hx hb hts zl_X5 hown hK hP 0 rfl rfl 3 (by decide) (hts _ zw_t1_198) (fun _ h9 => h9) rfl dX5_split_142 ?_
        refine lv_aload_n hx hb dX5_split_145 rfl (lv_at hl 0 rfl) ?_
        refine va_get (D := (dC, dI)) (ci := 5) (v := .int w_rd_7_4) (C := RX5) (T := TX5) (N := 13) hx hb hts zl_X5 hown hK hP 0 rfl rfl 7 (by decide) (hts _ zw_t1_202) (fun _ h9 => h9) rfl dX5_split_146 ?_
        refine lv_iconst (v := 5) hx hb dX5_split_149 (by decide) ?_
        refine va_iast hx hb hK hP hD hS 1 0 rfl rfl (zi_in rfl (by first | with_reducible assumption | omega)) dX5_split_150 (fun H locs hP hD hS => ?_)
        obtain ⟨f_9, ef_9⟩ : ∃ g : Nat → Int32, g = upd g_rd_kinds_5 (Int32.toNatClampNeg w_rd_7_4) 5 := ⟨_, rfl⟩
        replace hF := hF.trans (zL_eq ef_9)
        have b_f_9 : ∀ j : Nat, 0 ≤ (f_9 j).toInt ∧ (f_9 j).toInt ≤ 5 := by rw [ef_9]; exact zi_upd b_g_rd_kinds_5 (show Int32.toInt 5 = 5 from by decide) (by first | with_reducible assumption | omega)
        have hP : va_P (dC, dI) vwCl (zV224 rd rd_fault rd_place tx rd_kinds rd_starts rd_stops rd_values w_rd_7_4 rd_at tn rd_strayCount rd_lawTold rd_falseTold rd_kinds cA_rd_kinds (upd g_rd_kinds_5 (Int32.toNatClampNeg w_rd_7_4) 5) rd_starts cA_rd_starts g_rd_starts_6 rd_stops cA_rd_stops g_rd_stops_3 rd_values cA_rd_values g_rd_values_7 tx cA_tx f_tx) H := hP
        have hD : va_D A (zV224 rd rd_fault rd_place tx rd_kinds rd_starts rd_stops rd_values w_rd_7_4 rd_at tn rd_strayCount rd_lawTold rd_falseTold rd_kinds cA_rd_kinds (upd g_rd_kinds_5 (Int32.toNatClampNeg w_rd_7_4) 5) rd_starts cA_rd_starts g_rd_starts_6 rd_stops cA_rd_stops g_rd_stops_3 rd_values cA_rd_values g_rd_values_7 tx cA_tx f_tx) := hD
        rw [← ef_9] at hP hD
        refine lv_aload_n hx hb dX5_split_151 rfl (lv_at hl 0 rfl) ?_
        refine va_get (D := (dC, dI)) (ci := 5) (v := .ref rd_starts) (C := RX5) (T := TX5) (N := 13) hx hb hts zl_X5 hown hK hP 0 rfl rfl 4 (by decide) (hts _ zw_t1_199) (fun _ h9 => h9) rfl dX5_split_152 ?_
        refine lv_aload_n hx hb dX5_split_155 rfl (lv_at hl 0 rfl) ?_
        refine va_get (D := (dC, dI)) (ci := 5) (v := .int w_rd_7_4) (C := RX5) (T := TX5) (N := 13) hx hb hts zl_X5 hown hK hP 0 rfl rfl 7 (by decide) (hts _ zw_t1_202) (fun _ h9 => h9) rfl dX5_split_156 ?_
        refine lv_iload_n hx hb dX5_split_159 rfl (lv_at hl 1 rfl) ?_
        refine va_iast hx hb hK hP hD hS 2 1 rfl rfl (zi_in rfl (by first | with_reducible assumption | omega)) dX5_split_160 (fun H locs hP hD hS => ?_)
        obtain ⟨f_10, ef_10⟩ : ∃ g : Nat → Int32, g = upd g_rd_starts_6 (Int32.toNatClampNeg w_rd_7_4) p1 := ⟨_, rfl⟩
        replace hF := hF.trans (zL_eq ef_10)
        have b_f_10 : ∀ j : Nat, 0 ≤ (f_10 j).toInt ∧ (f_10 j).toInt ≤ 1600 := by rw [ef_10]; exact zi_upd b_g_rd_starts_6 rfl (by first | with_reducible assumption | omega)
        have hP : va_P (dC, dI) vwCl (zV224 rd rd_fault rd_place tx rd_kinds rd_starts rd_stops rd_values w_rd_7_4 rd_at tn rd_strayCount rd_lawTold rd_falseTold rd_kinds cA_rd_kinds f_9 rd_starts cA_rd_starts (upd g_rd_starts_6 (Int32.toNatClampNeg w_rd_7_4) p1) rd_stops cA_rd_stops g_rd_stops_3 rd_values cA_rd_values g_rd_values_7 tx cA_tx f_tx) H := hP
        have hD : va_D A (zV224 rd rd_fault rd_place tx rd_kinds rd_starts rd_stops rd_values w_rd_7_4 rd_at tn rd_strayCount rd_lawTold rd_falseTold rd_kinds cA_rd_kinds f_9 rd_starts cA_rd_starts (upd g_rd_starts_6 (Int32.toNatClampNeg w_rd_7_4) p1) rd_stops cA_rd_stops g_rd_stops_3 rd_values cA_rd_values g_rd_values_7 tx cA_tx f_tx) := hD
        rw [← ef_10] at hP hD
        have hF : RR = (w_rd_7_4, f_9, f_10, g_rd_stops_3, g_rd_values_7) := hF
        exact W.vret hx hb hr (fun t ht hW => by rw [← hQe]; exact ⟨⟨(), rfl, trivial, ⟨w_rd_7_4, f_9, f_10, g_rd_stops_3, g_rd_values_7, (by first | with_reducible assumption | omega), b_f_9, b_f_10, b_g_rd_stops_3, b_g_rd_values_7, (by rw [← hRR, hF]), (by rw [← hRR, hF]), (by rw [← hRR, hF]), (by rw [← hRR, hF]), (by rw [← hRR, hF]), z_ret hP hK hD ht hW [0, 1, 2, 3, 4, 5] [] rfl (by decide) rfl⟩⟩, hS.F ht⟩) hS.2.2 dX5_split_161
      · have ic_8 := zz_nge rfl rfl c_8
        replace hF := hF.trans (if_neg c_8)
        refine lv_aload_n hx hb dX5_split_14 rfl (lv_at hl 0 rfl) ?_
        refine va_get (D := (dC, dI)) (ci := 5) (v := .ref tx) (C := RX5) (T := TX5) (N := 13) hx hb hts zl_X5 hown hK hP 0 rfl rfl 2 (by decide) (hts _ zw_t1_197) (fun _ h9 => h9) rfl dX5_split_15 ?_
        refine lv_iload_n hx hb dX5_split_18 rfl (lv_at hl 3 rfl) ?_
        refine va_bald hx hb hK hP 5 4 rfl rfl (zi_in rfl (by first | exact z_rin b_v3_2 (by decide) | omega)) dX5_split_19 ?_
        refine lv_topi (fun x_11 ex_11 => ?_)
        replace hF := hF.trans (zL_eq ex_11)
        obtain ⟨hPc, hDc, hFc⟩ := z_cut (wc := []) hP hD hS hA [] rfl (by decide +kernel)
        have hKc := hK.sub (tys' := []) [] rfl
        refine va_calli (va_runS (As := [.int x_11]) (rest := []) ⟨hx, hb, hml, hown, hts⟩ (kf_X5_kindOf l sa dC dI x_11 H.size) (va_cwS 1 hts (z_gS zw_t3_16 zw_t3_17 zw_t1_4 zw_t3_18) rfl rfl rfl (by decide +kernel) (by rw [← hRe]; exact ⟨(Nat.le_of_ble_eq_true rfl), (Nat.le_of_ble_eq_true rfl)⟩)) (z_preS hPc hKc hDc hN hXs hS hFc) rfl rfl hl.1 rfl (lv_room (Nat.le_of_ble_eq_true rfl)) dX5_split_20 (by rw [← hRe]; exact ⟨(Nat.le_of_ble_eq_true rfl), (Nat.le_of_ble_eq_true rfl)⟩)) hS (fun q _ h => hFc q h) hFc (fun r_12 u t H1 locs ht hvm hw hB hz1 hk1 hS => ?_)
        obtain ⟨hP, hD, hK⟩ := z_after3 (wn := (zV224 rd rd_fault rd_place tx rd_kinds rd_starts rd_stops rd_values w_rd_7_4 rd_at tn rd_strayCount rd_lawTold rd_falseTold rd_kinds cA_rd_kinds g_rd_kinds_5 rd_starts cA_rd_starts g_rd_starts_6 rd_stops cA_rd_stops g_rd_stops_3 rd_values cA_rd_values g_rd_values_7 tx cA_tx f_tx)) hB ht hvm hP hD hK [] [0, 1, 2, 3, 4, 5] rfl 6 rfl (by decide +kernel) rfl (by decide +kernel) hk1 hFc
        generalize H1 = H at hP hS ⊢
        have hK : va_K (dC, dI) vwCl [(cA_rd_kinds, .int), (cA_rd_starts, .int), (cA_rd_stops, .int), (cA_rd_values, .int), (cA_tx, .byte)] s := hK
        have b_r_12 : 0 ≤ r_12.toInt ∧ r_12.toInt ≤ 4 := hw.1
        have s_r_12 := hw.2.1
        have sf_r_12 := hw.2.2
        replace hF := hF.trans (zL_eq sf_r_12)
        refine lv_istore (lv' := [(4, .int r_12), (0, .ref rd), (1, .int p1), (2, .int v2_1), (3, .int v3_2)]) hx hb dX5_split_23 hl (by decide) rfl (fun ls hl => ?_)
        refine lv_iload hx hb dX5_split_25 (lv_at hl 0 rfl) ?_
        refine lv_iload_n hx hb dX5_split_27 rfl (lv_at hl 3 rfl) ?_
        refine lv_icmp_ne (tgt := 47) hx hb dX5_split_28 (by decide) (fun c_13 => ?_) (fun c_13 => ?_)
        · have ic_13 := zz_ne rfl rfl c_13
          replace hF := hF.trans (if_neg c_13)
          refine lv_iconst (v := 0) hx hb dX5_split_47 (by decide) ?_
          refine lv_istore (lv' := [(5, .int 0), (4, .int r_12), (0, .ref rd), (1, .int p1), (2, .int v2_1), (3, .int v3_2)]) hx hb dX5_split_48 hl (by decide) rfl (fun ls hl => ?_)
          refine lv_iload hx hb dX5_split_50 (lv_at hl 1 rfl) ?_
          refine lv_if_eq (tgt := 67) hx hb dX5_split_52 (by decide) (fun c_14 => ?_) (fun c_14 => ?_)
          · have ic_14 := zz_eq rfl (show Int32.toInt 0 = 0 from by decide) c_14
            replace hF := hF.trans (if_pos c_14)
            refine lv_iload hx hb dX5_split_67 (lv_at hl 1 rfl) ?_
            refine lv_if_eq (tgt := 86) hx hb dX5_split_69 (by decide) (fun c_15 => ?_) (fun q => absurd (zz_neq rfl (show Int32.toInt 0 = 0 from by decide) q) (by first | with_reducible assumption | omega))
            have ic_15 := zz_eq rfl (show Int32.toInt 0 = 0 from by decide) c_15
            refine lv_iload hx hb dX5_split_86 (lv_at hl 1 rfl) ?_
            refine lv_iconst (v := 2) hx hb dX5_split_88 (by decide) ?_
            refine lv_icmp_ne (tgt := 132) hx hb dX5_split_89 (by decide) (fun c_16 => ?_) (fun q => absurd (zz_nne rfl (show Int32.toInt 2 = 2 from by decide) q) (by first | with_reducible assumption | omega))
            have ic_16 := zz_ne rfl (show Int32.toInt 2 = 2 from by decide) c_16
            refine lv_iload hx hb dX5_split_132 (lv_at hl 1 rfl) ?_
            refine lv_istore_n (lv' := [(2, .int r_12), (5, .int 0), (4, .int r_12), (0, .ref rd), (1, .int p1), (3, .int v3_2)]) hx hb dX5_split_134 rfl hl (by decide) rfl (fun ls hl => ?_)
            obtain ⟨x_17, ex_17⟩ : ∃ z : Int32, z = v3_2 + Int32.ofInt 1 := ⟨_, rfl⟩
            have b_x_17 : x_17.toInt = v3_2.toInt + 1 := by rw [ex_17]; exact zi_add rfl (show (Int32.ofInt 1).toInt = 1 from by decide) (z_rac b_v3_2 (by decide))
            refine lv_iinc (v := x_17) (lv' := [(3, .int x_17), (2, .int r_12), (5, .int 0), (4, .int r_12), (0, .ref rd), (1, .int p1)]) hx hb dX5_split_135 hl (k := 5) rfl ex_17.symm (by decide) rfl (fun ls hl => ?_)
            replace hF := hF.trans (zL_eq ex_17)
            refine lv_goto (tgt := 9) hx hb dX5_split_138 (by decide) ?_
            exact ih_1 r_12 x_17 w_rd_7_4 g_rd_kinds_5 g_rd_starts_6 g_rd_stops_3 g_rd_values_7 (by first | with_reducible assumption | omega) (by first | with_reducible assumption | omega) (by first | with_reducible assumption | omega) b_g_rd_kinds_5 b_g_rd_starts_6 b_g_rd_stops_3 b_g_rd_values_7 (by first | assumption | decide | omega) _ _ _ (by first | with_reducible assumption | omega) hF (hP.sub (ws' := (zV224 rd rd_fault rd_place tx rd_kinds rd_starts rd_stops rd_values w_rd_7_4 rd_at tn rd_strayCount rd_lawTold rd_falseTold rd_kinds cA_rd_kinds g_rd_kinds_5 rd_starts cA_rd_starts g_rd_starts_6 rd_stops cA_rd_stops g_rd_stops_3 rd_values cA_rd_values g_rd_values_7 tx cA_tx f_tx)) [0, 1, 2, 3, 4, 5] rfl) (hD.sub (ws' := (zV224 rd rd_fault rd_place tx rd_kinds rd_starts rd_stops rd_values w_rd_7_4 rd_at tn rd_strayCount rd_lawTold rd_falseTold rd_kinds cA_rd_kinds g_rd_kinds_5 rd_starts cA_rd_starts g_rd_starts_6 rd_stops cA_rd_stops g_rd_stops_3 rd_values cA_rd_values g_rd_values_7 tx cA_tx f_tx)) [0, 1, 2, 3, 4, 5] (by decide) rfl) hS (lv_sub hl [4, 5, 1, 0] rfl)
          · have ic_14 := zz_neq rfl (show Int32.toInt 0 = 0 from by decide) c_14
            replace hF := hF.trans (if_neg c_14)
            refine lv_iload hx hb dX5_split_55 (lv_at hl 0 rfl) ?_
            refine lv_if_ne (tgt := 67) hx hb dX5_split_57 (by decide) (fun q => absurd q (by decide)) (fun _ => ?_)
            refine lv_aload_n hx hb dX5_split_60 rfl (lv_at hl 2 rfl) ?_
            refine lv_iload hx hb dX5_split_61 (lv_at hl 1 rfl) ?_
            refine lv_iload_n hx hb dX5_split_63 rfl (lv_at hl 5 rfl) ?_
            obtain ⟨hPc, hDc, hFc⟩ := z_cut (wc := (zV210 rd rd_fault rd_place tx rd_kinds rd_starts rd_stops rd_values w_rd_7_4 rd_at tn rd_strayCount rd_lawTold rd_falseTold rd_kinds cA_rd_kinds g_rd_kinds_5 rd_starts cA_rd_starts g_rd_starts_6 rd_values cA_rd_values g_rd_values_7)) hP hD hS hA [0, 1, 2, 4] rfl (by decide +kernel)
            have hKc := hK.sub (tys' := [(cA_rd_kinds, .int), (cA_rd_starts, .int), (cA_rd_values, .int)]) [0, 1, 3] rfl
            refine va_callv (va_runV (As := [.int r_12, .int v3_2]) (rest := []) ⟨hx, hb, hml, hown, hts⟩ (kf_X5_addToken l sa dC dI rd r_12 v3_2 rd_fault rd_place tx rd_kinds rd_starts rd_stops rd_values w_rd_7_4 rd_at tn rd_strayCount rd_lawTold rd_falseTold cA_rd_kinds g_rd_kinds_5 cA_rd_starts g_rd_starts_6 cA_rd_values g_rd_values_7 (by first | with_reducible assumption | omega) (by first | with_reducible assumption | omega) (by first | with_reducible assumption | omega) b_rd_at b_rd_strayCount b_rd_lawTold b_rd_falseTold b_g_rd_kinds_5 b_g_rd_starts_6 b_g_rd_values_7 H.size) (cwV 2 hts (z_gV zw_t3_19 zw_t3_21 zw_s1_2 zw_t1_4 zw_t3_22) rfl rfl rfl (by decide +kernel) (by rw [← hRe]; exact ⟨(Nat.le_of_ble_eq_true rfl), (Nat.le_of_ble_eq_true rfl)⟩)) (z_preV hPc hKc hDc hN hXs hS hFc (q := (RX5, TX5, 13)) (ci := 5) (q0 := 0) rfl rfl) rfl rfl hl.1 rfl (lv_room (Nat.le_of_ble_eq_true rfl)) dX5_split_64 (by rw [← hRe]; exact ⟨(Nat.le_of_ble_eq_true rfl), (Nat.le_of_ble_eq_true rfl)⟩)) hS (fun q _ h => hFc q h) hFc (fun u t H1 locs ht hvm hw hB hz1 hk1 hS => ?_)
            refine hB.elim fun n_rd_19 ze1 => ze1.elim fun n_rd_kinds_20 ze2 => ze2.elim fun n_rd_starts_21 ze3 => ze3.elim fun n_rd_values_22 ze4 => ze4.elim fun b_n_rd_19 ze5 => ze5.elim fun b_n_rd_kinds_20 ze6 => ze6.elim fun b_n_rd_starts_21 ze7 => ze7.elim fun b_n_rd_values_22 ze8 => ze8.elim fun hf_23 ze9 => ze9.elim fun hf_24 ze10 => ze10.elim fun hf_25 ze11 => ze11.elim fun hf_26 ze12 => ze12.elim fun hf_27 ze13 => ?_
            clear hB ze1 ze2 ze3 ze4 ze5 ze6 ze7 ze8 ze9 ze10 ze11 ze12
            have hB := ze13
            clear ze13
            obtain ⟨hP, hD, hK⟩ := z_after3 (wn := (zV225 rd_stops cA_rd_stops g_rd_stops_3 tx cA_tx f_tx rd rd_fault rd_place tx rd_kinds rd_starts rd_stops rd_values n_rd_19 rd_at tn rd_strayCount rd_lawTold rd_falseTold rd_kinds cA_rd_kinds n_rd_kinds_20 rd_starts cA_rd_starts n_rd_starts_21 rd_values cA_rd_values n_rd_values_22)) hB ht hvm hP hD hK [0, 1, 2, 4] [3, 5] rfl 6 rfl (by decide +kernel) rfl (by decide +kernel) hk1 hFc
            generalize H1 = H at hP hS ⊢
            have hK : va_K (dC, dI) vwCl [(cA_rd_kinds, .int), (cA_rd_starts, .int), (cA_rd_stops, .int), (cA_rd_values, .int), (cA_tx, .byte)] s := hK
            replace hF := hF.trans (zL_eq rfl)
            replace hF := hF.trans (zL_eq hf_24)
            replace hF := hF.trans (zL_eq hf_25)
            replace hF := hF.trans (zL_eq hf_26)
            replace hF := hF.trans (zL_eq hf_27)
            refine lv_iload hx hb dX5_split_67 (lv_at hl 1 rfl) ?_
            refine lv_if_eq (tgt := 86) hx hb dX5_split_69 (by decide) (fun q => absurd (zz_eq rfl (show Int32.toInt 0 = 0 from by decide) q) (by first | with_reducible assumption | omega)) (fun c_29 => ?_)
            have ic_29 := zz_neq rfl (show Int32.toInt 0 = 0 from by decide) c_29
            refine lv_aload_n hx hb dX5_split_72 rfl (lv_at hl 2 rfl) ?_
            refine va_get (D := (dC, dI)) (ci := 5) (v := .ref rd_stops) (C := RX5) (T := TX5) (N := 13) hx hb hts zl_X5 hown hK hP 2 rfl rfl 5 (by decide) (hts _ zw_t1_200) (fun _ h9 => h9) rfl dX5_split_73 ?_
            refine lv_aload_n hx hb dX5_split_76 rfl (lv_at hl 2 rfl) ?_
            refine va_get (D := (dC, dI)) (ci := 5) (v := .int n_rd_19) (C := RX5) (T := TX5) (N := 13) hx hb hts zl_X5 hown hK hP 2 rfl rfl 7 (by decide) (hts _ zw_t1_202) (fun _ h9 => h9) rfl dX5_split_77 ?_
            refine lv_iconst (v := 1) hx hb dX5_split_80 (by decide) ?_
            refine lv_isub hx hb dX5_split_81 ?_
            refine lv_topi (fun x_30 ex_30 => ?_)
            replace hF := hF.trans (zL_eq ex_30)
            have b_x_30 : x_30.toInt = n_rd_19.toInt - 1 := by rw [ex_30]; exact zi_sub rfl (show Int32.toInt 1 = 1 from by decide) (by first | with_reducible assumption | omega)
            refine lv_iload_n hx hb dX5_split_82 rfl (lv_at hl 5 rfl) ?_
            refine lv_iconst (v := 1) hx hb dX5_split_83 (by decide) ?_
            refine lv_iadd hx hb dX5_split_84 ?_
            refine lv_topi (fun x_31 ex_31 => ?_)
            replace hF := hF.trans (zL_eq ex_31)
            have b_x_31 : x_31.toInt = v3_2.toInt + 1 := by rw [ex_31]; exact zi_add rfl (show Int32.toInt 1 = 1 from by decide) (z_rac b_v3_2 (by decide))
            refine va_iast hx hb hK hP hD hS 0 2 rfl rfl (zi_in rfl (by first | with_reducible assumption | omega)) dX5_split_85 (fun H locs hP hD hS => ?_)
            obtain ⟨f_32, ef_32⟩ : ∃ g : Nat → Int32, g = upd g_rd_stops_3 (Int32.toNatClampNeg x_30) x_31 := ⟨_, rfl⟩
            replace hF := hF.trans (zL_eq ef_32)
            have b_f_32 : ∀ j : Nat, 0 ≤ (f_32 j).toInt ∧ (f_32 j).toInt ≤ 1600 := by rw [ef_32]; exact zi_upd b_g_rd_stops_3 rfl (by first | with_reducible assumption | omega)
            have hP : va_P (dC, dI) vwCl (zV225 rd_stops cA_rd_stops (upd g_rd_stops_3 (Int32.toNatClampNeg x_30) x_31) tx cA_tx f_tx rd rd_fault rd_place tx rd_kinds rd_starts rd_stops rd_values n_rd_19 rd_at tn rd_strayCount rd_lawTold rd_falseTold rd_kinds cA_rd_kinds n_rd_kinds_20 rd_starts cA_rd_starts n_rd_starts_21 rd_values cA_rd_values n_rd_values_22) H := hP
            have hD : va_D A (zV225 rd_stops cA_rd_stops (upd g_rd_stops_3 (Int32.toNatClampNeg x_30) x_31) tx cA_tx f_tx rd rd_fault rd_place tx rd_kinds rd_starts rd_stops rd_values n_rd_19 rd_at tn rd_strayCount rd_lawTold rd_falseTold rd_kinds cA_rd_kinds n_rd_kinds_20 rd_starts cA_rd_starts n_rd_starts_21 rd_values cA_rd_values n_rd_values_22) := hD
            rw [← ef_32] at hP hD
            refine lv_iload hx hb dX5_split_86 (lv_at hl 1 rfl) ?_
            refine lv_iconst (v := 2) hx hb dX5_split_88 (by decide) ?_
            refine lv_icmp_ne (tgt := 132) hx hb dX5_split_89 (by decide) (fun c_33 => ?_) (fun c_33 => ?_)
            · have ic_33 := zz_ne rfl (show Int32.toInt 2 = 2 from by decide) c_33
              replace hF := hF.trans (if_neg c_33)
              refine lv_iload hx hb dX5_split_132 (lv_at hl 1 rfl) ?_
              refine lv_istore_n (lv' := [(2, .int r_12), (5, .int 0), (4, .int r_12), (0, .ref rd), (1, .int p1), (3, .int v3_2)]) hx hb dX5_split_134 rfl hl (by decide) rfl (fun ls hl => ?_)
              obtain ⟨x_34, ex_34⟩ : ∃ z : Int32, z = v3_2 + Int32.ofInt 1 := ⟨_, rfl⟩
              have b_x_34 : x_34.toInt = v3_2.toInt + 1 := by rw [ex_34]; exact zi_add rfl (show (Int32.ofInt 1).toInt = 1 from by decide) (z_rac b_v3_2 (by decide))
              refine lv_iinc (v := x_34) (lv' := [(3, .int x_34), (2, .int r_12), (5, .int 0), (4, .int r_12), (0, .ref rd), (1, .int p1)]) hx hb dX5_split_135 hl (k := 5) rfl ex_34.symm (by decide) rfl (fun ls hl => ?_)
              replace hF := hF.trans (zL_eq ex_34)
              refine lv_goto (tgt := 9) hx hb dX5_split_138 (by decide) ?_
              exact ih_1 r_12 x_34 n_rd_19 n_rd_kinds_20 n_rd_starts_21 f_32 n_rd_values_22 (by first | with_reducible assumption | omega) (by first | with_reducible assumption | omega) (by first | with_reducible assumption | omega) b_n_rd_kinds_20 b_n_rd_starts_21 b_f_32 b_n_rd_values_22 (by first | assumption | decide | omega) _ _ _ (by first | with_reducible assumption | omega) hF (hP.sub (ws' := (zV224 rd rd_fault rd_place tx rd_kinds rd_starts rd_stops rd_values n_rd_19 rd_at tn rd_strayCount rd_lawTold rd_falseTold rd_kinds cA_rd_kinds n_rd_kinds_20 rd_starts cA_rd_starts n_rd_starts_21 rd_stops cA_rd_stops f_32 rd_values cA_rd_values n_rd_values_22 tx cA_tx f_tx)) [2, 3, 4, 0, 5, 1] rfl) (hD.sub (ws' := (zV224 rd rd_fault rd_place tx rd_kinds rd_starts rd_stops rd_values n_rd_19 rd_at tn rd_strayCount rd_lawTold rd_falseTold rd_kinds cA_rd_kinds n_rd_kinds_20 rd_starts cA_rd_starts n_rd_starts_21 rd_stops cA_rd_stops f_32 rd_values cA_rd_values n_rd_values_22 tx cA_tx f_tx)) [2, 3, 4, 0, 5, 1] (by decide) rfl) hS (lv_sub hl [4, 5, 1, 0] rfl)
            · have ic_33 := zz_nne rfl (show Int32.toInt 2 = 2 from by decide) c_33
              replace hF := hF.trans (if_pos c_33)
              refine lv_aload_n hx hb dX5_split_92 rfl (lv_at hl 2 rfl) ?_
              refine va_get (D := (dC, dI)) (ci := 5) (v := .ref rd_values) (C := RX5) (T := TX5) (N := 13) hx hb hts zl_X5 hown hK hP 2 rfl rfl 6 (by decide) (hts _ zw_t1_201) (fun _ h9 => h9) rfl dX5_split_93 ?_
              refine lv_aload_n hx hb dX5_split_96 rfl (lv_at hl 2 rfl) ?_
              refine va_get (D := (dC, dI)) (ci := 5) (v := .int n_rd_19) (C := RX5) (T := TX5) (N := 13) hx hb hts zl_X5 hown hK hP 2 rfl rfl 7 (by decide) (hts _ zw_t1_202) (fun _ h9 => h9) rfl dX5_split_97 ?_
              refine lv_iconst (v := 1) hx hb dX5_split_100 (by decide) ?_
              refine lv_isub hx hb dX5_split_101 ?_
              refine lv_topi (fun x_35 ex_35 => ?_)
              replace hF := hF.trans (zL_eq ex_35)
              have b_x_35 : x_35.toInt = n_rd_19.toInt - 1 := by rw [ex_35]; exact zi_sub rfl (show Int32.toInt 1 = 1 from by decide) (by first | with_reducible assumption | omega)
              refine lv_aload_n hx hb dX5_split_102 rfl (lv_at hl 2 rfl) ?_
              refine va_get (D := (dC, dI)) (ci := 5) (v := .ref rd_values) (C := RX5) (T := TX5) (N := 13) hx hb hts zl_X5 hown hK hP 2 rfl rfl 6 (by decide) (hts _ zw_t1_201) (fun _ h9 => h9) rfl dX5_split_103 ?_
              refine lv_aload_n hx hb dX5_split_106 rfl (lv_at hl 2 rfl) ?_
              refine va_get (D := (dC, dI)) (ci := 5) (v := .int n_rd_19) (C := RX5) (T := TX5) (N := 13) hx hb hts zl_X5 hown hK hP 2 rfl rfl 7 (by decide) (hts _ zw_t1_202) (fun _ h9 => h9) rfl dX5_split_107 ?_
              refine lv_iconst (v := 1) hx hb dX5_split_110 (by decide) ?_
              refine lv_isub hx hb dX5_split_111 ?_
              refine lv_topi (fun x_36 ex_36 => ?_)
              replace hF := hF.trans (zL_eq ex_36)
              have b_x_36 : x_36.toInt = n_rd_19.toInt - 1 := by rw [ex_36]; exact zi_sub rfl (show Int32.toInt 1 = 1 from by decide) (by first | with_reducible assumption | omega)
              refine va_iald hx hb hK hP 5 3 rfl rfl (zi_in rfl (by first | with_reducible assumption | omega)) dX5_split_112 ?_
              refine lv_topi (fun x_37 ex_37 => ?_)
              replace hF := hF.trans (zL_eq ex_37)
              have b_x_37 : 0 ≤ x_37.toInt ∧ x_37.toInt ≤ 100000 := by rw [ex_37]; exact b_n_rd_values_22 _
              refine lv_bipush (v := 10) hx hb dX5_split_113 (by decide) ?_
              refine lv_imul hx hb dX5_split_115 ?_
              refine lv_topi (fun x_38 ex_38 => ?_)
              replace hF := hF.trans (zL_eq ex_38)
              have b_x_38 : x_38.toInt = x_37.toInt * 10 := by rw [ex_38]; exact zi_mul rfl (show Int32.toInt 10 = 10 from by decide) (z_rcm b_x_37 (by decide))
              refine lv_aload_n hx hb dX5_split_116 rfl (lv_at hl 2 rfl) ?_
              refine va_get (D := (dC, dI)) (ci := 5) (v := .ref tx) (C := RX5) (T := TX5) (N := 13) hx hb hts zl_X5 hown hK hP 2 rfl rfl 2 (by decide) (hts _ zw_t1_197) (fun _ h9 => h9) rfl dX5_split_117 ?_
              refine lv_iload_n hx hb dX5_split_120 rfl (lv_at hl 5 rfl) ?_
              refine va_bald hx hb hK hP 1 4 rfl rfl (zi_in rfl (by first | exact z_rin b_v3_2 (by decide) | omega)) dX5_split_121 ?_
              refine lv_topi (fun x_39 ex_39 => ?_)
              replace hF := hF.trans (zL_eq ex_39)
              obtain rfl : x_11 = x_39 := ex_11.trans ex_39.symm
              refine lv_iadd hx hb dX5_split_122 ?_
              refine lv_topi (fun x_40 ex_40 => ?_)
              replace hF := hF.trans (zL_eq ex_40)
              have b_x_40 : x_40.toInt = x_38.toInt + x_11.toInt := by rw [ex_40]; exact zi_add rfl rfl (by first | with_reducible assumption | omega)
              refine lv_bipush (v := 48) hx hb dX5_split_123 (by decide) ?_
              refine lv_isub hx hb dX5_split_125 ?_
              refine lv_topi (fun x_41 ex_41 => ?_)
              replace hF := hF.trans (zL_eq ex_41)
              have b_x_41 : x_41.toInt = x_40.toInt - 48 := by rw [ex_41]; exact zi_sub rfl (show Int32.toInt 48 = 48 from by decide) (by first | with_reducible assumption | omega)
              refine lv_ldc (v := 100000) hx hb hown (hts _ zw_t3_23) dX5_split_126 ?_
              refine va_mmin hx hb (by rw [hml]; exact hl.1.symm) hown (hts _ zw_t3_9) (hts _ zw_t3_10) (hts _ zw_t1_12) (hts _ zw_t3_11) (by rw [← hRe]; exact (Nat.le_of_ble_eq_true rfl)) (by rw [← hRe]; exact (Nat.le_of_ble_eq_true rfl)) (Nat.zero_le _) (Nat.zero_le _) dX5_split_128 ?_
              refine lv_topi (fun x_42 ex_42 => ?_)
              replace hF := hF.trans (zL_eq ex_42)
              have b_x_42 : x_42.toInt = min (x_41.toInt) 100000 := by rw [ex_42]; exact zi_min rfl (show Int32.toInt 100000 = 100000 from by decide)
              refine va_iast hx hb hK hP hD hS 5 3 rfl rfl (zi_in rfl (by first | with_reducible assumption | omega)) dX5_split_131 (fun H locs hP hD hS => ?_)
              obtain ⟨f_43, ef_43⟩ : ∃ g : Nat → Int32, g = upd n_rd_values_22 (Int32.toNatClampNeg x_35) x_42 := ⟨_, rfl⟩
              replace hF := hF.trans (zL_eq ef_43)
              have b_f_43 : ∀ j : Nat, 0 ≤ (f_43 j).toInt ∧ (f_43 j).toInt ≤ 100000 := by rw [ef_43]; exact zi_upd b_n_rd_values_22 rfl (by first | with_reducible assumption | omega)
              have hP : va_P (dC, dI) vwCl (zV225 rd_stops cA_rd_stops f_32 tx cA_tx f_tx rd rd_fault rd_place tx rd_kinds rd_starts rd_stops rd_values n_rd_19 rd_at tn rd_strayCount rd_lawTold rd_falseTold rd_kinds cA_rd_kinds n_rd_kinds_20 rd_starts cA_rd_starts n_rd_starts_21 rd_values cA_rd_values (upd n_rd_values_22 (Int32.toNatClampNeg x_35) x_42)) H := hP
              have hD : va_D A (zV225 rd_stops cA_rd_stops f_32 tx cA_tx f_tx rd rd_fault rd_place tx rd_kinds rd_starts rd_stops rd_values n_rd_19 rd_at tn rd_strayCount rd_lawTold rd_falseTold rd_kinds cA_rd_kinds n_rd_kinds_20 rd_starts cA_rd_starts n_rd_starts_21 rd_values cA_rd_values (upd n_rd_values_22 (Int32.toNatClampNeg x_35) x_42)) := hD
              rw [← ef_43] at hP hD
              refine lv_iload hx hb dX5_split_132 (lv_at hl 1 rfl) ?_
              refine lv_istore_n (lv' := [(2, .int r_12), (5, .int 0), (4, .int r_12), (0, .ref rd), (1, .int p1), (3, .int v3_2)]) hx hb dX5_split_134 rfl hl (by decide) rfl (fun ls hl => ?_)
              obtain ⟨x_44, ex_44⟩ : ∃ z : Int32, z = v3_2 + Int32.ofInt 1 := ⟨_, rfl⟩
              have b_x_44 : x_44.toInt = v3_2.toInt + 1 := by rw [ex_44]; exact zi_add rfl (show (Int32.ofInt 1).toInt = 1 from by decide) (z_rac b_v3_2 (by decide))
              refine lv_iinc (v := x_44) (lv' := [(3, .int x_44), (2, .int r_12), (5, .int 0), (4, .int r_12), (0, .ref rd), (1, .int p1)]) hx hb dX5_split_135 hl (k := 5) rfl ex_44.symm (by decide) rfl (fun ls hl => ?_)
              replace hF := hF.trans (zL_eq ex_44)
              refine lv_goto (tgt := 9) hx hb dX5_split_138 (by decide) ?_
              exact ih_1 r_12 x_44 n_rd_19 n_rd_kinds_20 n_rd_starts_21 f_32 f_43 (by first | with_reducible assumption | omega) (by first | with_reducible assumption | omega) (by first | with_reducible assumption | omega) b_n_rd_kinds_20 b_n_rd_starts_21 b_f_32 b_f_43 (by first | assumption | decide | omega) _ _ _ (by first | with_reducible assumption | omega) hF (hP.sub (ws' := (zV224 rd rd_fault rd_place tx rd_kinds rd_starts rd_stops rd_values n_rd_19 rd_at tn rd_strayCount rd_lawTold rd_falseTold rd_kinds cA_rd_kinds n_rd_kinds_20 rd_starts cA_rd_starts n_rd_starts_21 rd_stops cA_rd_stops f_32 rd_values cA_rd_values f_43 tx cA_tx f_tx)) [2, 3, 4, 0, 5, 1] rfl) (hD.sub (ws' := (zV224 rd rd_fault rd_place tx rd_kinds rd_starts rd_stops rd_values n_rd_19 rd_at tn rd_strayCount rd_lawTold rd_falseTold rd_kinds cA_rd_kinds n_rd_kinds_20 rd_starts cA_rd_starts n_rd_starts_21 rd_stops cA_rd_stops f_32 rd_values cA_rd_values f_43 tx cA_tx f_tx)) [2, 3, 4, 0, 5, 1] (by decide) rfl) hS (lv_sub hl [4, 5, 1, 0] rfl)
        · have ic_13 := zz_nne rfl rfl c_13
          replace hF := hF.trans (if_pos c_13)
          refine lv_iload hx hb dX5_split_31 (lv_at hl 0 rfl) ?_
          refine lv_iconst (v := 1) hx hb dX5_split_33 (by decide) ?_
          refine lv_icmp_eq (tgt := 43) hx hb dX5_split_34 (by decide) (fun c_45 => ?_) (fun c_45 => ?_)
          · have ic_45 := zz_eq rfl (show Int32.toInt 1 = 1 from by decide) c_45
            replace hF := hF.trans (if_pos c_45)
            refine lv_iconst (v := 1) hx hb dX5_split_43 (by decide) ?_
            refine lv_goto (tgt := 48) hx hb dX5_split_44 (by decide) ?_
            refine lv_istore (lv' := [(5, .int 1), (4, .int r_12), (0, .ref rd), (1, .int p1), (2, .int v2_1), (3, .int v3_2)]) hx hb dX5_split_48 hl (by decide) rfl (fun ls hl => ?_)
            refine lv_iload hx hb dX5_split_50 (lv_at hl 1 rfl) ?_
            refine lv_if_eq (tgt := 67) hx hb dX5_split_52 (by decide) (fun q => absurd (zz_eq rfl (show Int32.toInt 0 = 0 from by decide) q) (by first | with_reducible assumption | omega)) (fun c_46 => ?_)
            have ic_46 := zz_neq rfl (show Int32.toInt 0 = 0 from by decide) c_46
            refine lv_iload hx hb dX5_split_55 (lv_at hl 0 rfl) ?_
            refine lv_if_ne (tgt := 67) hx hb dX5_split_57 (by decide) (fun _ => ?_) (fun q => absurd q (by decide))
            refine lv_iload hx hb dX5_split_67 (lv_at hl 1 rfl) ?_
            refine lv_if_eq (tgt := 86) hx hb dX5_split_69 (by decide) (fun q => absurd (zz_eq rfl (show Int32.toInt 0 = 0 from by decide) q) (by first | with_reducible assumption | omega)) (fun c_47 => ?_)
            have ic_47 := zz_neq rfl (show Int32.toInt 0 = 0 from by decide) c_47
            refine lv_aload_n hx hb dX5_split_72 rfl (lv_at hl 2 rfl) ?_
            refine va_get (D := (dC, dI)) (ci := 5) (v := .ref rd_stops) (C := RX5) (T := TX5) (N := 13) hx hb hts zl_X5 hown hK hP 0 rfl rfl 5 (by decide) (hts _ zw_t1_200) (fun _ h9 => h9) rfl dX5_split_73 ?_
            refine lv_aload_n hx hb dX5_split_76 rfl (lv_at hl 2 rfl) ?_
            refine va_get (D := (dC, dI)) (ci := 5) (v := .int w_rd_7_4) (C := RX5) (T := TX5) (N := 13) hx hb hts zl_X5 hown hK hP 0 rfl rfl 7 (by decide) (hts _ zw_t1_202) (fun _ h9 => h9) rfl dX5_split_77 ?_
            refine lv_iconst (v := 1) hx hb dX5_split_80 (by decide) ?_
            refine lv_isub hx hb dX5_split_81 ?_
            refine lv_topi (fun x_48 ex_48 => ?_)
            replace hF := hF.trans (zL_eq ex_48)
            have b_x_48 : x_48.toInt = w_rd_7_4.toInt - 1 := by rw [ex_48]; exact zi_sub rfl (show Int32.toInt 1 = 1 from by decide) (z_rsc b_w_rd_7_4 (by decide))
            refine lv_iload_n hx hb dX5_split_82 rfl (lv_at hl 5 rfl) ?_
            refine lv_iconst (v := 1) hx hb dX5_split_83 (by decide) ?_
            refine lv_iadd hx hb dX5_split_84 ?_
            refine lv_topi (fun x_49 ex_49 => ?_)
            replace hF := hF.trans (zL_eq ex_49)
            have b_x_49 : x_49.toInt = v3_2.toInt + 1 := by rw [ex_49]; exact zi_add rfl (show Int32.toInt 1 = 1 from by decide) (z_rac b_v3_2 (by decide))
            refine va_iast hx hb hK hP hD hS 3 2 rfl rfl (zi_in rfl (by first | with_reducible assumption | omega)) dX5_split_85 (fun H locs hP hD hS => ?_)
            obtain ⟨f_50, ef_50⟩ : ∃ g : Nat → Int32, g = upd g_rd_stops_3 (Int32.toNatClampNeg x_48) x_49 := ⟨_, rfl⟩
            replace hF := hF.trans (zL_eq ef_50)
            have b_f_50 : ∀ j : Nat, 0 ≤ (f_50 j).toInt ∧ (f_50 j).toInt ≤ 1600 := by rw [ef_50]; exact zi_upd b_g_rd_stops_3 rfl (by first | with_reducible assumption | omega)
            have hP : va_P (dC, dI) vwCl (zV224 rd rd_fault rd_place tx rd_kinds rd_starts rd_stops rd_values w_rd_7_4 rd_at tn rd_strayCount rd_lawTold rd_falseTold rd_kinds cA_rd_kinds g_rd_kinds_5 rd_starts cA_rd_starts g_rd_starts_6 rd_stops cA_rd_stops (upd g_rd_stops_3 (Int32.toNatClampNeg x_48) x_49) rd_values cA_rd_values g_rd_values_7 tx cA_tx f_tx) H := hP
            have hD : va_D A (zV224 rd rd_fault rd_place tx rd_kinds rd_starts rd_stops rd_values w_rd_7_4 rd_at tn rd_strayCount rd_lawTold rd_falseTold rd_kinds cA_rd_kinds g_rd_kinds_5 rd_starts cA_rd_starts g_rd_starts_6 rd_stops cA_rd_stops (upd g_rd_stops_3 (Int32.toNatClampNeg x_48) x_49) rd_values cA_rd_values g_rd_values_7 tx cA_tx f_tx) := hD
            rw [← ef_50] at hP hD
            refine lv_iload hx hb dX5_split_86 (lv_at hl 1 rfl) ?_
            refine lv_iconst (v := 2) hx hb dX5_split_88 (by decide) ?_
            refine lv_icmp_ne (tgt := 132) hx hb dX5_split_89 (by decide) (fun c_51 => ?_) (fun q => absurd (zz_nne rfl (show Int32.toInt 2 = 2 from by decide) q) (by first | with_reducible assumption | omega))
            have ic_51 := zz_ne rfl (show Int32.toInt 2 = 2 from by decide) c_51
            refine lv_iload hx hb dX5_split_132 (lv_at hl 1 rfl) ?_
            refine lv_istore_n (lv' := [(2, .int r_12), (5, .int 1), (4, .int r_12), (0, .ref rd), (1, .int p1), (3, .int v3_2)]) hx hb dX5_split_134 rfl hl (by decide) rfl (fun ls hl => ?_)
            obtain ⟨x_52, ex_52⟩ : ∃ z : Int32, z = v3_2 + Int32.ofInt 1 := ⟨_, rfl⟩
            have b_x_52 : x_52.toInt = v3_2.toInt + 1 := by rw [ex_52]; exact zi_add rfl (show (Int32.ofInt 1).toInt = 1 from by decide) (z_rac b_v3_2 (by decide))
            refine lv_iinc (v := x_52) (lv' := [(3, .int x_52), (2, .int r_12), (5, .int 1), (4, .int r_12), (0, .ref rd), (1, .int p1)]) hx hb dX5_split_135 hl (k := 5) rfl ex_52.symm (by decide) rfl (fun ls hl => ?_)
            replace hF := hF.trans (zL_eq ex_52)
            refine lv_goto (tgt := 9) hx hb dX5_split_138 (by decide) ?_
            exact ih_1 r_12 x_52 w_rd_7_4 g_rd_kinds_5 g_rd_starts_6 f_50 g_rd_values_7 (by first | with_reducible assumption | omega) (by first | with_reducible assumption | omega) (by first | with_reducible assumption | omega) b_g_rd_kinds_5 b_g_rd_starts_6 b_f_50 b_g_rd_values_7 (by first | assumption | decide | omega) _ _ _ (by first | with_reducible assumption | omega) hF (hP.sub (ws' := (zV224 rd rd_fault rd_place tx rd_kinds rd_starts rd_stops rd_values w_rd_7_4 rd_at tn rd_strayCount rd_lawTold rd_falseTold rd_kinds cA_rd_kinds g_rd_kinds_5 rd_starts cA_rd_starts g_rd_starts_6 rd_stops cA_rd_stops f_50 rd_values cA_rd_values g_rd_values_7 tx cA_tx f_tx)) [0, 1, 2, 3, 4, 5] rfl) (hD.sub (ws' := (zV224 rd rd_fault rd_place tx rd_kinds rd_starts rd_stops rd_values w_rd_7_4 rd_at tn rd_strayCount rd_lawTold rd_falseTold rd_kinds cA_rd_kinds g_rd_kinds_5 rd_starts cA_rd_starts g_rd_starts_6 rd_stops cA_rd_stops f_50 rd_values cA_rd_values g_rd_values_7 tx cA_tx f_tx)) [0, 1, 2, 3, 4, 5] (by decide) rfl) hS (lv_sub hl [4, 5, 1, 0] rfl)
          · have ic_45 := zz_neq rfl (show Int32.toInt 1 = 1 from by decide) c_45
            replace hF := hF.trans (if_neg c_45)
            refine lv_iload hx hb dX5_split_37 (lv_at hl 0 rfl) ?_
            refine lv_iconst (v := 2) hx hb dX5_split_39 (by decide) ?_
            refine lv_icmp_ne (tgt := 47) hx hb dX5_split_40 (by decide) (fun c_53 => ?_) (fun c_53 => ?_)
            · have ic_53 := zz_ne rfl (show Int32.toInt 2 = 2 from by decide) c_53
              replace hF := hF.trans (if_neg c_53)
              refine lv_iconst (v := 0) hx hb dX5_split_47 (by decide) ?_
              refine lv_istore (lv' := [(5, .int 0), (4, .int r_12), (0, .ref rd), (1, .int p1), (2, .int v2_1), (3, .int v3_2)]) hx hb dX5_split_48 hl (by decide) rfl (fun ls hl => ?_)
              refine lv_iload hx hb dX5_split_50 (lv_at hl 1 rfl) ?_
              refine lv_if_eq (tgt := 67) hx hb dX5_split_52 (by decide) (fun c_54 => ?_) (fun c_54 => ?_)
              · have ic_54 := zz_eq rfl (show Int32.toInt 0 = 0 from by decide) c_54
                replace hF := hF.trans (if_pos c_54)
                refine lv_iload hx hb dX5_split_67 (lv_at hl 1 rfl) ?_
                refine lv_if_eq (tgt := 86) hx hb dX5_split_69 (by decide) (fun c_55 => ?_) (fun q => absurd (zz_neq rfl (show Int32.toInt 0 = 0 from by decide) q) (by first | with_reducible assumption | omega))
                have ic_55 := zz_eq rfl (show Int32.toInt 0 = 0 from by decide) c_55
                refine lv_iload hx hb dX5_split_86 (lv_at hl 1 rfl) ?_
                refine lv_iconst (v := 2) hx hb dX5_split_88 (by decide) ?_
                refine lv_icmp_ne (tgt := 132) hx hb dX5_split_89 (by decide) (fun c_56 => ?_) (fun q => absurd (zz_nne rfl (show Int32.toInt 2 = 2 from by decide) q) (by first | with_reducible assumption | omega))
                have ic_56 := zz_ne rfl (show Int32.toInt 2 = 2 from by decide) c_56
                refine lv_iload hx hb dX5_split_132 (lv_at hl 1 rfl) ?_
                refine lv_istore_n (lv' := [(2, .int r_12), (5, .int 0), (4, .int r_12), (0, .ref rd), (1, .int p1), (3, .int v3_2)]) hx hb dX5_split_134 rfl hl (by decide) rfl (fun ls hl => ?_)
                obtain ⟨x_57, ex_57⟩ : ∃ z : Int32, z = v3_2 + Int32.ofInt 1 := ⟨_, rfl⟩
                have b_x_57 : x_57.toInt = v3_2.toInt + 1 := by rw [ex_57]; exact zi_add rfl (show (Int32.ofInt 1).toInt = 1 from by decide) (z_rac b_v3_2 (by decide))
                refine lv_iinc (v := x_57) (lv' := [(3, .int x_57), (2, .int r_12), (5, .int 0), (4, .int r_12), (0, .ref rd), (1, .int p1)]) hx hb dX5_split_135 hl (k := 5) rfl ex_57.symm (by decide) rfl (fun ls hl => ?_)
                replace hF := hF.trans (zL_eq ex_57)
                refine lv_goto (tgt := 9) hx hb dX5_split_138 (by decide) ?_
                exact ih_1 r_12 x_57 w_rd_7_4 g_rd_kinds_5 g_rd_starts_6 g_rd_stops_3 g_rd_values_7 (by first | with_reducible assumption | omega) (by first | with_reducible assumption | omega) (by first | with_reducible assumption | omega) b_g_rd_kinds_5 b_g_rd_starts_6 b_g_rd_stops_3 b_g_rd_values_7 (by first | assumption | decide | omega) _ _ _ (by first | with_reducible assumption | omega) hF (hP.sub (ws' := (zV224 rd rd_fault rd_place tx rd_kinds rd_starts rd_stops rd_values w_rd_7_4 rd_at tn rd_strayCount rd_lawTold rd_falseTold rd_kinds cA_rd_kinds g_rd_kinds_5 rd_starts cA_rd_starts g_rd_starts_6 rd_stops cA_rd_stops g_rd_stops_3 rd_values cA_rd_values g_rd_values_7 tx cA_tx f_tx)) [0, 1, 2, 3, 4, 5] rfl) (hD.sub (ws' := (zV224 rd rd_fault rd_place tx rd_kinds rd_starts rd_stops rd_values w_rd_7_4 rd_at tn rd_strayCount rd_lawTold rd_falseTold rd_kinds cA_rd_kinds g_rd_kinds_5 rd_starts cA_rd_starts g_rd_starts_6 rd_stops cA_rd_stops g_rd_stops_3 rd_values cA_rd_values g_rd_values_7 tx cA_tx f_tx)) [0, 1, 2, 3, 4, 5] (by decide) rfl) hS (lv_sub hl [4, 5, 1, 0] rfl)
              · have ic_54 := zz_neq rfl (show Int32.toInt 0 = 0 from by decide) c_54
                replace hF := hF.trans (if_neg c_54)
                refine lv_iload hx hb dX5_split_55 (lv_at hl 0 rfl) ?_
                refine lv_if_ne (tgt := 67) hx hb dX5_split_57 (by decide) (fun q => absurd q (by decide)) (fun _ => ?_)
                refine lv_aload_n hx hb dX5_split_60 rfl (lv_at hl 2 rfl) ?_
                refine lv_iload hx hb dX5_split_61 (lv_at hl 1 rfl) ?_
                refine lv_iload_n hx hb dX5_split_63 rfl (lv_at hl 5 rfl) ?_
                obtain ⟨hPc, hDc, hFc⟩ := z_cut (wc := (zV210 rd rd_fault rd_place tx rd_kinds rd_starts rd_stops rd_values w_rd_7_4 rd_at tn rd_strayCount rd_lawTold rd_falseTold rd_kinds cA_rd_kinds g_rd_kinds_5 rd_starts cA_rd_starts g_rd_starts_6 rd_values cA_rd_values g_rd_values_7)) hP hD hS hA [0, 1, 2, 4] rfl (by decide +kernel)
                have hKc := hK.sub (tys' := [(cA_rd_kinds, .int), (cA_rd_starts, .int), (cA_rd_values, .int)]) [0, 1, 3] rfl
                refine va_callv (va_runV (As := [.int r_12, .int v3_2]) (rest := []) ⟨hx, hb, hml, hown, hts⟩ (kf_X5_addToken l sa dC dI rd r_12 v3_2 rd_fault rd_place tx rd_kinds rd_starts rd_stops rd_values w_rd_7_4 rd_at tn rd_strayCount rd_lawTold rd_falseTold cA_rd_kinds g_rd_kinds_5 cA_rd_starts g_rd_starts_6 cA_rd_values g_rd_values_7 (by first | with_reducible assumption | omega) (by first | with_reducible assumption | omega) (by first | with_reducible assumption | omega) b_rd_at b_rd_strayCount b_rd_lawTold b_rd_falseTold b_g_rd_kinds_5 b_g_rd_starts_6 b_g_rd_values_7 H.size) (cwV 2 hts (z_gV zw_t3_19 zw_t3_21 zw_s1_2 zw_t1_4 zw_t3_22) rfl rfl rfl (by decide +kernel) (by rw [← hRe]; exact ⟨(Nat.le_of_ble_eq_true rfl), (Nat.le_of_ble_eq_true rfl)⟩)) (z_preV hPc hKc hDc hN hXs hS hFc (q := (RX5, TX5, 13)) (ci := 5) (q0 := 0) rfl rfl) rfl rfl hl.1 rfl (lv_room (Nat.le_of_ble_eq_true rfl)) dX5_split_64 (by rw [← hRe]; exact ⟨(Nat.le_of_ble_eq_true rfl), (Nat.le_of_ble_eq_true rfl)⟩)) hS (fun q _ h => hFc q h) hFc (fun u t H1 locs ht hvm hw hB hz1 hk1 hS => ?_)
                refine hB.elim fun n_rd_59 ze1 => ze1.elim fun n_rd_kinds_60 ze2 => ze2.elim fun n_rd_starts_61 ze3 => ze3.elim fun n_rd_values_62 ze4 => ze4.elim fun b_n_rd_59 ze5 => ze5.elim fun b_n_rd_kinds_60 ze6 => ze6.elim fun b_n_rd_starts_61 ze7 => ze7.elim fun b_n_rd_values_62 ze8 => ze8.elim fun hf_63 ze9 => ze9.elim fun hf_64 ze10 => ze10.elim fun hf_65 ze11 => ze11.elim fun hf_66 ze12 => ze12.elim fun hf_67 ze13 => ?_
                clear hB ze1 ze2 ze3 ze4 ze5 ze6 ze7 ze8 ze9 ze10 ze11 ze12
                have hB := ze13
                clear ze13
                obtain ⟨hP, hD, hK⟩ := z_after3 (wn := (zV225 rd_stops cA_rd_stops g_rd_stops_3 tx cA_tx f_tx rd rd_fault rd_place tx rd_kinds rd_starts rd_stops rd_values n_rd_59 rd_at tn rd_strayCount rd_lawTold rd_falseTold rd_kinds cA_rd_kinds n_rd_kinds_60 rd_starts cA_rd_starts n_rd_starts_61 rd_values cA_rd_values n_rd_values_62)) hB ht hvm hP hD hK [0, 1, 2, 4] [3, 5] rfl 6 rfl (by decide +kernel) rfl (by decide +kernel) hk1 hFc
                generalize H1 = H at hP hS ⊢
                have hK : va_K (dC, dI) vwCl [(cA_rd_kinds, .int), (cA_rd_starts, .int), (cA_rd_stops, .int), (cA_rd_values, .int), (cA_tx, .byte)] s := hK
                replace hF := hF.trans (zL_eq rfl)
                replace hF := hF.trans (zL_eq hf_64)
                replace hF := hF.trans (zL_eq hf_65)
                replace hF := hF.trans (zL_eq hf_66)
                replace hF := hF.trans (zL_eq hf_67)
                refine lv_iload hx hb dX5_split_67 (lv_at hl 1 rfl) ?_
                refine lv_if_eq (tgt := 86) hx hb dX5_split_69 (by decide) (fun q => absurd (zz_eq rfl (show Int32.toInt 0 = 0 from by decide) q) (by first | with_reducible assumption | omega)) (fun c_69 => ?_)
                have ic_69 := zz_neq rfl (show Int32.toInt 0 = 0 from by decide) c_69
                refine lv_aload_n hx hb dX5_split_72 rfl (lv_at hl 2 rfl) ?_
                refine va_get (D := (dC, dI)) (ci := 5) (v := .ref rd_stops) (C := RX5) (T := TX5) (N := 13) hx hb hts zl_X5 hown hK hP 2 rfl rfl 5 (by decide) (hts _ zw_t1_200) (fun _ h9 => h9) rfl dX5_split_73 ?_
                refine lv_aload_n hx hb dX5_split_76 rfl (lv_at hl 2 rfl) ?_
                refine va_get (D := (dC, dI)) (ci := 5) (v := .int n_rd_59) (C := RX5) (T := TX5) (N := 13) hx hb hts zl_X5 hown hK hP 2 rfl rfl 7 (by decide) (hts _ zw_t1_202) (fun _ h9 => h9) rfl dX5_split_77 ?_
                refine lv_iconst (v := 1) hx hb dX5_split_80 (by decide) ?_
                refine lv_isub hx hb dX5_split_81 ?_
                refine lv_topi (fun x_70 ex_70 => ?_)
                replace hF := hF.trans (zL_eq ex_70)
                have b_x_70 : x_70.toInt = n_rd_59.toInt - 1 := by rw [ex_70]; exact zi_sub rfl (show Int32.toInt 1 = 1 from by decide) (by first | with_reducible assumption | omega)
                refine lv_iload_n hx hb dX5_split_82 rfl (lv_at hl 5 rfl) ?_
                refine lv_iconst (v := 1) hx hb dX5_split_83 (by decide) ?_
                refine lv_iadd hx hb dX5_split_84 ?_
                refine lv_topi (fun x_71 ex_71 => ?_)
                replace hF := hF.trans (zL_eq ex_71)
                have b_x_71 : x_71.toInt = v3_2.toInt + 1 := by rw [ex_71]; exact zi_add rfl (show Int32.toInt 1 = 1 from by decide) (z_rac b_v3_2 (by decide))
                refine va_iast hx hb hK hP hD hS 0 2 rfl rfl (zi_in rfl (by first | with_reducible assumption | omega)) dX5_split_85 (fun H locs hP hD hS => ?_)
                obtain ⟨f_72, ef_72⟩ : ∃ g : Nat → Int32, g = upd g_rd_stops_3 (Int32.toNatClampNeg x_70) x_71 := ⟨_, rfl⟩
                replace hF := hF.trans (zL_eq ef_72)
                have b_f_72 : ∀ j : Nat, 0 ≤ (f_72 j).toInt ∧ (f_72 j).toInt ≤ 1600 := by rw [ef_72]; exact zi_upd b_g_rd_stops_3 rfl (by first | with_reducible assumption | omega)
                have hP : va_P (dC, dI) vwCl (zV225 rd_stops cA_rd_stops (upd g_rd_stops_3 (Int32.toNatClampNeg x_70) x_71) tx cA_tx f_tx rd rd_fault rd_place tx rd_kinds rd_starts rd_stops rd_values n_rd_59 rd_at tn rd_strayCount rd_lawTold rd_falseTold rd_kinds cA_rd_kinds n_rd_kinds_60 rd_starts cA_rd_starts n_rd_starts_61 rd_values cA_rd_values n_rd_values_62) H := hP
                have hD : va_D A (zV225 rd_stops cA_rd_stops (upd g_rd_stops_3 (Int32.toNatClampNeg x_70) x_71) tx cA_tx f_tx rd rd_fault rd_place tx rd_kinds rd_starts rd_stops rd_values n_rd_59 rd_at tn rd_strayCount rd_lawTold rd_falseTold rd_kinds cA_rd_kinds n_rd_kinds_60 rd_starts cA_rd_starts n_rd_starts_61 rd_values cA_rd_values n_rd_values_62) := hD
                rw [← ef_72] at hP hD
                refine lv_iload hx hb dX5_split_86 (lv_at hl 1 rfl) ?_
                refine lv_iconst (v := 2) hx hb dX5_split_88 (by decide) ?_
                refine lv_icmp_ne (tgt := 132) hx hb dX5_split_89 (by decide) (fun c_73 => ?_) (fun c_73 => ?_)
                · have ic_73 := zz_ne rfl (show Int32.toInt 2 = 2 from by decide) c_73
                  replace hF := hF.trans (if_neg c_73)
                  refine lv_iload hx hb dX5_split_132 (lv_at hl 1 rfl) ?_
                  refine lv_istore_n (lv' := [(2, .int r_12), (5, .int 0), (4, .int r_12), (0, .ref rd), (1, .int p1), (3, .int v3_2)]) hx hb dX5_split_134 rfl hl (by decide) rfl (fun ls hl => ?_)
                  obtain ⟨x_74, ex_74⟩ : ∃ z : Int32, z = v3_2 + Int32.ofInt 1 := ⟨_, rfl⟩
                  have b_x_74 : x_74.toInt = v3_2.toInt + 1 := by rw [ex_74]; exact zi_add rfl (show (Int32.ofInt 1).toInt = 1 from by decide) (z_rac b_v3_2 (by decide))
                  refine lv_iinc (v := x_74) (lv' := [(3, .int x_74), (2, .int r_12), (5, .int 0), (4, .int r_12), (0, .ref rd), (1, .int p1)]) hx hb dX5_split_135 hl (k := 5) rfl ex_74.symm (by decide) rfl (fun ls hl => ?_)
                  replace hF := hF.trans (zL_eq ex_74)
                  refine lv_goto (tgt := 9) hx hb dX5_split_138 (by decide) ?_
                  exact ih_1 r_12 x_74 n_rd_59 n_rd_kinds_60 n_rd_starts_61 f_72 n_rd_values_62 (by first | with_reducible assumption | omega) (by first | with_reducible assumption | omega) (by first | with_reducible assumption | omega) b_n_rd_kinds_60 b_n_rd_starts_61 b_f_72 b_n_rd_values_62 (by first | assumption | decide | omega) _ _ _ (by first | with_reducible assumption | omega) hF (hP.sub (ws' := (zV224 rd rd_fault rd_place tx rd_kinds rd_starts rd_stops rd_values n_rd_59 rd_at tn rd_strayCount rd_lawTold rd_falseTold rd_kinds cA_rd_kinds n_rd_kinds_60 rd_starts cA_rd_starts n_rd_starts_61 rd_stops cA_rd_stops f_72 rd_values cA_rd_values n_rd_values_62 tx cA_tx f_tx)) [2, 3, 4, 0, 5, 1] rfl) (hD.sub (ws' := (zV224 rd rd_fault rd_place tx rd_kinds rd_starts rd_stops rd_values n_rd_59 rd_at tn rd_strayCount rd_lawTold rd_falseTold rd_kinds cA_rd_kinds n_rd_kinds_60 rd_starts cA_rd_starts n_rd_starts_61 rd_stops cA_rd_stops f_72 rd_values cA_rd_values n_rd_values_62 tx cA_tx f_tx)) [2, 3, 4, 0, 5, 1] (by decide) rfl) hS (lv_sub hl [4, 5, 1, 0] rfl)
                · have ic_73 := zz_nne rfl (show Int32.toInt 2 = 2 from by decide) c_73
                  replace hF := hF.trans (if_pos c_73)
                  refine lv_aload_n hx hb dX5_split_92 rfl (lv_at hl 2 rfl) ?_
                  refine va_get (D := (dC, dI)) (ci := 5) (v := .ref rd_values) (C := RX5) (T := TX5) (N := 13) hx hb hts zl_X5 hown hK hP 2 rfl rfl 6 (by decide) (hts _ zw_t1_201) (fun _ h9 => h9) rfl dX5_split_93 ?_
                  refine lv_aload_n hx hb dX5_split_96 rfl (lv_at hl 2 rfl) ?_
                  refine va_get (D := (dC, dI)) (ci := 5) (v := .int n_rd_59) (C := RX5) (T := TX5) (N := 13) hx hb hts zl_X5 hown hK hP 2 rfl rfl 7 (by decide) (hts _ zw_t1_202) (fun _ h9 => h9) rfl dX5_split_97 ?_
                  refine lv_iconst (v := 1) hx hb dX5_split_100 (by decide) ?_
                  refine lv_isub hx hb dX5_split_101 ?_
                  refine lv_topi (fun x_75 ex_75 => ?_)
                  replace hF := hF.trans (zL_eq ex_75)
                  have b_x_75 : x_75.toInt = n_rd_59.toInt - 1 := by rw [ex_75]; exact zi_sub rfl (show Int32.toInt 1 = 1 from by decide) (by first | with_reducible assumption | omega)
                  refine lv_aload_n hx hb dX5_split_102 rfl (lv_at hl 2 rfl) ?_
                  refine va_get (D := (dC, dI)) (ci := 5) (v := .ref rd_values) (C := RX5) (T := TX5) (N := 13) hx hb hts zl_X5 hown hK hP 2 rfl rfl 6 (by decide) (hts _ zw_t1_201) (fun _ h9 => h9) rfl dX5_split_103 ?_
                  refine lv_aload_n hx hb dX5_split_106 rfl (lv_at hl 2 rfl) ?_
                  refine va_get (D := (dC, dI)) (ci := 5) (v := .int n_rd_59) (C := RX5) (T := TX5) (N := 13) hx hb hts zl_X5 hown hK hP 2 rfl rfl 7 (by decide) (hts _ zw_t1_202) (fun _ h9 => h9) rfl dX5_split_107 ?_
                  refine lv_iconst (v := 1) hx hb dX5_split_110 (by decide) ?_
                  refine lv_isub hx hb dX5_split_111 ?_
                  refine lv_topi (fun x_76 ex_76 => ?_)
                  replace hF := hF.trans (zL_eq ex_76)
                  have b_x_76 : x_76.toInt = n_rd_59.toInt - 1 := by rw [ex_76]; exact zi_sub rfl (show Int32.toInt 1 = 1 from by decide) (by first | with_reducible assumption | omega)
                  refine va_iald hx hb hK hP 5 3 rfl rfl (zi_in rfl (by first | with_reducible assumption | omega)) dX5_split_112 ?_
                  refine lv_topi (fun x_77 ex_77 => ?_)
                  replace hF := hF.trans (zL_eq ex_77)
                  have b_x_77 : 0 ≤ x_77.toInt ∧ x_77.toInt ≤ 100000 := by rw [ex_77]; exact b_n_rd_values_62 _
                  refine lv_bipush (v := 10) hx hb dX5_split_113 (by decide) ?_
                  refine lv_imul hx hb dX5_split_115 ?_
                  refine lv_topi (fun x_78 ex_78 => ?_)
                  replace hF := hF.trans (zL_eq ex_78)
                  have b_x_78 : x_78.toInt = x_77.toInt * 10 := by rw [ex_78]; exact zi_mul rfl (show Int32.toInt 10 = 10 from by decide) (z_rcm b_x_77 (by decide))
                  refine lv_aload_n hx hb dX5_split_116 rfl (lv_at hl 2 rfl) ?_
                  refine va_get (D := (dC, dI)) (ci := 5) (v := .ref tx) (C := RX5) (T := TX5) (N := 13) hx hb hts zl_X5 hown hK hP 2 rfl rfl 2 (by decide) (hts _ zw_t1_197) (fun _ h9 => h9) rfl dX5_split_117 ?_
                  refine lv_iload_n hx hb dX5_split_120 rfl (lv_at hl 5 rfl) ?_
                  refine va_bald hx hb hK hP 1 4 rfl rfl (zi_in rfl (by first | exact z_rin b_v3_2 (by decide) | omega)) dX5_split_121 ?_
                  refine lv_topi (fun x_79 ex_79 => ?_)
                  replace hF := hF.trans (zL_eq ex_79)
                  obtain rfl : x_11 = x_79 := ex_11.trans ex_79.symm
                  refine lv_iadd hx hb dX5_split_122 ?_
                  refine lv_topi (fun x_80 ex_80 => ?_)
                  replace hF := hF.trans (zL_eq ex_80)
                  have b_x_80 : x_80.toInt = x_78.toInt + x_11.toInt := by rw [ex_80]; exact zi_add rfl rfl (by first | with_reducible assumption | omega)
                  refine lv_bipush (v := 48) hx hb dX5_split_123 (by decide) ?_
                  refine lv_isub hx hb dX5_split_125 ?_
                  refine lv_topi (fun x_81 ex_81 => ?_)
                  replace hF := hF.trans (zL_eq ex_81)
                  have b_x_81 : x_81.toInt = x_80.toInt - 48 := by rw [ex_81]; exact zi_sub rfl (show Int32.toInt 48 = 48 from by decide) (by first | with_reducible assumption | omega)
                  refine lv_ldc (v := 100000) hx hb hown (hts _ zw_t3_23) dX5_split_126 ?_
                  refine va_mmin hx hb (by rw [hml]; exact hl.1.symm) hown (hts _ zw_t3_9) (hts _ zw_t3_10) (hts _ zw_t1_12) (hts _ zw_t3_11) (by rw [← hRe]; exact (Nat.le_of_ble_eq_true rfl)) (by rw [← hRe]; exact (Nat.le_of_ble_eq_true rfl)) (Nat.zero_le _) (Nat.zero_le _) dX5_split_128 ?_
                  refine lv_topi (fun x_82 ex_82 => ?_)
                  replace hF := hF.trans (zL_eq ex_82)
                  have b_x_82 : x_82.toInt = min (x_81.toInt) 100000 := by rw [ex_82]; exact zi_min rfl (show Int32.toInt 100000 = 100000 from by decide)
                  refine va_iast hx hb hK hP hD hS 5 3 rfl rfl (zi_in rfl (by first | with_reducible assumption | omega)) dX5_split_131 (fun H locs hP hD hS => ?_)
                  obtain ⟨f_83, ef_83⟩ : ∃ g : Nat → Int32, g = upd n_rd_values_62 (Int32.toNatClampNeg x_75) x_82 := ⟨_, rfl⟩
                  replace hF := hF.trans (zL_eq ef_83)
                  have b_f_83 : ∀ j : Nat, 0 ≤ (f_83 j).toInt ∧ (f_83 j).toInt ≤ 100000 := by rw [ef_83]; exact zi_upd b_n_rd_values_62 rfl (by first | with_reducible assumption | omega)
                  have hP : va_P (dC, dI) vwCl (zV225 rd_stops cA_rd_stops f_72 tx cA_tx f_tx rd rd_fault rd_place tx rd_kinds rd_starts rd_stops rd_values n_rd_59 rd_at tn rd_strayCount rd_lawTold rd_falseTold rd_kinds cA_rd_kinds n_rd_kinds_60 rd_starts cA_rd_starts n_rd_starts_61 rd_values cA_rd_values (upd n_rd_values_62 (Int32.toNatClampNeg x_75) x_82)) H := hP
                  have hD : va_D A (zV225 rd_stops cA_rd_stops f_72 tx cA_tx f_tx rd rd_fault rd_place tx rd_kinds rd_starts rd_stops rd_values n_rd_59 rd_at tn rd_strayCount rd_lawTold rd_falseTold rd_kinds cA_rd_kinds n_rd_kinds_60 rd_starts cA_rd_starts n_rd_starts_61 rd_values cA_rd_values (upd n_rd_values_62 (Int32.toNatClampNeg x_75) x_82)) := hD
                  rw [← ef_83] at hP hD
                  refine lv_iload hx hb dX5_split_132 (lv_at hl 1 rfl) ?_
                  refine lv_istore_n (lv' := [(2, .int r_12), (5, .int 0), (4, .int r_12), (0, .ref rd), (1, .int p1), (3, .int v3_2)]) hx hb dX5_split_134 rfl hl (by decide) rfl (fun ls hl => ?_)
                  obtain ⟨x_84, ex_84⟩ : ∃ z : Int32, z = v3_2 + Int32.ofInt 1 := ⟨_, rfl⟩
                  have b_x_84 : x_84.toInt = v3_2.toInt + 1 := by rw [ex_84]; exact zi_add rfl (show (Int32.ofInt 1).toInt = 1 from by decide) (z_rac b_v3_2 (by decide))
                  refine lv_iinc (v := x_84) (lv' := [(3, .int x_84), (2, .int r_12), (5, .int 0), (4, .int r_12), (0, .ref rd), (1, .int p1)]) hx hb dX5_split_135 hl (k := 5) rfl ex_84.symm (by decide) rfl (fun ls hl => ?_)
                  replace hF := hF.trans (zL_eq ex_84)
                  refine lv_goto (tgt := 9) hx hb dX5_split_138 (by decide) ?_
                  exact ih_1 r_12 x_84 n_rd_59 n_rd_kinds_60 n_rd_starts_61 f_72 f_83 (by first | with_reducible assumption | omega) (by first | with_reducible assumption | omega) (by first | with_reducible assumption | omega) b_n_rd_kinds_60 b_n_rd_starts_61 b_f_72 b_f_83 (by first | assumption | decide | omega) _ _ _ (by first | with_reducible assumption | omega) hF (hP.sub (ws' := (zV224 rd rd_fault rd_place tx rd_kinds rd_starts rd_stops rd_values n_rd_59 rd_at tn rd_strayCount rd_lawTold rd_falseTold rd_kinds cA_rd_kinds n_rd_kinds_60 rd_starts cA_rd_starts n_rd_starts_61 rd_stops cA_rd_stops f_72 rd_values cA_rd_values f_83 tx cA_tx f_tx)) [2, 3, 4, 0, 5, 1] rfl) (hD.sub (ws' := (zV224 rd rd_fault rd_place tx rd_kinds rd_starts rd_stops rd_values n_rd_59 rd_at tn rd_strayCount rd_lawTold rd_falseTold rd_kinds cA_rd_kinds n_rd_kinds_60 rd_starts cA_rd_starts n_rd_starts_61 rd_stops cA_rd_stops f_72 rd_values cA_rd_values f_83 tx cA_tx f_tx)) [2, 3, 4, 0, 5, 1] (by decide) rfl) hS (lv_sub hl [4, 5, 1, 0] rfl)
            · have ic_53 := zz_nne rfl (show Int32.toInt 2 = 2 from by decide) c_53
              replace hF := hF.trans (if_pos c_53)
              refine lv_iconst (v := 1) hx hb dX5_split_43 (by decide) ?_
              refine lv_goto (tgt := 48) hx hb dX5_split_44 (by decide) ?_
              refine lv_istore (lv' := [(5, .int 1), (4, .int r_12), (0, .ref rd), (1, .int p1), (2, .int v2_1), (3, .int v3_2)]) hx hb dX5_split_48 hl (by decide) rfl (fun ls hl => ?_)
              refine lv_iload hx hb dX5_split_50 (lv_at hl 1 rfl) ?_
              refine lv_if_eq (tgt := 67) hx hb dX5_split_52 (by decide) (fun q => absurd (zz_eq rfl (show Int32.toInt 0 = 0 from by decide) q) (by first | with_reducible assumption | omega)) (fun c_85 => ?_)
              have ic_85 := zz_neq rfl (show Int32.toInt 0 = 0 from by decide) c_85
              refine lv_iload hx hb dX5_split_55 (lv_at hl 0 rfl) ?_
              refine lv_if_ne (tgt := 67) hx hb dX5_split_57 (by decide) (fun _ => ?_) (fun q => absurd q (by decide))
              refine lv_iload hx hb dX5_split_67 (lv_at hl 1 rfl) ?_
              refine lv_if_eq (tgt := 86) hx hb dX5_split_69 (by decide) (fun q => absurd (zz_eq rfl (show Int32.toInt 0 = 0 from by decide) q) (by first | with_reducible assumption | omega)) (fun c_86 => ?_)
              have ic_86 := zz_neq rfl (show Int32.toInt 0 = 0 from by decide) c_86
              refine lv_aload_n hx hb dX5_split_72 rfl (lv_at hl 2 rfl) ?_
              refine va_get (D := (dC, dI)) (ci := 5) (v := .ref rd_stops) (C := RX5) (T := TX5) (N := 13) hx hb hts zl_X5 hown hK hP 0 rfl rfl 5 (by decide) (hts _ zw_t1_200) (fun _ h9 => h9) rfl dX5_split_73 ?_
              refine lv_aload_n hx hb dX5_split_76 rfl (lv_at hl 2 rfl) ?_
              refine va_get (D := (dC, dI)) (ci := 5) (v := .int w_rd_7_4) (C := RX5) (T := TX5) (N := 13) hx hb hts zl_X5 hown hK hP 0 rfl rfl 7 (by decide) (hts _ zw_t1_202) (fun _ h9 => h9) rfl dX5_split_77 ?_
              refine lv_iconst (v := 1) hx hb dX5_split_80 (by decide) ?_
              refine lv_isub hx hb dX5_split_81 ?_
              refine lv_topi (fun x_87 ex_87 => ?_)
              replace hF := hF.trans (zL_eq ex_87)
              have b_x_87 : x_87.toInt = w_rd_7_4.toInt - 1 := by rw [ex_87]; exact zi_sub rfl (show Int32.toInt 1 = 1 from by decide) (z_rsc b_w_rd_7_4 (by decide))
              refine lv_iload_n hx hb dX5_split_82 rfl (lv_at hl 5 rfl) ?_
              refine lv_iconst (v := 1) hx hb dX5_split_83 (by decide) ?_
              refine lv_iadd hx hb dX5_split_84 ?_
              refine lv_topi (fun x_88 ex_88 => ?_)
              replace hF := hF.trans (zL_eq ex_88)
              have b_x_88 : x_88.toInt = v3_2.toInt + 1 := by rw [ex_88]; exact zi_add rfl (show Int32.toInt 1 = 1 from by decide) (z_rac b_v3_2 (by decide))
              refine va_iast hx hb hK hP hD hS 3 2 rfl rfl (zi_in rfl (by first | with_reducible assumption | omega)) dX5_split_85 (fun H locs hP hD hS => ?_)
              obtain ⟨f_89, ef_89⟩ : ∃ g : Nat → Int32, g = upd g_rd_stops_3 (Int32.toNatClampNeg x_87) x_88 := ⟨_, rfl⟩
              replace hF := hF.trans (zL_eq ef_89)
              have b_f_89 : ∀ j : Nat, 0 ≤ (f_89 j).toInt ∧ (f_89 j).toInt ≤ 1600 := by rw [ef_89]; exact zi_upd b_g_rd_stops_3 rfl (by first | with_reducible assumption | omega)
              have hP : va_P (dC, dI) vwCl (zV224 rd rd_fault rd_place tx rd_kinds rd_starts rd_stops rd_values w_rd_7_4 rd_at tn rd_strayCount rd_lawTold rd_falseTold rd_kinds cA_rd_kinds g_rd_kinds_5 rd_starts cA_rd_starts g_rd_starts_6 rd_stops cA_rd_stops (upd g_rd_stops_3 (Int32.toNatClampNeg x_87) x_88) rd_values cA_rd_values g_rd_values_7 tx cA_tx f_tx) H := hP
              have hD : va_D A (zV224 rd rd_fault rd_place tx rd_kinds rd_starts rd_stops rd_values w_rd_7_4 rd_at tn rd_strayCount rd_lawTold rd_falseTold rd_kinds cA_rd_kinds g_rd_kinds_5 rd_starts cA_rd_starts g_rd_starts_6 rd_stops cA_rd_stops (upd g_rd_stops_3 (Int32.toNatClampNeg x_87) x_88) rd_values cA_rd_values g_rd_values_7 tx cA_tx f_tx) := hD
              rw [← ef_89] at hP hD
              refine lv_iload hx hb dX5_split_86 (lv_at hl 1 rfl) ?_
              refine lv_iconst (v := 2) hx hb dX5_split_88 (by decide) ?_
              refine lv_icmp_ne (tgt := 132) hx hb dX5_split_89 (by decide) (fun q => absurd (zz_ne rfl (show Int32.toInt 2 = 2 from by decide) q) (by first | with_reducible assumption | omega)) (fun c_90 => ?_)
              have ic_90 := zz_nne rfl (show Int32.toInt 2 = 2 from by decide) c_90
              refine lv_aload_n hx hb dX5_split_92 rfl (lv_at hl 2 rfl) ?_
              refine va_get (D := (dC, dI)) (ci := 5) (v := .ref rd_values) (C := RX5) (T := TX5) (N := 13) hx hb hts zl_X5 hown hK hP 0 rfl rfl 6 (by decide) (hts _ zw_t1_201) (fun _ h9 => h9) rfl dX5_split_93 ?_
              refine lv_aload_n hx hb dX5_split_96 rfl (lv_at hl 2 rfl) ?_
              refine va_get (D := (dC, dI)) (ci := 5) (v := .int w_rd_7_4) (C := RX5) (T := TX5) (N := 13) hx hb hts zl_X5 hown hK hP 0 rfl rfl 7 (by decide) (hts _ zw_t1_202) (fun _ h9 => h9) rfl dX5_split_97 ?_
              refine lv_iconst (v := 1) hx hb dX5_split_100 (by decide) ?_
              refine lv_isub hx hb dX5_split_101 ?_
              refine lv_topi (fun x_91 ex_91 => ?_)
              replace hF := hF.trans (zL_eq ex_91)
              have b_x_91 : x_91.toInt = w_rd_7_4.toInt - 1 := by rw [ex_91]; exact zi_sub rfl (show Int32.toInt 1 = 1 from by decide) (z_rsc b_w_rd_7_4 (by decide))
              refine lv_aload_n hx hb dX5_split_102 rfl (lv_at hl 2 rfl) ?_
              refine va_get (D := (dC, dI)) (ci := 5) (v := .ref rd_values) (C := RX5) (T := TX5) (N := 13) hx hb hts zl_X5 hown hK hP 0 rfl rfl 6 (by decide) (hts _ zw_t1_201) (fun _ h9 => h9) rfl dX5_split_103 ?_
              refine lv_aload_n hx hb dX5_split_106 rfl (lv_at hl 2 rfl) ?_
              refine va_get (D := (dC, dI)) (ci := 5) (v := .int w_rd_7_4) (C := RX5) (T := TX5) (N := 13) hx hb hts zl_X5 hown hK hP 0 rfl rfl 7 (by decide) (hts _ zw_t1_202) (fun _ h9 => h9) rfl dX5_split_107 ?_
              refine lv_iconst (v := 1) hx hb dX5_split_110 (by decide) ?_
              refine lv_isub hx hb dX5_split_111 ?_
              refine lv_topi (fun x_92 ex_92 => ?_)
              replace hF := hF.trans (zL_eq ex_92)
              have b_x_92 : x_92.toInt = w_rd_7_4.toInt - 1 := by rw [ex_92]; exact zi_sub rfl (show Int32.toInt 1 = 1 from by decide) (z_rsc b_w_rd_7_4 (by decide))
              refine va_iald hx hb hK hP 4 3 rfl rfl (zi_in rfl (by first | with_reducible assumption | omega)) dX5_split_112 ?_
              refine lv_topi (fun x_93 ex_93 => ?_)
              replace hF := hF.trans (zL_eq ex_93)
              have b_x_93 : 0 ≤ x_93.toInt ∧ x_93.toInt ≤ 100000 := by rw [ex_93]; exact b_g_rd_values_7 _
              refine lv_bipush (v := 10) hx hb dX5_split_113 (by decide) ?_
              refine lv_imul hx hb dX5_split_115 ?_
              refine lv_topi (fun x_94 ex_94 => ?_)
              replace hF := hF.trans (zL_eq ex_94)
              have b_x_94 : x_94.toInt = x_93.toInt * 10 := by rw [ex_94]; exact zi_mul rfl (show Int32.toInt 10 = 10 from by decide) (z_rcm b_x_93 (by decide))
              refine lv_aload_n hx hb dX5_split_116 rfl (lv_at hl 2 rfl) ?_
              refine va_get (D := (dC, dI)) (ci := 5) (v := .ref tx) (C := RX5) (T := TX5) (N := 13) hx hb hts zl_X5 hown hK hP 0 rfl rfl 2 (by decide) (hts _ zw_t1_197) (fun _ h9 => h9) rfl dX5_split_117 ?_
              refine lv_iload_n hx hb dX5_split_120 rfl (lv_at hl 5 rfl) ?_
              refine va_bald hx hb hK hP 5 4 rfl rfl (zi_in rfl (by first | exact z_rin b_v3_2 (by decide) | omega)) dX5_split_121 ?_
              refine lv_topi (fun x_95 ex_95 => ?_)
              replace hF := hF.trans (zL_eq ex_95)
              obtain rfl : x_11 = x_95 := ex_11.trans ex_95.symm
              refine lv_iadd hx hb dX5_split_122 ?_
              refine lv_topi (fun x_96 ex_96 => ?_)
              replace hF := hF.trans (zL_eq ex_96)
              have b_x_96 : x_96.toInt = x_94.toInt + x_11.toInt := by rw [ex_96]; exact zi_add rfl rfl (by first | with_reducible assumption | omega)
              refine lv_bipush (v := 48) hx hb dX5_split_123 (by decide) ?_
              refine lv_isub hx hb dX5_split_125 ?_
              refine lv_topi (fun x_97 ex_97 => ?_)
              replace hF := hF.trans (zL_eq ex_97)
              have b_x_97 : x_97.toInt = x_96.toInt - 48 := by rw [ex_97]; exact zi_sub rfl (show Int32.toInt 48 = 48 from by decide) (by first | with_reducible assumption | omega)
              refine lv_ldc (v := 100000) hx hb hown (hts _ zw_t3_23) dX5_split_126 ?_
              refine va_mmin hx hb (by rw [hml]; exact hl.1.symm) hown (hts _ zw_t3_9) (hts _ zw_t3_10) (hts _ zw_t1_12) (hts _ zw_t3_11) (by rw [← hRe]; exact (Nat.le_of_ble_eq_true rfl)) (by rw [← hRe]; exact (Nat.le_of_ble_eq_true rfl)) (Nat.zero_le _) (Nat.zero_le _) dX5_split_128 ?_
              refine lv_topi (fun x_98 ex_98 => ?_)
              replace hF := hF.trans (zL_eq ex_98)
              have b_x_98 : x_98.toInt = min (x_97.toInt) 100000 := by rw [ex_98]; exact zi_min rfl (show Int32.toInt 100000 = 100000 from by decide)
              refine va_iast hx hb hK hP hD hS 4 3 rfl rfl (zi_in rfl (by first | with_reducible assumption | omega)) dX5_split_131 (fun H locs hP hD hS => ?_)
              obtain ⟨f_99, ef_99⟩ : ∃ g : Nat → Int32, g = upd g_rd_values_7 (Int32.toNatClampNeg x_91) x_98 := ⟨_, rfl⟩
              replace hF := hF.trans (zL_eq ef_99)
              have b_f_99 : ∀ j : Nat, 0 ≤ (f_99 j).toInt ∧ (f_99 j).toInt ≤ 100000 := by rw [ef_99]; exact zi_upd b_g_rd_values_7 rfl (by first | with_reducible assumption | omega)
              have hP : va_P (dC, dI) vwCl (zV224 rd rd_fault rd_place tx rd_kinds rd_starts rd_stops rd_values w_rd_7_4 rd_at tn rd_strayCount rd_lawTold rd_falseTold rd_kinds cA_rd_kinds g_rd_kinds_5 rd_starts cA_rd_starts g_rd_starts_6 rd_stops cA_rd_stops f_89 rd_values cA_rd_values (upd g_rd_values_7 (Int32.toNatClampNeg x_91) x_98) tx cA_tx f_tx) H := hP
              have hD : va_D A (zV224 rd rd_fault rd_place tx rd_kinds rd_starts rd_stops rd_values w_rd_7_4 rd_at tn rd_strayCount rd_lawTold rd_falseTold rd_kinds cA_rd_kinds g_rd_kinds_5 rd_starts cA_rd_starts g_rd_starts_6 rd_stops cA_rd_stops f_89 rd_values cA_rd_values (upd g_rd_values_7 (Int32.toNatClampNeg x_91) x_98) tx cA_tx f_tx) := hD
              rw [← ef_99] at hP hD
              refine lv_iload hx hb dX5_split_132 (lv_at hl 1 rfl) ?_
              refine lv_istore_n (lv' := [(2, .int r_12), (5, .int 1), (4, .int r_12), (0, .ref rd), (1, .int p1), (3, .int v3_2)]) hx hb dX5_split_134 rfl hl (by decide) rfl (fun ls hl => ?_)
              obtain ⟨x_100, ex_100⟩ : ∃ z : Int32, z = v3_2 + Int32.ofInt 1 := ⟨_, rfl⟩
              have b_x_100 : x_100.toInt = v3_2.toInt + 1 := by rw [ex_100]; exact zi_add rfl (show (Int32.ofInt 1).toInt = 1 from by decide) (z_rac b_v3_2 (by decide))
              refine lv_iinc (v := x_100) (lv' := [(3, .int x_100), (2, .int r_12), (5, .int 1), (4, .int r_12), (0, .ref rd), (1, .int p1)]) hx hb dX5_split_135 hl (k := 5) rfl ex_100.symm (by decide) rfl (fun ls hl => ?_)
              replace hF := hF.trans (zL_eq ex_100)
              refine lv_goto (tgt := 9) hx hb dX5_split_138 (by decide) ?_
              exact ih_1 r_12 x_100 w_rd_7_4 g_rd_kinds_5 g_rd_starts_6 f_89 f_99 (by first | with_reducible assumption | omega) (by first | with_reducible assumption | omega) (by first | with_reducible assumption | omega) b_g_rd_kinds_5 b_g_rd_starts_6 b_f_89 b_f_99 (by first | assumption | decide | omega) _ _ _ (by first | with_reducible assumption | omega) hF (hP.sub (ws' := (zV224 rd rd_fault rd_place tx rd_kinds rd_starts rd_stops rd_values w_rd_7_4 rd_at tn rd_strayCount rd_lawTold rd_falseTold rd_kinds cA_rd_kinds g_rd_kinds_5 rd_starts cA_rd_starts g_rd_starts_6 rd_stops cA_rd_stops f_89 rd_values cA_rd_values f_99 tx cA_tx f_tx)) [0, 1, 2, 3, 4, 5] rfl) (hD.sub (ws' := (zV224 rd rd_fault rd_place tx rd_kinds rd_starts rd_stops rd_values w_rd_7_4 rd_at tn rd_strayCount rd_lawTold rd_falseTold rd_kinds cA_rd_kinds g_rd_kinds_5 rd_starts cA_rd_starts g_rd_starts_6 rd_stops cA_rd_stops f_89 rd_values cA_rd_values f_99 tx cA_tx f_tx)) [0, 1, 2, 3, 4, 5] (by decide) rfl) hS (lv_sub hl [4, 5, 1, 0] rfl)
  have zb_0 : Int32.toInt 0 = 0 := by decide
  have zb_0 : Int32.toInt 0 = 0 := by decide
  have zb_0 : Int32.toInt 0 = 0 := by decide
  exact loop_1 1602 (0) (0) (0) f_rd_kinds f_rd_starts f_rd_stops f_rd_values (by decide) (by decide) (by decide) b_f_rd_kinds b_f_rd_starts b_f_rd_stops b_f_rd_values (by first | assumption | decide | omega) _ _ _ (by decide) hF hP hD hS (lv_sub hl [2, 3, 1, 0] rfl)
