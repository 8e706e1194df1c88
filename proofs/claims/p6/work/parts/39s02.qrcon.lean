set_option linter.all false
set_option maxHeartbeats 4000000 in
set_option maxRecDepth 100000 in
theorem kf_X10_empty (l : Launch) (sa : Nat → Nat) (dC : Nat → ClassId) (dI : Nat → Nat → Nat) (m0 : Nat) (p1 : Int32) (m0_thrown : Int32) (m0_width : Nat) (m0_many : Nat) (m0_cells : Nat) (m0_moved : Nat) (m0_tape : Nat) (m0_taped : Int32) (m0_at : Int32) (m0_token : Int32) (m0_place : Int32) (m0_value : Int32) (m0_word : Int64) (m0_bad : Int32) (m0_badPlace : Int32) (m0_fault : Int32) (m0_faultPlace : Int32) (m0_lines : Nat) (m0_hours : Nat) (m0_courts : Nat) (m0_in : Nat) (m0_gates : Nat) (m0_gate : Nat) (m0_people : Nat) (m0_at0 : Nat) (m0_stray : Nat) (m0_set : Nat) (m0_once : Nat) (m0_truth : Nat) (m0_known : Nat) (m0_isKept : Nat) (m0_strays : Int32) (m0_hostPerson : Int32) (m0_hostCourt : Int32) (m0_outside : Int32) (m0_inside : Nat) (m0_can : Nat) (m0_fewest : Nat) (m0_waysTo : Nat) (m0_then : Nat) (m0_two : Nat) (m0_nextTwo : Nat) (m0_three : Nat) (m0_nextThree : Nat) (m0_shut : Int32) (m0_worth : Nat) (m0_digit : Nat) (m0_codes : Int32) (m0_most : Int64) (m0_bestTry : Int32) (m0_dayCourt : Int32) (m0_dayHour : Int32) (m0_dayNo : Int32) (m0_x : Int64) (cA_m0_hours : ClassId) (f_m0_hours : Nat → Int32) (cA_m0_courts : ClassId) (f_m0_courts : Nat → Int32) (cA_m0_in : ClassId) (f_m0_in : Nat → Int32) (cA_m0_people : ClassId) (f_m0_people : Nat → Int32) (cA_m0_at0 : ClassId) (f_m0_at0 : Nat → Int32) (cA_m0_stray : ClassId) (f_m0_stray : Nat → Int32) (cA_m0_set : ClassId) (f_m0_set : Nat → Int32) (cA_m0_truth : ClassId) (f_m0_truth : Nat → Int32) (b_m0_taped : 0 ≤ m0_taped.toInt ∧ m0_taped.toInt ≤ 1600) (b_m0_at : 0 ≤ m0_at.toInt ∧ m0_at.toInt ≤ 1600) (b_m0_token : 0 ≤ m0_token.toInt ∧ m0_token.toInt ≤ 4) (b_m0_value : 0 ≤ m0_value.toInt ∧ m0_value.toInt ≤ 1000009) (b_m0_bad : 0 ≤ m0_bad.toInt ∧ m0_bad.toInt ≤ 3) (b_m0_strays : 0 ≤ m0_strays.toInt ∧ m0_strays.toInt ≤ 5) (b_m0_hostCourt : 0 ≤ m0_hostCourt.toInt ∧ m0_hostCourt.toInt ≤ 9) (b_m0_dayCourt : 0 ≤ m0_dayCourt.toInt ∧ m0_dayCourt.toInt ≤ 9) (b_m0_dayHour : 0 ≤ m0_dayHour.toInt ∧ m0_dayHour.toInt ≤ 48) (b_f_m0_hours : ∀ j : Nat, 0 ≤ (f_m0_hours j).toInt ∧ (f_m0_hours j).toInt ≤ 48) (b_f_m0_courts : ∀ j : Nat, 0 ≤ (f_m0_courts j).toInt ∧ (f_m0_courts j).toInt ≤ 10) (b_f_m0_in : ∀ j : Nat, ¬ j % 10 = 0 → (-1) ≤ (f_m0_in j).toInt ∧ (f_m0_in j).toInt < ((j % 10 : Nat) : Int)) (b_f_m0_people : ∀ j : Nat, 0 ≤ (f_m0_people j).toInt ∧ (f_m0_people j).toInt ≤ 10) (b_f_m0_at0 : ∀ j : Nat, 0 ≤ (f_m0_at0 j).toInt ∧ (f_m0_at0 j).toInt ≤ 9) (b_f_m0_stray : ∀ j : Nat, 0 ≤ (f_m0_stray j).toInt ∧ (f_m0_stray j).toInt ≤ 99 ∧ (j % 2 = 1 → (f_m0_stray j).toInt ≤ 9)) (b_f_m0_set : ∀ j : Nat, 0 ≤ (f_m0_set j).toInt ∧ (f_m0_set j).toInt ≤ 9) (hep_0 : zIc f_m0_in (f_m0_courts (Int32.toNatClampNeg 0)).toInt) (sz : Nat) : Met l yX10_empty (.code yX10_empty cX10_empty 3 (some .int) :: zT) ({ frames := 4, cells := 0, slots := 0, locals := 94 }) (va_Pc [.ref m0, .int p1] (zB sa dC dI (zV295 m0 m0_thrown m0_width m0_many m0_cells m0_moved m0_tape m0_taped m0_at m0_token m0_place m0_value m0_word m0_bad m0_badPlace m0_fault m0_faultPlace m0_lines m0_hours m0_courts m0_in m0_gates m0_gate m0_people m0_at0 m0_stray m0_set m0_once m0_truth m0_known m0_isKept m0_strays m0_hostPerson m0_hostCourt m0_outside m0_inside m0_can m0_fewest m0_waysTo m0_then m0_two m0_nextTwo m0_three m0_nextThree m0_shut m0_worth m0_digit m0_codes m0_most m0_bestTry m0_dayCourt m0_dayHour m0_dayNo m0_x m0_hours cA_m0_hours f_m0_hours m0_courts cA_m0_courts f_m0_courts m0_in cA_m0_in f_m0_in m0_people cA_m0_people f_m0_people m0_at0 cA_m0_at0 f_m0_at0 m0_stray cA_m0_stray f_m0_stray m0_set cA_m0_set f_m0_set m0_truth cA_m0_truth f_m0_truth) [(cA_m0_hours, .int), (cA_m0_courts, .int), (cA_m0_in, .int), (cA_m0_people, .int), (cA_m0_at0, .int), (cA_m0_stray, .int), (cA_m0_set, .int), (cA_m0_truth, .int)] sz)) (va_Qi (fun (r : Int32) (_ : Unit) => ((-2) ≤ r.toInt ∧ r.toInt ≤ 48) ∧ r = (F_X10_empty p1 m0_hostPerson m0_hostCourt m0_outside f_m0_hours f_m0_courts f_m0_in f_m0_people f_m0_at0 f_m0_stray f_m0_set f_m0_truth).1) (fun _ t => ∃ (n_m0_0 : Int32), (n_m0_0 = (F_X10_empty p1 m0_hostPerson m0_hostCourt m0_outside f_m0_hours f_m0_courts f_m0_in f_m0_people f_m0_at0 f_m0_stray f_m0_set f_m0_truth).2) ∧ zW dC dI (zV295 m0 n_m0_0 m0_width m0_many m0_cells m0_moved m0_tape m0_taped m0_at m0_token m0_place m0_value m0_word m0_bad m0_badPlace m0_fault m0_faultPlace m0_lines m0_hours m0_courts m0_in m0_gates m0_gate m0_people m0_at0 m0_stray m0_set m0_once m0_truth m0_known m0_isKept m0_strays m0_hostPerson m0_hostCourt m0_outside m0_inside m0_can m0_fewest m0_waysTo m0_then m0_two m0_nextTwo m0_three m0_nextThree m0_shut m0_worth m0_digit m0_codes m0_most m0_bestTry m0_dayCourt m0_dayHour m0_dayNo m0_x m0_hours cA_m0_hours f_m0_hours m0_courts cA_m0_courts f_m0_courts m0_in cA_m0_in f_m0_in m0_people cA_m0_people f_m0_people m0_at0 cA_m0_at0 f_m0_at0 m0_stray cA_m0_stray f_m0_stray m0_set cA_m0_set f_m0_set m0_truth cA_m0_truth f_m0_truth) [] (va_A (zV295 m0 m0_thrown m0_width m0_many m0_cells m0_moved m0_tape m0_taped m0_at m0_token m0_place m0_value m0_word m0_bad m0_badPlace m0_fault m0_faultPlace m0_lines m0_hours m0_courts m0_in m0_gates m0_gate m0_people m0_at0 m0_stray m0_set m0_once m0_truth m0_known m0_isKept m0_strays m0_hostPerson m0_hostCourt m0_outside m0_inside m0_can m0_fewest m0_waysTo m0_then m0_two m0_nextTwo m0_three m0_nextThree m0_shut m0_worth m0_digit m0_codes m0_most m0_bestTry m0_dayCourt m0_dayHour m0_dayNo m0_x m0_hours cA_m0_hours f_m0_hours m0_courts cA_m0_courts f_m0_courts m0_in cA_m0_in f_m0_in m0_people cA_m0_people f_m0_people m0_at0 cA_m0_at0 f_m0_at0 m0_stray cA_m0_stray f_m0_stray m0_set cA_m0_set f_m0_set m0_truth cA_m0_truth f_m0_truth) sz) t) (va_A (zV295 m0 m0_thrown m0_width m0_many m0_cells m0_moved m0_tape m0_taped m0_at m0_token m0_place m0_value m0_word m0_bad m0_badPlace m0_fault m0_faultPlace m0_lines m0_hours m0_courts m0_in m0_gates m0_gate m0_people m0_at0 m0_stray m0_set m0_once m0_truth m0_known m0_isKept m0_strays m0_hostPerson m0_hostCourt m0_outside m0_inside m0_can m0_fewest m0_waysTo m0_then m0_two m0_nextTwo m0_three m0_nextThree m0_shut m0_worth m0_digit m0_codes m0_most m0_bestTry m0_dayCourt m0_dayHour m0_dayNo m0_x m0_hours cA_m0_hours f_m0_hours m0_courts cA_m0_courts f_m0_courts m0_in cA_m0_in f_m0_in m0_people cA_m0_people f_m0_people m0_at0 cA_m0_at0 f_m0_at0 m0_stray cA_m0_stray f_m0_stray m0_set cA_m0_set f_m0_set m0_truth cA_m0_truth f_m0_truth) sz)) 0 0 (va_A (zV295 m0 m0_thrown m0_width m0_many m0_cells m0_moved m0_tape m0_taped m0_at m0_token m0_place m0_value m0_word m0_bad m0_badPlace m0_fault m0_faultPlace m0_lines m0_hours m0_courts m0_in m0_gates m0_gate m0_people m0_at0 m0_stray m0_set m0_once m0_truth m0_known m0_isKept m0_strays m0_hostPerson m0_hostCourt m0_outside m0_inside m0_can m0_fewest m0_waysTo m0_then m0_two m0_nextTwo m0_three m0_nextThree m0_shut m0_worth m0_digit m0_codes m0_most m0_bestTry m0_dayCourt m0_dayHour m0_dayNo m0_x m0_hours cA_m0_hours f_m0_hours m0_courts cA_m0_courts f_m0_courts m0_in cA_m0_in f_m0_in m0_people cA_m0_people f_m0_people m0_at0 cA_m0_at0 f_m0_at0 m0_stray cA_m0_stray f_m0_stray m0_set cA_m0_set f_m0_set m0_truth cA_m0_truth f_m0_truth) sz) := by
  refine z_enter (by decide) (by exact (Nat.le_of_ble_eq_true rfl)) ?_
  intro p e s m args below meth c ls A R Qc hargs hsz hQe hAe hRe hx hb hml hr hts hown hlocks hin hl hP hK hD hN hXs hA hS
  rw [hAe] at hQe
  have hown : s.vm.findClass RX10 = some m.cls := hown
  have hl : lv_has ls 3 [(0, .ref m0), (1, .int p1)] := hl
  obtain ⟨RR, hRR⟩ : ∃ z : Int32 × Int32, z = (F_X10_empty p1 m0_hostPerson m0_hostCourt m0_outside f_m0_hours f_m0_courts f_m0_in f_m0_people f_m0_at0 f_m0_stray f_m0_set f_m0_truth) := ⟨_, rfl⟩
  have hF : RR = (F_X10_empty p1 m0_hostPerson m0_hostCourt m0_outside f_m0_hours f_m0_courts f_m0_in f_m0_people f_m0_at0 f_m0_stray f_m0_set f_m0_truth) := hRR
  refine lv_aload_n hx hb dX10_empty_0 rfl (lv_at hl 0 rfl) ?_
  refine lv_iconst (v := 0) hx hb dX10_empty_1 (by decide) ?_
  refine va_put (D := (dC, dI)) (ci := 10) (v := .int 0) (ty := .int) (C := RX10) (T := TX10) (N := 53) hx hb hts zl_X10 tyX10 tyX10_ok nmX10 hown hK hP hD hS 0 rfl rfl 0 (by decide) (hts _ zw_t6_100) (fun _ h9 => h9) rfl (by decide +kernel) rfl rfl (Nat.le_of_ble_eq_true rfl) dX10_empty_2 (fun H locs hP hD hS => ?_)
  have hP : va_P (dC, dI) vwCl (zV296 m0 m0_width m0_many m0_cells m0_moved m0_tape m0_taped m0_at m0_token m0_place m0_value m0_word m0_bad m0_badPlace m0_fault m0_faultPlace m0_lines m0_hours m0_courts m0_in m0_gates m0_gate m0_people m0_at0 m0_stray m0_set m0_once m0_truth m0_known m0_isKept m0_strays m0_hostPerson m0_hostCourt m0_outside m0_inside m0_can m0_fewest m0_waysTo m0_then m0_two m0_nextTwo m0_three m0_nextThree m0_shut m0_worth m0_digit m0_codes m0_most m0_bestTry m0_dayCourt m0_dayHour m0_dayNo m0_x m0_hours cA_m0_hours f_m0_hours m0_courts cA_m0_courts f_m0_courts m0_in cA_m0_in f_m0_in m0_people cA_m0_people f_m0_people m0_at0 cA_m0_at0 f_m0_at0 m0_stray cA_m0_stray f_m0_stray m0_set cA_m0_set f_m0_set m0_truth cA_m0_truth f_m0_truth) H := hP
  have hD : va_D A (zV296 m0 m0_width m0_many m0_cells m0_moved m0_tape m0_taped m0_at m0_token m0_place m0_value m0_word m0_bad m0_badPlace m0_fault m0_faultPlace m0_lines m0_hours m0_courts m0_in m0_gates m0_gate m0_people m0_at0 m0_stray m0_set m0_once m0_truth m0_known m0_isKept m0_strays m0_hostPerson m0_hostCourt m0_outside m0_inside m0_can m0_fewest m0_waysTo m0_then m0_two m0_nextTwo m0_three m0_nextThree m0_shut m0_worth m0_digit m0_codes m0_most m0_bestTry m0_dayCourt m0_dayHour m0_dayNo m0_x m0_hours cA_m0_hours f_m0_hours m0_courts cA_m0_courts f_m0_courts m0_in cA_m0_in f_m0_in m0_people cA_m0_people f_m0_people m0_at0 cA_m0_at0 f_m0_at0 m0_stray cA_m0_stray f_m0_stray m0_set cA_m0_set f_m0_set m0_truth cA_m0_truth f_m0_truth) := hD
  refine lv_aload_n hx hb dX10_empty_5 rfl (lv_at hl 0 rfl) ?_
  refine lv_iload_n hx hb dX10_empty_6 rfl (lv_at hl 1 rfl) ?_
  obtain ⟨hPc, hDc, hFc⟩ := z_cut (wc := (zV102 m0 m0_width m0_many m0_cells m0_moved m0_tape m0_taped m0_at m0_token m0_place m0_value m0_word m0_bad m0_badPlace m0_fault m0_faultPlace m0_lines m0_hours m0_courts m0_in m0_gates m0_gate m0_people m0_at0 m0_stray m0_set m0_once m0_truth m0_known m0_isKept m0_strays m0_hostPerson m0_hostCourt m0_outside m0_inside m0_can m0_fewest m0_waysTo m0_then m0_two m0_nextTwo m0_three m0_nextThree m0_shut m0_worth m0_digit m0_codes m0_most m0_bestTry m0_dayCourt m0_dayHour m0_dayNo m0_x m0_courts cA_m0_courts f_m0_courts)) hP hD hS hA [0, 2] rfl (by decide +kernel)
  have hKc := hK.sub (tys' := [(cA_m0_courts, .int)]) [1] rfl
  refine va_calli (va_runV (As := [.int p1]) (rest := []) ⟨hx, hb, hml, hown, hts⟩ (kf_X10_isCourt l sa dC dI m0 p1 (0) m0_width m0_many m0_cells m0_moved m0_tape m0_taped m0_at m0_token m0_place m0_value m0_word m0_bad m0_badPlace m0_fault m0_faultPlace m0_lines m0_hours m0_courts m0_in m0_gates m0_gate m0_people m0_at0 m0_stray m0_set m0_once m0_truth m0_known m0_isKept m0_strays m0_hostPerson m0_hostCourt m0_outside m0_inside m0_can m0_fewest m0_waysTo m0_then m0_two m0_nextTwo m0_three m0_nextThree m0_shut m0_worth m0_digit m0_codes m0_most m0_bestTry m0_dayCourt m0_dayHour m0_dayNo m0_x cA_m0_courts f_m0_courts b_m0_taped b_m0_at b_m0_token b_m0_value b_m0_bad b_m0_strays b_m0_hostCourt b_m0_dayCourt b_m0_dayHour b_f_m0_courts H.size) (cwV 1 hts (z_gV zw_t7_197 zw_t7_199 zw_s5_15 zw_t1_11 zw_t7_200) rfl rfl rfl (by decide +kernel) (by rw [← hRe]; exact ⟨(Nat.le_of_ble_eq_true rfl), (Nat.le_of_ble_eq_true rfl)⟩)) (z_preV hPc hKc hDc hN hXs hS hFc (q := (RX10, TX10, 53)) (ci := 10) (q0 := 0) rfl rfl) rfl rfl hl.1 rfl (lv_room (Nat.le_of_ble_eq_true rfl)) dX10_empty_7 (by rw [← hRe]; exact ⟨(Nat.le_of_ble_eq_true rfl), (Nat.le_of_ble_eq_true rfl)⟩)) hS (fun q _ h => hFc q h) hFc (fun r_1 u t H1 locs ht hvm hw hB hz1 hk1 hS => ?_)
  obtain ⟨hP, hD, hK⟩ := z_after3 (wn := (zV297 m0_hours cA_m0_hours f_m0_hours m0_in cA_m0_in f_m0_in m0_people cA_m0_people f_m0_people m0_at0 cA_m0_at0 f_m0_at0 m0_stray cA_m0_stray f_m0_stray m0_set cA_m0_set f_m0_set m0_truth cA_m0_truth f_m0_truth m0 m0_width m0_many m0_cells m0_moved m0_tape m0_taped m0_at m0_token m0_place m0_value m0_word m0_bad m0_badPlace m0_fault m0_faultPlace m0_lines m0_hours m0_courts m0_in m0_gates m0_gate m0_people m0_at0 m0_stray m0_set m0_once m0_truth m0_known m0_isKept m0_strays m0_hostPerson m0_hostCourt m0_outside m0_inside m0_can m0_fewest m0_waysTo m0_then m0_two m0_nextTwo m0_three m0_nextThree m0_shut m0_worth m0_digit m0_codes m0_most m0_bestTry m0_dayCourt m0_dayHour m0_dayNo m0_x m0_courts cA_m0_courts f_m0_courts)) hB ht hvm hP hD hK [0, 2] [1, 3, 4, 5, 6, 7, 8] rfl 9 rfl (by decide +kernel) rfl (by decide +kernel) hk1 hFc
  generalize H1 = H at hP hS ⊢
  have hK : va_K (dC, dI) vwCl [(cA_m0_hours, .int), (cA_m0_courts, .int), (cA_m0_in, .int), (cA_m0_people, .int), (cA_m0_at0, .int), (cA_m0_stray, .int), (cA_m0_set, .int), (cA_m0_truth, .int)] s := hK
  have b_r_1 : 0 ≤ r_1.toInt ∧ r_1.toInt ≤ 1 := hw.1
  have s_r_1 := hw.2.1
  have sf_r_1 := hw.2.2
  replace hF := hF.trans (zL_eq sf_r_1)
  refine lv_if_ne (tgt := 16) hx hb dX10_empty_10 (by decide) (fun c_2 => ?_) (fun c_2 => ?_)
  · have ic_2 := zz_ne rfl (show Int32.toInt 0 = 0 from by decide) c_2
    replace hF := hF.trans (if_neg c_2)
    refine lv_aload_n hx hb dX10_empty_16 rfl (lv_at hl 0 rfl) ?_
    refine va_get (D := (dC, dI)) (ci := 10) (v := .ref m0_hours) (C := RX10) (T := TX10) (N := 53) hx hb hts zl_X10 hown hK hP 7 rfl rfl 17 (by decide) (hts _ zw_t6_117) (fun _ h9 => h9) rfl dX10_empty_17 ?_
    refine lv_iconst (v := 0) hx hb dX10_empty_20 (by decide) ?_
    refine va_iald hx hb hK hP 0 0 rfl rfl (zi_in (show Int32.toInt 0 = 0 from by decide) (by decide)) dX10_empty_21 ?_
    refine lv_topi (fun x_3 ex_3 => ?_)
    replace hF := hF.trans (zL_eq ex_3)
    have b_x_3 : 0 ≤ x_3.toInt ∧ x_3.toInt ≤ 48 := by rw [ex_3]; exact b_f_m0_hours _
    have t_x_3 : x_3.toInt = (f_m0_hours (Int32.toNatClampNeg 0)).toInt := by rw [ex_3]
    refine lv_istore_n (lv' := [(2, .int x_3), (0, .ref m0), (1, .int p1)]) hx hb dX10_empty_22 rfl hl (by decide) rfl (fun ls hl => ?_)
    have loop_1 : ∀ (t_1 : Nat) (v2_4 : Int32) (b_v2_4 : 0 ≤ v2_4.toInt ∧ v2_4.toInt ≤ 48) (H : Heap) (locs : List Loc) (ls : Array Slot), v2_4.toInt - 0 < (t_1 : Int) → RR = L_X10_empty_1 p1 m0_hostPerson m0_hostCourt m0_outside f_m0_in f_m0_people f_m0_at0 f_m0_stray f_m0_set f_m0_truth K_X10_empty_1_0 K_X10_empty_1_1 t_1 v2_4 → va_P (dC, dI) vwCl (zV297 m0_hours cA_m0_hours f_m0_hours m0_in cA_m0_in f_m0_in m0_people cA_m0_people f_m0_people m0_at0 cA_m0_at0 f_m0_at0 m0_stray cA_m0_stray f_m0_stray m0_set cA_m0_set f_m0_set m0_truth cA_m0_truth f_m0_truth m0 m0_width m0_many m0_cells m0_moved m0_tape m0_taped m0_at m0_token m0_place m0_value m0_word m0_bad m0_badPlace m0_fault m0_faultPlace m0_lines m0_hours m0_courts m0_in m0_gates m0_gate m0_people m0_at0 m0_stray m0_set m0_once m0_truth m0_known m0_isKept m0_strays m0_hostPerson m0_hostCourt m0_outside m0_inside m0_can m0_fewest m0_waysTo m0_then m0_two m0_nextTwo m0_three m0_nextThree m0_shut m0_worth m0_digit m0_codes m0_most m0_bestTry m0_dayCourt m0_dayHour m0_dayNo m0_x m0_courts cA_m0_courts f_m0_courts) H → va_D A (zV297 m0_hours cA_m0_hours f_m0_hours m0_in cA_m0_in f_m0_in m0_people cA_m0_people f_m0_people m0_at0 cA_m0_at0 f_m0_at0 m0_stray cA_m0_stray f_m0_stray m0_set cA_m0_set f_m0_set m0_truth cA_m0_truth f_m0_truth m0 m0_width m0_many m0_cells m0_moved m0_tape m0_taped m0_at m0_token m0_place m0_value m0_word m0_bad m0_badPlace m0_fault m0_faultPlace m0_lines m0_hours m0_courts m0_in m0_gates m0_gate m0_people m0_at0 m0_stray m0_set m0_once m0_truth m0_known m0_isKept m0_strays m0_hostPerson m0_hostCourt m0_outside m0_inside m0_can m0_fewest m0_waysTo m0_then m0_two m0_nextTwo m0_three m0_nextThree m0_shut m0_worth m0_digit m0_codes m0_most m0_bestTry m0_dayCourt m0_dayHour m0_dayNo m0_x m0_courts cA_m0_courts f_m0_courts) → va_S A s.heap H locs → lv_has ls 3 [(0, .ref m0), (1, .int p1), (2, .int v2_4)] → W p l e R s m args below meth c H locs 0 0 (MQ below Qc args s 0 0 A) (F0 m 23 ls []) := by
      intro t_1
      induction t_1 with
      | zero => intro v2_4 b_v2_4 H locs ls hmu _ _ _ _ _; exact absurd hmu (by first | with_reducible assumption | omega)
      | succ t_1 ih_1 =>
        intro v2_4 b_v2_4 H locs ls hmu hF hP hD hS hl
        replace hF := hF.trans L_X10_empty_1_s
        refine lv_iload_n hx hb dX10_empty_23 rfl (lv_at hl 2 rfl) ?_
        refine lv_if_le (tgt := 44) hx hb dX10_empty_24 (by decide) (fun c_5 => ?_) (fun c_5 => ?_)
        · have ic_5 := zz_le rfl (show Int32.toInt 0 = 0 from by decide) c_5
          replace hF := hF.trans (if_pos c_5)
          refine lv_iload_n hx hb dX10_empty_44 rfl (lv_at hl 2 rfl) ?_
          have hF : RR = (v2_4, (0 : Int32)) := hF
          exact W.iret (v := v2_4) hx hb hr (fun t ht hW => by rw [← hQe]; exact ⟨⟨v2_4, (), rfl, ⟨by omega, (by rw [← hRR, hF])⟩, ⟨(0), (by rw [← hRR, hF]), z_ret hP hK hD ht hW [7, 0, 8, 1, 2, 3, 4, 5, 6] [] rfl (by decide) rfl⟩⟩, hS.F ht⟩) hS.2.2 dX10_empty_45
        · have ic_5 := zz_nle rfl (show Int32.toInt 0 = 0 from by decide) c_5
          replace hF := hF.trans (if_neg c_5)
          refine lv_aload_n hx hb dX10_empty_27 rfl (lv_at hl 0 rfl) ?_
          refine lv_iload_n hx hb dX10_empty_28 rfl (lv_at hl 1 rfl) ?_
          refine lv_iload_n hx hb dX10_empty_29 rfl (lv_at hl 2 rfl) ?_
          refine lv_iconst (v := 1) hx hb dX10_empty_30 (by decide) ?_
          refine lv_isub hx hb dX10_empty_31 ?_
          refine lv_topi (fun x_6 ex_6 => ?_)
          replace hF := hF.trans (zL_eq ex_6)
          have b_x_6 : x_6.toInt = v2_4.toInt - 1 := by rw [ex_6]; exact zi_sub rfl (show Int32.toInt 1 = 1 from by decide) (z_rsc b_v2_4 (by decide))
          obtain ⟨hPc, hDc, hFc⟩ := z_cut (wc := (zV105 m0 m0_width m0_many m0_cells m0_moved m0_tape m0_taped m0_at m0_token m0_place m0_value m0_word m0_bad m0_badPlace m0_fault m0_faultPlace m0_lines m0_hours m0_courts m0_in m0_gates m0_gate m0_people m0_at0 m0_stray m0_set m0_once m0_truth m0_known m0_isKept m0_strays m0_hostPerson m0_hostCourt m0_outside m0_inside m0_can m0_fewest m0_waysTo m0_then m0_two m0_nextTwo m0_three m0_nextThree m0_shut m0_worth m0_digit m0_codes m0_most m0_bestTry m0_dayCourt m0_dayHour m0_dayNo m0_x m0_in cA_m0_in f_m0_in m0_people cA_m0_people f_m0_people m0_at0 cA_m0_at0 f_m0_at0 m0_stray cA_m0_stray f_m0_stray m0_set cA_m0_set f_m0_set m0_truth cA_m0_truth f_m0_truth)) hP hD hS hA [7, 1, 2, 3, 4, 5, 6] rfl (by decide +kernel)
          have hKc := hK.sub (tys' := [(cA_m0_in, .int), (cA_m0_people, .int), (cA_m0_at0, .int), (cA_m0_stray, .int), (cA_m0_set, .int), (cA_m0_truth, .int)]) [2, 3, 4, 5, 6, 7] rfl
          refine va_calli (va_runV (As := [.int p1, .int x_6]) (rest := []) ⟨hx, hb, hml, hown, hts⟩ (kf_X10_withinOf l sa dC dI m0 p1 x_6 (0) m0_width m0_many m0_cells m0_moved m0_tape m0_taped m0_at m0_token m0_place m0_value m0_word m0_bad m0_badPlace m0_fault m0_faultPlace m0_lines m0_hours m0_courts m0_in m0_gates m0_gate m0_people m0_at0 m0_stray m0_set m0_once m0_truth m0_known m0_isKept m0_strays m0_hostPerson m0_hostCourt m0_outside m0_inside m0_can m0_fewest m0_waysTo m0_then m0_two m0_nextTwo m0_three m0_nextThree m0_shut m0_worth m0_digit m0_codes m0_most m0_bestTry m0_dayCourt m0_dayHour m0_dayNo m0_x cA_m0_in f_m0_in cA_m0_people f_m0_people cA_m0_at0 f_m0_at0 cA_m0_stray f_m0_stray cA_m0_set f_m0_set cA_m0_truth f_m0_truth (by first | with_reducible assumption | omega) b_m0_taped b_m0_at b_m0_token b_m0_value b_m0_bad b_m0_strays b_m0_hostCourt b_m0_dayCourt b_m0_dayHour (zIc.go hep_0 (by first | with_reducible assumption | omega) b_f_m0_in) b_f_m0_people b_f_m0_at0 b_f_m0_stray b_f_m0_set H.size) (cwV 2 hts (z_gV zw_t7_201 zw_t7_203 zw_s6_0 zw_t1_11 zw_t7_204) rfl rfl rfl (by decide +kernel) (by rw [← hRe]; exact ⟨(Nat.le_of_ble_eq_true rfl), (Nat.le_of_ble_eq_true rfl)⟩)) (z_preV hPc hKc hDc hN hXs hS hFc (q := (RX10, TX10, 53)) (ci := 10) (q0 := 0) rfl rfl) rfl rfl hl.1 rfl (lv_room (Nat.le_of_ble_eq_true rfl)) dX10_empty_32 (by rw [← hRe]; exact ⟨(Nat.le_of_ble_eq_true rfl), (Nat.le_of_ble_eq_true rfl)⟩)) hS (fun q _ h => hFc q h) hFc (fun r_7 u t H1 locs ht hvm hw hB hz1 hk1 hS => ?_)
          obtain ⟨hP, hD, hK⟩ := z_after3 (wn := (zV298 m0_hours cA_m0_hours f_m0_hours m0_courts cA_m0_courts f_m0_courts m0 m0_width m0_many m0_cells m0_moved m0_tape m0_taped m0_at m0_token m0_place m0_value m0_word m0_bad m0_badPlace m0_fault m0_faultPlace m0_lines m0_hours m0_courts m0_in m0_gates m0_gate m0_people m0_at0 m0_stray m0_set m0_once m0_truth m0_known m0_isKept m0_strays m0_hostPerson m0_hostCourt m0_outside m0_inside m0_can m0_fewest m0_waysTo m0_then m0_two m0_nextTwo m0_three m0_nextThree m0_shut m0_worth m0_digit m0_codes m0_most m0_bestTry m0_dayCourt m0_dayHour m0_dayNo m0_x m0_in cA_m0_in f_m0_in m0_people cA_m0_people f_m0_people m0_at0 cA_m0_at0 f_m0_at0 m0_stray cA_m0_stray f_m0_stray m0_set cA_m0_set f_m0_set m0_truth cA_m0_truth f_m0_truth)) hB ht hvm hP hD hK [7, 1, 2, 3, 4, 5, 6] [0, 8] rfl 9 rfl (by decide +kernel) rfl (by decide +kernel) hk1 hFc
          generalize H1 = H at hP hS ⊢
          have hK : va_K (dC, dI) vwCl [(cA_m0_hours, .int), (cA_m0_courts, .int), (cA_m0_in, .int), (cA_m0_people, .int), (cA_m0_at0, .int), (cA_m0_stray, .int), (cA_m0_set, .int), (cA_m0_truth, .int)] s := hK
          have b_r_7 : 0 ≤ r_7.toInt ∧ r_7.toInt ≤ 1023 := hw.1
          have sf_r_7 := hw.2
          replace hF := hF.trans (zL_eq sf_r_7)
          refine lv_if_ne (tgt := 44) hx hb dX10_empty_35 (by decide) (fun c_8 => ?_) (fun c_8 => ?_)
          · have ic_8 := zz_ne rfl (show Int32.toInt 0 = 0 from by decide) c_8
            replace hF := hF.trans (if_neg c_8)
            refine lv_iload_n hx hb dX10_empty_44 rfl (lv_at hl 2 rfl) ?_
            have hF : RR = (v2_4, (0 : Int32)) := hF
            exact W.iret (v := v2_4) hx hb hr (fun t ht hW => by rw [← hQe]; exact ⟨⟨v2_4, (), rfl, ⟨by omega, (by rw [← hRR, hF])⟩, ⟨(0), (by rw [← hRR, hF]), z_ret hP hK hD ht hW [2, 0, 1, 3, 4, 5, 6, 7, 8] [] rfl (by decide) rfl⟩⟩, hS.F ht⟩) hS.2.2 dX10_empty_45
          · have ic_8 := zz_nne rfl (show Int32.toInt 0 = 0 from by decide) c_8
            replace hF := hF.trans (if_pos c_8)
            obtain ⟨x_9, ex_9⟩ : ∃ z : Int32, z = v2_4 + Int32.ofInt (-1) := ⟨_, rfl⟩
            have b_x_9 : x_9.toInt = v2_4.toInt + (-1) := by rw [ex_9]; exact zi_add rfl (show (Int32.ofInt (-1)).toInt = (-1) from by decide) (z_rac b_v2_4 (by decide))
            refine lv_iinc (v := x_9) (lv' := [(2, .int x_9), (0, .ref m0), (1, .int p1)]) hx hb dX10_empty_38 hl (k := 2) rfl ex_9.symm (by decide) rfl (fun ls hl => ?_)
            replace hF := hF.trans (zL_eq ex_9)
            refine lv_goto (tgt := 23) hx hb dX10_empty_41 (by decide) ?_
            exact ih_1 x_9 (by first | with_reducible assumption | omega) _ _ _ (by first | with_reducible assumption | omega) hF (hP.sub (ws' := (zV297 m0_hours cA_m0_hours f_m0_hours m0_in cA_m0_in f_m0_in m0_people cA_m0_people f_m0_people m0_at0 cA_m0_at0 f_m0_at0 m0_stray cA_m0_stray f_m0_stray m0_set cA_m0_set f_m0_set m0_truth cA_m0_truth f_m0_truth m0 m0_width m0_many m0_cells m0_moved m0_tape m0_taped m0_at m0_token m0_place m0_value m0_word m0_bad m0_badPlace m0_fault m0_faultPlace m0_lines m0_hours m0_courts m0_in m0_gates m0_gate m0_people m0_at0 m0_stray m0_set m0_once m0_truth m0_known m0_isKept m0_strays m0_hostPerson m0_hostCourt m0_outside m0_inside m0_can m0_fewest m0_waysTo m0_then m0_two m0_nextTwo m0_three m0_nextThree m0_shut m0_worth m0_digit m0_codes m0_most m0_bestTry m0_dayCourt m0_dayHour m0_dayNo m0_x m0_courts cA_m0_courts f_m0_courts)) [0, 3, 4, 5, 6, 7, 8, 2, 1] rfl) (hD.sub (ws' := (zV297 m0_hours cA_m0_hours f_m0_hours m0_in cA_m0_in f_m0_in m0_people cA_m0_people f_m0_people m0_at0 cA_m0_at0 f_m0_at0 m0_stray cA_m0_stray f_m0_stray m0_set cA_m0_set f_m0_set m0_truth cA_m0_truth f_m0_truth m0 m0_width m0_many m0_cells m0_moved m0_tape m0_taped m0_at m0_token m0_place m0_value m0_word m0_bad m0_badPlace m0_fault m0_faultPlace m0_lines m0_hours m0_courts m0_in m0_gates m0_gate m0_people m0_at0 m0_stray m0_set m0_once m0_truth m0_known m0_isKept m0_strays m0_hostPerson m0_hostCourt m0_outside m0_inside m0_can m0_fewest m0_waysTo m0_then m0_two m0_nextTwo m0_three m0_nextThree m0_shut m0_worth m0_digit m0_codes m0_most m0_bestTry m0_dayCourt m0_dayHour m0_dayNo m0_x m0_courts cA_m0_courts f_m0_courts)) [0, 3, 4, 5, 6, 7, 8, 2, 1] (by decide) rfl) hS (lv_sub hl [1, 2, 0] rfl)
    exact loop_1 50 x_3 (by first | with_reducible assumption | omega) _ _ _ (by first | with_reducible assumption | omega) hF hP hD hS (lv_sub hl [1, 2, 0] rfl)
  · have ic_2 := zz_nne rfl (show Int32.toInt 0 = 0 from by decide) c_2
    replace hF := hF.trans (if_pos c_2)
    refine lv_bipush (v := (-2)) hx hb dX10_empty_13 (by decide) ?_
    have hF : RR = ((-2 : Int32), (0 : Int32)) := hF
    have zc : Int32.toInt (-2) = (-2) := by decide
    exact W.iret (v := (-2)) hx hb hr (fun t ht hW => by rw [← hQe]; exact ⟨⟨(-2), (), rfl, ⟨by decide, (by rw [← hRR, hF])⟩, ⟨(0), (by rw [← hRR, hF]), z_ret hP hK hD ht hW [7, 0, 8, 1, 2, 3, 4, 5, 6] [] rfl (by decide) rfl⟩⟩, hS.F ht⟩) hS.2.2 dX10_empty_15
set_option maxHeartbeats 4000000 in
set_option maxRecDepth 100000 in
theorem kf_X10_hollow (l : Launch) (sa : Nat → Nat) (dC : Nat → ClassId) (dI : Nat → Nat → Nat) (m0 : Nat) (p1 : Int32) (m0_thrown : Int32) (m0_width : Nat) (m0_many : Nat) (m0_cells : Nat) (m0_moved : Nat) (m0_tape : Nat) (m0_taped : Int32) (m0_at : Int32) (m0_token : Int32) (m0_place : Int32) (m0_value : Int32) (m0_word : Int64) (m0_bad : Int32) (m0_badPlace : Int32) (m0_fault : Int32) (m0_faultPlace : Int32) (m0_lines : Nat) (m0_hours : Nat) (m0_courts : Nat) (m0_in : Nat) (m0_gates : Nat) (m0_gate : Nat) (m0_people : Nat) (m0_at0 : Nat) (m0_stray : Nat) (m0_set : Nat) (m0_once : Nat) (m0_truth : Nat) (m0_known : Nat) (m0_isKept : Nat) (m0_strays : Int32) (m0_hostPerson : Int32) (m0_hostCourt : Int32) (m0_outside : Int32) (m0_inside : Nat) (m0_can : Nat) (m0_fewest : Nat) (m0_waysTo : Nat) (m0_then : Nat) (m0_two : Nat) (m0_nextTwo : Nat) (m0_three : Nat) (m0_nextThree : Nat) (m0_shut : Int32) (m0_worth : Nat) (m0_digit : Nat) (m0_codes : Int32) (m0_most : Int64) (m0_bestTry : Int32) (m0_dayCourt : Int32) (m0_dayHour : Int32) (m0_dayNo : Int32) (m0_x : Int64) (cA_m0_hours : ClassId) (f_m0_hours : Nat → Int32) (cA_m0_courts : ClassId) (f_m0_courts : Nat → Int32) (cA_m0_in : ClassId) (f_m0_in : Nat → Int32) (cA_m0_people : ClassId) (f_m0_people : Nat → Int32) (cA_m0_at0 : ClassId) (f_m0_at0 : Nat → Int32) (cA_m0_stray : ClassId) (f_m0_stray : Nat → Int32) (cA_m0_set : ClassId) (f_m0_set : Nat → Int32) (cA_m0_truth : ClassId) (f_m0_truth : Nat → Int32) (b_m0_taped : 0 ≤ m0_taped.toInt ∧ m0_taped.toInt ≤ 1600) (b_m0_at : 0 ≤ m0_at.toInt ∧ m0_at.toInt ≤ 1600) (b_m0_token : 0 ≤ m0_token.toInt ∧ m0_token.toInt ≤ 4) (b_m0_value : 0 ≤ m0_value.toInt ∧ m0_value.toInt ≤ 1000009) (b_m0_bad : 0 ≤ m0_bad.toInt ∧ m0_bad.toInt ≤ 3) (b_m0_strays : 0 ≤ m0_strays.toInt ∧ m0_strays.toInt ≤ 5) (b_m0_hostCourt : 0 ≤ m0_hostCourt.toInt ∧ m0_hostCourt.toInt ≤ 9) (b_m0_dayCourt : 0 ≤ m0_dayCourt.toInt ∧ m0_dayCourt.toInt ≤ 9) (b_m0_dayHour : 0 ≤ m0_dayHour.toInt ∧ m0_dayHour.toInt ≤ 48) (b_f_m0_hours : ∀ j : Nat, 0 ≤ (f_m0_hours j).toInt ∧ (f_m0_hours j).toInt ≤ 48) (b_f_m0_courts : ∀ j : Nat, 0 ≤ (f_m0_courts j).toInt ∧ (f_m0_courts j).toInt ≤ 10) (b_f_m0_in : ∀ j : Nat, ¬ j % 10 = 0 → (-1) ≤ (f_m0_in j).toInt ∧ (f_m0_in j).toInt < ((j % 10 : Nat) : Int)) (b_f_m0_people : ∀ j : Nat, 0 ≤ (f_m0_people j).toInt ∧ (f_m0_people j).toInt ≤ 10) (b_f_m0_at0 : ∀ j : Nat, 0 ≤ (f_m0_at0 j).toInt ∧ (f_m0_at0 j).toInt ≤ 9) (b_f_m0_stray : ∀ j : Nat, 0 ≤ (f_m0_stray j).toInt ∧ (f_m0_stray j).toInt ≤ 99 ∧ (j % 2 = 1 → (f_m0_stray j).toInt ≤ 9)) (b_f_m0_set : ∀ j : Nat, 0 ≤ (f_m0_set j).toInt ∧ (f_m0_set j).toInt ≤ 9) (hep_0 : zIc f_m0_in (f_m0_courts (Int32.toNatClampNeg 0)).toInt) (sz : Nat) : Met l yX10_hollow (.code yX10_hollow cX10_hollow 4 (some .int) :: zT) ({ frames := 4, cells := 0, slots := 0, locals := 94 }) (va_Pc [.ref m0, .int p1] (zB sa dC dI (zV295 m0 m0_thrown m0_width m0_many m0_cells m0_moved m0_tape m0_taped m0_at m0_token m0_place m0_value m0_word m0_bad m0_badPlace m0_fault m0_faultPlace m0_lines m0_hours m0_courts m0_in m0_gates m0_gate m0_people m0_at0 m0_stray m0_set m0_once m0_truth m0_known m0_isKept m0_strays m0_hostPerson m0_hostCourt m0_outside m0_inside m0_can m0_fewest m0_waysTo m0_then m0_two m0_nextTwo m0_three m0_nextThree m0_shut m0_worth m0_digit m0_codes m0_most m0_bestTry m0_dayCourt m0_dayHour m0_dayNo m0_x m0_hours cA_m0_hours f_m0_hours m0_courts cA_m0_courts f_m0_courts m0_in cA_m0_in f_m0_in m0_people cA_m0_people f_m0_people m0_at0 cA_m0_at0 f_m0_at0 m0_stray cA_m0_stray f_m0_stray m0_set cA_m0_set f_m0_set m0_truth cA_m0_truth f_m0_truth) [(cA_m0_hours, .int), (cA_m0_courts, .int), (cA_m0_in, .int), (cA_m0_people, .int), (cA_m0_at0, .int), (cA_m0_stray, .int), (cA_m0_set, .int), (cA_m0_truth, .int)] sz)) (va_Qi (fun (r : Int32) (_ : Unit) => r = (F_X10_hollow p1 m0_hostPerson m0_hostCourt m0_outside f_m0_hours f_m0_courts f_m0_in f_m0_people f_m0_at0 f_m0_stray f_m0_set f_m0_truth).1) (fun _ t => ∃ (n_m0_0 : Int32), (n_m0_0 = (F_X10_hollow p1 m0_hostPerson m0_hostCourt m0_outside f_m0_hours f_m0_courts f_m0_in f_m0_people f_m0_at0 f_m0_stray f_m0_set f_m0_truth).2) ∧ zW dC dI (zV295 m0 n_m0_0 m0_width m0_many m0_cells m0_moved m0_tape m0_taped m0_at m0_token m0_place m0_value m0_word m0_bad m0_badPlace m0_fault m0_faultPlace m0_lines m0_hours m0_courts m0_in m0_gates m0_gate m0_people m0_at0 m0_stray m0_set m0_once m0_truth m0_known m0_isKept m0_strays m0_hostPerson m0_hostCourt m0_outside m0_inside m0_can m0_fewest m0_waysTo m0_then m0_two m0_nextTwo m0_three m0_nextThree m0_shut m0_worth m0_digit m0_codes m0_most m0_bestTry m0_dayCourt m0_dayHour m0_dayNo m0_x m0_hours cA_m0_hours f_m0_hours m0_courts cA_m0_courts f_m0_courts m0_in cA_m0_in f_m0_in m0_people cA_m0_people f_m0_people m0_at0 cA_m0_at0 f_m0_at0 m0_stray cA_m0_stray f_m0_stray m0_set cA_m0_set f_m0_set m0_truth cA_m0_truth f_m0_truth) [] (va_A (zV295 m0 m0_thrown m0_width m0_many m0_cells m0_moved m0_tape m0_taped m0_at m0_token m0_place m0_value m0_word m0_bad m0_badPlace m0_fault m0_faultPlace m0_lines m0_hours m0_courts m0_in m0_gates m0_gate m0_people m0_at0 m0_stray m0_set m0_once m0_truth m0_known m0_isKept m0_strays m0_hostPerson m0_hostCourt m0_outside m0_inside m0_can m0_fewest m0_waysTo m0_then m0_two m0_nextTwo m0_three m0_nextThree m0_shut m0_worth m0_digit m0_codes m0_most m0_bestTry m0_dayCourt m0_dayHour m0_dayNo m0_x m0_hours cA_m0_hours f_m0_hours m0_courts cA_m0_courts f_m0_courts m0_in cA_m0_in f_m0_in m0_people cA_m0_people f_m0_people m0_at0 cA_m0_at0 f_m0_at0 m0_stray cA_m0_stray f_m0_stray m0_set cA_m0_set f_m0_set m0_truth cA_m0_truth f_m0_truth) sz) t) (va_A (zV295 m0 m0_thrown m0_width m0_many m0_cells m0_moved m0_tape m0_taped m0_at m0_token m0_place m0_value m0_word m0_bad m0_badPlace m0_fault m0_faultPlace m0_lines m0_hours m0_courts m0_in m0_gates m0_gate m0_people m0_at0 m0_stray m0_set m0_once m0_truth m0_known m0_isKept m0_strays m0_hostPerson m0_hostCourt m0_outside m0_inside m0_can m0_fewest m0_waysTo m0_then m0_two m0_nextTwo m0_three m0_nextThree m0_shut m0_worth m0_digit m0_codes m0_most m0_bestTry m0_dayCourt m0_dayHour m0_dayNo m0_x m0_hours cA_m0_hours f_m0_hours m0_courts cA_m0_courts f_m0_courts m0_in cA_m0_in f_m0_in m0_people cA_m0_people f_m0_people m0_at0 cA_m0_at0 f_m0_at0 m0_stray cA_m0_stray f_m0_stray m0_set cA_m0_set f_m0_set m0_truth cA_m0_truth f_m0_truth) sz)) 0 0 (va_A (zV295 m0 m0_thrown m0_width m0_many m0_cells m0_moved m0_tape m0_taped m0_at m0_token m0_place m0_value m0_word m0_bad m0_badPlace m0_fault m0_faultPlace m0_lines m0_hours m0_courts m0_in m0_gates m0_gate m0_people m0_at0 m0_stray m0_set m0_once m0_truth m0_known m0_isKept m0_strays m0_hostPerson m0_hostCourt m0_outside m0_inside m0_can m0_fewest m0_waysTo m0_then m0_two m0_nextTwo m0_three m0_nextThree m0_shut m0_worth m0_digit m0_codes m0_most m0_bestTry m0_dayCourt m0_dayHour m0_dayNo m0_x m0_hours cA_m0_hours f_m0_hours m0_courts cA_m0_courts f_m0_courts m0_in cA_m0_in f_m0_in m0_people cA_m0_people f_m0_people m0_at0 cA_m0_at0 f_m0_at0 m0_stray cA_m0_stray f_m0_stray m0_set cA_m0_set f_m0_set m0_truth cA_m0_truth f_m0_truth) sz) := by
  refine z_enter (by decide) (by exact (Nat.le_of_ble_eq_true rfl)) ?_
  intro p e s m args below meth c ls A R Qc hargs hsz hQe hAe hRe hx hb hml hr hts hown hlocks hin hl hP hK hD hN hXs hA hS
  rw [hAe] at hQe
  have hown : s.vm.findClass RX10 = some m.cls := hown
  have hl : lv_has ls 4 [(0, .ref m0), (1, .int p1)] := hl
  obtain ⟨RR, hRR⟩ : ∃ z : Int32 × Int32, z = (F_X10_hollow p1 m0_hostPerson m0_hostCourt m0_outside f_m0_hours f_m0_courts f_m0_in f_m0_people f_m0_at0 f_m0_stray f_m0_set f_m0_truth) := ⟨_, rfl⟩
  have hF : RR = (F_X10_hollow p1 m0_hostPerson m0_hostCourt m0_outside f_m0_hours f_m0_courts f_m0_in f_m0_people f_m0_at0 f_m0_stray f_m0_set f_m0_truth) := hRR
  refine lv_aload_n hx hb dX10_hollow_0 rfl (lv_at hl 0 rfl) ?_
  refine lv_iconst (v := 0) hx hb dX10_hollow_1 (by decide) ?_
  refine va_put (D := (dC, dI)) (ci := 10) (v := .int 0) (ty := .int) (C := RX10) (T := TX10) (N := 53) hx hb hts zl_X10 tyX10 tyX10_ok nmX10 hown hK hP hD hS 0 rfl rfl 0 (by decide) (hts _ zw_t6_100) (fun _ h9 => h9) rfl (by decide +kernel) rfl rfl (Nat.le_of_ble_eq_true rfl) dX10_hollow_2 (fun H locs hP hD hS => ?_)
  have hP : va_P (dC, dI) vwCl (zV296 m0 m0_width m0_many m0_cells m0_moved m0_tape m0_taped m0_at m0_token m0_place m0_value m0_word m0_bad m0_badPlace m0_fault m0_faultPlace m0_lines m0_hours m0_courts m0_in m0_gates m0_gate m0_people m0_at0 m0_stray m0_set m0_once m0_truth m0_known m0_isKept m0_strays m0_hostPerson m0_hostCourt m0_outside m0_inside m0_can m0_fewest m0_waysTo m0_then m0_two m0_nextTwo m0_three m0_nextThree m0_shut m0_worth m0_digit m0_codes m0_most m0_bestTry m0_dayCourt m0_dayHour m0_dayNo m0_x m0_hours cA_m0_hours f_m0_hours m0_courts cA_m0_courts f_m0_courts m0_in cA_m0_in f_m0_in m0_people cA_m0_people f_m0_people m0_at0 cA_m0_at0 f_m0_at0 m0_stray cA_m0_stray f_m0_stray m0_set cA_m0_set f_m0_set m0_truth cA_m0_truth f_m0_truth) H := hP
  have hD : va_D A (zV296 m0 m0_width m0_many m0_cells m0_moved m0_tape m0_taped m0_at m0_token m0_place m0_value m0_word m0_bad m0_badPlace m0_fault m0_faultPlace m0_lines m0_hours m0_courts m0_in m0_gates m0_gate m0_people m0_at0 m0_stray m0_set m0_once m0_truth m0_known m0_isKept m0_strays m0_hostPerson m0_hostCourt m0_outside m0_inside m0_can m0_fewest m0_waysTo m0_then m0_two m0_nextTwo m0_three m0_nextThree m0_shut m0_worth m0_digit m0_codes m0_most m0_bestTry m0_dayCourt m0_dayHour m0_dayNo m0_x m0_hours cA_m0_hours f_m0_hours m0_courts cA_m0_courts f_m0_courts m0_in cA_m0_in f_m0_in m0_people cA_m0_people f_m0_people m0_at0 cA_m0_at0 f_m0_at0 m0_stray cA_m0_stray f_m0_stray m0_set cA_m0_set f_m0_set m0_truth cA_m0_truth f_m0_truth) := hD
  refine lv_aload_n hx hb dX10_hollow_5 rfl (lv_at hl 0 rfl) ?_
  refine lv_iload_n hx hb dX10_hollow_6 rfl (lv_at hl 1 rfl) ?_
  obtain ⟨hPc, hDc, hFc⟩ := z_cut (wc := (zV102 m0 m0_width m0_many m0_cells m0_moved m0_tape m0_taped m0_at m0_token m0_place m0_value m0_word m0_bad m0_badPlace m0_fault m0_faultPlace m0_lines m0_hours m0_courts m0_in m0_gates m0_gate m0_people m0_at0 m0_stray m0_set m0_once m0_truth m0_known m0_isKept m0_strays m0_hostPerson m0_hostCourt m0_outside m0_inside m0_can m0_fewest m0_waysTo m0_then m0_two m0_nextTwo m0_three m0_nextThree m0_shut m0_worth m0_digit m0_codes m0_most m0_bestTry m0_dayCourt m0_dayHour m0_dayNo m0_x m0_courts cA_m0_courts f_m0_courts)) hP hD hS hA [0, 2] rfl (by decide +kernel)
  have hKc := hK.sub (tys' := [(cA_m0_courts, .int)]) [1] rfl
  refine va_calli (va_runV (As := [.int p1]) (rest := []) ⟨hx, hb, hml, hown, hts⟩ (kf_X10_isCourt l sa dC dI m0 p1 (0) m0_width m0_many m0_cells m0_moved m0_tape m0_taped m0_at m0_token m0_place m0_value m0_word m0_bad m0_badPlace m0_fault m0_faultPlace m0_lines m0_hours m0_courts m0_in m0_gates m0_gate m0_people m0_at0 m0_stray m0_set m0_once m0_truth m0_known m0_isKept m0_strays m0_hostPerson m0_hostCourt m0_outside m0_inside m0_can m0_fewest m0_waysTo m0_then m0_two m0_nextTwo m0_three m0_nextThree m0_shut m0_worth m0_digit m0_codes m0_most m0_bestTry m0_dayCourt m0_dayHour m0_dayNo m0_x cA_m0_courts f_m0_courts b_m0_taped b_m0_at b_m0_token b_m0_value b_m0_bad b_m0_strays b_m0_hostCourt b_m0_dayCourt b_m0_dayHour b_f_m0_courts H.size) (cwV 1 hts (z_gV zw_t7_197 zw_t7_199 zw_s5_15 zw_t1_11 zw_t7_200) rfl rfl rfl (by decide +kernel) (by rw [← hRe]; exact ⟨(Nat.le_of_ble_eq_true rfl), (Nat.le_of_ble_eq_true rfl)⟩)) (z_preV hPc hKc hDc hN hXs hS hFc (q := (RX10, TX10, 53)) (ci := 10) (q0 := 0) rfl rfl) rfl rfl hl.1 rfl (lv_room (Nat.le_of_ble_eq_true rfl)) dX10_hollow_7 (by rw [← hRe]; exact ⟨(Nat.le_of_ble_eq_true rfl), (Nat.le_of_ble_eq_true rfl)⟩)) hS (fun q _ h => hFc q h) hFc (fun r_1 u t H1 locs ht hvm hw hB hz1 hk1 hS => ?_)
  obtain ⟨hP, hD, hK⟩ := z_after3 (wn := (zV297 m0_hours cA_m0_hours f_m0_hours m0_in cA_m0_in f_m0_in m0_people cA_m0_people f_m0_people m0_at0 cA_m0_at0 f_m0_at0 m0_stray cA_m0_stray f_m0_stray m0_set cA_m0_set f_m0_set m0_truth cA_m0_truth f_m0_truth m0 m0_width m0_many m0_cells m0_moved m0_tape m0_taped m0_at m0_token m0_place m0_value m0_word m0_bad m0_badPlace m0_fault m0_faultPlace m0_lines m0_hours m0_courts m0_in m0_gates m0_gate m0_people m0_at0 m0_stray m0_set m0_once m0_truth m0_known m0_isKept m0_strays m0_hostPerson m0_hostCourt m0_outside m0_inside m0_can m0_fewest m0_waysTo m0_then m0_two m0_nextTwo m0_three m0_nextThree m0_shut m0_worth m0_digit m0_codes m0_most m0_bestTry m0_dayCourt m0_dayHour m0_dayNo m0_x m0_courts cA_m0_courts f_m0_courts)) hB ht hvm hP hD hK [0, 2] [1, 3, 4, 5, 6, 7, 8] rfl 9 rfl (by decide +kernel) rfl (by decide +kernel) hk1 hFc
  generalize H1 = H at hP hS ⊢
  have hK : va_K (dC, dI) vwCl [(cA_m0_hours, .int), (cA_m0_courts, .int), (cA_m0_in, .int), (cA_m0_people, .int), (cA_m0_at0, .int), (cA_m0_stray, .int), (cA_m0_set, .int), (cA_m0_truth, .int)] s := hK
  have b_r_1 : 0 ≤ r_1.toInt ∧ r_1.toInt ≤ 1 := hw.1
  have s_r_1 := hw.2.1
  have sf_r_1 := hw.2.2
  replace hF := hF.trans (zL_eq sf_r_1)
  refine lv_if_ne (tgt := 16) hx hb dX10_hollow_10 (by decide) (fun c_2 => ?_) (fun c_2 => ?_)
  · have ic_2 := zz_ne rfl (show Int32.toInt 0 = 0 from by decide) c_2
    replace hF := hF.trans (if_neg c_2)
    refine lv_iconst (v := 0) hx hb dX10_hollow_16 (by decide) ?_
    refine lv_istore_n (lv' := [(2, .int 0), (0, .ref m0), (1, .int p1)]) hx hb dX10_hollow_17 rfl hl (by decide) rfl (fun ls hl => ?_)
    refine lv_iconst (v := 0) hx hb dX10_hollow_18 (by decide) ?_
    refine lv_istore_n (lv' := [(3, .int 0), (2, .int 0), (0, .ref m0), (1, .int p1)]) hx hb dX10_hollow_19 rfl hl (by decide) rfl (fun ls hl => ?_)
    have loop_1 : ∀ (t_1 : Nat) (v2_4 : Int32) (v3_3 : Int32) (b_v3_3 : 0 ≤ v3_3.toInt ∧ v3_3.toInt ≤ 48) (H : Heap) (locs : List Loc) (ls : Array Slot), 48 - v3_3.toInt < (t_1 : Int) → RR = L_X10_hollow_1 f_m0_hours p1 m0_hostPerson m0_hostCourt m0_outside f_m0_in f_m0_people f_m0_at0 f_m0_stray f_m0_set f_m0_truth K_X10_hollow_1_0 t_1 v2_4 v3_3 → va_P (dC, dI) vwCl (zV297 m0_hours cA_m0_hours f_m0_hours m0_in cA_m0_in f_m0_in m0_people cA_m0_people f_m0_people m0_at0 cA_m0_at0 f_m0_at0 m0_stray cA_m0_stray f_m0_stray m0_set cA_m0_set f_m0_set m0_truth cA_m0_truth f_m0_truth m0 m0_width m0_many m0_cells m0_moved m0_tape m0_taped m0_at m0_token m0_place m0_value m0_word m0_bad m0_badPlace m0_fault m0_faultPlace m0_lines m0_hours m0_courts m0_in m0_gates m0_gate m0_people m0_at0 m0_stray m0_set m0_once m0_truth m0_known m0_isKept m0_strays m0_hostPerson m0_hostCourt m0_outside m0_inside m0_can m0_fewest m0_waysTo m0_then m0_two m0_nextTwo m0_three m0_nextThree m0_shut m0_worth m0_digit m0_codes m0_most m0_bestTry m0_dayCourt m0_dayHour m0_dayNo m0_x m0_courts cA_m0_courts f_m0_courts) H → va_D A (zV297 m0_hours cA_m0_hours f_m0_hours m0_in cA_m0_in f_m0_in m0_people cA_m0_people f_m0_people m0_at0 cA_m0_at0 f_m0_at0 m0_stray cA_m0_stray f_m0_stray m0_set cA_m0_set f_m0_set m0_truth cA_m0_truth f_m0_truth m0 m0_width m0_many m0_cells m0_moved m0_tape m0_taped m0_at m0_token m0_place m0_value m0_word m0_bad m0_badPlace m0_fault m0_faultPlace m0_lines m0_hours m0_courts m0_in m0_gates m0_gate m0_people m0_at0 m0_stray m0_set m0_once m0_truth m0_known m0_isKept m0_strays m0_hostPerson m0_hostCourt m0_outside m0_inside m0_can m0_fewest m0_waysTo m0_then m0_two m0_nextTwo m0_three m0_nextThree m0_shut m0_worth m0_digit m0_codes m0_most m0_bestTry m0_dayCourt m0_dayHour m0_dayNo m0_x m0_courts cA_m0_courts f_m0_courts) → va_S A s.heap H locs → lv_has ls 4 [(0, .ref m0), (1, .int p1), (2, .int v2_4), (3, .int v3_3)] → W p l e R s m args below meth c H locs 0 0 (MQ below Qc args s 0 0 A) (F0 m 20 ls []) := by
      intro t_1
      induction t_1 with
      | zero => intro v2_4 v3_3 b_v3_3 H locs ls hmu _ _ _ _ _; exact absurd hmu (by first | with_reducible assumption | omega)
      | succ t_1 ih_1 =>
        intro v2_4 v3_3 b_v3_3 H locs ls hmu hF hP hD hS hl
        replace hF := hF.trans L_X10_hollow_1_s
        refine lv_iload_n hx hb dX10_hollow_20 rfl (lv_at hl 3 rfl) ?_
        refine lv_aload_n hx hb dX10_hollow_21 rfl (lv_at hl 0 rfl) ?_
        refine va_get (D := (dC, dI)) (ci := 10) (v := .ref m0_hours) (C := RX10) (T := TX10) (N := 53) hx hb hts zl_X10 hown hK hP 7 rfl rfl 17 (by decide) (hts _ zw_t6_117) (fun _ h9 => h9) rfl dX10_hollow_22 ?_
        refine lv_iconst (v := 0) hx hb dX10_hollow_25 (by decide) ?_
        refine va_iald hx hb hK hP 0 0 rfl rfl (zi_in (show Int32.toInt 0 = 0 from by decide) (by decide)) dX10_hollow_26 ?_
        refine lv_topi (fun x_5 ex_5 => ?_)
        replace hF := hF.trans (zL_eq ex_5)
        have b_x_5 : 0 ≤ x_5.toInt ∧ x_5.toInt ≤ 48 := by rw [ex_5]; exact b_f_m0_hours _
        have t_x_5 : x_5.toInt = (f_m0_hours (Int32.toNatClampNeg 0)).toInt := by rw [ex_5]
        refine lv_icmp_ge (tgt := 53) hx hb dX10_hollow_27 (by decide) (fun c_6 => ?_) (fun c_6 => ?_)
        · have ic_6 := zz_ge rfl rfl c_6
          replace hF := hF.trans (if_pos c_6)
          refine lv_iload_n hx hb dX10_hollow_53 rfl (lv_at hl 2 rfl) ?_
          have hF : RR = (v2_4, (0 : Int32)) := hF
          exact W.iret (v := v2_4) hx hb hr (fun t ht hW => by rw [← hQe]; exact ⟨⟨v2_4, (), rfl, (by rw [← hRR, hF]), ⟨(0), (by rw [← hRR, hF]), z_ret hP hK hD ht hW [7, 0, 8, 1, 2, 3, 4, 5, 6] [] rfl (by decide) rfl⟩⟩, hS.F ht⟩) hS.2.2 dX10_hollow_54
        · have ic_6 := zz_nge rfl rfl c_6
          replace hF := hF.trans (if_neg c_6)
          refine lv_iload_n hx hb dX10_hollow_30 rfl (lv_at hl 2 rfl) ?_
          refine lv_aload_n hx hb dX10_hollow_31 rfl (lv_at hl 0 rfl) ?_
          refine lv_iload_n hx hb dX10_hollow_32 rfl (lv_at hl 1 rfl) ?_
          refine lv_iload_n hx hb dX10_hollow_33 rfl (lv_at hl 3 rfl) ?_
          obtain ⟨hPc, hDc, hFc⟩ := z_cut (wc := (zV105 m0 m0_width m0_many m0_cells m0_moved m0_tape m0_taped m0_at m0_token m0_place m0_value m0_word m0_bad m0_badPlace m0_fault m0_faultPlace m0_lines m0_hours m0_courts m0_in m0_gates m0_gate m0_people m0_at0 m0_stray m0_set m0_once m0_truth m0_known m0_isKept m0_strays m0_hostPerson m0_hostCourt m0_outside m0_inside m0_can m0_fewest m0_waysTo m0_then m0_two m0_nextTwo m0_three m0_nextThree m0_shut m0_worth m0_digit m0_codes m0_most m0_bestTry m0_dayCourt m0_dayHour m0_dayNo m0_x m0_in cA_m0_in f_m0_in m0_people cA_m0_people f_m0_people m0_at0 cA_m0_at0 f_m0_at0 m0_stray cA_m0_stray f_m0_stray m0_set cA_m0_set f_m0_set m0_truth cA_m0_truth f_m0_truth)) hP hD hS hA [7, 1, 2, 3, 4, 5, 6] rfl (by decide +kernel)
          have hKc := hK.sub (tys' := [(cA_m0_in, .int), (cA_m0_people, .int), (cA_m0_at0, .int), (cA_m0_stray, .int), (cA_m0_set, .int), (cA_m0_truth, .int)]) [2, 3, 4, 5, 6, 7] rfl
          refine va_calli (va_runV (As := [.int p1, .int v3_3]) (rest := [.int v2_4]) ⟨hx, hb, hml, hown, hts⟩ (kf_X10_withinOf l sa dC dI m0 p1 v3_3 (0) m0_width m0_many m0_cells m0_moved m0_tape m0_taped m0_at m0_token m0_place m0_value m0_word m0_bad m0_badPlace m0_fault m0_faultPlace m0_lines m0_hours m0_courts m0_in m0_gates m0_gate m0_people m0_at0 m0_stray m0_set m0_once m0_truth m0_known m0_isKept m0_strays m0_hostPerson m0_hostCourt m0_outside m0_inside m0_can m0_fewest m0_waysTo m0_then m0_two m0_nextTwo m0_three m0_nextThree m0_shut m0_worth m0_digit m0_codes m0_most m0_bestTry m0_dayCourt m0_dayHour m0_dayNo m0_x cA_m0_in f_m0_in cA_m0_people f_m0_people cA_m0_at0 f_m0_at0 cA_m0_stray f_m0_stray cA_m0_set f_m0_set cA_m0_truth f_m0_truth (by first | with_reducible assumption | omega) b_m0_taped b_m0_at b_m0_token b_m0_value b_m0_bad b_m0_strays b_m0_hostCourt b_m0_dayCourt b_m0_dayHour (zIc.go hep_0 (by first | with_reducible assumption | omega) b_f_m0_in) b_f_m0_people b_f_m0_at0 b_f_m0_stray b_f_m0_set H.size) (cwV 2 hts (z_gV zw_t7_201 zw_t7_203 zw_s6_0 zw_t1_11 zw_t7_204) rfl rfl rfl (by decide +kernel) (by rw [← hRe]; exact ⟨(Nat.le_of_ble_eq_true rfl), (Nat.le_of_ble_eq_true rfl)⟩)) (z_preV hPc hKc hDc hN hXs hS hFc (q := (RX10, TX10, 53)) (ci := 10) (q0 := 0) rfl rfl) rfl rfl hl.1 rfl (lv_room (Nat.le_of_ble_eq_true rfl)) dX10_hollow_34 (by rw [← hRe]; exact ⟨(Nat.le_of_ble_eq_true rfl), (Nat.le_of_ble_eq_true rfl)⟩)) hS (fun q _ h => hFc q h) hFc (fun r_7 u t H1 locs ht hvm hw hB hz1 hk1 hS => ?_)
          obtain ⟨hP, hD, hK⟩ := z_after3 (wn := (zV298 m0_hours cA_m0_hours f_m0_hours m0_courts cA_m0_courts f_m0_courts m0 m0_width m0_many m0_cells m0_moved m0_tape m0_taped m0_at m0_token m0_place m0_value m0_word m0_bad m0_badPlace m0_fault m0_faultPlace m0_lines m0_hours m0_courts m0_in m0_gates m0_gate m0_people m0_at0 m0_stray m0_set m0_once m0_truth m0_known m0_isKept m0_strays m0_hostPerson m0_hostCourt m0_outside m0_inside m0_can m0_fewest m0_waysTo m0_then m0_two m0_nextTwo m0_three m0_nextThree m0_shut m0_worth m0_digit m0_codes m0_most m0_bestTry m0_dayCourt m0_dayHour m0_dayNo m0_x m0_in cA_m0_in f_m0_in m0_people cA_m0_people f_m0_people m0_at0 cA_m0_at0 f_m0_at0 m0_stray cA_m0_stray f_m0_stray m0_set cA_m0_set f_m0_set m0_truth cA_m0_truth f_m0_truth)) hB ht hvm hP hD hK [7, 1, 2, 3, 4, 5, 6] [0, 8] rfl 9 rfl (by decide +kernel) rfl (by decide +kernel) hk1 hFc
          generalize H1 = H at hP hS ⊢
          have hK : va_K (dC, dI) vwCl [(cA_m0_hours, .int), (cA_m0_courts, .int), (cA_m0_in, .int), (cA_m0_people, .int), (cA_m0_at0, .int), (cA_m0_stray, .int), (cA_m0_set, .int), (cA_m0_truth, .int)] s := hK
          have b_r_7 : 0 ≤ r_7.toInt ∧ r_7.toInt ≤ 1023 := hw.1
          have sf_r_7 := hw.2
          replace hF := hF.trans (zL_eq sf_r_7)
          refine lv_if_ne (tgt := 44) hx hb dX10_hollow_37 (by decide) (fun c_8 => ?_) (fun c_8 => ?_)
          · have ic_8 := zz_ne rfl (show Int32.toInt 0 = 0 from by decide) c_8
            replace hF := hF.trans (if_neg c_8)
            refine lv_iconst (v := 0) hx hb dX10_hollow_44 (by decide) ?_
            refine lv_iadd hx hb dX10_hollow_45 ?_
            have nb9_v2_4 := zi_nb v2_4
            refine lv_topi (fun x_9 ex_9 => ?_)
            replace hF := hF.trans (zL_eq ex_9)
            have b_x_9 : x_9.toInt = v2_4.toInt + 0 := by rw [ex_9]; exact zi_add rfl (show Int32.toInt 0 = 0 from by decide) (by first | with_reducible assumption | omega)
            refine lv_istore_n (lv' := [(2, .int x_9), (0, .ref m0), (1, .int p1), (3, .int v3_3)]) hx hb dX10_hollow_46 rfl hl (by decide) rfl (fun ls hl => ?_)
            obtain ⟨x_10, ex_10⟩ : ∃ z : Int32, z = v3_3 + Int32.ofInt 1 := ⟨_, rfl⟩
            have b_x_10 : x_10.toInt = v3_3.toInt + 1 := by rw [ex_10]; exact zi_add rfl (show (Int32.ofInt 1).toInt = 1 from by decide) (z_rac b_v3_3 (by decide))
            refine lv_iinc (v := x_10) (lv' := [(3, .int x_10), (2, .int x_9), (0, .ref m0), (1, .int p1)]) hx hb dX10_hollow_47 hl (k := 3) rfl ex_10.symm (by decide) rfl (fun ls hl => ?_)
            replace hF := hF.trans (zL_eq ex_10)
            refine lv_goto (tgt := 20) hx hb dX10_hollow_50 (by decide) ?_
            exact ih_1 x_9 x_10 (by first | with_reducible assumption | omega) _ _ _ (by first | with_reducible assumption | omega) hF (hP.sub (ws' := (zV297 m0_hours cA_m0_hours f_m0_hours m0_in cA_m0_in f_m0_in m0_people cA_m0_people f_m0_people m0_at0 cA_m0_at0 f_m0_at0 m0_stray cA_m0_stray f_m0_stray m0_set cA_m0_set f_m0_set m0_truth cA_m0_truth f_m0_truth m0 m0_width m0_many m0_cells m0_moved m0_tape m0_taped m0_at m0_token m0_place m0_value m0_word m0_bad m0_badPlace m0_fault m0_faultPlace m0_lines m0_hours m0_courts m0_in m0_gates m0_gate m0_people m0_at0 m0_stray m0_set m0_once m0_truth m0_known m0_isKept m0_strays m0_hostPerson m0_hostCourt m0_outside m0_inside m0_can m0_fewest m0_waysTo m0_then m0_two m0_nextTwo m0_three m0_nextThree m0_shut m0_worth m0_digit m0_codes m0_most m0_bestTry m0_dayCourt m0_dayHour m0_dayNo m0_x m0_courts cA_m0_courts f_m0_courts)) [0, 3, 4, 5, 6, 7, 8, 2, 1] rfl) (hD.sub (ws' := (zV297 m0_hours cA_m0_hours f_m0_hours m0_in cA_m0_in f_m0_in m0_people cA_m0_people f_m0_people m0_at0 cA_m0_at0 f_m0_at0 m0_stray cA_m0_stray f_m0_stray m0_set cA_m0_set f_m0_set m0_truth cA_m0_truth f_m0_truth m0 m0_width m0_many m0_cells m0_moved m0_tape m0_taped m0_at m0_token m0_place m0_value m0_word m0_bad m0_badPlace m0_fault m0_faultPlace m0_lines m0_hours m0_courts m0_in m0_gates m0_gate m0_people m0_at0 m0_stray m0_set m0_once m0_truth m0_known m0_isKept m0_strays m0_hostPerson m0_hostCourt m0_outside m0_inside m0_can m0_fewest m0_waysTo m0_then m0_two m0_nextTwo m0_three m0_nextThree m0_shut m0_worth m0_digit m0_codes m0_most m0_bestTry m0_dayCourt m0_dayHour m0_dayNo m0_x m0_courts cA_m0_courts f_m0_courts)) [0, 3, 4, 5, 6, 7, 8, 2, 1] (by decide) rfl) hS (lv_sub hl [2, 3, 1, 0] rfl)
          · have ic_8 := zz_nne rfl (show Int32.toInt 0 = 0 from by decide) c_8
            replace hF := hF.trans (if_pos c_8)
            refine lv_iconst (v := 1) hx hb dX10_hollow_40 (by decide) ?_
            refine lv_goto (tgt := 45) hx hb dX10_hollow_41 (by decide) ?_
            refine lv_iadd hx hb dX10_hollow_45 ?_
            refine lv_topi (fun x_11 ex_11 => ?_)
            replace hF := hF.trans (zL_eq ex_11)
            refine lv_istore_n (lv' := [(2, .int x_11), (0, .ref m0), (1, .int p1), (3, .int v3_3)]) hx hb dX10_hollow_46 rfl hl (by decide) rfl (fun ls hl => ?_)
            obtain ⟨x_12, ex_12⟩ : ∃ z : Int32, z = v3_3 + Int32.ofInt 1 := ⟨_, rfl⟩
            have b_x_12 : x_12.toInt = v3_3.toInt + 1 := by rw [ex_12]; exact zi_add rfl (show (Int32.ofInt 1).toInt = 1 from by decide) (z_rac b_v3_3 (by decide))
            refine lv_iinc (v := x_12) (lv' := [(3, .int x_12), (2, .int x_11), (0, .ref m0), (1, .int p1)]) hx hb dX10_hollow_47 hl (k := 3) rfl ex_12.symm (by decide) rfl (fun ls hl => ?_)
            replace hF := hF.trans (zL_eq ex_12)
            refine lv_goto (tgt := 20) hx hb dX10_hollow_50 (by decide) ?_
            exact ih_1 x_11 x_12 (by first | with_reducible assumption | omega) _ _ _ (by first | with_reducible assumption | omega) hF (hP.sub (ws' := (zV297 m0_hours cA_m0_hours f_m0_hours m0_in cA_m0_in f_m0_in m0_people cA_m0_people f_m0_people m0_at0 cA_m0_at0 f_m0_at0 m0_stray cA_m0_stray f_m0_stray m0_set cA_m0_set f_m0_set m0_truth cA_m0_truth f_m0_truth m0 m0_width m0_many m0_cells m0_moved m0_tape m0_taped m0_at m0_token m0_place m0_value m0_word m0_bad m0_badPlace m0_fault m0_faultPlace m0_lines m0_hours m0_courts m0_in m0_gates m0_gate m0_people m0_at0 m0_stray m0_set m0_once m0_truth m0_known m0_isKept m0_strays m0_hostPerson m0_hostCourt m0_outside m0_inside m0_can m0_fewest m0_waysTo m0_then m0_two m0_nextTwo m0_three m0_nextThree m0_shut m0_worth m0_digit m0_codes m0_most m0_bestTry m0_dayCourt m0_dayHour m0_dayNo m0_x m0_courts cA_m0_courts f_m0_courts)) [0, 3, 4, 5, 6, 7, 8, 2, 1] rfl) (hD.sub (ws' := (zV297 m0_hours cA_m0_hours f_m0_hours m0_in cA_m0_in f_m0_in m0_people cA_m0_people f_m0_people m0_at0 cA_m0_at0 f_m0_at0 m0_stray cA_m0_stray f_m0_stray m0_set cA_m0_set f_m0_set m0_truth cA_m0_truth f_m0_truth m0 m0_width m0_many m0_cells m0_moved m0_tape m0_taped m0_at m0_token m0_place m0_value m0_word m0_bad m0_badPlace m0_fault m0_faultPlace m0_lines m0_hours m0_courts m0_in m0_gates m0_gate m0_people m0_at0 m0_stray m0_set m0_once m0_truth m0_known m0_isKept m0_strays m0_hostPerson m0_hostCourt m0_outside m0_inside m0_can m0_fewest m0_waysTo m0_then m0_two m0_nextTwo m0_three m0_nextThree m0_shut m0_worth m0_digit m0_codes m0_most m0_bestTry m0_dayCourt m0_dayHour m0_dayNo m0_x m0_courts cA_m0_courts f_m0_courts)) [0, 3, 4, 5, 6, 7, 8, 2, 1] (by decide) rfl) hS (lv_sub hl [2, 3, 1, 0] rfl)
    exact loop_1 50 (0) (0) (by decide) _ _ _ (by decide) hF hP hD hS (lv_sub hl [2, 3, 1, 0] rfl)
  · have ic_2 := zz_nne rfl (show Int32.toInt 0 = 0 from by decide) c_2
    replace hF := hF.trans (if_pos c_2)
    refine lv_bipush (v := (-2)) hx hb dX10_hollow_13 (by decide) ?_
    have hF : RR = ((-2 : Int32), (0 : Int32)) := hF
    have zc : Int32.toInt (-2) = (-2) := by decide
    exact W.iret (v := (-2)) hx hb hr (fun t ht hW => by rw [← hQe]; exact ⟨⟨(-2), (), rfl, (by rw [← hRR, hF]), ⟨(0), (by rw [← hRR, hF]), z_ret hP hK hD ht hW [7, 0, 8, 1, 2, 3, 4, 5, 6] [] rfl (by decide) rfl⟩⟩, hS.F ht⟩) hS.2.2 dX10_hollow_15
set_option maxHeartbeats 4000000 in
set_option maxRecDepth 100000 in
theorem kf_X10_keeper (l : Launch) (sa : Nat → Nat) (dC : Nat → ClassId) (dI : Nat → Nat → Nat) (m0 : Nat) (p1 : Int32) (m0_thrown : Int32) (m0_width : Nat) (m0_many : Nat) (m0_cells : Nat) (m0_moved : Nat) (m0_tape : Nat) (m0_taped : Int32) (m0_at : Int32) (m0_token : Int32) (m0_place : Int32) (m0_value : Int32) (m0_word : Int64) (m0_bad : Int32) (m0_badPlace : Int32) (m0_fault : Int32) (m0_faultPlace : Int32) (m0_lines : Nat) (m0_hours : Nat) (m0_courts : Nat) (m0_in : Nat) (m0_gates : Nat) (m0_gate : Nat) (m0_people : Nat) (m0_at0 : Nat) (m0_stray : Nat) (m0_set : Nat) (m0_once : Nat) (m0_truth : Nat) (m0_known : Nat) (m0_isKept : Nat) (m0_strays : Int32) (m0_hostPerson : Int32) (m0_hostCourt : Int32) (m0_outside : Int32) (m0_inside : Nat) (m0_can : Nat) (m0_fewest : Nat) (m0_waysTo : Nat) (m0_then : Nat) (m0_two : Nat) (m0_nextTwo : Nat) (m0_three : Nat) (m0_nextThree : Nat) (m0_shut : Int32) (m0_worth : Nat) (m0_digit : Nat) (m0_codes : Int32) (m0_most : Int64) (m0_bestTry : Int32) (m0_dayCourt : Int32) (m0_dayHour : Int32) (m0_dayNo : Int32) (m0_x : Int64) (cA_m0_hours : ClassId) (f_m0_hours : Nat → Int32) (cA_m0_courts : ClassId) (f_m0_courts : Nat → Int32) (cA_m0_in : ClassId) (f_m0_in : Nat → Int32) (cA_m0_people : ClassId) (f_m0_people : Nat → Int32) (cA_m0_at0 : ClassId) (f_m0_at0 : Nat → Int32) (cA_m0_stray : ClassId) (f_m0_stray : Nat → Int32) (cA_m0_set : ClassId) (f_m0_set : Nat → Int32) (cA_m0_truth : ClassId) (f_m0_truth : Nat → Int32) (b_m0_taped : 0 ≤ m0_taped.toInt ∧ m0_taped.toInt ≤ 1600) (b_m0_at : 0 ≤ m0_at.toInt ∧ m0_at.toInt ≤ 1600) (b_m0_token : 0 ≤ m0_token.toInt ∧ m0_token.toInt ≤ 4) (b_m0_value : 0 ≤ m0_value.toInt ∧ m0_value.toInt ≤ 1000009) (b_m0_bad : 0 ≤ m0_bad.toInt ∧ m0_bad.toInt ≤ 3) (b_m0_strays : 0 ≤ m0_strays.toInt ∧ m0_strays.toInt ≤ 5) (b_m0_hostCourt : 0 ≤ m0_hostCourt.toInt ∧ m0_hostCourt.toInt ≤ 9) (b_m0_dayCourt : 0 ≤ m0_dayCourt.toInt ∧ m0_dayCourt.toInt ≤ 9) (b_m0_dayHour : 0 ≤ m0_dayHour.toInt ∧ m0_dayHour.toInt ≤ 48) (b_f_m0_hours : ∀ j : Nat, 0 ≤ (f_m0_hours j).toInt ∧ (f_m0_hours j).toInt ≤ 48) (b_f_m0_courts : ∀ j : Nat, 0 ≤ (f_m0_courts j).toInt ∧ (f_m0_courts j).toInt ≤ 10) (b_f_m0_in : ∀ j : Nat, ¬ j % 10 = 0 → (-1) ≤ (f_m0_in j).toInt ∧ (f_m0_in j).toInt < ((j % 10 : Nat) : Int)) (b_f_m0_people : ∀ j : Nat, 0 ≤ (f_m0_people j).toInt ∧ (f_m0_people j).toInt ≤ 10) (b_f_m0_at0 : ∀ j : Nat, 0 ≤ (f_m0_at0 j).toInt ∧ (f_m0_at0 j).toInt ≤ 9) (b_f_m0_stray : ∀ j : Nat, 0 ≤ (f_m0_stray j).toInt ∧ (f_m0_stray j).toInt ≤ 99 ∧ (j % 2 = 1 → (f_m0_stray j).toInt ≤ 9)) (b_f_m0_set : ∀ j : Nat, 0 ≤ (f_m0_set j).toInt ∧ (f_m0_set j).toInt ≤ 9) (hep_0 : zIc f_m0_in (f_m0_courts (Int32.toNatClampNeg 0)).toInt) (sz : Nat) : Met l yX10_keeper (.code yX10_keeper cX10_keeper 7 (some .int) :: zT) ({ frames := 4, cells := 0, slots := 0, locals := 94 }) (va_Pc [.ref m0, .int p1] (zB sa dC dI (zV295 m0 m0_thrown m0_width m0_many m0_cells m0_moved m0_tape m0_taped m0_at m0_token m0_place m0_value m0_word m0_bad m0_badPlace m0_fault m0_faultPlace m0_lines m0_hours m0_courts m0_in m0_gates m0_gate m0_people m0_at0 m0_stray m0_set m0_once m0_truth m0_known m0_isKept m0_strays m0_hostPerson m0_hostCourt m0_outside m0_inside m0_can m0_fewest m0_waysTo m0_then m0_two m0_nextTwo m0_three m0_nextThree m0_shut m0_worth m0_digit m0_codes m0_most m0_bestTry m0_dayCourt m0_dayHour m0_dayNo m0_x m0_hours cA_m0_hours f_m0_hours m0_courts cA_m0_courts f_m0_courts m0_in cA_m0_in f_m0_in m0_people cA_m0_people f_m0_people m0_at0 cA_m0_at0 f_m0_at0 m0_stray cA_m0_stray f_m0_stray m0_set cA_m0_set f_m0_set m0_truth cA_m0_truth f_m0_truth) [(cA_m0_hours, .int), (cA_m0_courts, .int), (cA_m0_in, .int), (cA_m0_people, .int), (cA_m0_at0, .int), (cA_m0_stray, .int), (cA_m0_set, .int), (cA_m0_truth, .int)] sz)) (va_Qi (fun (r : Int32) (_ : Unit) => ((-2) ≤ r.toInt ∧ r.toInt ≤ 9) ∧ r = (F_X10_keeper p1 m0_hostPerson m0_hostCourt m0_outside f_m0_hours f_m0_courts f_m0_in f_m0_people f_m0_at0 f_m0_stray f_m0_set f_m0_truth).1) (fun _ t => ∃ (n_m0_0 : Int32), (n_m0_0 = (F_X10_keeper p1 m0_hostPerson m0_hostCourt m0_outside f_m0_hours f_m0_courts f_m0_in f_m0_people f_m0_at0 f_m0_stray f_m0_set f_m0_truth).2) ∧ zW dC dI (zV295 m0 n_m0_0 m0_width m0_many m0_cells m0_moved m0_tape m0_taped m0_at m0_token m0_place m0_value m0_word m0_bad m0_badPlace m0_fault m0_faultPlace m0_lines m0_hours m0_courts m0_in m0_gates m0_gate m0_people m0_at0 m0_stray m0_set m0_once m0_truth m0_known m0_isKept m0_strays m0_hostPerson m0_hostCourt m0_outside m0_inside m0_can m0_fewest m0_waysTo m0_then m0_two m0_nextTwo m0_three m0_nextThree m0_shut m0_worth m0_digit m0_codes m0_most m0_bestTry m0_dayCourt m0_dayHour m0_dayNo m0_x m0_hours cA_m0_hours f_m0_hours m0_courts cA_m0_courts f_m0_courts m0_in cA_m0_in f_m0_in m0_people cA_m0_people f_m0_people m0_at0 cA_m0_at0 f_m0_at0 m0_stray cA_m0_stray f_m0_stray m0_set cA_m0_set f_m0_set m0_truth cA_m0_truth f_m0_truth) [] (va_A (zV295 m0 m0_thrown m0_width m0_many m0_cells m0_moved m0_tape m0_taped m0_at m0_token m0_place m0_value m0_word m0_bad m0_badPlace m0_fault m0_faultPlace m0_lines m0_hours m0_courts m0_in m0_gates m0_gate m0_people m0_at0 m0_stray m0_set m0_once m0_truth m0_known m0_isKept m0_strays m0_hostPerson m0_hostCourt m0_outside m0_inside m0_can m0_fewest m0_waysTo m0_then m0_two m0_nextTwo m0_three m0_nextThree m0_shut m0_worth m0_digit m0_codes m0_most m0_bestTry m0_dayCourt m0_dayHour m0_dayNo m0_x m0_hours cA_m0_hours f_m0_hours m0_courts cA_m0_courts f_m0_courts m0_in cA_m0_in f_m0_in m0_people cA_m0_people f_m0_people m0_at0 cA_m0_at0 f_m0_at0 m0_stray cA_m0_stray f_m0_stray m0_set cA_m0_set f_m0_set m0_truth cA_m0_truth f_m0_truth) sz) t) (va_A (zV295 m0 m0_thrown m0_width m0_many m0_cells m0_moved m0_tape m0_taped m0_at m0_token m0_place m0_value m0_word m0_bad m0_badPlace m0_fault m0_faultPlace m0_lines m0_hours m0_courts m0_in m0_gates m0_gate m0_people m0_at0 m0_stray m0_set m0_once m0_truth m0_known m0_isKept m0_strays m0_hostPerson m0_hostCourt m0_outside m0_inside m0_can m0_fewest m0_waysTo m0_then m0_two m0_nextTwo m0_three m0_nextThree m0_shut m0_worth m0_digit m0_codes m0_most m0_bestTry m0_dayCourt m0_dayHour m0_dayNo m0_x m0_hours cA_m0_hours f_m0_hours m0_courts cA_m0_courts f_m0_courts m0_in cA_m0_in f_m0_in m0_people cA_m0_people f_m0_people m0_at0 cA_m0_at0 f_m0_at0 m0_stray cA_m0_stray f_m0_stray m0_set cA_m0_set f_m0_set m0_truth cA_m0_truth f_m0_truth) sz)) 0 0 (va_A (zV295 m0 m0_thrown m0_width m0_many m0_cells m0_moved m0_tape m0_taped m0_at m0_token m0_place m0_value m0_word m0_bad m0_badPlace m0_fault m0_faultPlace m0_lines m0_hours m0_courts m0_in m0_gates m0_gate m0_people m0_at0 m0_stray m0_set m0_once m0_truth m0_known m0_isKept m0_strays m0_hostPerson m0_hostCourt m0_outside m0_inside m0_can m0_fewest m0_waysTo m0_then m0_two m0_nextTwo m0_three m0_nextThree m0_shut m0_worth m0_digit m0_codes m0_most m0_bestTry m0_dayCourt m0_dayHour m0_dayNo m0_x m0_hours cA_m0_hours f_m0_hours m0_courts cA_m0_courts f_m0_courts m0_in cA_m0_in f_m0_in m0_people cA_m0_people f_m0_people m0_at0 cA_m0_at0 f_m0_at0 m0_stray cA_m0_stray f_m0_stray m0_set cA_m0_set f_m0_set m0_truth cA_m0_truth f_m0_truth) sz) := by
  refine z_enter (by decide) (by exact (Nat.le_of_ble_eq_true rfl)) ?_
  intro p e s m args below meth c ls A R Qc hargs hsz hQe hAe hRe hx hb hml hr hts hown hlocks hin hl hP hK hD hN hXs hA hS
  rw [hAe] at hQe
  have hown : s.vm.findClass RX10 = some m.cls := hown
  have hl : lv_has ls 7 [(0, .ref m0), (1, .int p1)] := hl
  obtain ⟨RR, hRR⟩ : ∃ z : Int32 × Int32, z = (F_X10_keeper p1 m0_hostPerson m0_hostCourt m0_outside f_m0_hours f_m0_courts f_m0_in f_m0_people f_m0_at0 f_m0_stray f_m0_set f_m0_truth) := ⟨_, rfl⟩
  have hF : RR = (F_X10_keeper p1 m0_hostPerson m0_hostCourt m0_outside f_m0_hours f_m0_courts f_m0_in f_m0_people f_m0_at0 f_m0_stray f_m0_set f_m0_truth) := hRR
  refine lv_aload_n hx hb dX10_keeper_0 rfl (lv_at hl 0 rfl) ?_
  refine lv_iconst (v := 0) hx hb dX10_keeper_1 (by decide) ?_
  refine va_put (D := (dC, dI)) (ci := 10) (v := .int 0) (ty := .int) (C := RX10) (T := TX10) (N := 53) hx hb hts zl_X10 tyX10 tyX10_ok nmX10 hown hK hP hD hS 0 rfl rfl 0 (by decide) (hts _ zw_t6_100) (fun _ h9 => h9) rfl (by decide +kernel) rfl rfl (Nat.le_of_ble_eq_true rfl) dX10_keeper_2 (fun H locs hP hD hS => ?_)
  have hP : va_P (dC, dI) vwCl (zV296 m0 m0_width m0_many m0_cells m0_moved m0_tape m0_taped m0_at m0_token m0_place m0_value m0_word m0_bad m0_badPlace m0_fault m0_faultPlace m0_lines m0_hours m0_courts m0_in m0_gates m0_gate m0_people m0_at0 m0_stray m0_set m0_once m0_truth m0_known m0_isKept m0_strays m0_hostPerson m0_hostCourt m0_outside m0_inside m0_can m0_fewest m0_waysTo m0_then m0_two m0_nextTwo m0_three m0_nextThree m0_shut m0_worth m0_digit m0_codes m0_most m0_bestTry m0_dayCourt m0_dayHour m0_dayNo m0_x m0_hours cA_m0_hours f_m0_hours m0_courts cA_m0_courts f_m0_courts m0_in cA_m0_in f_m0_in m0_people cA_m0_people f_m0_people m0_at0 cA_m0_at0 f_m0_at0 m0_stray cA_m0_stray f_m0_stray m0_set cA_m0_set f_m0_set m0_truth cA_m0_truth f_m0_truth) H := hP
  have hD : va_D A (zV296 m0 m0_width m0_many m0_cells m0_moved m0_tape m0_taped m0_at m0_token m0_place m0_value m0_word m0_bad m0_badPlace m0_fault m0_faultPlace m0_lines m0_hours m0_courts m0_in m0_gates m0_gate m0_people m0_at0 m0_stray m0_set m0_once m0_truth m0_known m0_isKept m0_strays m0_hostPerson m0_hostCourt m0_outside m0_inside m0_can m0_fewest m0_waysTo m0_then m0_two m0_nextTwo m0_three m0_nextThree m0_shut m0_worth m0_digit m0_codes m0_most m0_bestTry m0_dayCourt m0_dayHour m0_dayNo m0_x m0_hours cA_m0_hours f_m0_hours m0_courts cA_m0_courts f_m0_courts m0_in cA_m0_in f_m0_in m0_people cA_m0_people f_m0_people m0_at0 cA_m0_at0 f_m0_at0 m0_stray cA_m0_stray f_m0_stray m0_set cA_m0_set f_m0_set m0_truth cA_m0_truth f_m0_truth) := hD
  refine lv_aload_n hx hb dX10_keeper_5 rfl (lv_at hl 0 rfl) ?_
  refine lv_iload_n hx hb dX10_keeper_6 rfl (lv_at hl 1 rfl) ?_
  obtain ⟨hPc, hDc, hFc⟩ := z_cut (wc := (zV102 m0 m0_width m0_many m0_cells m0_moved m0_tape m0_taped m0_at m0_token m0_place m0_value m0_word m0_bad m0_badPlace m0_fault m0_faultPlace m0_lines m0_hours m0_courts m0_in m0_gates m0_gate m0_people m0_at0 m0_stray m0_set m0_once m0_truth m0_known m0_isKept m0_strays m0_hostPerson m0_hostCourt m0_outside m0_inside m0_can m0_fewest m0_waysTo m0_then m0_two m0_nextTwo m0_three m0_nextThree m0_shut m0_worth m0_digit m0_codes m0_most m0_bestTry m0_dayCourt m0_dayHour m0_dayNo m0_x m0_courts cA_m0_courts f_m0_courts)) hP hD hS hA [0, 2] rfl (by decide +kernel)
  have hKc := hK.sub (tys' := [(cA_m0_courts, .int)]) [1] rfl
  refine va_calli (va_runV (As := [.int p1]) (rest := []) ⟨hx, hb, hml, hown, hts⟩ (kf_X10_isCourt l sa dC dI m0 p1 (0) m0_width m0_many m0_cells m0_moved m0_tape m0_taped m0_at m0_token m0_place m0_value m0_word m0_bad m0_badPlace m0_fault m0_faultPlace m0_lines m0_hours m0_courts m0_in m0_gates m0_gate m0_people m0_at0 m0_stray m0_set m0_once m0_truth m0_known m0_isKept m0_strays m0_hostPerson m0_hostCourt m0_outside m0_inside m0_can m0_fewest m0_waysTo m0_then m0_two m0_nextTwo m0_three m0_nextThree m0_shut m0_worth m0_digit m0_codes m0_most m0_bestTry m0_dayCourt m0_dayHour m0_dayNo m0_x cA_m0_courts f_m0_courts b_m0_taped b_m0_at b_m0_token b_m0_value b_m0_bad b_m0_strays b_m0_hostCourt b_m0_dayCourt b_m0_dayHour b_f_m0_courts H.size) (cwV 1 hts (z_gV zw_t7_197 zw_t7_199 zw_s5_15 zw_t1_11 zw_t7_200) rfl rfl rfl (by decide +kernel) (by rw [← hRe]; exact ⟨(Nat.le_of_ble_eq_true rfl), (Nat.le_of_ble_eq_true rfl)⟩)) (z_preV hPc hKc hDc hN hXs hS hFc (q := (RX10, TX10, 53)) (ci := 10) (q0 := 0) rfl rfl) rfl rfl hl.1 rfl (lv_room (Nat.le_of_ble_eq_true rfl)) dX10_keeper_7 (by rw [← hRe]; exact ⟨(Nat.le_of_ble_eq_true rfl), (Nat.le_of_ble_eq_true rfl)⟩)) hS (fun q _ h => hFc q h) hFc (fun r_1 u t H1 locs ht hvm hw hB hz1 hk1 hS => ?_)
  obtain ⟨hP, hD, hK⟩ := z_after3 (wn := (zV297 m0_hours cA_m0_hours f_m0_hours m0_in cA_m0_in f_m0_in m0_people cA_m0_people f_m0_people m0_at0 cA_m0_at0 f_m0_at0 m0_stray cA_m0_stray f_m0_stray m0_set cA_m0_set f_m0_set m0_truth cA_m0_truth f_m0_truth m0 m0_width m0_many m0_cells m0_moved m0_tape m0_taped m0_at m0_token m0_place m0_value m0_word m0_bad m0_badPlace m0_fault m0_faultPlace m0_lines m0_hours m0_courts m0_in m0_gates m0_gate m0_people m0_at0 m0_stray m0_set m0_once m0_truth m0_known m0_isKept m0_strays m0_hostPerson m0_hostCourt m0_outside m0_inside m0_can m0_fewest m0_waysTo m0_then m0_two m0_nextTwo m0_three m0_nextThree m0_shut m0_worth m0_digit m0_codes m0_most m0_bestTry m0_dayCourt m0_dayHour m0_dayNo m0_x m0_courts cA_m0_courts f_m0_courts)) hB ht hvm hP hD hK [0, 2] [1, 3, 4, 5, 6, 7, 8] rfl 9 rfl (by decide +kernel) rfl (by decide +kernel) hk1 hFc
  generalize H1 = H at hP hS ⊢
  have hK : va_K (dC, dI) vwCl [(cA_m0_hours, .int), (cA_m0_courts, .int), (cA_m0_in, .int), (cA_m0_people, .int), (cA_m0_at0, .int), (cA_m0_stray, .int), (cA_m0_set, .int), (cA_m0_truth, .int)] s := hK
  have b_r_1 : 0 ≤ r_1.toInt ∧ r_1.toInt ≤ 1 := hw.1
  have s_r_1 := hw.2.1
  have sf_r_1 := hw.2.2
  replace hF := hF.trans (zL_eq sf_r_1)
  refine lv_if_ne (tgt := 16) hx hb dX10_keeper_10 (by decide) (fun c_2 => ?_) (fun c_2 => ?_)
  · have ic_2 := zz_ne rfl (show Int32.toInt 0 = 0 from by decide) c_2
    replace hF := hF.trans (if_neg c_2)
    refine lv_iconst (v := (-1)) hx hb dX10_keeper_16 (by decide) ?_
    refine lv_istore_n (lv' := [(2, .int (-1)), (0, .ref m0), (1, .int p1)]) hx hb dX10_keeper_17 rfl hl (by decide) rfl (fun ls hl => ?_)
    refine lv_iconst (v := 0) hx hb dX10_keeper_18 (by decide) ?_
    refine lv_istore_n (lv' := [(3, .int 0), (2, .int (-1)), (0, .ref m0), (1, .int p1)]) hx hb dX10_keeper_19 rfl hl (by decide) rfl (fun ls hl => ?_)
    refine lv_iconst (v := 0) hx hb dX10_keeper_20 (by decide) ?_
    refine lv_istore (lv' := [(4, .int 0), (3, .int 0), (2, .int (-1)), (0, .ref m0), (1, .int p1)]) hx hb dX10_keeper_21 hl (by decide) rfl (fun ls hl => ?_)
    have loop_1 : ∀ (t_1 : Nat) (v2_4 : Int32) (v3_5 : Int32) (v4_3 : Int32) (b_v2_4 : (-1) ≤ v2_4.toInt ∧ v2_4.toInt ≤ 9) (b_v3_5 : 0 ≤ v3_5.toInt ∧ v3_5.toInt ≤ 2147483647) (b_v4_3 : 0 ≤ v4_3.toInt ∧ v4_3.toInt ≤ 10) (H : Heap) (locs : List Loc) (ls : Array Slot), 10 - v4_3.toInt < (t_1 : Int) → RR = L_X10_keeper_1 f_m0_people f_m0_hours p1 m0_hostPerson m0_hostCourt m0_outside f_m0_in f_m0_at0 f_m0_stray f_m0_set f_m0_truth K_X10_keeper_1_0 t_1 v2_4 v3_5 v4_3 → va_P (dC, dI) vwCl (zV297 m0_hours cA_m0_hours f_m0_hours m0_in cA_m0_in f_m0_in m0_people cA_m0_people f_m0_people m0_at0 cA_m0_at0 f_m0_at0 m0_stray cA_m0_stray f_m0_stray m0_set cA_m0_set f_m0_set m0_truth cA_m0_truth f_m0_truth m0 m0_width m0_many m0_cells m0_moved m0_tape m0_taped m0_at m0_token m0_place m0_value m0_word m0_bad m0_badPlace m0_fault m0_faultPlace m0_lines m0_hours m0_courts m0_in m0_gates m0_gate m0_people m0_at0 m0_stray m0_set m0_once m0_truth m0_known m0_isKept m0_strays m0_hostPerson m0_hostCourt m0_outside m0_inside m0_can m0_fewest m0_waysTo m0_then m0_two m0_nextTwo m0_three m0_nextThree m0_shut m0_worth m0_digit m0_codes m0_most m0_bestTry m0_dayCourt m0_dayHour m0_dayNo m0_x m0_courts cA_m0_courts f_m0_courts) H → va_D A (zV297 m0_hours cA_m0_hours f_m0_hours m0_in cA_m0_in f_m0_in m0_people cA_m0_people f_m0_people m0_at0 cA_m0_at0 f_m0_at0 m0_stray cA_m0_stray f_m0_stray m0_set cA_m0_set f_m0_set m0_truth cA_m0_truth f_m0_truth m0 m0_width m0_many m0_cells m0_moved m0_tape m0_taped m0_at m0_token m0_place m0_value m0_word m0_bad m0_badPlace m0_fault m0_faultPlace m0_lines m0_hours m0_courts m0_in m0_gates m0_gate m0_people m0_at0 m0_stray m0_set m0_once m0_truth m0_known m0_isKept m0_strays m0_hostPerson m0_hostCourt m0_outside m0_inside m0_can m0_fewest m0_waysTo m0_then m0_two m0_nextTwo m0_three m0_nextThree m0_shut m0_worth m0_digit m0_codes m0_most m0_bestTry m0_dayCourt m0_dayHour m0_dayNo m0_x m0_courts cA_m0_courts f_m0_courts) → va_S A s.heap H locs → lv_has ls 7 [(0, .ref m0), (1, .int p1), (2, .int v2_4), (3, .int v3_5), (4, .int v4_3)] → W p l e R s m args below meth c H locs 0 0 (MQ below Qc args s 0 0 A) (F0 m 23 ls []) := by
      intro t_1
      induction t_1 with
      | zero => intro v2_4 v3_5 v4_3 b_v2_4 b_v3_5 b_v4_3 H locs ls hmu _ _ _ _ _; exact absurd hmu (by first | with_reducible assumption | omega)
      | succ t_1 ih_1 =>
        intro v2_4 v3_5 v4_3 b_v2_4 b_v3_5 b_v4_3 H locs ls hmu hF hP hD hS hl
        replace hF := hF.trans L_X10_keeper_1_s
        refine lv_iload hx hb dX10_keeper_23 (lv_at hl 4 rfl) ?_
        refine lv_aload_n hx hb dX10_keeper_25 rfl (lv_at hl 0 rfl) ?_
        refine va_get (D := (dC, dI)) (ci := 10) (v := .ref m0_people) (C := RX10) (T := TX10) (N := 53) hx hb hts zl_X10 hown hK hP 7 rfl rfl 22 (by decide) (hts _ zw_t6_122) (fun _ h9 => h9) rfl dX10_keeper_26 ?_
        refine lv_iconst (v := 0) hx hb dX10_keeper_29 (by decide) ?_
        refine va_iald hx hb hK hP 2 3 rfl rfl (zi_in (show Int32.toInt 0 = 0 from by decide) (by decide)) dX10_keeper_30 ?_
        refine lv_topi (fun x_6 ex_6 => ?_)
        replace hF := hF.trans (zL_eq ex_6)
        have b_x_6 : 0 ≤ x_6.toInt ∧ x_6.toInt ≤ 10 := by rw [ex_6]; exact b_f_m0_people _
        have t_x_6 : x_6.toInt = (f_m0_people (Int32.toNatClampNeg 0)).toInt := by rw [ex_6]
        refine lv_icmp_ge (tgt := 102) hx hb dX10_keeper_31 (by decide) (fun c_7 => ?_) (fun c_7 => ?_)
        · have ic_7 := zz_ge rfl rfl c_7
          replace hF := hF.trans (if_pos c_7)
          refine lv_iload_n hx hb dX10_keeper_102 rfl (lv_at hl 2 rfl) ?_
          have hF : RR = (v2_4, (0 : Int32)) := hF
          exact W.iret (v := v2_4) hx hb hr (fun t ht hW => by rw [← hQe]; exact ⟨⟨v2_4, (), rfl, ⟨by omega, (by rw [← hRR, hF])⟩, ⟨(0), (by rw [← hRR, hF]), z_ret hP hK hD ht hW [7, 0, 8, 1, 2, 3, 4, 5, 6] [] rfl (by decide) rfl⟩⟩, hS.F ht⟩) hS.2.2 dX10_keeper_103
        · have ic_7 := zz_nge rfl rfl c_7
          replace hF := hF.trans (if_neg c_7)
          refine lv_iconst (v := 0) hx hb dX10_keeper_34 (by decide) ?_
          refine lv_istore (lv' := [(5, .int 0), (0, .ref m0), (1, .int p1), (2, .int v2_4), (3, .int v3_5), (4, .int v4_3)]) hx hb dX10_keeper_35 hl (by decide) rfl (fun ls hl => ?_)
          refine lv_iconst (v := 0) hx hb dX10_keeper_37 (by decide) ?_
          refine lv_istore (lv' := [(6, .int 0), (5, .int 0), (0, .ref m0), (1, .int p1), (2, .int v2_4), (3, .int v3_5), (4, .int v4_3)]) hx hb dX10_keeper_38 hl (by decide) rfl (fun ls hl => ?_)
          have loop_2 : ∀ (t_2 : Nat) (v5_9 : Int32) (v6_8 : Int32) (b_v6_8 : 0 ≤ v6_8.toInt ∧ v6_8.toInt ≤ 48) (H : Heap) (locs : List Loc) (ls : Array Slot), 48 - v6_8.toInt < (t_2 : Int) → RR = L_X10_keeper_2 f_m0_hours p1 m0_hostPerson m0_hostCourt m0_outside f_m0_in f_m0_people f_m0_at0 f_m0_stray f_m0_set f_m0_truth v4_3 (K_X10_keeper_2_0 v3_5 v4_3 (L_X10_keeper_1 f_m0_people f_m0_hours p1 m0_hostPerson m0_hostCourt m0_outside f_m0_in f_m0_at0 f_m0_stray f_m0_set f_m0_truth K_X10_keeper_1_0 t_1) v2_4) t_2 v5_9 v6_8 → va_P (dC, dI) vwCl (zV297 m0_hours cA_m0_hours f_m0_hours m0_in cA_m0_in f_m0_in m0_people cA_m0_people f_m0_people m0_at0 cA_m0_at0 f_m0_at0 m0_stray cA_m0_stray f_m0_stray m0_set cA_m0_set f_m0_set m0_truth cA_m0_truth f_m0_truth m0 m0_width m0_many m0_cells m0_moved m0_tape m0_taped m0_at m0_token m0_place m0_value m0_word m0_bad m0_badPlace m0_fault m0_faultPlace m0_lines m0_hours m0_courts m0_in m0_gates m0_gate m0_people m0_at0 m0_stray m0_set m0_once m0_truth m0_known m0_isKept m0_strays m0_hostPerson m0_hostCourt m0_outside m0_inside m0_can m0_fewest m0_waysTo m0_then m0_two m0_nextTwo m0_three m0_nextThree m0_shut m0_worth m0_digit m0_codes m0_most m0_bestTry m0_dayCourt m0_dayHour m0_dayNo m0_x m0_courts cA_m0_courts f_m0_courts) H → va_D A (zV297 m0_hours cA_m0_hours f_m0_hours m0_in cA_m0_in f_m0_in m0_people cA_m0_people f_m0_people m0_at0 cA_m0_at0 f_m0_at0 m0_stray cA_m0_stray f_m0_stray m0_set cA_m0_set f_m0_set m0_truth cA_m0_truth f_m0_truth m0 m0_width m0_many m0_cells m0_moved m0_tape m0_taped m0_at m0_token m0_place m0_value m0_word m0_bad m0_badPlace m0_fault m0_faultPlace m0_lines m0_hours m0_courts m0_in m0_gates m0_gate m0_people m0_at0 m0_stray m0_set m0_once m0_truth m0_known m0_isKept m0_strays m0_hostPerson m0_hostCourt m0_outside m0_inside m0_can m0_fewest m0_waysTo m0_then m0_two m0_nextTwo m0_three m0_nextThree m0_shut m0_worth m0_digit m0_codes m0_most m0_bestTry m0_dayCourt m0_dayHour m0_dayNo m0_x m0_courts cA_m0_courts f_m0_courts) → va_S A s.heap H locs → lv_has ls 7 [(0, .ref m0), (1, .int p1), (2, .int v2_4), (3, .int v3_5), (4, .int v4_3), (5, .int v5_9), (6, .int v6_8)] → W p l e R s m args below meth c H locs 0 0 (MQ below Qc args s 0 0 A) (F0 m 40 ls []) := by
            intro t_2
            induction t_2 with
            | zero => intro v5_9 v6_8 b_v6_8 H locs ls hmu _ _ _ _ _; exact absurd hmu (by first | with_reducible assumption | omega)
            | succ t_2 ih_2 =>
              intro v5_9 v6_8 b_v6_8 H locs ls hmu hF hP hD hS hl
              replace hF := hF.trans L_X10_keeper_2_s
              refine lv_iload hx hb dX10_keeper_40 (lv_at hl 6 rfl) ?_
              refine lv_aload_n hx hb dX10_keeper_42 rfl (lv_at hl 0 rfl) ?_
              refine va_get (D := (dC, dI)) (ci := 10) (v := .ref m0_hours) (C := RX10) (T := TX10) (N := 53) hx hb hts zl_X10 hown hK hP 7 rfl rfl 17 (by decide) (hts _ zw_t6_117) (fun _ h9 => h9) rfl dX10_keeper_43 ?_
              refine lv_iconst (v := 0) hx hb dX10_keeper_46 (by decide) ?_
              refine va_iald hx hb hK hP 0 0 rfl rfl (zi_in (show Int32.toInt 0 = 0 from by decide) (by decide)) dX10_keeper_47 ?_
              refine lv_topi (fun x_10 ex_10 => ?_)
              replace hF := hF.trans (zL_eq ex_10)
              have b_x_10 : 0 ≤ x_10.toInt ∧ x_10.toInt ≤ 48 := by rw [ex_10]; exact b_f_m0_hours _
              have t_x_10 : x_10.toInt = (f_m0_hours (Int32.toNatClampNeg 0)).toInt := by rw [ex_10]
              refine lv_icmp_ge (tgt := 81) hx hb dX10_keeper_48 (by decide) (fun c_11 => ?_) (fun c_11 => ?_)
              · have ic_11 := zz_ge rfl rfl c_11
                replace hF := hF.trans (if_pos c_11)
                refine lv_iload hx hb dX10_keeper_81 (lv_at hl 5 rfl) ?_
                refine lv_iload_n hx hb dX10_keeper_83 rfl (lv_at hl 3 rfl) ?_
                have nb_v5_9 := zi_nb v5_9
                refine lv_icmp_gt (tgt := 90) hx hb dX10_keeper_84 (by decide) (fun c_12 => ?_) (fun c_12 => ?_)
                · have ic_12 := zz_gt rfl rfl c_12
                  replace hF := hF.trans (if_pos c_12)
                  refine lv_iload hx hb dX10_keeper_90 (lv_at hl 4 rfl) ?_
                  refine lv_istore_n (lv' := [(2, .int v4_3), (0, .ref m0), (1, .int p1), (3, .int v3_5), (4, .int v4_3), (5, .int v5_9), (6, .int v6_8)]) hx hb dX10_keeper_92 rfl hl (by decide) rfl (fun ls hl => ?_)
                  refine lv_iload hx hb dX10_keeper_93 (lv_at hl 5 rfl) ?_
                  refine lv_istore_n (lv' := [(3, .int v5_9), (2, .int v4_3), (0, .ref m0), (1, .int p1), (4, .int v4_3), (5, .int v5_9), (6, .int v6_8)]) hx hb dX10_keeper_95 rfl hl (by decide) rfl (fun ls hl => ?_)
                  obtain ⟨x_13, ex_13⟩ : ∃ z : Int32, z = v4_3 + Int32.ofInt 1 := ⟨_, rfl⟩
                  have b_x_13 : x_13.toInt = v4_3.toInt + 1 := by rw [ex_13]; exact zi_add rfl (show (Int32.ofInt 1).toInt = 1 from by decide) (z_rac b_v4_3 (by decide))
                  refine lv_iinc (v := x_13) (lv' := [(4, .int x_13), (3, .int v5_9), (2, .int v4_3), (0, .ref m0), (1, .int p1), (5, .int v5_9), (6, .int v6_8)]) hx hb dX10_keeper_96 hl (k := 4) rfl ex_13.symm (by decide) rfl (fun ls hl => ?_)
                  replace hF := hF.trans (zL_eq ex_13)
                  refine lv_goto (tgt := 23) hx hb dX10_keeper_99 (by decide) ?_
                  exact ih_1 v4_3 v5_9 x_13 (by first | with_reducible assumption | omega) (by first | with_reducible assumption | omega) (by first | with_reducible assumption | omega) _ _ _ (by first | with_reducible assumption | omega) hF (hP.sub (ws' := (zV297 m0_hours cA_m0_hours f_m0_hours m0_in cA_m0_in f_m0_in m0_people cA_m0_people f_m0_people m0_at0 cA_m0_at0 f_m0_at0 m0_stray cA_m0_stray f_m0_stray m0_set cA_m0_set f_m0_set m0_truth cA_m0_truth f_m0_truth m0 m0_width m0_many m0_cells m0_moved m0_tape m0_taped m0_at m0_token m0_place m0_value m0_word m0_bad m0_badPlace m0_fault m0_faultPlace m0_lines m0_hours m0_courts m0_in m0_gates m0_gate m0_people m0_at0 m0_stray m0_set m0_once m0_truth m0_known m0_isKept m0_strays m0_hostPerson m0_hostCourt m0_outside m0_inside m0_can m0_fewest m0_waysTo m0_then m0_two m0_nextTwo m0_three m0_nextThree m0_shut m0_worth m0_digit m0_codes m0_most m0_bestTry m0_dayCourt m0_dayHour m0_dayNo m0_x m0_courts cA_m0_courts f_m0_courts)) [0, 1, 2, 3, 4, 5, 6, 7, 8] rfl) (hD.sub (ws' := (zV297 m0_hours cA_m0_hours f_m0_hours m0_in cA_m0_in f_m0_in m0_people cA_m0_people f_m0_people m0_at0 cA_m0_at0 f_m0_at0 m0_stray cA_m0_stray f_m0_stray m0_set cA_m0_set f_m0_set m0_truth cA_m0_truth f_m0_truth m0 m0_width m0_many m0_cells m0_moved m0_tape m0_taped m0_at m0_token m0_place m0_value m0_word m0_bad m0_badPlace m0_fault m0_faultPlace m0_lines m0_hours m0_courts m0_in m0_gates m0_gate m0_people m0_at0 m0_stray m0_set m0_once m0_truth m0_known m0_isKept m0_strays m0_hostPerson m0_hostCourt m0_outside m0_inside m0_can m0_fewest m0_waysTo m0_then m0_two m0_nextTwo m0_three m0_nextThree m0_shut m0_worth m0_digit m0_codes m0_most m0_bestTry m0_dayCourt m0_dayHour m0_dayNo m0_x m0_courts cA_m0_courts f_m0_courts)) [0, 1, 2, 3, 4, 5, 6, 7, 8] (by decide) rfl) hS (lv_sub hl [3, 4, 2, 1, 0] rfl)
                · have ic_12 := zz_ngt rfl rfl c_12
                  replace hF := hF.trans (if_neg c_12)
                  refine lv_goto (tgt := 96) hx hb dX10_keeper_87 (by decide) ?_
                  obtain ⟨x_14, ex_14⟩ : ∃ z : Int32, z = v4_3 + Int32.ofInt 1 := ⟨_, rfl⟩
                  have b_x_14 : x_14.toInt = v4_3.toInt + 1 := by rw [ex_14]; exact zi_add rfl (show (Int32.ofInt 1).toInt = 1 from by decide) (z_rac b_v4_3 (by decide))
                  refine lv_iinc (v := x_14) (lv' := [(4, .int x_14), (0, .ref m0), (1, .int p1), (2, .int v2_4), (3, .int v3_5), (5, .int v5_9), (6, .int v6_8)]) hx hb dX10_keeper_96 hl (k := 4) rfl ex_14.symm (by decide) rfl (fun ls hl => ?_)
                  replace hF := hF.trans (zL_eq ex_14)
                  refine lv_goto (tgt := 23) hx hb dX10_keeper_99 (by decide) ?_
                  exact ih_1 v2_4 v3_5 x_14 (by first | with_reducible assumption | omega) (by first | with_reducible assumption | omega) (by first | with_reducible assumption | omega) _ _ _ (by first | with_reducible assumption | omega) hF (hP.sub (ws' := (zV297 m0_hours cA_m0_hours f_m0_hours m0_in cA_m0_in f_m0_in m0_people cA_m0_people f_m0_people m0_at0 cA_m0_at0 f_m0_at0 m0_stray cA_m0_stray f_m0_stray m0_set cA_m0_set f_m0_set m0_truth cA_m0_truth f_m0_truth m0 m0_width m0_many m0_cells m0_moved m0_tape m0_taped m0_at m0_token m0_place m0_value m0_word m0_bad m0_badPlace m0_fault m0_faultPlace m0_lines m0_hours m0_courts m0_in m0_gates m0_gate m0_people m0_at0 m0_stray m0_set m0_once m0_truth m0_known m0_isKept m0_strays m0_hostPerson m0_hostCourt m0_outside m0_inside m0_can m0_fewest m0_waysTo m0_then m0_two m0_nextTwo m0_three m0_nextThree m0_shut m0_worth m0_digit m0_codes m0_most m0_bestTry m0_dayCourt m0_dayHour m0_dayNo m0_x m0_courts cA_m0_courts f_m0_courts)) [0, 1, 2, 3, 4, 5, 6, 7, 8] rfl) (hD.sub (ws' := (zV297 m0_hours cA_m0_hours f_m0_hours m0_in cA_m0_in f_m0_in m0_people cA_m0_people f_m0_people m0_at0 cA_m0_at0 f_m0_at0 m0_stray cA_m0_stray f_m0_stray m0_set cA_m0_set f_m0_set m0_truth cA_m0_truth f_m0_truth m0 m0_width m0_many m0_cells m0_moved m0_tape m0_taped m0_at m0_token m0_place m0_value m0_word m0_bad m0_badPlace m0_fault m0_faultPlace m0_lines m0_hours m0_courts m0_in m0_gates m0_gate m0_people m0_at0 m0_stray m0_set m0_once m0_truth m0_known m0_isKept m0_strays m0_hostPerson m0_hostCourt m0_outside m0_inside m0_can m0_fewest m0_waysTo m0_then m0_two m0_nextTwo m0_three m0_nextThree m0_shut m0_worth m0_digit m0_codes m0_most m0_bestTry m0_dayCourt m0_dayHour m0_dayNo m0_x m0_courts cA_m0_courts f_m0_courts)) [0, 1, 2, 3, 4, 5, 6, 7, 8] (by decide) rfl) hS (lv_sub hl [1, 2, 3, 4, 0] rfl)
              · have ic_11 := zz_nge rfl rfl c_11
                replace hF := hF.trans (if_neg c_11)
                refine lv_iload hx hb dX10_keeper_51 (lv_at hl 5 rfl) ?_
                refine lv_aload_n hx hb dX10_keeper_53 rfl (lv_at hl 0 rfl) ?_
                refine lv_iload_n hx hb dX10_keeper_54 rfl (lv_at hl 1 rfl) ?_
                refine lv_iload hx hb dX10_keeper_55 (lv_at hl 6 rfl) ?_
                obtain ⟨hPc, hDc, hFc⟩ := z_cut (wc := (zV105 m0 m0_width m0_many m0_cells m0_moved m0_tape m0_taped m0_at m0_token m0_place m0_value m0_word m0_bad m0_badPlace m0_fault m0_faultPlace m0_lines m0_hours m0_courts m0_in m0_gates m0_gate m0_people m0_at0 m0_stray m0_set m0_once m0_truth m0_known m0_isKept m0_strays m0_hostPerson m0_hostCourt m0_outside m0_inside m0_can m0_fewest m0_waysTo m0_then m0_two m0_nextTwo m0_three m0_nextThree m0_shut m0_worth m0_digit m0_codes m0_most m0_bestTry m0_dayCourt m0_dayHour m0_dayNo m0_x m0_in cA_m0_in f_m0_in m0_people cA_m0_people f_m0_people m0_at0 cA_m0_at0 f_m0_at0 m0_stray cA_m0_stray f_m0_stray m0_set cA_m0_set f_m0_set m0_truth cA_m0_truth f_m0_truth)) hP hD hS hA [7, 1, 2, 3, 4, 5, 6] rfl (by decide +kernel)
                have hKc := hK.sub (tys' := [(cA_m0_in, .int), (cA_m0_people, .int), (cA_m0_at0, .int), (cA_m0_stray, .int), (cA_m0_set, .int), (cA_m0_truth, .int)]) [2, 3, 4, 5, 6, 7] rfl
                refine va_calli (va_runV (As := [.int p1, .int v6_8]) (rest := [.int v5_9]) ⟨hx, hb, hml, hown, hts⟩ (kf_X10_withinOf l sa dC dI m0 p1 v6_8 (0) m0_width m0_many m0_cells m0_moved m0_tape m0_taped m0_at m0_token m0_place m0_value m0_word m0_bad m0_badPlace m0_fault m0_faultPlace m0_lines m0_hours m0_courts m0_in m0_gates m0_gate m0_people m0_at0 m0_stray m0_set m0_once m0_truth m0_known m0_isKept m0_strays m0_hostPerson m0_hostCourt m0_outside m0_inside m0_can m0_fewest m0_waysTo m0_then m0_two m0_nextTwo m0_three m0_nextThree m0_shut m0_worth m0_digit m0_codes m0_most m0_bestTry m0_dayCourt m0_dayHour m0_dayNo m0_x cA_m0_in f_m0_in cA_m0_people f_m0_people cA_m0_at0 f_m0_at0 cA_m0_stray f_m0_stray cA_m0_set f_m0_set cA_m0_truth f_m0_truth (by first | with_reducible assumption | omega) b_m0_taped b_m0_at b_m0_token b_m0_value b_m0_bad b_m0_strays b_m0_hostCourt b_m0_dayCourt b_m0_dayHour (zIc.go hep_0 (by first | with_reducible assumption | omega) b_f_m0_in) b_f_m0_people b_f_m0_at0 b_f_m0_stray b_f_m0_set H.size) (cwV 2 hts (z_gV zw_t7_201 zw_t7_203 zw_s6_0 zw_t1_11 zw_t7_204) rfl rfl rfl (by decide +kernel) (by rw [← hRe]; exact ⟨(Nat.le_of_ble_eq_true rfl), (Nat.le_of_ble_eq_true rfl)⟩)) (z_preV hPc hKc hDc hN hXs hS hFc (q := (RX10, TX10, 53)) (ci := 10) (q0 := 0) rfl rfl) rfl rfl hl.1 rfl (lv_room (Nat.le_of_ble_eq_true rfl)) dX10_keeper_57 (by rw [← hRe]; exact ⟨(Nat.le_of_ble_eq_true rfl), (Nat.le_of_ble_eq_true rfl)⟩)) hS (fun q _ h => hFc q h) hFc (fun r_15 u t H1 locs ht hvm hw hB hz1 hk1 hS => ?_)
                obtain ⟨hP, hD, hK⟩ := z_after3 (wn := (zV298 m0_hours cA_m0_hours f_m0_hours m0_courts cA_m0_courts f_m0_courts m0 m0_width m0_many m0_cells m0_moved m0_tape m0_taped m0_at m0_token m0_place m0_value m0_word m0_bad m0_badPlace m0_fault m0_faultPlace m0_lines m0_hours m0_courts m0_in m0_gates m0_gate m0_people m0_at0 m0_stray m0_set m0_once m0_truth m0_known m0_isKept m0_strays m0_hostPerson m0_hostCourt m0_outside m0_inside m0_can m0_fewest m0_waysTo m0_then m0_two m0_nextTwo m0_three m0_nextThree m0_shut m0_worth m0_digit m0_codes m0_most m0_bestTry m0_dayCourt m0_dayHour m0_dayNo m0_x m0_in cA_m0_in f_m0_in m0_people cA_m0_people f_m0_people m0_at0 cA_m0_at0 f_m0_at0 m0_stray cA_m0_stray f_m0_stray m0_set cA_m0_set f_m0_set m0_truth cA_m0_truth f_m0_truth)) hB ht hvm hP hD hK [7, 1, 2, 3, 4, 5, 6] [0, 8] rfl 9 rfl (by decide +kernel) rfl (by decide +kernel) hk1 hFc
                generalize H1 = H at hP hS ⊢
                have hK : va_K (dC, dI) vwCl [(cA_m0_hours, .int), (cA_m0_courts, .int), (cA_m0_in, .int), (cA_m0_people, .int), (cA_m0_at0, .int), (cA_m0_stray, .int), (cA_m0_set, .int), (cA_m0_truth, .int)] s := hK
                have b_r_15 : 0 ≤ r_15.toInt ∧ r_15.toInt ≤ 1023 := hw.1
                have sf_r_15 := hw.2
                replace hF := hF.trans (zL_eq sf_r_15)
                refine lv_iconst (v := 1) hx hb dX10_keeper_60 (by decide) ?_
                refine lv_iload hx hb dX10_keeper_61 (lv_at hl 4 rfl) ?_
                refine lv_ishl hx hb dX10_keeper_63 ?_
                refine lv_topi (fun x_16 ex_16 => ?_)
                replace hF := hF.trans (zL_eq ex_16)
                have b_x_16 : 1 ≤ x_16.toInt ∧ x_16.toInt ≤ 512 := by rw [ex_16]; exact zi_shl9 rfl (by first | with_reducible assumption | omega)
                refine lv_icmp_ne (tgt := 71) hx hb dX10_keeper_64 (by decide) (fun c_17 => ?_) (fun c_17 => ?_)
                · have ic_17 := zz_ne rfl rfl c_17
                  replace hF := hF.trans (if_neg c_17)
                  refine lv_iconst (v := 0) hx hb dX10_keeper_71 (by decide) ?_
                  refine lv_iadd hx hb dX10_keeper_72 ?_
                  have nb9_v5_9 := zi_nb v5_9
                  refine lv_topi (fun x_18 ex_18 => ?_)
                  replace hF := hF.trans (zL_eq ex_18)
                  have b_x_18 : x_18.toInt = v5_9.toInt + 0 := by rw [ex_18]; exact zi_add rfl (show Int32.toInt 0 = 0 from by decide) (by first | with_reducible assumption | omega)
                  refine lv_istore (lv' := [(5, .int x_18), (0, .ref m0), (1, .int p1), (2, .int v2_4), (3, .int v3_5), (4, .int v4_3), (6, .int v6_8)]) hx hb dX10_keeper_73 hl (by decide) rfl (fun ls hl => ?_)
                  obtain ⟨x_19, ex_19⟩ : ∃ z : Int32, z = v6_8 + Int32.ofInt 1 := ⟨_, rfl⟩
                  have b_x_19 : x_19.toInt = v6_8.toInt + 1 := by rw [ex_19]; exact zi_add rfl (show (Int32.ofInt 1).toInt = 1 from by decide) (z_rac b_v6_8 (by decide))
                  refine lv_iinc (v := x_19) (lv' := [(6, .int x_19), (5, .int x_18), (0, .ref m0), (1, .int p1), (2, .int v2_4), (3, .int v3_5), (4, .int v4_3)]) hx hb dX10_keeper_75 hl (k := 6) rfl ex_19.symm (by decide) rfl (fun ls hl => ?_)
                  replace hF := hF.trans (zL_eq ex_19)
                  refine lv_goto (tgt := 40) hx hb dX10_keeper_78 (by decide) ?_
                  exact ih_2 x_18 x_19 (by first | with_reducible assumption | omega) _ _ _ (by first | with_reducible assumption | omega) hF (hP.sub (ws' := (zV297 m0_hours cA_m0_hours f_m0_hours m0_in cA_m0_in f_m0_in m0_people cA_m0_people f_m0_people m0_at0 cA_m0_at0 f_m0_at0 m0_stray cA_m0_stray f_m0_stray m0_set cA_m0_set f_m0_set m0_truth cA_m0_truth f_m0_truth m0 m0_width m0_many m0_cells m0_moved m0_tape m0_taped m0_at m0_token m0_place m0_value m0_word m0_bad m0_badPlace m0_fault m0_faultPlace m0_lines m0_hours m0_courts m0_in m0_gates m0_gate m0_people m0_at0 m0_stray m0_set m0_once m0_truth m0_known m0_isKept m0_strays m0_hostPerson m0_hostCourt m0_outside m0_inside m0_can m0_fewest m0_waysTo m0_then m0_two m0_nextTwo m0_three m0_nextThree m0_shut m0_worth m0_digit m0_codes m0_most m0_bestTry m0_dayCourt m0_dayHour m0_dayNo m0_x m0_courts cA_m0_courts f_m0_courts)) [0, 3, 4, 5, 6, 7, 8, 2, 1] rfl) (hD.sub (ws' := (zV297 m0_hours cA_m0_hours f_m0_hours m0_in cA_m0_in f_m0_in m0_people cA_m0_people f_m0_people m0_at0 cA_m0_at0 f_m0_at0 m0_stray cA_m0_stray f_m0_stray m0_set cA_m0_set f_m0_set m0_truth cA_m0_truth f_m0_truth m0 m0_width m0_many m0_cells m0_moved m0_tape m0_taped m0_at m0_token m0_place m0_value m0_word m0_bad m0_badPlace m0_fault m0_faultPlace m0_lines m0_hours m0_courts m0_in m0_gates m0_gate m0_people m0_at0 m0_stray m0_set m0_once m0_truth m0_known m0_isKept m0_strays m0_hostPerson m0_hostCourt m0_outside m0_inside m0_can m0_fewest m0_waysTo m0_then m0_two m0_nextTwo m0_three m0_nextThree m0_shut m0_worth m0_digit m0_codes m0_most m0_bestTry m0_dayCourt m0_dayHour m0_dayNo m0_x m0_courts cA_m0_courts f_m0_courts)) [0, 3, 4, 5, 6, 7, 8, 2, 1] (by decide) rfl) hS (lv_sub hl [2, 3, 4, 5, 6, 1, 0] rfl)
                · have ic_17 := zz_nne rfl rfl c_17
                  replace hF := hF.trans (if_pos c_17)
                  refine lv_iconst (v := 1) hx hb dX10_keeper_67 (by decide) ?_
                  refine lv_goto (tgt := 72) hx hb dX10_keeper_68 (by decide) ?_
                  refine lv_iadd hx hb dX10_keeper_72 ?_
                  refine lv_topi (fun x_20 ex_20 => ?_)
                  replace hF := hF.trans (zL_eq ex_20)
                  refine lv_istore (lv' := [(5, .int x_20), (0, .ref m0), (1, .int p1), (2, .int v2_4), (3, .int v3_5), (4, .int v4_3), (6, .int v6_8)]) hx hb dX10_keeper_73 hl (by decide) rfl (fun ls hl => ?_)
                  obtain ⟨x_21, ex_21⟩ : ∃ z : Int32, z = v6_8 + Int32.ofInt 1 := ⟨_, rfl⟩
                  have b_x_21 : x_21.toInt = v6_8.toInt + 1 := by rw [ex_21]; exact zi_add rfl (show (Int32.ofInt 1).toInt = 1 from by decide) (z_rac b_v6_8 (by decide))
                  refine lv_iinc (v := x_21) (lv' := [(6, .int x_21), (5, .int x_20), (0, .ref m0), (1, .int p1), (2, .int v2_4), (3, .int v3_5), (4, .int v4_3)]) hx hb dX10_keeper_75 hl (k := 6) rfl ex_21.symm (by decide) rfl (fun ls hl => ?_)
                  replace hF := hF.trans (zL_eq ex_21)
                  refine lv_goto (tgt := 40) hx hb dX10_keeper_78 (by decide) ?_
                  exact ih_2 x_20 x_21 (by first | with_reducible assumption | omega) _ _ _ (by first | with_reducible assumption | omega) hF (hP.sub (ws' := (zV297 m0_hours cA_m0_hours f_m0_hours m0_in cA_m0_in f_m0_in m0_people cA_m0_people f_m0_people m0_at0 cA_m0_at0 f_m0_at0 m0_stray cA_m0_stray f_m0_stray m0_set cA_m0_set f_m0_set m0_truth cA_m0_truth f_m0_truth m0 m0_width m0_many m0_cells m0_moved m0_tape m0_taped m0_at m0_token m0_place m0_value m0_word m0_bad m0_badPlace m0_fault m0_faultPlace m0_lines m0_hours m0_courts m0_in m0_gates m0_gate m0_people m0_at0 m0_stray m0_set m0_once m0_truth m0_known m0_isKept m0_strays m0_hostPerson m0_hostCourt m0_outside m0_inside m0_can m0_fewest m0_waysTo m0_then m0_two m0_nextTwo m0_three m0_nextThree m0_shut m0_worth m0_digit m0_codes m0_most m0_bestTry m0_dayCourt m0_dayHour m0_dayNo m0_x m0_courts cA_m0_courts f_m0_courts)) [0, 3, 4, 5, 6, 7, 8, 2, 1] rfl) (hD.sub (ws' := (zV297 m0_hours cA_m0_hours f_m0_hours m0_in cA_m0_in f_m0_in m0_people cA_m0_people f_m0_people m0_at0 cA_m0_at0 f_m0_at0 m0_stray cA_m0_stray f_m0_stray m0_set cA_m0_set f_m0_set m0_truth cA_m0_truth f_m0_truth m0 m0_width m0_many m0_cells m0_moved m0_tape m0_taped m0_at m0_token m0_place m0_value m0_word m0_bad m0_badPlace m0_fault m0_faultPlace m0_lines m0_hours m0_courts m0_in m0_gates m0_gate m0_people m0_at0 m0_stray m0_set m0_once m0_truth m0_known m0_isKept m0_strays m0_hostPerson m0_hostCourt m0_outside m0_inside m0_can m0_fewest m0_waysTo m0_then m0_two m0_nextTwo m0_three m0_nextThree m0_shut m0_worth m0_digit m0_codes m0_most m0_bestTry m0_dayCourt m0_dayHour m0_dayNo m0_x m0_courts cA_m0_courts f_m0_courts)) [0, 3, 4, 5, 6, 7, 8, 2, 1] (by decide) rfl) hS (lv_sub hl [2, 3, 4, 5, 6, 1, 0] rfl)
          exact loop_2 50 (0) (0) (by decide) _ _ _ (by decide) hF hP hD hS (lv_sub hl [2, 3, 4, 5, 6, 1, 0] rfl)
    exact loop_1 12 (-1) (0) (0) (by decide) (by decide) (by decide) _ _ _ (by decide) hF hP hD hS (lv_sub hl [3, 4, 2, 1, 0] rfl)
  · have ic_2 := zz_nne rfl (show Int32.toInt 0 = 0 from by decide) c_2
    replace hF := hF.trans (if_pos c_2)
    refine lv_bipush (v := (-2)) hx hb dX10_keeper_13 (by decide) ?_
    have hF : RR = ((-2 : Int32), (0 : Int32)) := hF
    have zc : Int32.toInt (-2) = (-2) := by decide
    exact W.iret (v := (-2)) hx hb hr (fun t ht hW => by rw [← hQe]; exact ⟨⟨(-2), (), rfl, ⟨by decide, (by rw [← hRR, hF])⟩, ⟨(0), (by rw [← hRR, hF]), z_ret hP hK hD ht hW [7, 0, 8, 1, 2, 3, 4, 5, 6] [] rfl (by decide) rfl⟩⟩, hS.F ht⟩) hS.2.2 dX10_keeper_15
set_option maxHeartbeats 4000000 in
set_option maxRecDepth 100000 in
theorem kf_X10_hear (l : Launch) (sa : Nat → Nat) (dC : Nat → ClassId) (dI : Nat → Nat → Nat) (m0 : Nat) (p1 : Int32) (p2 : Int32) (p3 : Int32) (p4 : Int32) (m0_thrown : Int32) (m0_width : Nat) (m0_many : Nat) (m0_cells : Nat) (m0_moved : Nat) (m0_tape : Nat) (m0_taped : Int32) (m0_at : Int32) (m0_token : Int32) (m0_place : Int32) (m0_value : Int32) (m0_word : Int64) (m0_bad : Int32) (m0_badPlace : Int32) (m0_fault : Int32) (m0_faultPlace : Int32) (m0_lines : Nat) (m0_hours : Nat) (m0_courts : Nat) (m0_in : Nat) (m0_gates : Nat) (m0_gate : Nat) (m0_people : Nat) (m0_at0 : Nat) (m0_stray : Nat) (m0_set : Nat) (m0_once : Nat) (m0_truth : Nat) (m0_known : Nat) (m0_isKept : Nat) (m0_strays : Int32) (m0_hostPerson : Int32) (m0_hostCourt : Int32) (m0_outside : Int32) (m0_inside : Nat) (m0_can : Nat) (m0_fewest : Nat) (m0_waysTo : Nat) (m0_then : Nat) (m0_two : Nat) (m0_nextTwo : Nat) (m0_three : Nat) (m0_nextThree : Nat) (m0_shut : Int32) (m0_worth : Nat) (m0_digit : Nat) (m0_codes : Int32) (m0_most : Int64) (m0_bestTry : Int32) (m0_dayCourt : Int32) (m0_dayHour : Int32) (m0_dayNo : Int32) (m0_x : Int64) (cA_m0_hours : ClassId) (f_m0_hours : Nat → Int32) (cA_m0_courts : ClassId) (f_m0_courts : Nat → Int32) (cA_m0_in : ClassId) (f_m0_in : Nat → Int32) (cA_m0_people : ClassId) (f_m0_people : Nat → Int32) (cA_m0_at0 : ClassId) (f_m0_at0 : Nat → Int32) (cA_m0_stray : ClassId) (f_m0_stray : Nat → Int32) (cA_m0_set : ClassId) (f_m0_set : Nat → Int32) (cA_m0_known : ClassId) (f_m0_known : Nat → Int32) (b_m0_taped : 0 ≤ m0_taped.toInt ∧ m0_taped.toInt ≤ 1600) (b_m0_at : 0 ≤ m0_at.toInt ∧ m0_at.toInt ≤ 1600) (b_m0_token : 0 ≤ m0_token.toInt ∧ m0_token.toInt ≤ 4) (b_m0_value : 0 ≤ m0_value.toInt ∧ m0_value.toInt ≤ 1000009) (b_m0_bad : 0 ≤ m0_bad.toInt ∧ m0_bad.toInt ≤ 3) (b_m0_strays : 0 ≤ m0_strays.toInt ∧ m0_strays.toInt ≤ 5) (b_m0_hostCourt : 0 ≤ m0_hostCourt.toInt ∧ m0_hostCourt.toInt ≤ 9) (b_m0_dayCourt : 0 ≤ m0_dayCourt.toInt ∧ m0_dayCourt.toInt ≤ 9) (b_m0_dayHour : 0 ≤ m0_dayHour.toInt ∧ m0_dayHour.toInt ≤ 48) (b_f_m0_hours : ∀ j : Nat, 0 ≤ (f_m0_hours j).toInt ∧ (f_m0_hours j).toInt ≤ 48) (b_f_m0_courts : ∀ j : Nat, 0 ≤ (f_m0_courts j).toInt ∧ (f_m0_courts j).toInt ≤ 10) (b_f_m0_in : ∀ j : Nat, ¬ j % 10 = 0 → (-1) ≤ (f_m0_in j).toInt ∧ (f_m0_in j).toInt < ((j % 10 : Nat) : Int)) (b_f_m0_people : ∀ j : Nat, 0 ≤ (f_m0_people j).toInt ∧ (f_m0_people j).toInt ≤ 10) (b_f_m0_at0 : ∀ j : Nat, 0 ≤ (f_m0_at0 j).toInt ∧ (f_m0_at0 j).toInt ≤ 9) (b_f_m0_stray : ∀ j : Nat, 0 ≤ (f_m0_stray j).toInt ∧ (f_m0_stray j).toInt ≤ 99 ∧ (j % 2 = 1 → (f_m0_stray j).toInt ≤ 9)) (b_f_m0_set : ∀ j : Nat, 0 ≤ (f_m0_set j).toInt ∧ (f_m0_set j).toInt ≤ 9) (b_f_m0_known : ∀ j : Nat, 0 ≤ (f_m0_known j).toInt ∧ (f_m0_known j).toInt ≤ 2) (hep_0 : zIc f_m0_in (f_m0_courts (Int32.toNatClampNeg 0)).toInt) (sz : Nat) : Met l yX10_hear (.code yX10_hear cX10_hear 8 (some .int) :: zT) ({ frames := 3, cells := 0, slots := 0, locals := 69 }) (va_Pc [.ref m0, .int p1, .int p2, .int p3, .int p4] (zB sa dC dI (zV302 m0 m0_thrown m0_width m0_many m0_cells m0_moved m0_tape m0_taped m0_at m0_token m0_place m0_value m0_word m0_bad m0_badPlace m0_fault m0_faultPlace m0_lines m0_hours m0_courts m0_in m0_gates m0_gate m0_people m0_at0 m0_stray m0_set m0_once m0_truth m0_known m0_isKept m0_strays m0_hostPerson m0_hostCourt m0_outside m0_inside m0_can m0_fewest m0_waysTo m0_then m0_two m0_nextTwo m0_three m0_nextThree m0_shut m0_worth m0_digit m0_codes m0_most m0_bestTry m0_dayCourt m0_dayHour m0_dayNo m0_x m0_hours cA_m0_hours f_m0_hours m0_courts cA_m0_courts f_m0_courts m0_in cA_m0_in f_m0_in m0_people cA_m0_people f_m0_people m0_at0 cA_m0_at0 f_m0_at0 m0_stray cA_m0_stray f_m0_stray m0_set cA_m0_set f_m0_set m0_known cA_m0_known f_m0_known) [(cA_m0_hours, .int), (cA_m0_courts, .int), (cA_m0_in, .int), (cA_m0_people, .int), (cA_m0_at0, .int), (cA_m0_stray, .int), (cA_m0_set, .int), (cA_m0_known, .int)] sz)) (va_Qi (fun (r : Int32) (_ : Unit) => ((-5) ≤ r.toInt ∧ r.toInt ≤ 1) ∧ r = (F_X10_hear p1 p2 p3 p4 m0_hostPerson m0_hostCourt f_m0_hours f_m0_courts f_m0_in f_m0_people f_m0_at0 f_m0_stray f_m0_set f_m0_known).1) (fun _ t => ∃ (n_m0_0 : Int32) (n_m0_known : Nat → Int32), (∀ j : Nat, 0 ≤ (n_m0_known j).toInt ∧ (n_m0_known j).toInt ≤ 2) ∧ (n_m0_0 = (F_X10_hear p1 p2 p3 p4 m0_hostPerson m0_hostCourt f_m0_hours f_m0_courts f_m0_in f_m0_people f_m0_at0 f_m0_stray f_m0_set f_m0_known).2.1) ∧ (n_m0_known = (F_X10_hear p1 p2 p3 p4 m0_hostPerson m0_hostCourt f_m0_hours f_m0_courts f_m0_in f_m0_people f_m0_at0 f_m0_stray f_m0_set f_m0_known).2.2) ∧ zW dC dI (zV302 m0 n_m0_0 m0_width m0_many m0_cells m0_moved m0_tape m0_taped m0_at m0_token m0_place m0_value m0_word m0_bad m0_badPlace m0_fault m0_faultPlace m0_lines m0_hours m0_courts m0_in m0_gates m0_gate m0_people m0_at0 m0_stray m0_set m0_once m0_truth m0_known m0_isKept m0_strays m0_hostPerson m0_hostCourt m0_outside m0_inside m0_can m0_fewest m0_waysTo m0_then m0_two m0_nextTwo m0_three m0_nextThree m0_shut m0_worth m0_digit m0_codes m0_most m0_bestTry m0_dayCourt m0_dayHour m0_dayNo m0_x m0_hours cA_m0_hours f_m0_hours m0_courts cA_m0_courts f_m0_courts m0_in cA_m0_in f_m0_in m0_people cA_m0_people f_m0_people m0_at0 cA_m0_at0 f_m0_at0 m0_stray cA_m0_stray f_m0_stray m0_set cA_m0_set f_m0_set m0_known cA_m0_known n_m0_known) [] (va_A (zV302 m0 m0_thrown m0_width m0_many m0_cells m0_moved m0_tape m0_taped m0_at m0_token m0_place m0_value m0_word m0_bad m0_badPlace m0_fault m0_faultPlace m0_lines m0_hours m0_courts m0_in m0_gates m0_gate m0_people m0_at0 m0_stray m0_set m0_once m0_truth m0_known m0_isKept m0_strays m0_hostPerson m0_hostCourt m0_outside m0_inside m0_can m0_fewest m0_waysTo m0_then m0_two m0_nextTwo m0_three m0_nextThree m0_shut m0_worth m0_digit m0_codes m0_most m0_bestTry m0_dayCourt m0_dayHour m0_dayNo m0_x m0_hours cA_m0_hours f_m0_hours m0_courts cA_m0_courts f_m0_courts m0_in cA_m0_in f_m0_in m0_people cA_m0_people f_m0_people m0_at0 cA_m0_at0 f_m0_at0 m0_stray cA_m0_stray f_m0_stray m0_set cA_m0_set f_m0_set m0_known cA_m0_known f_m0_known) sz) t) (va_A (zV302 m0 m0_thrown m0_width m0_many m0_cells m0_moved m0_tape m0_taped m0_at m0_token m0_place m0_value m0_word m0_bad m0_badPlace m0_fault m0_faultPlace m0_lines m0_hours m0_courts m0_in m0_gates m0_gate m0_people m0_at0 m0_stray m0_set m0_once m0_truth m0_known m0_isKept m0_strays m0_hostPerson m0_hostCourt m0_outside m0_inside m0_can m0_fewest m0_waysTo m0_then m0_two m0_nextTwo m0_three m0_nextThree m0_shut m0_worth m0_digit m0_codes m0_most m0_bestTry m0_dayCourt m0_dayHour m0_dayNo m0_x m0_hours cA_m0_hours f_m0_hours m0_courts cA_m0_courts f_m0_courts m0_in cA_m0_in f_m0_in m0_people cA_m0_people f_m0_people m0_at0 cA_m0_at0 f_m0_at0 m0_stray cA_m0_stray f_m0_stray m0_set cA_m0_set f_m0_set m0_known cA_m0_known f_m0_known) sz)) 0 0 (va_A (zV302 m0 m0_thrown m0_width m0_many m0_cells m0_moved m0_tape m0_taped m0_at m0_token m0_place m0_value m0_word m0_bad m0_badPlace m0_fault m0_faultPlace m0_lines m0_hours m0_courts m0_in m0_gates m0_gate m0_people m0_at0 m0_stray m0_set m0_once m0_truth m0_known m0_isKept m0_strays m0_hostPerson m0_hostCourt m0_outside m0_inside m0_can m0_fewest m0_waysTo m0_then m0_two m0_nextTwo m0_three m0_nextThree m0_shut m0_worth m0_digit m0_codes m0_most m0_bestTry m0_dayCourt m0_dayHour m0_dayNo m0_x m0_hours cA_m0_hours f_m0_hours m0_courts cA_m0_courts f_m0_courts m0_in cA_m0_in f_m0_in m0_people cA_m0_people f_m0_people m0_at0 cA_m0_at0 f_m0_at0 m0_stray cA_m0_stray f_m0_stray m0_set cA_m0_set f_m0_set m0_known cA_m0_known f_m0_known) sz) := by
  refine z_enter (by decide) (by exact (Nat.le_of_ble_eq_true rfl)) ?_
  intro p e s m args below meth c ls A R Qc hargs hsz hQe hAe hRe hx hb hml hr hts hown hlocks hin hl hP hK hD hN hXs hA hS
  rw [hAe] at hQe
  have hown : s.vm.findClass RX10 = some m.cls := hown
  have hl : lv_has ls 8 [(0, .ref m0), (1, .int p1), (2, .int p2), (3, .int p3), (4, .int p4)] := hl
  obtain ⟨RR, hRR⟩ : ∃ z : Int32 × Int32 × (Nat → Int32), z = (F_X10_hear p1 p2 p3 p4 m0_hostPerson m0_hostCourt f_m0_hours f_m0_courts f_m0_in f_m0_people f_m0_at0 f_m0_stray f_m0_set f_m0_known) := ⟨_, rfl⟩
  have hF : RR = (F_X10_hear p1 p2 p3 p4 m0_hostPerson m0_hostCourt f_m0_hours f_m0_courts f_m0_in f_m0_people f_m0_at0 f_m0_stray f_m0_set f_m0_known) := hRR
  refine lv_aload_n hx hb dX10_hear_0 rfl (lv_at hl 0 rfl) ?_
  refine lv_iconst (v := 0) hx hb dX10_hear_1 (by decide) ?_
  refine va_put (D := (dC, dI)) (ci := 10) (v := .int 0) (ty := .int) (C := RX10) (T := TX10) (N := 53) hx hb hts zl_X10 tyX10 tyX10_ok nmX10 hown hK hP hD hS 0 rfl rfl 0 (by decide) (hts _ zw_t6_100) (fun _ h9 => h9) rfl (by decide +kernel) rfl rfl (Nat.le_of_ble_eq_true rfl) dX10_hear_2 (fun H locs hP hD hS => ?_)
  have hP : va_P (dC, dI) vwCl (zV303 m0 m0_width m0_many m0_cells m0_moved m0_tape m0_taped m0_at m0_token m0_place m0_value m0_word m0_bad m0_badPlace m0_fault m0_faultPlace m0_lines m0_hours m0_courts m0_in m0_gates m0_gate m0_people m0_at0 m0_stray m0_set m0_once m0_truth m0_known m0_isKept m0_strays m0_hostPerson m0_hostCourt m0_outside m0_inside m0_can m0_fewest m0_waysTo m0_then m0_two m0_nextTwo m0_three m0_nextThree m0_shut m0_worth m0_digit m0_codes m0_most m0_bestTry m0_dayCourt m0_dayHour m0_dayNo m0_x m0_hours cA_m0_hours f_m0_hours m0_courts cA_m0_courts f_m0_courts m0_in cA_m0_in f_m0_in m0_people cA_m0_people f_m0_people m0_at0 cA_m0_at0 f_m0_at0 m0_stray cA_m0_stray f_m0_stray m0_set cA_m0_set f_m0_set m0_known cA_m0_known f_m0_known) H := hP
  have hD : va_D A (zV303 m0 m0_width m0_many m0_cells m0_moved m0_tape m0_taped m0_at m0_token m0_place m0_value m0_word m0_bad m0_badPlace m0_fault m0_faultPlace m0_lines m0_hours m0_courts m0_in m0_gates m0_gate m0_people m0_at0 m0_stray m0_set m0_once m0_truth m0_known m0_isKept m0_strays m0_hostPerson m0_hostCourt m0_outside m0_inside m0_can m0_fewest m0_waysTo m0_then m0_two m0_nextTwo m0_three m0_nextThree m0_shut m0_worth m0_digit m0_codes m0_most m0_bestTry m0_dayCourt m0_dayHour m0_dayNo m0_x m0_hours cA_m0_hours f_m0_hours m0_courts cA_m0_courts f_m0_courts m0_in cA_m0_in f_m0_in m0_people cA_m0_people f_m0_people m0_at0 cA_m0_at0 f_m0_at0 m0_stray cA_m0_stray f_m0_stray m0_set cA_m0_set f_m0_set m0_known cA_m0_known f_m0_known) := hD
  refine lv_aload_n hx hb dX10_hear_5 rfl (lv_at hl 0 rfl) ?_
  refine lv_iload_n hx hb dX10_hear_6 rfl (lv_at hl 1 rfl) ?_
  obtain ⟨hPc, hDc, hFc⟩ := z_cut (wc := (zV102 m0 m0_width m0_many m0_cells m0_moved m0_tape m0_taped m0_at m0_token m0_place m0_value m0_word m0_bad m0_badPlace m0_fault m0_faultPlace m0_lines m0_hours m0_courts m0_in m0_gates m0_gate m0_people m0_at0 m0_stray m0_set m0_once m0_truth m0_known m0_isKept m0_strays m0_hostPerson m0_hostCourt m0_outside m0_inside m0_can m0_fewest m0_waysTo m0_then m0_two m0_nextTwo m0_three m0_nextThree m0_shut m0_worth m0_digit m0_codes m0_most m0_bestTry m0_dayCourt m0_dayHour m0_dayNo m0_x m0_people cA_m0_people f_m0_people)) hP hD hS hA [0, 4] rfl (by decide +kernel)
  have hKc := hK.sub (tys' := [(cA_m0_people, .int)]) [3] rfl
  refine va_calli (va_runV (As := [.int p1]) (rest := []) ⟨hx, hb, hml, hown, hts⟩ (kf_X10_isPerson l sa dC dI m0 p1 (0) m0_width m0_many m0_cells m0_moved m0_tape m0_taped m0_at m0_token m0_place m0_value m0_word m0_bad m0_badPlace m0_fault m0_faultPlace m0_lines m0_hours m0_courts m0_in m0_gates m0_gate m0_people m0_at0 m0_stray m0_set m0_once m0_truth m0_known m0_isKept m0_strays m0_hostPerson m0_hostCourt m0_outside m0_inside m0_can m0_fewest m0_waysTo m0_then m0_two m0_nextTwo m0_three m0_nextThree m0_shut m0_worth m0_digit m0_codes m0_most m0_bestTry m0_dayCourt m0_dayHour m0_dayNo m0_x cA_m0_people f_m0_people b_m0_taped b_m0_at b_m0_token b_m0_value b_m0_bad b_m0_strays b_m0_hostCourt b_m0_dayCourt b_m0_dayHour b_f_m0_people H.size) (cwV 1 hts (z_gV zw_t7_177 zw_t7_179 zw_s5_11 zw_t1_11 zw_t7_180) rfl rfl rfl (by decide +kernel) (by rw [← hRe]; exact ⟨(Nat.le_of_ble_eq_true rfl), (Nat.le_of_ble_eq_true rfl)⟩)) (z_preV hPc hKc hDc hN hXs hS hFc (q := (RX10, TX10, 53)) (ci := 10) (q0 := 0) rfl rfl) rfl rfl hl.1 rfl (lv_room (Nat.le_of_ble_eq_true rfl)) dX10_hear_7 (by rw [← hRe]; exact ⟨(Nat.le_of_ble_eq_true rfl), (Nat.le_of_ble_eq_true rfl)⟩)) hS (fun q _ h => hFc q h) hFc (fun r_1 u t H1 locs ht hvm hw hB hz1 hk1 hS => ?_)
  obtain ⟨hP, hD, hK⟩ := z_after3 (wn := [(m0_hours, .inl (cA_m0_hours, 5, .inl f_m0_hours)), (m0_courts, .inl (cA_m0_courts, 5, .inl f_m0_courts)), (m0_in, .inl (cA_m0_in, 50, .inl f_m0_in)), (m0_at0, .inl (cA_m0_at0, 2400, .inl f_m0_at0)), (m0_stray, .inl (cA_m0_stray, 100, .inl f_m0_stray)), (m0_set, .inl (cA_m0_set, 10, .inl f_m0_set)), (m0_known, .inl (cA_m0_known, 50, .inl f_m0_known)), (m0, .inr (10, [.int 0, .ref m0_width, .ref m0_many, .ref m0_cells, .ref m0_moved, .ref m0_tape, .int m0_taped, .int m0_at, .int m0_token, .int m0_place, .int m0_value, .long m0_word, .int m0_bad, .int m0_badPlace, .int m0_fault, .int m0_faultPlace, .ref m0_lines, .ref m0_hours, .ref m0_courts, .ref m0_in, .ref m0_gates, .ref m0_gate, .ref m0_people, .ref m0_at0, .ref m0_stray, .ref m0_set, .ref m0_once, .ref m0_truth, .ref m0_known, .ref m0_isKept, .int m0_strays, .int m0_hostPerson, .int m0_hostCourt, .int m0_outside, .ref m0_inside, .ref m0_can, .ref m0_fewest, .ref m0_waysTo, .ref m0_then, .ref m0_two, .ref m0_nextTwo, .ref m0_three, .ref m0_nextThree, .int m0_shut, .ref m0_worth, .ref m0_digit, .int m0_codes, .long m0_most, .int m0_bestTry, .int m0_dayCourt, .int m0_dayHour, .int m0_dayNo, .long m0_x])), (m0_people, .inl (cA_m0_people, 5, .inl f_m0_people))]) hB ht hvm hP hD hK [0, 4] [1, 2, 3, 5, 6, 7, 8] rfl 9 rfl (by decide +kernel) rfl (by decide +kernel) hk1 hFc
  generalize H1 = H at hP hS ⊢
  have hK : va_K (dC, dI) vwCl [(cA_m0_hours, .int), (cA_m0_courts, .int), (cA_m0_in, .int), (cA_m0_people, .int), (cA_m0_at0, .int), (cA_m0_stray, .int), (cA_m0_set, .int), (cA_m0_known, .int)] s := hK
  have b_r_1 : 0 ≤ r_1.toInt ∧ r_1.toInt ≤ 1 := hw.1
  have s_r_1 := hw.2.1
  have sf_r_1 := hw.2.2
  replace hF := hF.trans (zL_eq sf_r_1)
  refine lv_if_eq (tgt := 29) hx hb dX10_hear_10 (by decide) (fun c_2 => ?_) (fun c_2 => ?_)
  · have ic_2 := zz_eq rfl (show Int32.toInt 0 = 0 from by decide) c_2
    replace hF := hF.trans (if_pos c_2)
    refine lv_bipush (v := (-2)) hx hb dX10_hear_29 (by decide) ?_
    have hF : RR = ((-2 : Int32), (0 : Int32), f_m0_known) := hF
    have zc : Int32.toInt (-2) = (-2) := by decide
    exact W.iret (v := (-2)) hx hb hr (fun t ht hW => by rw [← hQe]; exact ⟨⟨(-2), (), rfl, ⟨by decide, (by rw [← hRR, hF])⟩, ⟨(0), f_m0_known, b_f_m0_known, (by rw [← hRR, hF]), (by rw [← hRR, hF]), z_ret hP hK hD ht hW [7, 0, 1, 2, 8, 3, 4, 5, 6] [] rfl (by decide) rfl⟩⟩, hS.F ht⟩) hS.2.2 dX10_hear_31
  · have ic_2 := zz_neq rfl (show Int32.toInt 0 = 0 from by decide) c_2
    replace hF := hF.trans (if_neg c_2)
    refine lv_aload_n hx hb dX10_hear_13 rfl (lv_at hl 0 rfl) ?_
    refine lv_iload_n hx hb dX10_hear_14 rfl (lv_at hl 2 rfl) ?_
    obtain ⟨hPc, hDc, hFc⟩ := z_cut (wc := (zV102 m0 m0_width m0_many m0_cells m0_moved m0_tape m0_taped m0_at m0_token m0_place m0_value m0_word m0_bad m0_badPlace m0_fault m0_faultPlace m0_lines m0_hours m0_courts m0_in m0_gates m0_gate m0_people m0_at0 m0_stray m0_set m0_once m0_truth m0_known m0_isKept m0_strays m0_hostPerson m0_hostCourt m0_outside m0_inside m0_can m0_fewest m0_waysTo m0_then m0_two m0_nextTwo m0_three m0_nextThree m0_shut m0_worth m0_digit m0_codes m0_most m0_bestTry m0_dayCourt m0_dayHour m0_dayNo m0_x m0_courts cA_m0_courts f_m0_courts)) hP hD hS hA [7, 1] rfl (by decide +kernel)
    have hKc := hK.sub (tys' := [(cA_m0_courts, .int)]) [1] rfl
    refine va_calli (va_runV (As := [.int p2]) (rest := []) ⟨hx, hb, hml, hown, hts⟩ (kf_X10_isCourt l sa dC dI m0 p2 (0) m0_width m0_many m0_cells m0_moved m0_tape m0_taped m0_at m0_token m0_place m0_value m0_word m0_bad m0_badPlace m0_fault m0_faultPlace m0_lines m0_hours m0_courts m0_in m0_gates m0_gate m0_people m0_at0 m0_stray m0_set m0_once m0_truth m0_known m0_isKept m0_strays m0_hostPerson m0_hostCourt m0_outside m0_inside m0_can m0_fewest m0_waysTo m0_then m0_two m0_nextTwo m0_three m0_nextThree m0_shut m0_worth m0_digit m0_codes m0_most m0_bestTry m0_dayCourt m0_dayHour m0_dayNo m0_x cA_m0_courts f_m0_courts b_m0_taped b_m0_at b_m0_token b_m0_value b_m0_bad b_m0_strays b_m0_hostCourt b_m0_dayCourt b_m0_dayHour b_f_m0_courts H.size) (cwV 1 hts (z_gV zw_t7_197 zw_t7_199 zw_s5_15 zw_t1_11 zw_t7_200) rfl rfl rfl (by decide +kernel) (by rw [← hRe]; exact ⟨(Nat.le_of_ble_eq_true rfl), (Nat.le_of_ble_eq_true rfl)⟩)) (z_preV hPc hKc hDc hN hXs hS hFc (q := (RX10, TX10, 53)) (ci := 10) (q0 := 0) rfl rfl) rfl rfl hl.1 rfl (lv_room (Nat.le_of_ble_eq_true rfl)) dX10_hear_15 (by rw [← hRe]; exact ⟨(Nat.le_of_ble_eq_true rfl), (Nat.le_of_ble_eq_true rfl)⟩)) hS (fun q _ h => hFc q h) hFc (fun r_3 u t H1 locs ht hvm hw hB hz1 hk1 hS => ?_)
    obtain ⟨hP, hD, hK⟩ := z_after3 (wn := [(m0_hours, .inl (cA_m0_hours, 5, .inl f_m0_hours)), (m0_in, .inl (cA_m0_in, 50, .inl f_m0_in)), (m0_at0, .inl (cA_m0_at0, 2400, .inl f_m0_at0)), (m0_stray, .inl (cA_m0_stray, 100, .inl f_m0_stray)), (m0_set, .inl (cA_m0_set, 10, .inl f_m0_set)), (m0_known, .inl (cA_m0_known, 50, .inl f_m0_known)), (m0_people, .inl (cA_m0_people, 5, .inl f_m0_people)), (m0, .inr (10, [.int 0, .ref m0_width, .ref m0_many, .ref m0_cells, .ref m0_moved, .ref m0_tape, .int m0_taped, .int m0_at, .int m0_token, .int m0_place, .int m0_value, .long m0_word, .int m0_bad, .int m0_badPlace, .int m0_fault, .int m0_faultPlace, .ref m0_lines, .ref m0_hours, .ref m0_courts, .ref m0_in, .ref m0_gates, .ref m0_gate, .ref m0_people, .ref m0_at0, .ref m0_stray, .ref m0_set, .ref m0_once, .ref m0_truth, .ref m0_known, .ref m0_isKept, .int m0_strays, .int m0_hostPerson, .int m0_hostCourt, .int m0_outside, .ref m0_inside, .ref m0_can, .ref m0_fewest, .ref m0_waysTo, .ref m0_then, .ref m0_two, .ref m0_nextTwo, .ref m0_three, .ref m0_nextThree, .int m0_shut, .ref m0_worth, .ref m0_digit, .int m0_codes, .long m0_most, .int m0_bestTry, .int m0_dayCourt, .int m0_dayHour, .int m0_dayNo, .long m0_x])), (m0_courts, .inl (cA_m0_courts, 5, .inl f_m0_courts))]) hB ht hvm hP hD hK [7, 1] [0, 2, 3, 4, 5, 6, 8] rfl 9 rfl (by decide +kernel) rfl (by decide +kernel) hk1 hFc
    generalize H1 = H at hP hS ⊢
    have hK : va_K (dC, dI) vwCl [(cA_m0_hours, .int), (cA_m0_courts, .int), (cA_m0_in, .int), (cA_m0_people, .int), (cA_m0_at0, .int), (cA_m0_stray, .int), (cA_m0_set, .int), (cA_m0_known, .int)] s := hK
    have b_r_3 : 0 ≤ r_3.toInt ∧ r_3.toInt ≤ 1 := hw.1
    have s_r_3 := hw.2.1
    have sf_r_3 := hw.2.2
    replace hF := hF.trans (zL_eq sf_r_3)
    refine lv_if_eq (tgt := 29) hx hb dX10_hear_18 (by decide) (fun c_4 => ?_) (fun c_4 => ?_)
    · have ic_4 := zz_eq rfl (show Int32.toInt 0 = 0 from by decide) c_4
      replace hF := hF.trans (if_pos c_4)
      refine lv_bipush (v := (-2)) hx hb dX10_hear_29 (by decide) ?_
      have hF : RR = ((-2 : Int32), (0 : Int32), f_m0_known) := hF
      have zc : Int32.toInt (-2) = (-2) := by decide
      exact W.iret (v := (-2)) hx hb hr (fun t ht hW => by rw [← hQe]; exact ⟨⟨(-2), (), rfl, ⟨by decide, (by rw [← hRR, hF])⟩, ⟨(0), f_m0_known, b_f_m0_known, (by rw [← hRR, hF]), (by rw [← hRR, hF]), z_ret hP hK hD ht hW [7, 0, 8, 1, 6, 2, 3, 4, 5] [] rfl (by decide) rfl⟩⟩, hS.F ht⟩) hS.2.2 dX10_hear_31
    · have ic_4 := zz_neq rfl (show Int32.toInt 0 = 0 from by decide) c_4
      replace hF := hF.trans (if_neg c_4)
      refine lv_aload_n hx hb dX10_hear_21 rfl (lv_at hl 0 rfl) ?_
      refine lv_iload_n hx hb dX10_hear_22 rfl (lv_at hl 3 rfl) ?_
      obtain ⟨hPc, hDc, hFc⟩ := z_cut (wc := (zV102 m0 m0_width m0_many m0_cells m0_moved m0_tape m0_taped m0_at m0_token m0_place m0_value m0_word m0_bad m0_badPlace m0_fault m0_faultPlace m0_lines m0_hours m0_courts m0_in m0_gates m0_gate m0_people m0_at0 m0_stray m0_set m0_once m0_truth m0_known m0_isKept m0_strays m0_hostPerson m0_hostCourt m0_outside m0_inside m0_can m0_fewest m0_waysTo m0_then m0_two m0_nextTwo m0_three m0_nextThree m0_shut m0_worth m0_digit m0_codes m0_most m0_bestTry m0_dayCourt m0_dayHour m0_dayNo m0_x m0_hours cA_m0_hours f_m0_hours)) hP hD hS hA [7, 0] rfl (by decide +kernel)
      have hKc := hK.sub (tys' := [(cA_m0_hours, .int)]) [0] rfl
      refine va_calli (va_runV (As := [.int p3]) (rest := []) ⟨hx, hb, hml, hown, hts⟩ (kf_X10_isHour l sa dC dI m0 p3 (0) m0_width m0_many m0_cells m0_moved m0_tape m0_taped m0_at m0_token m0_place m0_value m0_word m0_bad m0_badPlace m0_fault m0_faultPlace m0_lines m0_hours m0_courts m0_in m0_gates m0_gate m0_people m0_at0 m0_stray m0_set m0_once m0_truth m0_known m0_isKept m0_strays m0_hostPerson m0_hostCourt m0_outside m0_inside m0_can m0_fewest m0_waysTo m0_then m0_two m0_nextTwo m0_three m0_nextThree m0_shut m0_worth m0_digit m0_codes m0_most m0_bestTry m0_dayCourt m0_dayHour m0_dayNo m0_x cA_m0_hours f_m0_hours b_m0_taped b_m0_at b_m0_token b_m0_value b_m0_bad b_m0_strays b_m0_hostCourt b_m0_dayCourt b_m0_dayHour b_f_m0_hours H.size) (cwV 1 hts (z_gV zw_t7_181 zw_t7_183 zw_s5_12 zw_t1_11 zw_t7_184) rfl rfl rfl (by decide +kernel) (by rw [← hRe]; exact ⟨(Nat.le_of_ble_eq_true rfl), (Nat.le_of_ble_eq_true rfl)⟩)) (z_preV hPc hKc hDc hN hXs hS hFc (q := (RX10, TX10, 53)) (ci := 10) (q0 := 0) rfl rfl) rfl rfl hl.1 rfl (lv_room (Nat.le_of_ble_eq_true rfl)) dX10_hear_23 (by rw [← hRe]; exact ⟨(Nat.le_of_ble_eq_true rfl), (Nat.le_of_ble_eq_true rfl)⟩)) hS (fun q _ h => hFc q h) hFc (fun r_5 u t H1 locs ht hvm hw hB hz1 hk1 hS => ?_)
      obtain ⟨hP, hD, hK⟩ := z_after3 (wn := [(m0_in, .inl (cA_m0_in, 50, .inl f_m0_in)), (m0_at0, .inl (cA_m0_at0, 2400, .inl f_m0_at0)), (m0_stray, .inl (cA_m0_stray, 100, .inl f_m0_stray)), (m0_set, .inl (cA_m0_set, 10, .inl f_m0_set)), (m0_known, .inl (cA_m0_known, 50, .inl f_m0_known)), (m0_people, .inl (cA_m0_people, 5, .inl f_m0_people)), (m0_courts, .inl (cA_m0_courts, 5, .inl f_m0_courts)), (m0, .inr (10, [.int 0, .ref m0_width, .ref m0_many, .ref m0_cells, .ref m0_moved, .ref m0_tape, .int m0_taped, .int m0_at, .int m0_token, .int m0_place, .int m0_value, .long m0_word, .int m0_bad, .int m0_badPlace, .int m0_fault, .int m0_faultPlace, .ref m0_lines, .ref m0_hours, .ref m0_courts, .ref m0_in, .ref m0_gates, .ref m0_gate, .ref m0_people, .ref m0_at0, .ref m0_stray, .ref m0_set, .ref m0_once, .ref m0_truth, .ref m0_known, .ref m0_isKept, .int m0_strays, .int m0_hostPerson, .int m0_hostCourt, .int m0_outside, .ref m0_inside, .ref m0_can, .ref m0_fewest, .ref m0_waysTo, .ref m0_then, .ref m0_two, .ref m0_nextTwo, .ref m0_three, .ref m0_nextThree, .int m0_shut, .ref m0_worth, .ref m0_digit, .int m0_codes, .long m0_most, .int m0_bestTry, .int m0_dayCourt, .int m0_dayHour, .int m0_dayNo, .long m0_x])), (m0_hours, .inl (cA_m0_hours, 5, .inl f_m0_hours))]) hB ht hvm hP hD hK [7, 0] [1, 2, 3, 4, 5, 6, 8] rfl 9 rfl (by decide +kernel) rfl (by decide +kernel) hk1 hFc
      generalize H1 = H at hP hS ⊢
      have hK : va_K (dC, dI) vwCl [(cA_m0_hours, .int), (cA_m0_courts, .int), (cA_m0_in, .int), (cA_m0_people, .int), (cA_m0_at0, .int), (cA_m0_stray, .int), (cA_m0_set, .int), (cA_m0_known, .int)] s := hK
      have b_r_5 : 0 ≤ r_5.toInt ∧ r_5.toInt ≤ 1 := hw.1
      have s_r_5 := hw.2.1
      have sf_r_5 := hw.2.2
      replace hF := hF.trans (zL_eq sf_r_5)
      refine lv_if_ne (tgt := 32) hx hb dX10_hear_26 (by decide) (fun c_6 => ?_) (fun c_6 => ?_)
      · have ic_6 := zz_ne rfl (show Int32.toInt 0 = 0 from by decide) c_6
        replace hF := hF.trans (if_neg c_6)
        refine lv_aload_n hx hb dX10_hear_32 rfl (lv_at hl 0 rfl) ?_
        refine va_get (D := (dC, dI)) (ci := 10) (v := .ref m0_stray) (C := RX10) (T := TX10) (N := 53) hx hb hts zl_X10 hown hK hP 7 rfl rfl 24 (by decide) (hts _ zw_t6_124) (fun _ h9 => h9) rfl dX10_hear_33 ?_
        refine lv_iconst (v := 2) hx hb dX10_hear_36 (by decide) ?_
        refine lv_iload_n hx hb dX10_hear_37 rfl (lv_at hl 1 rfl) ?_
        refine lv_imul hx hb dX10_hear_38 ?_
        refine lv_topi (fun x_7 ex_7 => ?_)
        replace hF := hF.trans (zL_eq ex_7)
        have b_x_7 : x_7.toInt = 2 * p1.toInt := by rw [ex_7]; exact zi_mul (show Int32.toInt 2 = 2 from by decide) rfl (by first | with_reducible assumption | omega)
        refine va_iald hx hb hK hP 2 5 rfl rfl (zi_in rfl (by first | with_reducible assumption | omega)) dX10_hear_39 ?_
        refine lv_topi (fun x_8 ex_8 => ?_)
        replace hF := hF.trans (zL_eq ex_8)
        have b_x_8 := b_f_m0_stray (Int32.toNatClampNeg x_7)
        rw [← ex_8] at b_x_8
        have kx_x_8 := zi_clamp (x := x_7) rfl (by first | with_reducible assumption | omega)
        refine lv_if_ne (tgt := 47) hx hb dX10_hear_40 (by decide) (fun c_9 => ?_) (fun c_9 => ?_)
        · have ic_9 := zz_ne rfl (show Int32.toInt 0 = 0 from by decide) c_9
          replace hF := hF.trans (if_neg c_9)
          refine lv_iconst (v := 0) hx hb dX10_hear_47 (by decide) ?_
          refine lv_istore (lv' := [(5, .int 0), (0, .ref m0), (1, .int p1), (2, .int p2), (3, .int p3), (4, .int p4)]) hx hb dX10_hear_48 hl (by decide) rfl (fun ls hl => ?_)
          refine lv_aload_n hx hb dX10_hear_50 rfl (lv_at hl 1 rfl) ?_
          refine va_get (D := (dC, dI)) (ci := 10) (v := .ref m0_known) (C := RX10) (T := TX10) (N := 53) hx hb hts zl_X10 hown hK hP 7 rfl rfl 28 (by decide) (hts _ zw_t6_128) (fun _ h9 => h9) rfl dX10_hear_51 ?_
          refine lv_iload_n hx hb dX10_hear_54 rfl (lv_at hl 2 rfl) ?_
          refine va_iald hx hb hK hP 4 7 rfl rfl (zi_in rfl (by first | with_reducible assumption | omega)) dX10_hear_55 ?_
          refine lv_topi (fun x_10 ex_10 => ?_)
          replace hF := hF.trans (zL_eq ex_10)
          have b_x_10 : 0 ≤ x_10.toInt ∧ x_10.toInt ≤ 2 := by rw [ex_10]; exact b_f_m0_known _
          refine lv_iconst (v := 2) hx hb dX10_hear_56 (by decide) ?_
          refine lv_icmp_eq (tgt := 77) hx hb dX10_hear_57 (by decide) (fun c_11 => ?_) (fun c_11 => ?_)
          · have ic_11 := zz_eq rfl (show Int32.toInt 2 = 2 from by decide) c_11
            replace hF := hF.trans (if_pos c_11)
            refine lv_iconst (v := 0) hx hb dX10_hear_77 (by decide) ?_
            refine lv_istore (lv' := [(6, .int 0), (5, .int 0), (0, .ref m0), (1, .int p1), (2, .int p2), (3, .int p3), (4, .int p4)]) hx hb dX10_hear_78 hl (by decide) rfl (fun ls hl => ?_)
            refine lv_iload hx hb dX10_hear_80 (lv_at hl 1 rfl) ?_
            refine lv_if_ne (tgt := 112) hx hb dX10_hear_82 (by decide) (fun q => absurd q (by decide)) (fun _ => ?_)
            refine lv_aload_n hx hb dX10_hear_85 rfl (lv_at hl 2 rfl) ?_
            refine va_get (D := (dC, dI)) (ci := 10) (v := .ref m0_known) (C := RX10) (T := TX10) (N := 53) hx hb hts zl_X10 hown hK hP 7 rfl rfl 28 (by decide) (hts _ zw_t6_128) (fun _ h9 => h9) rfl dX10_hear_86 ?_
            refine lv_iload_n hx hb dX10_hear_89 rfl (lv_at hl 3 rfl) ?_
            refine va_iald hx hb hK hP 4 7 rfl rfl (zi_in rfl (by first | with_reducible assumption | omega)) dX10_hear_90 ?_
            refine lv_topi (fun x_12 ex_12 => ?_)
            replace hF := hF.trans (zL_eq ex_12)
            obtain rfl : x_10 = x_12 := ex_10.trans ex_12.symm
            refine lv_iconst (v := 1) hx hb dX10_hear_91 (by decide) ?_
            refine lv_icmp_eq (tgt := 112) hx hb dX10_hear_92 (by decide) (fun c_13 => ?_) (fun c_13 => ?_)
            · have ic_13 := zz_eq rfl (show Int32.toInt 1 = 1 from by decide) c_13
              replace hF := hF.trans (if_pos c_13)
              refine lv_iconst (v := 0) hx hb dX10_hear_112 (by decide) ?_
              refine lv_istore (lv' := [(7, .int 0), (6, .int 0), (5, .int 0), (0, .ref m0), (1, .int p1), (2, .int p2), (3, .int p3), (4, .int p4)]) hx hb dX10_hear_113 hl (by decide) rfl (fun ls hl => ?_)
              refine lv_iload hx hb dX10_hear_115 (lv_at hl 1 rfl) ?_
              refine lv_if_ne (tgt := 128) hx hb dX10_hear_117 (by decide) (fun q => absurd q (by decide)) (fun _ => ?_)
              refine lv_iload hx hb dX10_hear_120 (lv_at hl 0 rfl) ?_
              refine lv_if_ne (tgt := 128) hx hb dX10_hear_122 (by decide) (fun q => absurd q (by decide)) (fun _ => ?_)
              refine lv_bipush (v := (-5)) hx hb dX10_hear_125 (by decide) ?_
              have hF : RR = ((-5 : Int32), (0 : Int32), f_m0_known) := hF
              have zc : Int32.toInt (-5) = (-5) := by decide
              exact W.iret (v := (-5)) hx hb hr (fun t ht hW => by rw [← hQe]; exact ⟨⟨(-5), (), rfl, ⟨by decide, (by rw [← hRR, hF])⟩, ⟨(0), f_m0_known, b_f_m0_known, (by rw [← hRR, hF]), (by rw [← hRR, hF]), z_ret hP hK hD ht hW [7, 8, 6, 0, 5, 1, 2, 3, 4] [] rfl (by decide) rfl⟩⟩, hS.F ht⟩) hS.2.2 dX10_hear_127
            · have ic_13 := zz_neq rfl (show Int32.toInt 1 = 1 from by decide) c_13
              replace hF := hF.trans (if_neg c_13)
              refine lv_aload_n hx hb dX10_hear_95 rfl (lv_at hl 2 rfl) ?_
              refine lv_iload_n hx hb dX10_hear_96 rfl (lv_at hl 3 rfl) ?_
              refine lv_iconst (v := 1) hx hb dX10_hear_97 (by decide) ?_
              refine lv_iload_n hx hb dX10_hear_98 rfl (lv_at hl 4 rfl) ?_
              refine lv_iload_n hx hb dX10_hear_99 rfl (lv_at hl 5 rfl) ?_
              obtain ⟨hPc, hDc, hFc⟩ := z_cut (wc := (zV304 m0 m0_width m0_many m0_cells m0_moved m0_tape m0_taped m0_at m0_token m0_place m0_value m0_word m0_bad m0_badPlace m0_fault m0_faultPlace m0_lines m0_hours m0_courts m0_in m0_gates m0_gate m0_people m0_at0 m0_stray m0_set m0_once m0_truth m0_known m0_isKept m0_strays m0_hostPerson m0_hostCourt m0_outside m0_inside m0_can m0_fewest m0_waysTo m0_then m0_two m0_nextTwo m0_three m0_nextThree m0_shut m0_worth m0_digit m0_codes m0_most m0_bestTry m0_dayCourt m0_dayHour m0_dayNo m0_x m0_in cA_m0_in f_m0_in m0_at0 cA_m0_at0 f_m0_at0 m0_stray cA_m0_stray f_m0_stray m0_set cA_m0_set f_m0_set)) hP hD hS hA [7, 0, 1, 2, 3] rfl (by decide +kernel)
              have hKc := hK.sub (tys' := [(cA_m0_in, .int), (cA_m0_at0, .int), (cA_m0_stray, .int), (cA_m0_set, .int)]) [2, 4, 5, 6] rfl
              refine va_calli (va_runV (As := [.int p1, .int 1, .int p2, .int p3]) (rest := []) ⟨hx, hb, hml, hown, hts⟩ (kf_X10_isWithin l sa dC dI m0 p1 (1) p2 p3 (0) m0_width m0_many m0_cells m0_moved m0_tape m0_taped m0_at m0_token m0_place m0_value m0_word m0_bad m0_badPlace m0_fault m0_faultPlace m0_lines m0_hours m0_courts m0_in m0_gates m0_gate m0_people m0_at0 m0_stray m0_set m0_once m0_truth m0_known m0_isKept m0_strays m0_hostPerson m0_hostCourt m0_outside m0_inside m0_can m0_fewest m0_waysTo m0_then m0_two m0_nextTwo m0_three m0_nextThree m0_shut m0_worth m0_digit m0_codes m0_most m0_bestTry m0_dayCourt m0_dayHour m0_dayNo m0_x cA_m0_in f_m0_in cA_m0_at0 f_m0_at0 cA_m0_stray f_m0_stray cA_m0_set f_m0_set (by first | with_reducible assumption | omega) (by decide) (by first | with_reducible assumption | omega) b_m0_taped b_m0_at b_m0_token b_m0_value b_m0_bad b_m0_strays b_m0_hostCourt b_m0_dayCourt b_m0_dayHour (zIc.go hep_0 (by first | with_reducible assumption | omega) b_f_m0_in) b_f_m0_at0 b_f_m0_stray b_f_m0_set H.size) (cwV 4 hts (z_gV zw_t7_213 zw_t7_215 zw_s6_3 zw_t1_11 zw_t7_216) rfl rfl rfl (by decide +kernel) (by rw [← hRe]; exact ⟨(Nat.le_of_ble_eq_true rfl), (Nat.le_of_ble_eq_true rfl)⟩)) (z_preV hPc hKc hDc hN hXs hS hFc (q := (RX10, TX10, 53)) (ci := 10) (q0 := 0) rfl rfl) rfl rfl hl.1 rfl (lv_room (Nat.le_of_ble_eq_true rfl)) dX10_hear_100 (by rw [← hRe]; exact ⟨(Nat.le_of_ble_eq_true rfl), (Nat.le_of_ble_eq_true rfl)⟩)) hS (fun q _ h => hFc q h) hFc (fun r_14 u t H1 locs ht hvm hw hB hz1 hk1 hS => ?_)
              obtain ⟨hP, hD, hK⟩ := z_after3 (wn := (zV305 m0_known cA_m0_known f_m0_known m0_people cA_m0_people f_m0_people m0_courts cA_m0_courts f_m0_courts m0_hours cA_m0_hours f_m0_hours m0 m0_width m0_many m0_cells m0_moved m0_tape m0_taped m0_at m0_token m0_place m0_value m0_word m0_bad m0_badPlace m0_fault m0_faultPlace m0_lines m0_hours m0_courts m0_in m0_gates m0_gate m0_people m0_at0 m0_stray m0_set m0_once m0_truth m0_known m0_isKept m0_strays m0_hostPerson m0_hostCourt m0_outside m0_inside m0_can m0_fewest m0_waysTo m0_then m0_two m0_nextTwo m0_three m0_nextThree m0_shut m0_worth m0_digit m0_codes m0_most m0_bestTry m0_dayCourt m0_dayHour m0_dayNo m0_x m0_in cA_m0_in f_m0_in m0_at0 cA_m0_at0 f_m0_at0 m0_stray cA_m0_stray f_m0_stray m0_set cA_m0_set f_m0_set)) hB ht hvm hP hD hK [7, 0, 1, 2, 3] [4, 5, 6, 8] rfl 9 rfl (by decide +kernel) rfl (by decide +kernel) hk1 hFc
              generalize H1 = H at hP hS ⊢
              have hK : va_K (dC, dI) vwCl [(cA_m0_hours, .int), (cA_m0_courts, .int), (cA_m0_in, .int), (cA_m0_people, .int), (cA_m0_at0, .int), (cA_m0_stray, .int), (cA_m0_set, .int), (cA_m0_known, .int)] s := hK
              have b_r_14 : 0 ≤ r_14.toInt ∧ r_14.toInt ≤ 1 := hw.1
              have sf_r_14 := hw.2
              have za_1 : Int32.toInt 1 = 1 := by decide
              replace hF := hF.trans (zL_eq sf_r_14)
              refine lv_iload hx hb dX10_hear_103 (lv_at hl 6 rfl) ?_
              have nb_p4 := zi_nb p4
              refine lv_icmp_ne (tgt := 112) hx hb dX10_hear_105 (by decide) (fun c_15 => ?_) (fun c_15 => ?_)
              · have ic_15 := zz_ne rfl rfl c_15
                replace hF := hF.trans (if_neg c_15)
                refine lv_iconst (v := 0) hx hb dX10_hear_112 (by decide) ?_
                refine lv_istore (lv' := [(7, .int 0), (6, .int 0), (5, .int 0), (0, .ref m0), (1, .int p1), (2, .int p2), (3, .int p3), (4, .int p4)]) hx hb dX10_hear_113 hl (by decide) rfl (fun ls hl => ?_)
                refine lv_iload hx hb dX10_hear_115 (lv_at hl 1 rfl) ?_
                refine lv_if_ne (tgt := 128) hx hb dX10_hear_117 (by decide) (fun q => absurd q (by decide)) (fun _ => ?_)
                refine lv_iload hx hb dX10_hear_120 (lv_at hl 0 rfl) ?_
                refine lv_if_ne (tgt := 128) hx hb dX10_hear_122 (by decide) (fun q => absurd q (by decide)) (fun _ => ?_)
                refine lv_bipush (v := (-5)) hx hb dX10_hear_125 (by decide) ?_
                have hF : RR = ((-5 : Int32), (0 : Int32), f_m0_known) := hF
                have zc : Int32.toInt (-5) = (-5) := by decide
                exact W.iret (v := (-5)) hx hb hr (fun t ht hW => by rw [← hQe]; exact ⟨⟨(-5), (), rfl, ⟨by decide, (by rw [← hRR, hF])⟩, ⟨(0), f_m0_known, b_f_m0_known, (by rw [← hRR, hF]), (by rw [← hRR, hF]), z_ret hP hK hD ht hW [4, 3, 2, 5, 1, 6, 7, 8, 0] [] rfl (by decide) rfl⟩⟩, hS.F ht⟩) hS.2.2 dX10_hear_127
              · have ic_15 := zz_nne rfl rfl c_15
                replace hF := hF.trans (if_pos c_15)
                refine lv_iconst (v := 1) hx hb dX10_hear_108 (by decide) ?_
                refine lv_goto (tgt := 113) hx hb dX10_hear_109 (by decide) ?_
                refine lv_istore (lv' := [(7, .int 1), (6, .int 0), (5, .int 0), (0, .ref m0), (1, .int p1), (2, .int p2), (3, .int p3), (4, .int p4)]) hx hb dX10_hear_113 hl (by decide) rfl (fun ls hl => ?_)
                refine lv_iload hx hb dX10_hear_115 (lv_at hl 1 rfl) ?_
                refine lv_if_ne (tgt := 128) hx hb dX10_hear_117 (by decide) (fun q => absurd q (by decide)) (fun _ => ?_)
                refine lv_iload hx hb dX10_hear_120 (lv_at hl 0 rfl) ?_
                refine lv_if_ne (tgt := 128) hx hb dX10_hear_122 (by decide) (fun _ => ?_) (fun q => absurd q (by decide))
                refine lv_iload hx hb dX10_hear_128 (lv_at hl 2 rfl) ?_
                refine lv_if_eq (tgt := 135) hx hb dX10_hear_130 (by decide) (fun _ => ?_) (fun q => absurd q (by decide))
                refine lv_aload_n hx hb dX10_hear_135 rfl (lv_at hl 3 rfl) ?_
                refine va_get (D := (dC, dI)) (ci := 10) (v := .ref m0_known) (C := RX10) (T := TX10) (N := 53) hx hb hts zl_X10 hown hK hP 4 rfl rfl 28 (by decide) (hts _ zw_t6_128) (fun _ h9 => h9) rfl dX10_hear_136 ?_
                refine lv_iload_n hx hb dX10_hear_139 rfl (lv_at hl 4 rfl) ?_
                refine lv_iload hx hb dX10_hear_140 (lv_at hl 1 rfl) ?_
                refine lv_if_eq (tgt := 154) hx hb dX10_hear_142 (by decide) (fun _ => ?_) (fun q => absurd q (by decide))
                refine lv_iload hx hb dX10_hear_154 (lv_at hl 1 rfl) ?_
                refine lv_if_eq (tgt := 163) hx hb dX10_hear_156 (by decide) (fun _ => ?_) (fun q => absurd q (by decide))
                refine lv_iconst (v := 2) hx hb dX10_hear_163 (by decide) ?_
                refine va_iast hx hb hK hP hD hS 0 7 rfl rfl (zi_in rfl (by first | with_reducible assumption | omega)) dX10_hear_164 (fun H locs hP hD hS => ?_)
                obtain ⟨f_16, ef_16⟩ : ∃ g : Nat → Int32, g = upd f_m0_known (Int32.toNatClampNeg p1) 2 := ⟨_, rfl⟩
                replace hF := hF.trans (zL_eq ef_16)
                have b_f_16 : ∀ j : Nat, 0 ≤ (f_16 j).toInt ∧ (f_16 j).toInt ≤ 2 := by rw [ef_16]; exact zi_upd b_f_m0_known (show Int32.toInt 2 = 2 from by decide) (by first | with_reducible assumption | omega)
                have hP : va_P (dC, dI) vwCl (zV305 m0_known cA_m0_known (upd f_m0_known (Int32.toNatClampNeg p1) 2) m0_people cA_m0_people f_m0_people m0_courts cA_m0_courts f_m0_courts m0_hours cA_m0_hours f_m0_hours m0 m0_width m0_many m0_cells m0_moved m0_tape m0_taped m0_at m0_token m0_place m0_value m0_word m0_bad m0_badPlace m0_fault m0_faultPlace m0_lines m0_hours m0_courts m0_in m0_gates m0_gate m0_people m0_at0 m0_stray m0_set m0_once m0_truth m0_known m0_isKept m0_strays m0_hostPerson m0_hostCourt m0_outside m0_inside m0_can m0_fewest m0_waysTo m0_then m0_two m0_nextTwo m0_three m0_nextThree m0_shut m0_worth m0_digit m0_codes m0_most m0_bestTry m0_dayCourt m0_dayHour m0_dayNo m0_x m0_in cA_m0_in f_m0_in m0_at0 cA_m0_at0 f_m0_at0 m0_stray cA_m0_stray f_m0_stray m0_set cA_m0_set f_m0_set) H := hP
                have hD : va_D A (zV305 m0_known cA_m0_known (upd f_m0_known (Int32.toNatClampNeg p1) 2) m0_people cA_m0_people f_m0_people m0_courts cA_m0_courts f_m0_courts m0_hours cA_m0_hours f_m0_hours m0 m0_width m0_many m0_cells m0_moved m0_tape m0_taped m0_at m0_token m0_place m0_value m0_word m0_bad m0_badPlace m0_fault m0_faultPlace m0_lines m0_hours m0_courts m0_in m0_gates m0_gate m0_people m0_at0 m0_stray m0_set m0_once m0_truth m0_known m0_isKept m0_strays m0_hostPerson m0_hostCourt m0_outside m0_inside m0_can m0_fewest m0_waysTo m0_then m0_two m0_nextTwo m0_three m0_nextThree m0_shut m0_worth m0_digit m0_codes m0_most m0_bestTry m0_dayCourt m0_dayHour m0_dayNo m0_x m0_in cA_m0_in f_m0_in m0_at0 cA_m0_at0 f_m0_at0 m0_stray cA_m0_stray f_m0_stray m0_set cA_m0_set f_m0_set) := hD
                rw [← ef_16] at hP hD
                refine lv_aload_n hx hb dX10_hear_165 rfl (lv_at hl 3 rfl) ?_
                refine va_get (D := (dC, dI)) (ci := 10) (v := .ref m0_known) (C := RX10) (T := TX10) (N := 53) hx hb hts zl_X10 hown hK hP 4 rfl rfl 28 (by decide) (hts _ zw_t6_128) (fun _ h9 => h9) rfl dX10_hear_166 ?_
                refine lv_iload_n hx hb dX10_hear_169 rfl (lv_at hl 4 rfl) ?_
                refine va_iald hx hb hK hP 0 7 rfl rfl (zi_in rfl (by first | with_reducible assumption | omega)) dX10_hear_170 ?_
                refine lv_topi (fun x_17 ex_17 => ?_)
                replace hF := hF.trans (zL_eq ex_17)
                have b_x_17 : 0 ≤ x_17.toInt ∧ x_17.toInt ≤ 2 := by rw [ex_17]; exact b_f_16 _
                refine lv_if_ne (tgt := 178) hx hb dX10_hear_171 (by decide) (fun c_18 => ?_) (fun c_18 => ?_)
                · have ic_18 := zz_ne rfl (show Int32.toInt 0 = 0 from by decide) c_18
                  replace hF := hF.trans (if_neg c_18)
                  refine lv_iconst (v := 1) hx hb dX10_hear_178 (by decide) ?_
                  have hF : RR = ((1 : Int32), (0 : Int32), f_16) := hF
                  have zc : Int32.toInt 1 = 1 := by decide
                  exact W.iret (v := 1) hx hb hr (fun t ht hW => by rw [← hQe]; exact ⟨⟨1, (), rfl, ⟨by decide, (by rw [← hRR, hF])⟩, ⟨(0), f_16, b_f_16, (by rw [← hRR, hF]), (by rw [← hRR, hF]), z_ret hP hK hD ht hW [4, 3, 2, 5, 1, 6, 7, 8, 0] [] rfl (by decide) rfl⟩⟩, hS.F ht⟩) hS.2.2 dX10_hear_179
                · have ic_18 := zz_nne rfl (show Int32.toInt 0 = 0 from by decide) c_18
                  replace hF := hF.trans (if_pos c_18)
                  refine lv_iconst (v := 0) hx hb dX10_hear_174 (by decide) ?_
                  refine lv_goto (tgt := 179) hx hb dX10_hear_175 (by decide) ?_
                  have hF : RR = ((0 : Int32), (0 : Int32), f_16) := hF
                  have zc : Int32.toInt 0 = 0 := by decide
                  exact W.iret (v := 0) hx hb hr (fun t ht hW => by rw [← hQe]; exact ⟨⟨0, (), rfl, ⟨by decide, (by rw [← hRR, hF])⟩, ⟨(0), f_16, b_f_16, (by rw [← hRR, hF]), (by rw [← hRR, hF]), z_ret hP hK hD ht hW [4, 3, 2, 5, 1, 6, 7, 8, 0] [] rfl (by decide) rfl⟩⟩, hS.F ht⟩) hS.2.2 dX10_hear_179
          · have ic_11 := zz_neq rfl (show Int32.toInt 2 = 2 from by decide) c_11
            replace hF := hF.trans (if_neg c_11)
            refine lv_aload_n hx hb dX10_hear_60 rfl (lv_at hl 1 rfl) ?_
            refine lv_iload_n hx hb dX10_hear_61 rfl (lv_at hl 2 rfl) ?_
            refine lv_iconst (v := 0) hx hb dX10_hear_62 (by decide) ?_
            refine lv_iload_n hx hb dX10_hear_63 rfl (lv_at hl 3 rfl) ?_
            refine lv_iload_n hx hb dX10_hear_64 rfl (lv_at hl 4 rfl) ?_
            obtain ⟨hPc, hDc, hFc⟩ := z_cut (wc := (zV304 m0 m0_width m0_many m0_cells m0_moved m0_tape m0_taped m0_at m0_token m0_place m0_value m0_word m0_bad m0_badPlace m0_fault m0_faultPlace m0_lines m0_hours m0_courts m0_in m0_gates m0_gate m0_people m0_at0 m0_stray m0_set m0_once m0_truth m0_known m0_isKept m0_strays m0_hostPerson m0_hostCourt m0_outside m0_inside m0_can m0_fewest m0_waysTo m0_then m0_two m0_nextTwo m0_three m0_nextThree m0_shut m0_worth m0_digit m0_codes m0_most m0_bestTry m0_dayCourt m0_dayHour m0_dayNo m0_x m0_in cA_m0_in f_m0_in m0_at0 cA_m0_at0 f_m0_at0 m0_stray cA_m0_stray f_m0_stray m0_set cA_m0_set f_m0_set)) hP hD hS hA [7, 0, 1, 2, 3] rfl (by decide +kernel)
            have hKc := hK.sub (tys' := [(cA_m0_in, .int), (cA_m0_at0, .int), (cA_m0_stray, .int), (cA_m0_set, .int)]) [2, 4, 5, 6] rfl
            refine va_calli (va_runV (As := [.int p1, .int 0, .int p2, .int p3]) (rest := []) ⟨hx, hb, hml, hown, hts⟩ (kf_X10_isWithin l sa dC dI m0 p1 (0) p2 p3 (0) m0_width m0_many m0_cells m0_moved m0_tape m0_taped m0_at m0_token m0_place m0_value m0_word m0_bad m0_badPlace m0_fault m0_faultPlace m0_lines m0_hours m0_courts m0_in m0_gates m0_gate m0_people m0_at0 m0_stray m0_set m0_once m0_truth m0_known m0_isKept m0_strays m0_hostPerson m0_hostCourt m0_outside m0_inside m0_can m0_fewest m0_waysTo m0_then m0_two m0_nextTwo m0_three m0_nextThree m0_shut m0_worth m0_digit m0_codes m0_most m0_bestTry m0_dayCourt m0_dayHour m0_dayNo m0_x cA_m0_in f_m0_in cA_m0_at0 f_m0_at0 cA_m0_stray f_m0_stray cA_m0_set f_m0_set (by first | with_reducible assumption | omega) (by decide) (by first | with_reducible assumption | omega) b_m0_taped b_m0_at b_m0_token b_m0_value b_m0_bad b_m0_strays b_m0_hostCourt b_m0_dayCourt b_m0_dayHour (zIc.go hep_0 (by first | with_reducible assumption | omega) b_f_m0_in) b_f_m0_at0 b_f_m0_stray b_f_m0_set H.size) (cwV 4 hts (z_gV zw_t7_213 zw_t7_215 zw_s6_3 zw_t1_11 zw_t7_216) rfl rfl rfl (by decide +kernel) (by rw [← hRe]; exact ⟨(Nat.le_of_ble_eq_true rfl), (Nat.le_of_ble_eq_true rfl)⟩)) (z_preV hPc hKc hDc hN hXs hS hFc (q := (RX10, TX10, 53)) (ci := 10) (q0 := 0) rfl rfl) rfl rfl hl.1 rfl (lv_room (Nat.le_of_ble_eq_true rfl)) dX10_hear_65 (by rw [← hRe]; exact ⟨(Nat.le_of_ble_eq_true rfl), (Nat.le_of_ble_eq_true rfl)⟩)) hS (fun q _ h => hFc q h) hFc (fun r_19 u t H1 locs ht hvm hw hB hz1 hk1 hS => ?_)
            obtain ⟨hP, hD, hK⟩ := z_after3 (wn := (zV305 m0_known cA_m0_known f_m0_known m0_people cA_m0_people f_m0_people m0_courts cA_m0_courts f_m0_courts m0_hours cA_m0_hours f_m0_hours m0 m0_width m0_many m0_cells m0_moved m0_tape m0_taped m0_at m0_token m0_place m0_value m0_word m0_bad m0_badPlace m0_fault m0_faultPlace m0_lines m0_hours m0_courts m0_in m0_gates m0_gate m0_people m0_at0 m0_stray m0_set m0_once m0_truth m0_known m0_isKept m0_strays m0_hostPerson m0_hostCourt m0_outside m0_inside m0_can m0_fewest m0_waysTo m0_then m0_two m0_nextTwo m0_three m0_nextThree m0_shut m0_worth m0_digit m0_codes m0_most m0_bestTry m0_dayCourt m0_dayHour m0_dayNo m0_x m0_in cA_m0_in f_m0_in m0_at0 cA_m0_at0 f_m0_at0 m0_stray cA_m0_stray f_m0_stray m0_set cA_m0_set f_m0_set)) hB ht hvm hP hD hK [7, 0, 1, 2, 3] [4, 5, 6, 8] rfl 9 rfl (by decide +kernel) rfl (by decide +kernel) hk1 hFc
            generalize H1 = H at hP hS ⊢
            have hK : va_K (dC, dI) vwCl [(cA_m0_hours, .int), (cA_m0_courts, .int), (cA_m0_in, .int), (cA_m0_people, .int), (cA_m0_at0, .int), (cA_m0_stray, .int), (cA_m0_set, .int), (cA_m0_known, .int)] s := hK
            have b_r_19 : 0 ≤ r_19.toInt ∧ r_19.toInt ≤ 1 := hw.1
            have sf_r_19 := hw.2
            have za_0 : Int32.toInt 0 = 0 := by decide
            replace hF := hF.trans (zL_eq sf_r_19)
            refine lv_iload hx hb dX10_hear_68 (lv_at hl 5 rfl) ?_
            have nb_p4 := zi_nb p4
            refine lv_icmp_ne (tgt := 77) hx hb dX10_hear_70 (by decide) (fun c_20 => ?_) (fun c_20 => ?_)
            · have ic_20 := zz_ne rfl rfl c_20
              replace hF := hF.trans (if_neg c_20)
              refine lv_iconst (v := 0) hx hb dX10_hear_77 (by decide) ?_
              refine lv_istore (lv' := [(6, .int 0), (5, .int 0), (0, .ref m0), (1, .int p1), (2, .int p2), (3, .int p3), (4, .int p4)]) hx hb dX10_hear_78 hl (by decide) rfl (fun ls hl => ?_)
              refine lv_iload hx hb dX10_hear_80 (lv_at hl 1 rfl) ?_
              refine lv_if_ne (tgt := 112) hx hb dX10_hear_82 (by decide) (fun q => absurd q (by decide)) (fun _ => ?_)
              refine lv_aload_n hx hb dX10_hear_85 rfl (lv_at hl 2 rfl) ?_
              refine va_get (D := (dC, dI)) (ci := 10) (v := .ref m0_known) (C := RX10) (T := TX10) (N := 53) hx hb hts zl_X10 hown hK hP 4 rfl rfl 28 (by decide) (hts _ zw_t6_128) (fun _ h9 => h9) rfl dX10_hear_86 ?_
              refine lv_iload_n hx hb dX10_hear_89 rfl (lv_at hl 3 rfl) ?_
              refine va_iald hx hb hK hP 0 7 rfl rfl (zi_in rfl (by first | with_reducible assumption | omega)) dX10_hear_90 ?_
              refine lv_topi (fun x_21 ex_21 => ?_)
              replace hF := hF.trans (zL_eq ex_21)
              obtain rfl : x_10 = x_21 := ex_10.trans ex_21.symm
              refine lv_iconst (v := 1) hx hb dX10_hear_91 (by decide) ?_
              refine lv_icmp_eq (tgt := 112) hx hb dX10_hear_92 (by decide) (fun c_22 => ?_) (fun c_22 => ?_)
              · have ic_22 := zz_eq rfl (show Int32.toInt 1 = 1 from by decide) c_22
                replace hF := hF.trans (if_pos c_22)
                refine lv_iconst (v := 0) hx hb dX10_hear_112 (by decide) ?_
                refine lv_istore (lv' := [(7, .int 0), (6, .int 0), (5, .int 0), (0, .ref m0), (1, .int p1), (2, .int p2), (3, .int p3), (4, .int p4)]) hx hb dX10_hear_113 hl (by decide) rfl (fun ls hl => ?_)
                refine lv_iload hx hb dX10_hear_115 (lv_at hl 1 rfl) ?_
                refine lv_if_ne (tgt := 128) hx hb dX10_hear_117 (by decide) (fun q => absurd q (by decide)) (fun _ => ?_)
                refine lv_iload hx hb dX10_hear_120 (lv_at hl 0 rfl) ?_
                refine lv_if_ne (tgt := 128) hx hb dX10_hear_122 (by decide) (fun q => absurd q (by decide)) (fun _ => ?_)
                refine lv_bipush (v := (-5)) hx hb dX10_hear_125 (by decide) ?_
                have hF : RR = ((-5 : Int32), (0 : Int32), f_m0_known) := hF
                have zc : Int32.toInt (-5) = (-5) := by decide
                exact W.iret (v := (-5)) hx hb hr (fun t ht hW => by rw [← hQe]; exact ⟨⟨(-5), (), rfl, ⟨by decide, (by rw [← hRR, hF])⟩, ⟨(0), f_m0_known, b_f_m0_known, (by rw [← hRR, hF]), (by rw [← hRR, hF]), z_ret hP hK hD ht hW [4, 3, 2, 5, 1, 6, 7, 8, 0] [] rfl (by decide) rfl⟩⟩, hS.F ht⟩) hS.2.2 dX10_hear_127
              · have ic_22 := zz_neq rfl (show Int32.toInt 1 = 1 from by decide) c_22
                replace hF := hF.trans (if_neg c_22)
                refine lv_aload_n hx hb dX10_hear_95 rfl (lv_at hl 2 rfl) ?_
                refine lv_iload_n hx hb dX10_hear_96 rfl (lv_at hl 3 rfl) ?_
                refine lv_iconst (v := 1) hx hb dX10_hear_97 (by decide) ?_
                refine lv_iload_n hx hb dX10_hear_98 rfl (lv_at hl 4 rfl) ?_
                refine lv_iload_n hx hb dX10_hear_99 rfl (lv_at hl 5 rfl) ?_
                obtain ⟨hPc, hDc, hFc⟩ := z_cut (wc := (zV304 m0 m0_width m0_many m0_cells m0_moved m0_tape m0_taped m0_at m0_token m0_place m0_value m0_word m0_bad m0_badPlace m0_fault m0_faultPlace m0_lines m0_hours m0_courts m0_in m0_gates m0_gate m0_people m0_at0 m0_stray m0_set m0_once m0_truth m0_known m0_isKept m0_strays m0_hostPerson m0_hostCourt m0_outside m0_inside m0_can m0_fewest m0_waysTo m0_then m0_two m0_nextTwo m0_three m0_nextThree m0_shut m0_worth m0_digit m0_codes m0_most m0_bestTry m0_dayCourt m0_dayHour m0_dayNo m0_x m0_in cA_m0_in f_m0_in m0_at0 cA_m0_at0 f_m0_at0 m0_stray cA_m0_stray f_m0_stray m0_set cA_m0_set f_m0_set)) hP hD hS hA [4, 5, 6, 7, 8] rfl (by decide +kernel)
                have hKc := hK.sub (tys' := [(cA_m0_in, .int), (cA_m0_at0, .int), (cA_m0_stray, .int), (cA_m0_set, .int)]) [2, 4, 5, 6] rfl
                refine va_calli (va_runV (As := [.int p1, .int 1, .int p2, .int p3]) (rest := []) ⟨hx, hb, hml, hown, hts⟩ (kf_X10_isWithin l sa dC dI m0 p1 (1) p2 p3 (0) m0_width m0_many m0_cells m0_moved m0_tape m0_taped m0_at m0_token m0_place m0_value m0_word m0_bad m0_badPlace m0_fault m0_faultPlace m0_lines m0_hours m0_courts m0_in m0_gates m0_gate m0_people m0_at0 m0_stray m0_set m0_once m0_truth m0_known m0_isKept m0_strays m0_hostPerson m0_hostCourt m0_outside m0_inside m0_can m0_fewest m0_waysTo m0_then m0_two m0_nextTwo m0_three m0_nextThree m0_shut m0_worth m0_digit m0_codes m0_most m0_bestTry m0_dayCourt m0_dayHour m0_dayNo m0_x cA_m0_in f_m0_in cA_m0_at0 f_m0_at0 cA_m0_stray f_m0_stray cA_m0_set f_m0_set (by first | with_reducible assumption | omega) (by decide) (by first | with_reducible assumption | omega) b_m0_taped b_m0_at b_m0_token b_m0_value b_m0_bad b_m0_strays b_m0_hostCourt b_m0_dayCourt b_m0_dayHour (zIc.go hep_0 (by first | with_reducible assumption | omega) b_f_m0_in) b_f_m0_at0 b_f_m0_stray b_f_m0_set H.size) (cwV 4 hts (z_gV zw_t7_213 zw_t7_215 zw_s6_3 zw_t1_11 zw_t7_216) rfl rfl rfl (by decide +kernel) (by rw [← hRe]; exact ⟨(Nat.le_of_ble_eq_true rfl), (Nat.le_of_ble_eq_true rfl)⟩)) (z_preV hPc hKc hDc hN hXs hS hFc (q := (RX10, TX10, 53)) (ci := 10) (q0 := 0) rfl rfl) rfl rfl hl.1 rfl (lv_room (Nat.le_of_ble_eq_true rfl)) dX10_hear_100 (by rw [← hRe]; exact ⟨(Nat.le_of_ble_eq_true rfl), (Nat.le_of_ble_eq_true rfl)⟩)) hS (fun q _ h => hFc q h) hFc (fun r_23 u t H1 locs ht hvm hw hB hz1 hk1 hS => ?_)
                obtain ⟨hP, hD, hK⟩ := z_after3 (wn := (zV305 m0_known cA_m0_known f_m0_known m0_people cA_m0_people f_m0_people m0_courts cA_m0_courts f_m0_courts m0_hours cA_m0_hours f_m0_hours m0 m0_width m0_many m0_cells m0_moved m0_tape m0_taped m0_at m0_token m0_place m0_value m0_word m0_bad m0_badPlace m0_fault m0_faultPlace m0_lines m0_hours m0_courts m0_in m0_gates m0_gate m0_people m0_at0 m0_stray m0_set m0_once m0_truth m0_known m0_isKept m0_strays m0_hostPerson m0_hostCourt m0_outside m0_inside m0_can m0_fewest m0_waysTo m0_then m0_two m0_nextTwo m0_three m0_nextThree m0_shut m0_worth m0_digit m0_codes m0_most m0_bestTry m0_dayCourt m0_dayHour m0_dayNo m0_x m0_in cA_m0_in f_m0_in m0_at0 cA_m0_at0 f_m0_at0 m0_stray cA_m0_stray f_m0_stray m0_set cA_m0_set f_m0_set)) hB ht hvm hP hD hK [4, 5, 6, 7, 8] [0, 1, 2, 3] rfl 9 rfl (by decide +kernel) rfl (by decide +kernel) hk1 hFc
                generalize H1 = H at hP hS ⊢
                have hK : va_K (dC, dI) vwCl [(cA_m0_hours, .int), (cA_m0_courts, .int), (cA_m0_in, .int), (cA_m0_people, .int), (cA_m0_at0, .int), (cA_m0_stray, .int), (cA_m0_set, .int), (cA_m0_known, .int)] s := hK
                have b_r_23 : 0 ≤ r_23.toInt ∧ r_23.toInt ≤ 1 := hw.1
                have sf_r_23 := hw.2
                have za_1 : Int32.toInt 1 = 1 := by decide
                replace hF := hF.trans (zL_eq sf_r_23)
                refine lv_iload hx hb dX10_hear_103 (lv_at hl 6 rfl) ?_
                refine lv_icmp_ne (tgt := 112) hx hb dX10_hear_105 (by decide) (fun c_24 => ?_) (fun c_24 => ?_)
                · have ic_24 := zz_ne rfl rfl c_24
                  replace hF := hF.trans (if_neg c_24)
                  refine lv_iconst (v := 0) hx hb dX10_hear_112 (by decide) ?_
                  refine lv_istore (lv' := [(7, .int 0), (6, .int 0), (5, .int 0), (0, .ref m0), (1, .int p1), (2, .int p2), (3, .int p3), (4, .int p4)]) hx hb dX10_hear_113 hl (by decide) rfl (fun ls hl => ?_)
                  refine lv_iload hx hb dX10_hear_115 (lv_at hl 1 rfl) ?_
                  refine lv_if_ne (tgt := 128) hx hb dX10_hear_117 (by decide) (fun q => absurd q (by decide)) (fun _ => ?_)
                  refine lv_iload hx hb dX10_hear_120 (lv_at hl 0 rfl) ?_
                  refine lv_if_ne (tgt := 128) hx hb dX10_hear_122 (by decide) (fun q => absurd q (by decide)) (fun _ => ?_)
                  refine lv_bipush (v := (-5)) hx hb dX10_hear_125 (by decide) ?_
                  have hF : RR = ((-5 : Int32), (0 : Int32), f_m0_known) := hF
                  have zc : Int32.toInt (-5) = (-5) := by decide
                  exact W.iret (v := (-5)) hx hb hr (fun t ht hW => by rw [← hQe]; exact ⟨⟨(-5), (), rfl, ⟨by decide, (by rw [← hRR, hF])⟩, ⟨(0), f_m0_known, b_f_m0_known, (by rw [← hRR, hF]), (by rw [← hRR, hF]), z_ret hP hK hD ht hW [4, 3, 2, 5, 1, 6, 7, 8, 0] [] rfl (by decide) rfl⟩⟩, hS.F ht⟩) hS.2.2 dX10_hear_127
                · have ic_24 := zz_nne rfl rfl c_24
                  replace hF := hF.trans (if_pos c_24)
                  refine lv_iconst (v := 1) hx hb dX10_hear_108 (by decide) ?_
                  refine lv_goto (tgt := 113) hx hb dX10_hear_109 (by decide) ?_
                  refine lv_istore (lv' := [(7, .int 1), (6, .int 0), (5, .int 0), (0, .ref m0), (1, .int p1), (2, .int p2), (3, .int p3), (4, .int p4)]) hx hb dX10_hear_113 hl (by decide) rfl (fun ls hl => ?_)
                  refine lv_iload hx hb dX10_hear_115 (lv_at hl 1 rfl) ?_
                  refine lv_if_ne (tgt := 128) hx hb dX10_hear_117 (by decide) (fun q => absurd q (by decide)) (fun _ => ?_)
                  refine lv_iload hx hb dX10_hear_120 (lv_at hl 0 rfl) ?_
                  refine lv_if_ne (tgt := 128) hx hb dX10_hear_122 (by decide) (fun _ => ?_) (fun q => absurd q (by decide))
                  refine lv_iload hx hb dX10_hear_128 (lv_at hl 2 rfl) ?_
                  refine lv_if_eq (tgt := 135) hx hb dX10_hear_130 (by decide) (fun _ => ?_) (fun q => absurd q (by decide))
                  refine lv_aload_n hx hb dX10_hear_135 rfl (lv_at hl 3 rfl) ?_
                  refine va_get (D := (dC, dI)) (ci := 10) (v := .ref m0_known) (C := RX10) (T := TX10) (N := 53) hx hb hts zl_X10 hown hK hP 4 rfl rfl 28 (by decide) (hts _ zw_t6_128) (fun _ h9 => h9) rfl dX10_hear_136 ?_
                  refine lv_iload_n hx hb dX10_hear_139 rfl (lv_at hl 4 rfl) ?_
                  refine lv_iload hx hb dX10_hear_140 (lv_at hl 1 rfl) ?_
                  refine lv_if_eq (tgt := 154) hx hb dX10_hear_142 (by decide) (fun _ => ?_) (fun q => absurd q (by decide))
                  refine lv_iload hx hb dX10_hear_154 (lv_at hl 1 rfl) ?_
                  refine lv_if_eq (tgt := 163) hx hb dX10_hear_156 (by decide) (fun _ => ?_) (fun q => absurd q (by decide))
                  refine lv_iconst (v := 2) hx hb dX10_hear_163 (by decide) ?_
                  refine va_iast hx hb hK hP hD hS 0 7 rfl rfl (zi_in rfl (by first | with_reducible assumption | omega)) dX10_hear_164 (fun H locs hP hD hS => ?_)
                  obtain ⟨f_25, ef_25⟩ : ∃ g : Nat → Int32, g = upd f_m0_known (Int32.toNatClampNeg p1) 2 := ⟨_, rfl⟩
                  replace hF := hF.trans (zL_eq ef_25)
                  have b_f_25 : ∀ j : Nat, 0 ≤ (f_25 j).toInt ∧ (f_25 j).toInt ≤ 2 := by rw [ef_25]; exact zi_upd b_f_m0_known (show Int32.toInt 2 = 2 from by decide) (by first | with_reducible assumption | omega)
                  have hP : va_P (dC, dI) vwCl (zV305 m0_known cA_m0_known (upd f_m0_known (Int32.toNatClampNeg p1) 2) m0_people cA_m0_people f_m0_people m0_courts cA_m0_courts f_m0_courts m0_hours cA_m0_hours f_m0_hours m0 m0_width m0_many m0_cells m0_moved m0_tape m0_taped m0_at m0_token m0_place m0_value m0_word m0_bad m0_badPlace m0_fault m0_faultPlace m0_lines m0_hours m0_courts m0_in m0_gates m0_gate m0_people m0_at0 m0_stray m0_set m0_once m0_truth m0_known m0_isKept m0_strays m0_hostPerson m0_hostCourt m0_outside m0_inside m0_can m0_fewest m0_waysTo m0_then m0_two m0_nextTwo m0_three m0_nextThree m0_shut m0_worth m0_digit m0_codes m0_most m0_bestTry m0_dayCourt m0_dayHour m0_dayNo m0_x m0_in cA_m0_in f_m0_in m0_at0 cA_m0_at0 f_m0_at0 m0_stray cA_m0_stray f_m0_stray m0_set cA_m0_set f_m0_set) H := hP
                  have hD : va_D A (zV305 m0_known cA_m0_known (upd f_m0_known (Int32.toNatClampNeg p1) 2) m0_people cA_m0_people f_m0_people m0_courts cA_m0_courts f_m0_courts m0_hours cA_m0_hours f_m0_hours m0 m0_width m0_many m0_cells m0_moved m0_tape m0_taped m0_at m0_token m0_place m0_value m0_word m0_bad m0_badPlace m0_fault m0_faultPlace m0_lines m0_hours m0_courts m0_in m0_gates m0_gate m0_people m0_at0 m0_stray m0_set m0_once m0_truth m0_known m0_isKept m0_strays m0_hostPerson m0_hostCourt m0_outside m0_inside m0_can m0_fewest m0_waysTo m0_then m0_two m0_nextTwo m0_three m0_nextThree m0_shut m0_worth m0_digit m0_codes m0_most m0_bestTry m0_dayCourt m0_dayHour m0_dayNo m0_x m0_in cA_m0_in f_m0_in m0_at0 cA_m0_at0 f_m0_at0 m0_stray cA_m0_stray f_m0_stray m0_set cA_m0_set f_m0_set) := hD
                  rw [← ef_25] at hP hD
                  refine lv_aload_n hx hb dX10_hear_165 rfl (lv_at hl 3 rfl) ?_
                  refine va_get (D := (dC, dI)) (ci := 10) (v := .ref m0_known) (C := RX10) (T := TX10) (N := 53) hx hb hts zl_X10 hown hK hP 4 rfl rfl 28 (by decide) (hts _ zw_t6_128) (fun _ h9 => h9) rfl dX10_hear_166 ?_
                  refine lv_iload_n hx hb dX10_hear_169 rfl (lv_at hl 4 rfl) ?_
                  refine va_iald hx hb hK hP 0 7 rfl rfl (zi_in rfl (by first | with_reducible assumption | omega)) dX10_hear_170 ?_
                  refine lv_topi (fun x_26 ex_26 => ?_)
                  replace hF := hF.trans (zL_eq ex_26)
                  have b_x_26 : 0 ≤ x_26.toInt ∧ x_26.toInt ≤ 2 := by rw [ex_26]; exact b_f_25 _
                  refine lv_if_ne (tgt := 178) hx hb dX10_hear_171 (by decide) (fun c_27 => ?_) (fun c_27 => ?_)
                  · have ic_27 := zz_ne rfl (show Int32.toInt 0 = 0 from by decide) c_27
                    replace hF := hF.trans (if_neg c_27)
                    refine lv_iconst (v := 1) hx hb dX10_hear_178 (by decide) ?_
                    have hF : RR = ((1 : Int32), (0 : Int32), f_25) := hF
                    have zc : Int32.toInt 1 = 1 := by decide
                    exact W.iret (v := 1) hx hb hr (fun t ht hW => by rw [← hQe]; exact ⟨⟨1, (), rfl, ⟨by decide, (by rw [← hRR, hF])⟩, ⟨(0), f_25, b_f_25, (by rw [← hRR, hF]), (by rw [← hRR, hF]), z_ret hP hK hD ht hW [4, 3, 2, 5, 1, 6, 7, 8, 0] [] rfl (by decide) rfl⟩⟩, hS.F ht⟩) hS.2.2 dX10_hear_179
                  · have ic_27 := zz_nne rfl (show Int32.toInt 0 = 0 from by decide) c_27
                    replace hF := hF.trans (if_pos c_27)
                    refine lv_iconst (v := 0) hx hb dX10_hear_174 (by decide) ?_
                    refine lv_goto (tgt := 179) hx hb dX10_hear_175 (by decide) ?_
                    have hF : RR = ((0 : Int32), (0 : Int32), f_25) := hF
                    have zc : Int32.toInt 0 = 0 := by decide
                    exact W.iret (v := 0) hx hb hr (fun t ht hW => by rw [← hQe]; exact ⟨⟨0, (), rfl, ⟨by decide, (by rw [← hRR, hF])⟩, ⟨(0), f_25, b_f_25, (by rw [← hRR, hF]), (by rw [← hRR, hF]), z_ret hP hK hD ht hW [4, 3, 2, 5, 1, 6, 7, 8, 0] [] rfl (by decide) rfl⟩⟩, hS.F ht⟩) hS.2.2 dX10_hear_179
            · have ic_20 := zz_nne rfl rfl c_20
              replace hF := hF.trans (if_pos c_20)
              refine lv_iconst (v := 1) hx hb dX10_hear_73 (by decide) ?_
              refine lv_goto (tgt := 78) hx hb dX10_hear_74 (by decide) ?_
              refine lv_istore (lv' := [(6, .int 1), (5, .int 0), (0, .ref m0), (1, .int p1), (2, .int p2), (3, .int p3), (4, .int p4)]) hx hb dX10_hear_78 hl (by decide) rfl (fun ls hl => ?_)
              refine lv_iload hx hb dX10_hear_80 (lv_at hl 1 rfl) ?_
              refine lv_if_ne (tgt := 112) hx hb dX10_hear_82 (by decide) (fun q => absurd q (by decide)) (fun _ => ?_)
              refine lv_aload_n hx hb dX10_hear_85 rfl (lv_at hl 2 rfl) ?_
              refine va_get (D := (dC, dI)) (ci := 10) (v := .ref m0_known) (C := RX10) (T := TX10) (N := 53) hx hb hts zl_X10 hown hK hP 4 rfl rfl 28 (by decide) (hts _ zw_t6_128) (fun _ h9 => h9) rfl dX10_hear_86 ?_
              refine lv_iload_n hx hb dX10_hear_89 rfl (lv_at hl 3 rfl) ?_
              refine va_iald hx hb hK hP 0 7 rfl rfl (zi_in rfl (by first | with_reducible assumption | omega)) dX10_hear_90 ?_
              refine lv_topi (fun x_28 ex_28 => ?_)
              replace hF := hF.trans (zL_eq ex_28)
              obtain rfl : x_10 = x_28 := ex_10.trans ex_28.symm
              refine lv_iconst (v := 1) hx hb dX10_hear_91 (by decide) ?_
              refine lv_icmp_eq (tgt := 112) hx hb dX10_hear_92 (by decide) (fun c_29 => ?_) (fun c_29 => ?_)
              · have ic_29 := zz_eq rfl (show Int32.toInt 1 = 1 from by decide) c_29
                replace hF := hF.trans (if_pos c_29)
                refine lv_iconst (v := 0) hx hb dX10_hear_112 (by decide) ?_
                refine lv_istore (lv' := [(7, .int 0), (6, .int 1), (5, .int 0), (0, .ref m0), (1, .int p1), (2, .int p2), (3, .int p3), (4, .int p4)]) hx hb dX10_hear_113 hl (by decide) rfl (fun ls hl => ?_)
                refine lv_iload hx hb dX10_hear_115 (lv_at hl 1 rfl) ?_
                refine lv_if_ne (tgt := 128) hx hb dX10_hear_117 (by decide) (fun _ => ?_) (fun q => absurd q (by decide))
                refine lv_iload hx hb dX10_hear_128 (lv_at hl 2 rfl) ?_
                refine lv_if_eq (tgt := 135) hx hb dX10_hear_130 (by decide) (fun _ => ?_) (fun q => absurd q (by decide))
                refine lv_aload_n hx hb dX10_hear_135 rfl (lv_at hl 3 rfl) ?_
                refine va_get (D := (dC, dI)) (ci := 10) (v := .ref m0_known) (C := RX10) (T := TX10) (N := 53) hx hb hts zl_X10 hown hK hP 4 rfl rfl 28 (by decide) (hts _ zw_t6_128) (fun _ h9 => h9) rfl dX10_hear_136 ?_
                refine lv_iload_n hx hb dX10_hear_139 rfl (lv_at hl 4 rfl) ?_
                refine lv_iload hx hb dX10_hear_140 (lv_at hl 1 rfl) ?_
                refine lv_if_eq (tgt := 154) hx hb dX10_hear_142 (by decide) (fun q => absurd q (by decide)) (fun _ => ?_)
                refine lv_iload hx hb dX10_hear_145 (lv_at hl 0 rfl) ?_
                refine lv_if_eq (tgt := 154) hx hb dX10_hear_147 (by decide) (fun _ => ?_) (fun q => absurd q (by decide))
                refine lv_iload hx hb dX10_hear_154 (lv_at hl 1 rfl) ?_
                refine lv_if_eq (tgt := 163) hx hb dX10_hear_156 (by decide) (fun q => absurd q (by decide)) (fun _ => ?_)
                refine lv_iconst (v := 1) hx hb dX10_hear_159 (by decide) ?_
                refine lv_goto (tgt := 164) hx hb dX10_hear_160 (by decide) ?_
                refine va_iast hx hb hK hP hD hS 0 7 rfl rfl (zi_in rfl (by first | with_reducible assumption | omega)) dX10_hear_164 (fun H locs hP hD hS => ?_)
                obtain ⟨f_30, ef_30⟩ : ∃ g : Nat → Int32, g = upd f_m0_known (Int32.toNatClampNeg p1) 1 := ⟨_, rfl⟩
                replace hF := hF.trans (zL_eq ef_30)
                have b_f_30 : ∀ j : Nat, 0 ≤ (f_30 j).toInt ∧ (f_30 j).toInt ≤ 2 := by rw [ef_30]; exact zi_upd b_f_m0_known (show Int32.toInt 1 = 1 from by decide) (by first | with_reducible assumption | omega)
                have hP : va_P (dC, dI) vwCl (zV305 m0_known cA_m0_known (upd f_m0_known (Int32.toNatClampNeg p1) 1) m0_people cA_m0_people f_m0_people m0_courts cA_m0_courts f_m0_courts m0_hours cA_m0_hours f_m0_hours m0 m0_width m0_many m0_cells m0_moved m0_tape m0_taped m0_at m0_token m0_place m0_value m0_word m0_bad m0_badPlace m0_fault m0_faultPlace m0_lines m0_hours m0_courts m0_in m0_gates m0_gate m0_people m0_at0 m0_stray m0_set m0_once m0_truth m0_known m0_isKept m0_strays m0_hostPerson m0_hostCourt m0_outside m0_inside m0_can m0_fewest m0_waysTo m0_then m0_two m0_nextTwo m0_three m0_nextThree m0_shut m0_worth m0_digit m0_codes m0_most m0_bestTry m0_dayCourt m0_dayHour m0_dayNo m0_x m0_in cA_m0_in f_m0_in m0_at0 cA_m0_at0 f_m0_at0 m0_stray cA_m0_stray f_m0_stray m0_set cA_m0_set f_m0_set) H := hP
                have hD : va_D A (zV305 m0_known cA_m0_known (upd f_m0_known (Int32.toNatClampNeg p1) 1) m0_people cA_m0_people f_m0_people m0_courts cA_m0_courts f_m0_courts m0_hours cA_m0_hours f_m0_hours m0 m0_width m0_many m0_cells m0_moved m0_tape m0_taped m0_at m0_token m0_place m0_value m0_word m0_bad m0_badPlace m0_fault m0_faultPlace m0_lines m0_hours m0_courts m0_in m0_gates m0_gate m0_people m0_at0 m0_stray m0_set m0_once m0_truth m0_known m0_isKept m0_strays m0_hostPerson m0_hostCourt m0_outside m0_inside m0_can m0_fewest m0_waysTo m0_then m0_two m0_nextTwo m0_three m0_nextThree m0_shut m0_worth m0_digit m0_codes m0_most m0_bestTry m0_dayCourt m0_dayHour m0_dayNo m0_x m0_in cA_m0_in f_m0_in m0_at0 cA_m0_at0 f_m0_at0 m0_stray cA_m0_stray f_m0_stray m0_set cA_m0_set f_m0_set) := hD
                rw [← ef_30] at hP hD
                refine lv_aload_n hx hb dX10_hear_165 rfl (lv_at hl 3 rfl) ?_
                refine va_get (D := (dC, dI)) (ci := 10) (v := .ref m0_known) (C := RX10) (T := TX10) (N := 53) hx hb hts zl_X10 hown hK hP 4 rfl rfl 28 (by decide) (hts _ zw_t6_128) (fun _ h9 => h9) rfl dX10_hear_166 ?_
                refine lv_iload_n hx hb dX10_hear_169 rfl (lv_at hl 4 rfl) ?_
                refine va_iald hx hb hK hP 0 7 rfl rfl (zi_in rfl (by first | with_reducible assumption | omega)) dX10_hear_170 ?_
                refine lv_topi (fun x_31 ex_31 => ?_)
                replace hF := hF.trans (zL_eq ex_31)
                have b_x_31 : 0 ≤ x_31.toInt ∧ x_31.toInt ≤ 2 := by rw [ex_31]; exact b_f_30 _
                refine lv_if_ne (tgt := 178) hx hb dX10_hear_171 (by decide) (fun c_32 => ?_) (fun c_32 => ?_)
                · have ic_32 := zz_ne rfl (show Int32.toInt 0 = 0 from by decide) c_32
                  replace hF := hF.trans (if_neg c_32)
                  refine lv_iconst (v := 1) hx hb dX10_hear_178 (by decide) ?_
                  have hF : RR = ((1 : Int32), (0 : Int32), f_30) := hF
                  have zc : Int32.toInt 1 = 1 := by decide
                  exact W.iret (v := 1) hx hb hr (fun t ht hW => by rw [← hQe]; exact ⟨⟨1, (), rfl, ⟨by decide, (by rw [← hRR, hF])⟩, ⟨(0), f_30, b_f_30, (by rw [← hRR, hF]), (by rw [← hRR, hF]), z_ret hP hK hD ht hW [4, 3, 2, 5, 1, 6, 7, 8, 0] [] rfl (by decide) rfl⟩⟩, hS.F ht⟩) hS.2.2 dX10_hear_179
                · have ic_32 := zz_nne rfl (show Int32.toInt 0 = 0 from by decide) c_32
                  replace hF := hF.trans (if_pos c_32)
                  refine lv_iconst (v := 0) hx hb dX10_hear_174 (by decide) ?_
                  refine lv_goto (tgt := 179) hx hb dX10_hear_175 (by decide) ?_
                  have hF : RR = ((0 : Int32), (0 : Int32), f_30) := hF
                  have zc : Int32.toInt 0 = 0 := by decide
                  exact W.iret (v := 0) hx hb hr (fun t ht hW => by rw [← hQe]; exact ⟨⟨0, (), rfl, ⟨by decide, (by rw [← hRR, hF])⟩, ⟨(0), f_30, b_f_30, (by rw [← hRR, hF]), (by rw [← hRR, hF]), z_ret hP hK hD ht hW [4, 3, 2, 5, 1, 6, 7, 8, 0] [] rfl (by decide) rfl⟩⟩, hS.F ht⟩) hS.2.2 dX10_hear_179
              · have ic_29 := zz_neq rfl (show Int32.toInt 1 = 1 from by decide) c_29
                replace hF := hF.trans (if_neg c_29)
                refine lv_aload_n hx hb dX10_hear_95 rfl (lv_at hl 2 rfl) ?_
                refine lv_iload_n hx hb dX10_hear_96 rfl (lv_at hl 3 rfl) ?_
                refine lv_iconst (v := 1) hx hb dX10_hear_97 (by decide) ?_
                refine lv_iload_n hx hb dX10_hear_98 rfl (lv_at hl 4 rfl) ?_
                refine lv_iload_n hx hb dX10_hear_99 rfl (lv_at hl 5 rfl) ?_
                obtain ⟨hPc, hDc, hFc⟩ := z_cut (wc := (zV304 m0 m0_width m0_many m0_cells m0_moved m0_tape m0_taped m0_at m0_token m0_place m0_value m0_word m0_bad m0_badPlace m0_fault m0_faultPlace m0_lines m0_hours m0_courts m0_in m0_gates m0_gate m0_people m0_at0 m0_stray m0_set m0_once m0_truth m0_known m0_isKept m0_strays m0_hostPerson m0_hostCourt m0_outside m0_inside m0_can m0_fewest m0_waysTo m0_then m0_two m0_nextTwo m0_three m0_nextThree m0_shut m0_worth m0_digit m0_codes m0_most m0_bestTry m0_dayCourt m0_dayHour m0_dayNo m0_x m0_in cA_m0_in f_m0_in m0_at0 cA_m0_at0 f_m0_at0 m0_stray cA_m0_stray f_m0_stray m0_set cA_m0_set f_m0_set)) hP hD hS hA [4, 5, 6, 7, 8] rfl (by decide +kernel)
                have hKc := hK.sub (tys' := [(cA_m0_in, .int), (cA_m0_at0, .int), (cA_m0_stray, .int), (cA_m0_set, .int)]) [2, 4, 5, 6] rfl
                refine va_calli (va_runV (As := [.int p1, .int 1, .int p2, .int p3]) (rest := []) ⟨hx, hb, hml, hown, hts⟩ (kf_X10_isWithin l sa dC dI m0 p1 (1) p2 p3 (0) m0_width m0_many m0_cells m0_moved m0_tape m0_taped m0_at m0_token m0_place m0_value m0_word m0_bad m0_badPlace m0_fault m0_faultPlace m0_lines m0_hours m0_courts m0_in m0_gates m0_gate m0_people m0_at0 m0_stray m0_set m0_once m0_truth m0_known m0_isKept m0_strays m0_hostPerson m0_hostCourt m0_outside m0_inside m0_can m0_fewest m0_waysTo m0_then m0_two m0_nextTwo m0_three m0_nextThree m0_shut m0_worth m0_digit m0_codes m0_most m0_bestTry m0_dayCourt m0_dayHour m0_dayNo m0_x cA_m0_in f_m0_in cA_m0_at0 f_m0_at0 cA_m0_stray f_m0_stray cA_m0_set f_m0_set (by first | with_reducible assumption | omega) (by decide) (by first | with_reducible assumption | omega) b_m0_taped b_m0_at b_m0_token b_m0_value b_m0_bad b_m0_strays b_m0_hostCourt b_m0_dayCourt b_m0_dayHour (zIc.go hep_0 (by first | with_reducible assumption | omega) b_f_m0_in) b_f_m0_at0 b_f_m0_stray b_f_m0_set H.size) (cwV 4 hts (z_gV zw_t7_213 zw_t7_215 zw_s6_3 zw_t1_11 zw_t7_216) rfl rfl rfl (by decide +kernel) (by rw [← hRe]; exact ⟨(Nat.le_of_ble_eq_true rfl), (Nat.le_of_ble_eq_true rfl)⟩)) (z_preV hPc hKc hDc hN hXs hS hFc (q := (RX10, TX10, 53)) (ci := 10) (q0 := 0) rfl rfl) rfl rfl hl.1 rfl (lv_room (Nat.le_of_ble_eq_true rfl)) dX10_hear_100 (by rw [← hRe]; exact ⟨(Nat.le_of_ble_eq_true rfl), (Nat.le_of_ble_eq_true rfl)⟩)) hS (fun q _ h => hFc q h) hFc (fun r_33 u t H1 locs ht hvm hw hB hz1 hk1 hS => ?_)
                obtain ⟨hP, hD, hK⟩ := z_after3 (wn := (zV305 m0_known cA_m0_known f_m0_known m0_people cA_m0_people f_m0_people m0_courts cA_m0_courts f_m0_courts m0_hours cA_m0_hours f_m0_hours m0 m0_width m0_many m0_cells m0_moved m0_tape m0_taped m0_at m0_token m0_place m0_value m0_word m0_bad m0_badPlace m0_fault m0_faultPlace m0_lines m0_hours m0_courts m0_in m0_gates m0_gate m0_people m0_at0 m0_stray m0_set m0_once m0_truth m0_known m0_isKept m0_strays m0_hostPerson m0_hostCourt m0_outside m0_inside m0_can m0_fewest m0_waysTo m0_then m0_two m0_nextTwo m0_three m0_nextThree m0_shut m0_worth m0_digit m0_codes m0_most m0_bestTry m0_dayCourt m0_dayHour m0_dayNo m0_x m0_in cA_m0_in f_m0_in m0_at0 cA_m0_at0 f_m0_at0 m0_stray cA_m0_stray f_m0_stray m0_set cA_m0_set f_m0_set)) hB ht hvm hP hD hK [4, 5, 6, 7, 8] [0, 1, 2, 3] rfl 9 rfl (by decide +kernel) rfl (by decide +kernel) hk1 hFc
                generalize H1 = H at hP hS ⊢
                have hK : va_K (dC, dI) vwCl [(cA_m0_hours, .int), (cA_m0_courts, .int), (cA_m0_in, .int), (cA_m0_people, .int), (cA_m0_at0, .int), (cA_m0_stray, .int), (cA_m0_set, .int), (cA_m0_known, .int)] s := hK
                have b_r_33 : 0 ≤ r_33.toInt ∧ r_33.toInt ≤ 1 := hw.1
                have sf_r_33 := hw.2
                have za_1 : Int32.toInt 1 = 1 := by decide
                replace hF := hF.trans (zL_eq sf_r_33)
                refine lv_iload hx hb dX10_hear_103 (lv_at hl 6 rfl) ?_
                refine lv_icmp_ne (tgt := 112) hx hb dX10_hear_105 (by decide) (fun c_34 => ?_) (fun c_34 => ?_)
                · have ic_34 := zz_ne rfl rfl c_34
                  replace hF := hF.trans (if_neg c_34)
                  refine lv_iconst (v := 0) hx hb dX10_hear_112 (by decide) ?_
                  refine lv_istore (lv' := [(7, .int 0), (6, .int 1), (5, .int 0), (0, .ref m0), (1, .int p1), (2, .int p2), (3, .int p3), (4, .int p4)]) hx hb dX10_hear_113 hl (by decide) rfl (fun ls hl => ?_)
                  refine lv_iload hx hb dX10_hear_115 (lv_at hl 1 rfl) ?_
                  refine lv_if_ne (tgt := 128) hx hb dX10_hear_117 (by decide) (fun _ => ?_) (fun q => absurd q (by decide))
                  refine lv_iload hx hb dX10_hear_128 (lv_at hl 2 rfl) ?_
                  refine lv_if_eq (tgt := 135) hx hb dX10_hear_130 (by decide) (fun _ => ?_) (fun q => absurd q (by decide))
                  refine lv_aload_n hx hb dX10_hear_135 rfl (lv_at hl 3 rfl) ?_
                  refine va_get (D := (dC, dI)) (ci := 10) (v := .ref m0_known) (C := RX10) (T := TX10) (N := 53) hx hb hts zl_X10 hown hK hP 4 rfl rfl 28 (by decide) (hts _ zw_t6_128) (fun _ h9 => h9) rfl dX10_hear_136 ?_
                  refine lv_iload_n hx hb dX10_hear_139 rfl (lv_at hl 4 rfl) ?_
                  refine lv_iload hx hb dX10_hear_140 (lv_at hl 1 rfl) ?_
                  refine lv_if_eq (tgt := 154) hx hb dX10_hear_142 (by decide) (fun q => absurd q (by decide)) (fun _ => ?_)
                  refine lv_iload hx hb dX10_hear_145 (lv_at hl 0 rfl) ?_
                  refine lv_if_eq (tgt := 154) hx hb dX10_hear_147 (by decide) (fun _ => ?_) (fun q => absurd q (by decide))
                  refine lv_iload hx hb dX10_hear_154 (lv_at hl 1 rfl) ?_
                  refine lv_if_eq (tgt := 163) hx hb dX10_hear_156 (by decide) (fun q => absurd q (by decide)) (fun _ => ?_)
                  refine lv_iconst (v := 1) hx hb dX10_hear_159 (by decide) ?_
                  refine lv_goto (tgt := 164) hx hb dX10_hear_160 (by decide) ?_
                  refine va_iast hx hb hK hP hD hS 0 7 rfl rfl (zi_in rfl (by first | with_reducible assumption | omega)) dX10_hear_164 (fun H locs hP hD hS => ?_)
                  obtain ⟨f_35, ef_35⟩ : ∃ g : Nat → Int32, g = upd f_m0_known (Int32.toNatClampNeg p1) 1 := ⟨_, rfl⟩
                  replace hF := hF.trans (zL_eq ef_35)
                  have b_f_35 : ∀ j : Nat, 0 ≤ (f_35 j).toInt ∧ (f_35 j).toInt ≤ 2 := by rw [ef_35]; exact zi_upd b_f_m0_known (show Int32.toInt 1 = 1 from by decide) (by first | with_reducible assumption | omega)
                  have hP : va_P (dC, dI) vwCl (zV305 m0_known cA_m0_known (upd f_m0_known (Int32.toNatClampNeg p1) 1) m0_people cA_m0_people f_m0_people m0_courts cA_m0_courts f_m0_courts m0_hours cA_m0_hours f_m0_hours m0 m0_width m0_many m0_cells m0_moved m0_tape m0_taped m0_at m0_token m0_place m0_value m0_word m0_bad m0_badPlace m0_fault m0_faultPlace m0_lines m0_hours m0_courts m0_in m0_gates m0_gate m0_people m0_at0 m0_stray m0_set m0_once m0_truth m0_known m0_isKept m0_strays m0_hostPerson m0_hostCourt m0_outside m0_inside m0_can m0_fewest m0_waysTo m0_then m0_two m0_nextTwo m0_three m0_nextThree m0_shut m0_worth m0_digit m0_codes m0_most m0_bestTry m0_dayCourt m0_dayHour m0_dayNo m0_x m0_in cA_m0_in f_m0_in m0_at0 cA_m0_at0 f_m0_at0 m0_stray cA_m0_stray f_m0_stray m0_set cA_m0_set f_m0_set) H := hP
                  have hD : va_D A (zV305 m0_known cA_m0_known (upd f_m0_known (Int32.toNatClampNeg p1) 1) m0_people cA_m0_people f_m0_people m0_courts cA_m0_courts f_m0_courts m0_hours cA_m0_hours f_m0_hours m0 m0_width m0_many m0_cells m0_moved m0_tape m0_taped m0_at m0_token m0_place m0_value m0_word m0_bad m0_badPlace m0_fault m0_faultPlace m0_lines m0_hours m0_courts m0_in m0_gates m0_gate m0_people m0_at0 m0_stray m0_set m0_once m0_truth m0_known m0_isKept m0_strays m0_hostPerson m0_hostCourt m0_outside m0_inside m0_can m0_fewest m0_waysTo m0_then m0_two m0_nextTwo m0_three m0_nextThree m0_shut m0_worth m0_digit m0_codes m0_most m0_bestTry m0_dayCourt m0_dayHour m0_dayNo m0_x m0_in cA_m0_in f_m0_in m0_at0 cA_m0_at0 f_m0_at0 m0_stray cA_m0_stray f_m0_stray m0_set cA_m0_set f_m0_set) := hD
                  rw [← ef_35] at hP hD
                  refine lv_aload_n hx hb dX10_hear_165 rfl (lv_at hl 3 rfl) ?_
                  refine va_get (D := (dC, dI)) (ci := 10) (v := .ref m0_known) (C := RX10) (T := TX10) (N := 53) hx hb hts zl_X10 hown hK hP 4 rfl rfl 28 (by decide) (hts _ zw_t6_128) (fun _ h9 => h9) rfl dX10_hear_166 ?_
                  refine lv_iload_n hx hb dX10_hear_169 rfl (lv_at hl 4 rfl) ?_
                  refine va_iald hx hb hK hP 0 7 rfl rfl (zi_in rfl (by first | with_reducible assumption | omega)) dX10_hear_170 ?_
                  refine lv_topi (fun x_36 ex_36 => ?_)
                  replace hF := hF.trans (zL_eq ex_36)
                  have b_x_36 : 0 ≤ x_36.toInt ∧ x_36.toInt ≤ 2 := by rw [ex_36]; exact b_f_35 _
                  refine lv_if_ne (tgt := 178) hx hb dX10_hear_171 (by decide) (fun c_37 => ?_) (fun c_37 => ?_)
                  · have ic_37 := zz_ne rfl (show Int32.toInt 0 = 0 from by decide) c_37
                    replace hF := hF.trans (if_neg c_37)
                    refine lv_iconst (v := 1) hx hb dX10_hear_178 (by decide) ?_
                    have hF : RR = ((1 : Int32), (0 : Int32), f_35) := hF
                    have zc : Int32.toInt 1 = 1 := by decide
                    exact W.iret (v := 1) hx hb hr (fun t ht hW => by rw [← hQe]; exact ⟨⟨1, (), rfl, ⟨by decide, (by rw [← hRR, hF])⟩, ⟨(0), f_35, b_f_35, (by rw [← hRR, hF]), (by rw [← hRR, hF]), z_ret hP hK hD ht hW [4, 3, 2, 5, 1, 6, 7, 8, 0] [] rfl (by decide) rfl⟩⟩, hS.F ht⟩) hS.2.2 dX10_hear_179
                  · have ic_37 := zz_nne rfl (show Int32.toInt 0 = 0 from by decide) c_37
                    replace hF := hF.trans (if_pos c_37)
                    refine lv_iconst (v := 0) hx hb dX10_hear_174 (by decide) ?_
                    refine lv_goto (tgt := 179) hx hb dX10_hear_175 (by decide) ?_
                    have hF : RR = ((0 : Int32), (0 : Int32), f_35) := hF
                    have zc : Int32.toInt 0 = 0 := by decide
                    exact W.iret (v := 0) hx hb hr (fun t ht hW => by rw [← hQe]; exact ⟨⟨0, (), rfl, ⟨by decide, (by rw [← hRR, hF])⟩, ⟨(0), f_35, b_f_35, (by rw [← hRR, hF]), (by rw [← hRR, hF]), z_ret hP hK hD ht hW [4, 3, 2, 5, 1, 6, 7, 8, 0] [] rfl (by decide) rfl⟩⟩, hS.F ht⟩) hS.2.2 dX10_hear_179
                · have ic_34 := zz_nne rfl rfl c_34
                  replace hF := hF.trans (if_pos c_34)
                  refine lv_iconst (v := 1) hx hb dX10_hear_108 (by decide) ?_
                  refine lv_goto (tgt := 113) hx hb dX10_hear_109 (by decide) ?_
                  refine lv_istore (lv' := [(7, .int 1), (6, .int 1), (5, .int 0), (0, .ref m0), (1, .int p1), (2, .int p2), (3, .int p3), (4, .int p4)]) hx hb dX10_hear_113 hl (by decide) rfl (fun ls hl => ?_)
                  refine lv_iload hx hb dX10_hear_115 (lv_at hl 1 rfl) ?_
                  refine lv_if_ne (tgt := 128) hx hb dX10_hear_117 (by decide) (fun _ => ?_) (fun q => absurd q (by decide))
                  refine lv_iload hx hb dX10_hear_128 (lv_at hl 2 rfl) ?_
                  refine lv_if_eq (tgt := 135) hx hb dX10_hear_130 (by decide) (fun _ => ?_) (fun q => absurd q (by decide))
                  refine lv_aload_n hx hb dX10_hear_135 rfl (lv_at hl 3 rfl) ?_
                  refine va_get (D := (dC, dI)) (ci := 10) (v := .ref m0_known) (C := RX10) (T := TX10) (N := 53) hx hb hts zl_X10 hown hK hP 4 rfl rfl 28 (by decide) (hts _ zw_t6_128) (fun _ h9 => h9) rfl dX10_hear_136 ?_
                  refine lv_iload_n hx hb dX10_hear_139 rfl (lv_at hl 4 rfl) ?_
                  refine lv_iload hx hb dX10_hear_140 (lv_at hl 1 rfl) ?_
                  refine lv_if_eq (tgt := 154) hx hb dX10_hear_142 (by decide) (fun q => absurd q (by decide)) (fun _ => ?_)
                  refine lv_iload hx hb dX10_hear_145 (lv_at hl 0 rfl) ?_
                  refine lv_if_eq (tgt := 154) hx hb dX10_hear_147 (by decide) (fun q => absurd q (by decide)) (fun _ => ?_)
                  refine lv_iconst (v := 0) hx hb dX10_hear_150 (by decide) ?_
                  refine lv_goto (tgt := 164) hx hb dX10_hear_151 (by decide) ?_
                  refine va_iast hx hb hK hP hD hS 0 7 rfl rfl (zi_in rfl (by first | with_reducible assumption | omega)) dX10_hear_164 (fun H locs hP hD hS => ?_)
                  obtain ⟨f_38, ef_38⟩ : ∃ g : Nat → Int32, g = upd f_m0_known (Int32.toNatClampNeg p1) 0 := ⟨_, rfl⟩
                  replace hF := hF.trans (zL_eq ef_38)
                  have b_f_38 : ∀ j : Nat, 0 ≤ (f_38 j).toInt ∧ (f_38 j).toInt ≤ 2 := by rw [ef_38]; exact zi_upd b_f_m0_known (show Int32.toInt 0 = 0 from by decide) (by first | with_reducible assumption | omega)
                  have hP : va_P (dC, dI) vwCl (zV305 m0_known cA_m0_known (upd f_m0_known (Int32.toNatClampNeg p1) 0) m0_people cA_m0_people f_m0_people m0_courts cA_m0_courts f_m0_courts m0_hours cA_m0_hours f_m0_hours m0 m0_width m0_many m0_cells m0_moved m0_tape m0_taped m0_at m0_token m0_place m0_value m0_word m0_bad m0_badPlace m0_fault m0_faultPlace m0_lines m0_hours m0_courts m0_in m0_gates m0_gate m0_people m0_at0 m0_stray m0_set m0_once m0_truth m0_known m0_isKept m0_strays m0_hostPerson m0_hostCourt m0_outside m0_inside m0_can m0_fewest m0_waysTo m0_then m0_two m0_nextTwo m0_three m0_nextThree m0_shut m0_worth m0_digit m0_codes m0_most m0_bestTry m0_dayCourt m0_dayHour m0_dayNo m0_x m0_in cA_m0_in f_m0_in m0_at0 cA_m0_at0 f_m0_at0 m0_stray cA_m0_stray f_m0_stray m0_set cA_m0_set f_m0_set) H := hP
                  have hD : va_D A (zV305 m0_known cA_m0_known (upd f_m0_known (Int32.toNatClampNeg p1) 0) m0_people cA_m0_people f_m0_people m0_courts cA_m0_courts f_m0_courts m0_hours cA_m0_hours f_m0_hours m0 m0_width m0_many m0_cells m0_moved m0_tape m0_taped m0_at m0_token m0_place m0_value m0_word m0_bad m0_badPlace m0_fault m0_faultPlace m0_lines m0_hours m0_courts m0_in m0_gates m0_gate m0_people m0_at0 m0_stray m0_set m0_once m0_truth m0_known m0_isKept m0_strays m0_hostPerson m0_hostCourt m0_outside m0_inside m0_can m0_fewest m0_waysTo m0_then m0_two m0_nextTwo m0_three m0_nextThree m0_shut m0_worth m0_digit m0_codes m0_most m0_bestTry m0_dayCourt m0_dayHour m0_dayNo m0_x m0_in cA_m0_in f_m0_in m0_at0 cA_m0_at0 f_m0_at0 m0_stray cA_m0_stray f_m0_stray m0_set cA_m0_set f_m0_set) := hD
                  rw [← ef_38] at hP hD
                  refine lv_aload_n hx hb dX10_hear_165 rfl (lv_at hl 3 rfl) ?_
                  refine va_get (D := (dC, dI)) (ci := 10) (v := .ref m0_known) (C := RX10) (T := TX10) (N := 53) hx hb hts zl_X10 hown hK hP 4 rfl rfl 28 (by decide) (hts _ zw_t6_128) (fun _ h9 => h9) rfl dX10_hear_166 ?_
                  refine lv_iload_n hx hb dX10_hear_169 rfl (lv_at hl 4 rfl) ?_
                  refine va_iald hx hb hK hP 0 7 rfl rfl (zi_in rfl (by first | with_reducible assumption | omega)) dX10_hear_170 ?_
                  refine lv_topi (fun x_39 ex_39 => ?_)
                  replace hF := hF.trans (zL_eq ex_39)
                  have b_x_39 : 0 ≤ x_39.toInt ∧ x_39.toInt ≤ 2 := by rw [ex_39]; exact b_f_38 _
                  refine lv_if_ne (tgt := 178) hx hb dX10_hear_171 (by decide) (fun c_40 => ?_) (fun c_40 => ?_)
                  · have ic_40 := zz_ne rfl (show Int32.toInt 0 = 0 from by decide) c_40
                    replace hF := hF.trans (if_neg c_40)
                    refine lv_iconst (v := 1) hx hb dX10_hear_178 (by decide) ?_
                    have hF : RR = ((1 : Int32), (0 : Int32), f_38) := hF
                    have zc : Int32.toInt 1 = 1 := by decide
                    exact W.iret (v := 1) hx hb hr (fun t ht hW => by rw [← hQe]; exact ⟨⟨1, (), rfl, ⟨by decide, (by rw [← hRR, hF])⟩, ⟨(0), f_38, b_f_38, (by rw [← hRR, hF]), (by rw [← hRR, hF]), z_ret hP hK hD ht hW [4, 3, 2, 5, 1, 6, 7, 8, 0] [] rfl (by decide) rfl⟩⟩, hS.F ht⟩) hS.2.2 dX10_hear_179
                  · have ic_40 := zz_nne rfl (show Int32.toInt 0 = 0 from by decide) c_40
                    replace hF := hF.trans (if_pos c_40)
                    refine lv_iconst (v := 0) hx hb dX10_hear_174 (by decide) ?_
                    refine lv_goto (tgt := 179) hx hb dX10_hear_175 (by decide) ?_
                    have hF : RR = ((0 : Int32), (0 : Int32), f_38) := hF
                    have zc : Int32.toInt 0 = 0 := by decide
                    exact W.iret (v := 0) hx hb hr (fun t ht hW => by rw [← hQe]; exact ⟨⟨0, (), rfl, ⟨by decide, (by rw [← hRR, hF])⟩, ⟨(0), f_38, b_f_38, (by rw [← hRR, hF]), (by rw [← hRR, hF]), z_ret hP hK hD ht hW [4, 3, 2, 5, 1, 6, 7, 8, 0] [] rfl (by decide) rfl⟩⟩, hS.F ht⟩) hS.2.2 dX10_hear_179
        · have ic_9 := zz_nne rfl (show Int32.toInt 0 = 0 from by decide) c_9
          replace hF := hF.trans (if_pos c_9)
          refine lv_iconst (v := 1) hx hb dX10_hear_43 (by decide) ?_
          refine lv_goto (tgt := 48) hx hb dX10_hear_44 (by decide) ?_
          refine lv_istore (lv' := [(5, .int 1), (0, .ref m0), (1, .int p1), (2, .int p2), (3, .int p3), (4, .int p4)]) hx hb dX10_hear_48 hl (by decide) rfl (fun ls hl => ?_)
          refine lv_aload_n hx hb dX10_hear_50 rfl (lv_at hl 1 rfl) ?_
          refine va_get (D := (dC, dI)) (ci := 10) (v := .ref m0_known) (C := RX10) (T := TX10) (N := 53) hx hb hts zl_X10 hown hK hP 7 rfl rfl 28 (by decide) (hts _ zw_t6_128) (fun _ h9 => h9) rfl dX10_hear_51 ?_
          refine lv_iload_n hx hb dX10_hear_54 rfl (lv_at hl 2 rfl) ?_
          refine va_iald hx hb hK hP 4 7 rfl rfl (zi_in rfl (by first | with_reducible assumption | omega)) dX10_hear_55 ?_
          refine lv_topi (fun x_41 ex_41 => ?_)
          replace hF := hF.trans (zL_eq ex_41)
          have b_x_41 : 0 ≤ x_41.toInt ∧ x_41.toInt ≤ 2 := by rw [ex_41]; exact b_f_m0_known _
          refine lv_iconst (v := 2) hx hb dX10_hear_56 (by decide) ?_
          refine lv_icmp_eq (tgt := 77) hx hb dX10_hear_57 (by decide) (fun c_42 => ?_) (fun c_42 => ?_)
          · have ic_42 := zz_eq rfl (show Int32.toInt 2 = 2 from by decide) c_42
            replace hF := hF.trans (if_pos c_42)
            refine lv_iconst (v := 0) hx hb dX10_hear_77 (by decide) ?_
            refine lv_istore (lv' := [(6, .int 0), (5, .int 1), (0, .ref m0), (1, .int p1), (2, .int p2), (3, .int p3), (4, .int p4)]) hx hb dX10_hear_78 hl (by decide) rfl (fun ls hl => ?_)
            refine lv_iload hx hb dX10_hear_80 (lv_at hl 1 rfl) ?_
            refine lv_if_ne (tgt := 112) hx hb dX10_hear_82 (by decide) (fun _ => ?_) (fun q => absurd q (by decide))
            refine lv_iconst (v := 0) hx hb dX10_hear_112 (by decide) ?_
            refine lv_istore (lv' := [(7, .int 0), (6, .int 0), (5, .int 1), (0, .ref m0), (1, .int p1), (2, .int p2), (3, .int p3), (4, .int p4)]) hx hb dX10_hear_113 hl (by decide) rfl (fun ls hl => ?_)
            refine lv_iload hx hb dX10_hear_115 (lv_at hl 1 rfl) ?_
            refine lv_if_ne (tgt := 128) hx hb dX10_hear_117 (by decide) (fun q => absurd q (by decide)) (fun _ => ?_)
            refine lv_iload hx hb dX10_hear_120 (lv_at hl 0 rfl) ?_
            refine lv_if_ne (tgt := 128) hx hb dX10_hear_122 (by decide) (fun q => absurd q (by decide)) (fun _ => ?_)
            refine lv_bipush (v := (-5)) hx hb dX10_hear_125 (by decide) ?_
            have hF : RR = ((-5 : Int32), (0 : Int32), f_m0_known) := hF
            have zc : Int32.toInt (-5) = (-5) := by decide
            exact W.iret (v := (-5)) hx hb hr (fun t ht hW => by rw [← hQe]; exact ⟨⟨(-5), (), rfl, ⟨by decide, (by rw [← hRR, hF])⟩, ⟨(0), f_m0_known, b_f_m0_known, (by rw [← hRR, hF]), (by rw [← hRR, hF]), z_ret hP hK hD ht hW [7, 8, 6, 0, 5, 1, 2, 3, 4] [] rfl (by decide) rfl⟩⟩, hS.F ht⟩) hS.2.2 dX10_hear_127
          · have ic_42 := zz_neq rfl (show Int32.toInt 2 = 2 from by decide) c_42
            replace hF := hF.trans (if_neg c_42)
            refine lv_aload_n hx hb dX10_hear_60 rfl (lv_at hl 1 rfl) ?_
            refine lv_iload_n hx hb dX10_hear_61 rfl (lv_at hl 2 rfl) ?_
            refine lv_iconst (v := 0) hx hb dX10_hear_62 (by decide) ?_
            refine lv_iload_n hx hb dX10_hear_63 rfl (lv_at hl 3 rfl) ?_
            refine lv_iload_n hx hb dX10_hear_64 rfl (lv_at hl 4 rfl) ?_
            obtain ⟨hPc, hDc, hFc⟩ := z_cut (wc := (zV304 m0 m0_width m0_many m0_cells m0_moved m0_tape m0_taped m0_at m0_token m0_place m0_value m0_word m0_bad m0_badPlace m0_fault m0_faultPlace m0_lines m0_hours m0_courts m0_in m0_gates m0_gate m0_people m0_at0 m0_stray m0_set m0_once m0_truth m0_known m0_isKept m0_strays m0_hostPerson m0_hostCourt m0_outside m0_inside m0_can m0_fewest m0_waysTo m0_then m0_two m0_nextTwo m0_three m0_nextThree m0_shut m0_worth m0_digit m0_codes m0_most m0_bestTry m0_dayCourt m0_dayHour m0_dayNo m0_x m0_in cA_m0_in f_m0_in m0_at0 cA_m0_at0 f_m0_at0 m0_stray cA_m0_stray f_m0_stray m0_set cA_m0_set f_m0_set)) hP hD hS hA [7, 0, 1, 2, 3] rfl (by decide +kernel)
            have hKc := hK.sub (tys' := [(cA_m0_in, .int), (cA_m0_at0, .int), (cA_m0_stray, .int), (cA_m0_set, .int)]) [2, 4, 5, 6] rfl
            refine va_calli (va_runV (As := [.int p1, .int 0, .int p2, .int p3]) (rest := []) ⟨hx, hb, hml, hown, hts⟩ (kf_X10_isWithin l sa dC dI m0 p1 (0) p2 p3 (0) m0_width m0_many m0_cells m0_moved m0_tape m0_taped m0_at m0_token m0_place m0_value m0_word m0_bad m0_badPlace m0_fault m0_faultPlace m0_lines m0_hours m0_courts m0_in m0_gates m0_gate m0_people m0_at0 m0_stray m0_set m0_once m0_truth m0_known m0_isKept m0_strays m0_hostPerson m0_hostCourt m0_outside m0_inside m0_can m0_fewest m0_waysTo m0_then m0_two m0_nextTwo m0_three m0_nextThree m0_shut m0_worth m0_digit m0_codes m0_most m0_bestTry m0_dayCourt m0_dayHour m0_dayNo m0_x cA_m0_in f_m0_in cA_m0_at0 f_m0_at0 cA_m0_stray f_m0_stray cA_m0_set f_m0_set (by first | with_reducible assumption | omega) (by decide) (by first | with_reducible assumption | omega) b_m0_taped b_m0_at b_m0_token b_m0_value b_m0_bad b_m0_strays b_m0_hostCourt b_m0_dayCourt b_m0_dayHour (zIc.go hep_0 (by first | with_reducible assumption | omega) b_f_m0_in) b_f_m0_at0 b_f_m0_stray b_f_m0_set H.size) (cwV 4 hts (z_gV zw_t7_213 zw_t7_215 zw_s6_3 zw_t1_11 zw_t7_216) rfl rfl rfl (by decide +kernel) (by rw [← hRe]; exact ⟨(Nat.le_of_ble_eq_true rfl), (Nat.le_of_ble_eq_true rfl)⟩)) (z_preV hPc hKc hDc hN hXs hS hFc (q := (RX10, TX10, 53)) (ci := 10) (q0 := 0) rfl rfl) rfl rfl hl.1 rfl (lv_room (Nat.le_of_ble_eq_true rfl)) dX10_hear_65 (by rw [← hRe]; exact ⟨(Nat.le_of_ble_eq_true rfl), (Nat.le_of_ble_eq_true rfl)⟩)) hS (fun q _ h => hFc q h) hFc (fun r_43 u t H1 locs ht hvm hw hB hz1 hk1 hS => ?_)
            obtain ⟨hP, hD, hK⟩ := z_after3 (wn := (zV305 m0_known cA_m0_known f_m0_known m0_people cA_m0_people f_m0_people m0_courts cA_m0_courts f_m0_courts m0_hours cA_m0_hours f_m0_hours m0 m0_width m0_many m0_cells m0_moved m0_tape m0_taped m0_at m0_token m0_place m0_value m0_word m0_bad m0_badPlace m0_fault m0_faultPlace m0_lines m0_hours m0_courts m0_in m0_gates m0_gate m0_people m0_at0 m0_stray m0_set m0_once m0_truth m0_known m0_isKept m0_strays m0_hostPerson m0_hostCourt m0_outside m0_inside m0_can m0_fewest m0_waysTo m0_then m0_two m0_nextTwo m0_three m0_nextThree m0_shut m0_worth m0_digit m0_codes m0_most m0_bestTry m0_dayCourt m0_dayHour m0_dayNo m0_x m0_in cA_m0_in f_m0_in m0_at0 cA_m0_at0 f_m0_at0 m0_stray cA_m0_stray f_m0_stray m0_set cA_m0_set f_m0_set)) hB ht hvm hP hD hK [7, 0, 1, 2, 3] [4, 5, 6, 8] rfl 9 rfl (by decide +kernel) rfl (by decide +kernel) hk1 hFc
            generalize H1 = H at hP hS ⊢
            have hK : va_K (dC, dI) vwCl [(cA_m0_hours, .int), (cA_m0_courts, .int), (cA_m0_in, .int), (cA_m0_people, .int), (cA_m0_at0, .int), (cA_m0_stray, .int), (cA_m0_set, .int), (cA_m0_known, .int)] s := hK
            have b_r_43 : 0 ≤ r_43.toInt ∧ r_43.toInt ≤ 1 := hw.1
            have sf_r_43 := hw.2
            have za_0 : Int32.toInt 0 = 0 := by decide
            replace hF := hF.trans (zL_eq sf_r_43)
            refine lv_iload hx hb dX10_hear_68 (lv_at hl 5 rfl) ?_
            have nb_p4 := zi_nb p4
            refine lv_icmp_ne (tgt := 77) hx hb dX10_hear_70 (by decide) (fun c_44 => ?_) (fun c_44 => ?_)
            · have ic_44 := zz_ne rfl rfl c_44
              replace hF := hF.trans (if_neg c_44)
              refine lv_iconst (v := 0) hx hb dX10_hear_77 (by decide) ?_
              refine lv_istore (lv' := [(6, .int 0), (5, .int 1), (0, .ref m0), (1, .int p1), (2, .int p2), (3, .int p3), (4, .int p4)]) hx hb dX10_hear_78 hl (by decide) rfl (fun ls hl => ?_)
              refine lv_iload hx hb dX10_hear_80 (lv_at hl 1 rfl) ?_
              refine lv_if_ne (tgt := 112) hx hb dX10_hear_82 (by decide) (fun _ => ?_) (fun q => absurd q (by decide))
              refine lv_iconst (v := 0) hx hb dX10_hear_112 (by decide) ?_
              refine lv_istore (lv' := [(7, .int 0), (6, .int 0), (5, .int 1), (0, .ref m0), (1, .int p1), (2, .int p2), (3, .int p3), (4, .int p4)]) hx hb dX10_hear_113 hl (by decide) rfl (fun ls hl => ?_)
              refine lv_iload hx hb dX10_hear_115 (lv_at hl 1 rfl) ?_
              refine lv_if_ne (tgt := 128) hx hb dX10_hear_117 (by decide) (fun q => absurd q (by decide)) (fun _ => ?_)
              refine lv_iload hx hb dX10_hear_120 (lv_at hl 0 rfl) ?_
              refine lv_if_ne (tgt := 128) hx hb dX10_hear_122 (by decide) (fun q => absurd q (by decide)) (fun _ => ?_)
              refine lv_bipush (v := (-5)) hx hb dX10_hear_125 (by decide) ?_
              have hF : RR = ((-5 : Int32), (0 : Int32), f_m0_known) := hF
              have zc : Int32.toInt (-5) = (-5) := by decide
              exact W.iret (v := (-5)) hx hb hr (fun t ht hW => by rw [← hQe]; exact ⟨⟨(-5), (), rfl, ⟨by decide, (by rw [← hRR, hF])⟩, ⟨(0), f_m0_known, b_f_m0_known, (by rw [← hRR, hF]), (by rw [← hRR, hF]), z_ret hP hK hD ht hW [4, 3, 2, 5, 1, 6, 7, 8, 0] [] rfl (by decide) rfl⟩⟩, hS.F ht⟩) hS.2.2 dX10_hear_127
            · have ic_44 := zz_nne rfl rfl c_44
              replace hF := hF.trans (if_pos c_44)
              refine lv_iconst (v := 1) hx hb dX10_hear_73 (by decide) ?_
              refine lv_goto (tgt := 78) hx hb dX10_hear_74 (by decide) ?_
              refine lv_istore (lv' := [(6, .int 1), (5, .int 1), (0, .ref m0), (1, .int p1), (2, .int p2), (3, .int p3), (4, .int p4)]) hx hb dX10_hear_78 hl (by decide) rfl (fun ls hl => ?_)
              refine lv_iload hx hb dX10_hear_80 (lv_at hl 1 rfl) ?_
              refine lv_if_ne (tgt := 112) hx hb dX10_hear_82 (by decide) (fun _ => ?_) (fun q => absurd q (by decide))
              refine lv_iconst (v := 0) hx hb dX10_hear_112 (by decide) ?_
              refine lv_istore (lv' := [(7, .int 0), (6, .int 1), (5, .int 1), (0, .ref m0), (1, .int p1), (2, .int p2), (3, .int p3), (4, .int p4)]) hx hb dX10_hear_113 hl (by decide) rfl (fun ls hl => ?_)
              refine lv_iload hx hb dX10_hear_115 (lv_at hl 1 rfl) ?_
              refine lv_if_ne (tgt := 128) hx hb dX10_hear_117 (by decide) (fun _ => ?_) (fun q => absurd q (by decide))
              refine lv_iload hx hb dX10_hear_128 (lv_at hl 2 rfl) ?_
              refine lv_if_eq (tgt := 135) hx hb dX10_hear_130 (by decide) (fun q => absurd q (by decide)) (fun _ => ?_)
              refine lv_iconst (v := 1) hx hb dX10_hear_133 (by decide) ?_
              have hF : RR = ((1 : Int32), (0 : Int32), f_m0_known) := hF
              have zc : Int32.toInt 1 = 1 := by decide
              exact W.iret (v := 1) hx hb hr (fun t ht hW => by rw [← hQe]; exact ⟨⟨1, (), rfl, ⟨by decide, (by rw [← hRR, hF])⟩, ⟨(0), f_m0_known, b_f_m0_known, (by rw [← hRR, hF]), (by rw [← hRR, hF]), z_ret hP hK hD ht hW [4, 3, 2, 5, 1, 6, 7, 8, 0] [] rfl (by decide) rfl⟩⟩, hS.F ht⟩) hS.2.2 dX10_hear_134
      · have ic_6 := zz_nne rfl (show Int32.toInt 0 = 0 from by decide) c_6
        replace hF := hF.trans (if_pos c_6)
        refine lv_bipush (v := (-2)) hx hb dX10_hear_29 (by decide) ?_
        have hF : RR = ((-2 : Int32), (0 : Int32), f_m0_known) := hF
        have zc : Int32.toInt (-2) = (-2) := by decide
        exact W.iret (v := (-2)) hx hb hr (fun t ht hW => by rw [← hQe]; exact ⟨⟨(-2), (), rfl, ⟨by decide, (by rw [← hRR, hF])⟩, ⟨(0), f_m0_known, b_f_m0_known, (by rw [← hRR, hF]), (by rw [← hRR, hF]), z_ret hP hK hD ht hW [7, 8, 6, 0, 5, 1, 2, 3, 4] [] rfl (by decide) rfl⟩⟩, hS.F ht⟩) hS.2.2 dX10_hear_31
