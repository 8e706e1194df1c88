set_option linter.all false
set_option maxHeartbeats 40000000 in
set_option maxRecDepth 100000 in
theorem kf_X10_personLine (l : Launch) (sa : Nat → Nat) (dC : Nat → ClassId) (dI : Nat → Nat → Nat) (m0 : Nat) (m0_thrown : Int32) (m0_width : Nat) (m0_many : Nat) (m0_cells : Nat) (m0_moved : Nat) (m0_tape : Nat) (m0_taped : Int32) (m0_at : Int32) (m0_token : Int32) (m0_place : Int32) (m0_value : Int32) (m0_word : Int64) (m0_bad : Int32) (m0_badPlace : Int32) (m0_fault : Int32) (m0_faultPlace : Int32) (m0_lines : Nat) (m0_hours : Nat) (m0_courts : Nat) (m0_in : Nat) (m0_gates : Nat) (m0_gate : Nat) (m0_people : Nat) (m0_at0 : Nat) (m0_stray : Nat) (m0_set : Nat) (m0_once : Nat) (m0_truth : Nat) (m0_known : Nat) (m0_isKept : Nat) (m0_strays : Int32) (m0_hostPerson : Int32) (m0_hostCourt : Int32) (m0_outside : Int32) (m0_inside : Nat) (m0_can : Nat) (m0_fewest : Nat) (m0_waysTo : Nat) (m0_then : Nat) (m0_two : Nat) (m0_nextTwo : Nat) (m0_three : Nat) (m0_nextThree : Nat) (m0_shut : Int32) (m0_worth : Nat) (m0_digit : Nat) (m0_codes : Int32) (m0_most : Int64) (m0_bestTry : Int32) (m0_dayCourt : Int32) (m0_dayHour : Int32) (m0_dayNo : Int32) (m0_x : Int64) (cA_m0_tape : ClassId) (f_m0_tape : Nat → Int32) (cA_m0_hours : ClassId) (f_m0_hours : Nat → Int32) (cA_m0_courts : ClassId) (f_m0_courts : Nat → Int32) (cA_m0_in : ClassId) (f_m0_in : Nat → Int32) (cA_m0_people : ClassId) (f_m0_people : Nat → Int32) (cA_m0_at0 : ClassId) (f_m0_at0 : Nat → Int32) (cA_m0_stray : ClassId) (f_m0_stray : Nat → Int32) (b_m0_taped : 0 ≤ m0_taped.toInt ∧ m0_taped.toInt ≤ 1600) (b_m0_at : 0 ≤ m0_at.toInt ∧ m0_at.toInt ≤ 1600) (b_m0_token : 0 ≤ m0_token.toInt ∧ m0_token.toInt ≤ 4) (b_m0_value : 0 ≤ m0_value.toInt ∧ m0_value.toInt ≤ 1000009) (b_m0_bad : 0 ≤ m0_bad.toInt ∧ m0_bad.toInt ≤ 3) (b_m0_strays : 0 ≤ m0_strays.toInt ∧ m0_strays.toInt ≤ 5) (b_m0_hostCourt : 0 ≤ m0_hostCourt.toInt ∧ m0_hostCourt.toInt ≤ 9) (b_m0_dayCourt : 0 ≤ m0_dayCourt.toInt ∧ m0_dayCourt.toInt ≤ 9) (b_m0_dayHour : 0 ≤ m0_dayHour.toInt ∧ m0_dayHour.toInt ≤ 48) (b_f_m0_hours : ∀ j : Nat, 0 ≤ (f_m0_hours j).toInt ∧ (f_m0_hours j).toInt ≤ 48) (b_f_m0_courts : ∀ j : Nat, 0 ≤ (f_m0_courts j).toInt ∧ (f_m0_courts j).toInt ≤ 10) (b_f_m0_in : ∀ j : Nat, ¬ j % 10 = 0 → (-1) ≤ (f_m0_in j).toInt ∧ (f_m0_in j).toInt < ((j % 10 : Nat) : Int)) (b_f_m0_people : ∀ j : Nat, 0 ≤ (f_m0_people j).toInt ∧ (f_m0_people j).toInt ≤ 10) (b_f_m0_at0 : ∀ j : Nat, 0 ≤ (f_m0_at0 j).toInt ∧ (f_m0_at0 j).toInt ≤ 9) (b_f_m0_stray : ∀ j : Nat, 0 ≤ (f_m0_stray j).toInt ∧ (f_m0_stray j).toInt ≤ 99 ∧ (j % 2 = 1 → (f_m0_stray j).toInt ≤ 9)) (hep_0 : m0_at.toInt ≤ m0_taped.toInt) (hep_1 : m0_bad.toInt = 0) (hep_2 : (f_m0_people (Int32.toNatClampNeg 4)).toInt ≤ 9) (hep_3 : ¬ m0_bad.toInt = 0 ∨ (zCt f_m0_stray 80 (f_m0_people (Int32.toNatClampNeg 4)).toInt = m0_strays.toInt ∧ m0_strays.toInt ≤ 4)) (hep_4 : zMd f_m0_in f_m0_courts f_m0_hours f_m0_people f_m0_stray) (sz : Nat) : Met l yX10_personLine (.code yX10_personLine cX10_personLine 6 none :: zT) ({ frames := 5, cells := 0, slots := 0, locals := 112 }) (va_Pc [.ref m0] (zB sa dC dI (zV280 m0 m0_thrown m0_width m0_many m0_cells m0_moved m0_tape m0_taped m0_at m0_token m0_place m0_value m0_word m0_bad m0_badPlace m0_fault m0_faultPlace m0_lines m0_hours m0_courts m0_in m0_gates m0_gate m0_people m0_at0 m0_stray m0_set m0_once m0_truth m0_known m0_isKept m0_strays m0_hostPerson m0_hostCourt m0_outside m0_inside m0_can m0_fewest m0_waysTo m0_then m0_two m0_nextTwo m0_three m0_nextThree m0_shut m0_worth m0_digit m0_codes m0_most m0_bestTry m0_dayCourt m0_dayHour m0_dayNo m0_x m0_tape cA_m0_tape f_m0_tape m0_hours cA_m0_hours f_m0_hours m0_courts cA_m0_courts f_m0_courts m0_in cA_m0_in f_m0_in m0_people cA_m0_people f_m0_people m0_at0 cA_m0_at0 f_m0_at0 m0_stray cA_m0_stray f_m0_stray) [(cA_m0_tape, .byte), (cA_m0_hours, .int), (cA_m0_courts, .int), (cA_m0_in, .int), (cA_m0_people, .int), (cA_m0_at0, .int), (cA_m0_stray, .int)] sz)) (va_Qv (fun _ : Unit => True) (fun _ t => ∃ (n_m0_7 : Int32) (n_m0_8 : Int32) (n_m0_9 : Int32) (n_m0_10 : Int32) (n_m0_11 : Int64) (n_m0_12 : Int32) (n_m0_13 : Int32) (n_m0_30 : Int32) (n_m0_people : Nat → Int32) (n_m0_at0 : Nat → Int32) (n_m0_stray : Nat → Int32), (0 ≤ n_m0_7.toInt ∧ n_m0_7.toInt ≤ 1600) ∧ (0 ≤ n_m0_8.toInt ∧ n_m0_8.toInt ≤ 4) ∧ (0 ≤ n_m0_10.toInt ∧ n_m0_10.toInt ≤ 1000009) ∧ (0 ≤ n_m0_12.toInt ∧ n_m0_12.toInt ≤ 3) ∧ (0 ≤ n_m0_30.toInt ∧ n_m0_30.toInt ≤ 5) ∧ (∀ j : Nat, 0 ≤ (n_m0_people j).toInt ∧ (n_m0_people j).toInt ≤ 10) ∧ (∀ j : Nat, 0 ≤ (n_m0_at0 j).toInt ∧ (n_m0_at0 j).toInt ≤ 9) ∧ (∀ j : Nat, 0 ≤ (n_m0_stray j).toInt ∧ (n_m0_stray j).toInt ≤ 99 ∧ (j % 2 = 1 → (n_m0_stray j).toInt ≤ 9)) ∧ (n_m0_7.toInt ≤ m0_taped.toInt) ∧ (zMs (n_m0_12.toInt) (n_m0_7.toInt) (n_m0_8.toInt) ≤ zMs (m0_bad.toInt) (m0_at.toInt) (m0_token.toInt)) ∧ (zMd f_m0_in f_m0_courts f_m0_hours n_m0_people n_m0_stray) ∧ (¬ n_m0_12.toInt = 0 ∨ (zCt n_m0_stray 80 (n_m0_people (Int32.toNatClampNeg 4)).toInt = n_m0_30.toInt ∧ n_m0_30.toInt ≤ 4)) ∧ (n_m0_7 = (F_X10_personLine m0_taped m0_at m0_token m0_place m0_value m0_word m0_bad m0_badPlace m0_strays f_m0_tape f_m0_hours f_m0_courts f_m0_people f_m0_at0 f_m0_stray).1) ∧ (n_m0_8 = (F_X10_personLine m0_taped m0_at m0_token m0_place m0_value m0_word m0_bad m0_badPlace m0_strays f_m0_tape f_m0_hours f_m0_courts f_m0_people f_m0_at0 f_m0_stray).2.1) ∧ (n_m0_9 = (F_X10_personLine m0_taped m0_at m0_token m0_place m0_value m0_word m0_bad m0_badPlace m0_strays f_m0_tape f_m0_hours f_m0_courts f_m0_people f_m0_at0 f_m0_stray).2.2.1) ∧ (n_m0_10 = (F_X10_personLine m0_taped m0_at m0_token m0_place m0_value m0_word m0_bad m0_badPlace m0_strays f_m0_tape f_m0_hours f_m0_courts f_m0_people f_m0_at0 f_m0_stray).2.2.2.1) ∧ (n_m0_11 = (F_X10_personLine m0_taped m0_at m0_token m0_place m0_value m0_word m0_bad m0_badPlace m0_strays f_m0_tape f_m0_hours f_m0_courts f_m0_people f_m0_at0 f_m0_stray).2.2.2.2.1) ∧ (n_m0_12 = (F_X10_personLine m0_taped m0_at m0_token m0_place m0_value m0_word m0_bad m0_badPlace m0_strays f_m0_tape f_m0_hours f_m0_courts f_m0_people f_m0_at0 f_m0_stray).2.2.2.2.2.1) ∧ (n_m0_13 = (F_X10_personLine m0_taped m0_at m0_token m0_place m0_value m0_word m0_bad m0_badPlace m0_strays f_m0_tape f_m0_hours f_m0_courts f_m0_people f_m0_at0 f_m0_stray).2.2.2.2.2.2.1) ∧ (n_m0_30 = (F_X10_personLine m0_taped m0_at m0_token m0_place m0_value m0_word m0_bad m0_badPlace m0_strays f_m0_tape f_m0_hours f_m0_courts f_m0_people f_m0_at0 f_m0_stray).2.2.2.2.2.2.2.1) ∧ (n_m0_people = (F_X10_personLine m0_taped m0_at m0_token m0_place m0_value m0_word m0_bad m0_badPlace m0_strays f_m0_tape f_m0_hours f_m0_courts f_m0_people f_m0_at0 f_m0_stray).2.2.2.2.2.2.2.2.1) ∧ (n_m0_at0 = (F_X10_personLine m0_taped m0_at m0_token m0_place m0_value m0_word m0_bad m0_badPlace m0_strays f_m0_tape f_m0_hours f_m0_courts f_m0_people f_m0_at0 f_m0_stray).2.2.2.2.2.2.2.2.2.1) ∧ (n_m0_stray = (F_X10_personLine m0_taped m0_at m0_token m0_place m0_value m0_word m0_bad m0_badPlace m0_strays f_m0_tape f_m0_hours f_m0_courts f_m0_people f_m0_at0 f_m0_stray).2.2.2.2.2.2.2.2.2.2) ∧ zW dC dI (zV280 m0 m0_thrown m0_width m0_many m0_cells m0_moved m0_tape m0_taped n_m0_7 n_m0_8 n_m0_9 n_m0_10 n_m0_11 n_m0_12 n_m0_13 m0_fault m0_faultPlace m0_lines m0_hours m0_courts m0_in m0_gates m0_gate m0_people m0_at0 m0_stray m0_set m0_once m0_truth m0_known m0_isKept n_m0_30 m0_hostPerson m0_hostCourt m0_outside m0_inside m0_can m0_fewest m0_waysTo m0_then m0_two m0_nextTwo m0_three m0_nextThree m0_shut m0_worth m0_digit m0_codes m0_most m0_bestTry m0_dayCourt m0_dayHour m0_dayNo m0_x m0_tape cA_m0_tape f_m0_tape m0_hours cA_m0_hours f_m0_hours m0_courts cA_m0_courts f_m0_courts m0_in cA_m0_in f_m0_in m0_people cA_m0_people n_m0_people m0_at0 cA_m0_at0 n_m0_at0 m0_stray cA_m0_stray n_m0_stray) [] (va_A (zV280 m0 m0_thrown m0_width m0_many m0_cells m0_moved m0_tape m0_taped m0_at m0_token m0_place m0_value m0_word m0_bad m0_badPlace m0_fault m0_faultPlace m0_lines m0_hours m0_courts m0_in m0_gates m0_gate m0_people m0_at0 m0_stray m0_set m0_once m0_truth m0_known m0_isKept m0_strays m0_hostPerson m0_hostCourt m0_outside m0_inside m0_can m0_fewest m0_waysTo m0_then m0_two m0_nextTwo m0_three m0_nextThree m0_shut m0_worth m0_digit m0_codes m0_most m0_bestTry m0_dayCourt m0_dayHour m0_dayNo m0_x m0_tape cA_m0_tape f_m0_tape m0_hours cA_m0_hours f_m0_hours m0_courts cA_m0_courts f_m0_courts m0_in cA_m0_in f_m0_in m0_people cA_m0_people f_m0_people m0_at0 cA_m0_at0 f_m0_at0 m0_stray cA_m0_stray f_m0_stray) sz) t) (va_A (zV280 m0 m0_thrown m0_width m0_many m0_cells m0_moved m0_tape m0_taped m0_at m0_token m0_place m0_value m0_word m0_bad m0_badPlace m0_fault m0_faultPlace m0_lines m0_hours m0_courts m0_in m0_gates m0_gate m0_people m0_at0 m0_stray m0_set m0_once m0_truth m0_known m0_isKept m0_strays m0_hostPerson m0_hostCourt m0_outside m0_inside m0_can m0_fewest m0_waysTo m0_then m0_two m0_nextTwo m0_three m0_nextThree m0_shut m0_worth m0_digit m0_codes m0_most m0_bestTry m0_dayCourt m0_dayHour m0_dayNo m0_x m0_tape cA_m0_tape f_m0_tape m0_hours cA_m0_hours f_m0_hours m0_courts cA_m0_courts f_m0_courts m0_in cA_m0_in f_m0_in m0_people cA_m0_people f_m0_people m0_at0 cA_m0_at0 f_m0_at0 m0_stray cA_m0_stray f_m0_stray) sz)) 0 0 (va_A (zV280 m0 m0_thrown m0_width m0_many m0_cells m0_moved m0_tape m0_taped m0_at m0_token m0_place m0_value m0_word m0_bad m0_badPlace m0_fault m0_faultPlace m0_lines m0_hours m0_courts m0_in m0_gates m0_gate m0_people m0_at0 m0_stray m0_set m0_once m0_truth m0_known m0_isKept m0_strays m0_hostPerson m0_hostCourt m0_outside m0_inside m0_can m0_fewest m0_waysTo m0_then m0_two m0_nextTwo m0_three m0_nextThree m0_shut m0_worth m0_digit m0_codes m0_most m0_bestTry m0_dayCourt m0_dayHour m0_dayNo m0_x m0_tape cA_m0_tape f_m0_tape m0_hours cA_m0_hours f_m0_hours m0_courts cA_m0_courts f_m0_courts m0_in cA_m0_in f_m0_in m0_people cA_m0_people f_m0_people m0_at0 cA_m0_at0 f_m0_at0 m0_stray cA_m0_stray f_m0_stray) sz) := by
  refine z_enter (by decide) (by exact (Nat.le_of_ble_eq_true rfl)) ?_
  intro p e s m args below meth c ls A R Qc hargs hsz hQe hAe hRe hx hb hml hr hts hown hlocks hin hl hP hK hD hN hXs hA hS
  rw [hAe] at hQe
  have hown : s.vm.findClass RX10 = some m.cls := hown
  have hl : lv_has ls 6 [(0, .ref m0)] := hl
  obtain ⟨RR, hRR⟩ : ∃ z : Int32 × Int32 × Int32 × Int32 × Int64 × Int32 × Int32 × Int32 × (Nat → Int32) × (Nat → Int32) × (Nat → Int32), z = (F_X10_personLine m0_taped m0_at m0_token m0_place m0_value m0_word m0_bad m0_badPlace m0_strays f_m0_tape f_m0_hours f_m0_courts f_m0_people f_m0_at0 f_m0_stray) := ⟨_, rfl⟩
  have hF : RR = (F_X10_personLine m0_taped m0_at m0_token m0_place m0_value m0_word m0_bad m0_badPlace m0_strays f_m0_tape f_m0_hours f_m0_courts f_m0_people f_m0_at0 f_m0_stray) := hRR
  refine lv_bipush (v := 40) hx hb dX10_personLine_0 (by decide) ?_
  refine lv_aload_n hx hb dX10_personLine_2 rfl (lv_at hl 0 rfl) ?_
  refine va_get (D := (dC, dI)) (ci := 10) (v := .ref m0_people) (C := RX10) (T := TX10) (N := 53) hx hb hts zl_X10 hown hK hP 0 rfl rfl 22 (by decide) (hts _ zw_t6_122) (fun _ h9 => h9) rfl dX10_personLine_3 ?_
  refine lv_iconst (v := 4) hx hb dX10_personLine_6 (by decide) ?_
  refine va_iald hx hb hK hP 5 4 rfl rfl (zi_in (show Int32.toInt 4 = 4 from by decide) (by decide)) dX10_personLine_7 ?_
  refine lv_topi (fun x_1 ex_1 => ?_)
  replace hF := hF.trans (zL_eq ex_1)
  have b_x_1 : 0 ≤ x_1.toInt ∧ x_1.toInt ≤ 10 := by rw [ex_1]; exact b_f_m0_people _
  have t_x_1 : x_1.toInt = (f_m0_people (Int32.toNatClampNeg 4)).toInt := by rw [ex_1]
  refine lv_iadd hx hb dX10_personLine_8 ?_
  refine lv_topi (fun x_2 ex_2 => ?_)
  replace hF := hF.trans (zL_eq ex_2)
  have b_x_2 : x_2.toInt = 40 + x_1.toInt := by rw [ex_2]; exact zi_add (show Int32.toInt 40 = 40 from by decide) rfl (by first | with_reducible assumption | omega)
  refine lv_istore_n (lv' := [(1, .int x_2), (0, .ref m0)]) hx hb dX10_personLine_9 rfl hl (by decide) rfl (fun ls hl => ?_)
  refine lv_aload_n hx hb dX10_personLine_10 rfl (lv_at hl 1 rfl) ?_
  refine lv_ldc2 (v := 47) hx hb hown (hts _ zw_t7_139) dX10_personLine_11 ?_
  refine lv_iconst (v := 0) hx hb dX10_personLine_14 (by decide) ?_
  refine lv_aload_n hx hb dX10_personLine_15 rfl (lv_at hl 1 rfl) ?_
  refine va_get (D := (dC, dI)) (ci := 10) (v := .ref m0_courts) (C := RX10) (T := TX10) (N := 53) hx hb hts zl_X10 hown hK hP 0 rfl rfl 18 (by decide) (hts _ zw_t6_118) (fun _ h9 => h9) rfl dX10_personLine_16 ?_
  refine lv_iconst (v := 4) hx hb dX10_personLine_19 (by decide) ?_
  refine va_iald hx hb hK hP 3 2 rfl rfl (zi_in (show Int32.toInt 4 = 4 from by decide) (by decide)) dX10_personLine_20 ?_
  refine lv_topi (fun x_3 ex_3 => ?_)
  replace hF := hF.trans (zL_eq ex_3)
  have b_x_3 : 0 ≤ x_3.toInt ∧ x_3.toInt ≤ 10 := by rw [ex_3]; exact b_f_m0_courts _
  have t_x_3 : x_3.toInt = (f_m0_courts (Int32.toNatClampNeg 4)).toInt := by rw [ex_3]
  refine lv_iconst (v := 1) hx hb dX10_personLine_21 (by decide) ?_
  refine lv_isub hx hb dX10_personLine_22 ?_
  refine lv_topi (fun x_4 ex_4 => ?_)
  replace hF := hF.trans (zL_eq ex_4)
  have b_x_4 : x_4.toInt = x_3.toInt - 1 := by rw [ex_4]; exact zi_sub rfl (show Int32.toInt 1 = 1 from by decide) (z_rsc b_x_3 (by decide))
  obtain ⟨hPc, hDc, hFc⟩ := z_cut (wc := (zV264 m0 m0_thrown m0_width m0_many m0_cells m0_moved m0_tape m0_taped m0_at m0_token m0_place m0_value m0_word m0_bad m0_badPlace m0_fault m0_faultPlace m0_lines m0_hours m0_courts m0_in m0_gates m0_gate m0_people m0_at0 m0_stray m0_set m0_once m0_truth m0_known m0_isKept m0_strays m0_hostPerson m0_hostCourt m0_outside m0_inside m0_can m0_fewest m0_waysTo m0_then m0_two m0_nextTwo m0_three m0_nextThree m0_shut m0_worth m0_digit m0_codes m0_most m0_bestTry m0_dayCourt m0_dayHour m0_dayNo m0_x m0_tape cA_m0_tape f_m0_tape)) hP hD hS hA [0, 1] rfl (by decide +kernel)
  have hKc := hK.sub (tys' := [(cA_m0_tape, .byte)]) [0] rfl
  refine va_calli (va_runV (As := [.long 47, .int 0, .int x_4]) (rest := []) ⟨hx, hb, hml, hown, hts⟩ (kf_X10_number_ l sa dC dI m0 (47) (0) x_4 m0_thrown m0_width m0_many m0_cells m0_moved m0_tape m0_taped m0_at m0_token m0_place m0_value m0_word m0_bad m0_badPlace m0_fault m0_faultPlace m0_lines m0_hours m0_courts m0_in m0_gates m0_gate m0_people m0_at0 m0_stray m0_set m0_once m0_truth m0_known m0_isKept m0_strays m0_hostPerson m0_hostCourt m0_outside m0_inside m0_can m0_fewest m0_waysTo m0_then m0_two m0_nextTwo m0_three m0_nextThree m0_shut m0_worth m0_digit m0_codes m0_most m0_bestTry m0_dayCourt m0_dayHour m0_dayNo m0_x cA_m0_tape f_m0_tape (by decide) (by first | with_reducible assumption | omega) b_m0_taped b_m0_at b_m0_token b_m0_value b_m0_bad b_m0_strays b_m0_hostCourt b_m0_dayCourt b_m0_dayHour (by first | assumption | omega) s.heap.size) (cwV 3 hts (z_gV zw_t7_106 zw_t7_108 zw_s5_0 zw_t1_11 zw_t7_109) rfl rfl rfl (by decide +kernel) (by rw [← hRe]; exact ⟨(Nat.le_of_ble_eq_true rfl), (Nat.le_of_ble_eq_true rfl)⟩)) (z_preV hPc hKc hDc hN hXs hS hFc (q := (RX10, TX10, 53)) (ci := 10) (q0 := 0) rfl rfl) rfl rfl hl.1 rfl (lv_room (Nat.le_of_ble_eq_true rfl)) dX10_personLine_23 (by rw [← hRe]; exact ⟨(Nat.le_of_ble_eq_true rfl), (Nat.le_of_ble_eq_true rfl)⟩)) hS (fun q _ h => hFc q h) hFc (fun r_5 u t H1 locs ht hvm hw hB hz1 hk1 hS => ?_)
  obtain ⟨hu, hw⟩ := hw
  rw [hu] at hB
  refine hB.elim fun n_m0_6 ze1 => ze1.elim fun n_m0_7 ze2 => ze2.elim fun n_m0_8 ze3 => ze3.elim fun n_m0_9 ze4 => ze4.elim fun n_m0_10 ze5 => ze5.elim fun n_m0_11 ze6 => ze6.elim fun n_m0_12 ze7 => ze7.elim fun b_n_m0_6 ze8 => ze8.elim fun b_n_m0_7 ze9 => ze9.elim fun b_n_m0_9 ze10 => ze10.elim fun b_n_m0_11 ze11 => ze11.elim fun hf_13 ze12 => ze12.elim fun hf_14 ze13 => ze13.elim fun hf_15 ze14 => ze14.elim fun hf_16 ze15 => ze15.elim fun hf_17 ze16 => ze16.elim fun hf_18 ze17 => ze17.elim fun hf_19 ze18 => ze18.elim fun hf_20 ze19 => ze19.elim fun hf_21 ze20 => ze20.elim fun hf_22 ze21 => ze21.elim fun hf_23 ze22 => ?_
  clear hB ze1 ze2 ze3 ze4 ze5 ze6 ze7 ze8 ze9 ze10 ze11 ze12 ze13 ze14 ze15 ze16 ze17 ze18 ze19 ze20 ze21
  have hB := ze22
  clear ze22
  obtain ⟨hP, hD, hK⟩ := z_after3 (wn := (zV281 m0_hours cA_m0_hours f_m0_hours m0_courts cA_m0_courts f_m0_courts m0_in cA_m0_in f_m0_in m0_people cA_m0_people f_m0_people m0_at0 cA_m0_at0 f_m0_at0 m0_stray cA_m0_stray f_m0_stray m0 m0_thrown m0_width m0_many m0_cells m0_moved m0_tape m0_taped n_m0_6 n_m0_7 n_m0_8 n_m0_9 n_m0_10 n_m0_11 n_m0_12 m0_fault m0_faultPlace m0_lines m0_hours m0_courts m0_in m0_gates m0_gate m0_people m0_at0 m0_stray m0_set m0_once m0_truth m0_known m0_isKept m0_strays m0_hostPerson m0_hostCourt m0_outside m0_inside m0_can m0_fewest m0_waysTo m0_then m0_two m0_nextTwo m0_three m0_nextThree m0_shut m0_worth m0_digit m0_codes m0_most m0_bestTry m0_dayCourt m0_dayHour m0_dayNo m0_x m0_tape cA_m0_tape f_m0_tape)) hB ht hvm hP hD hK [0, 1] [2, 3, 4, 5, 6, 7] rfl 8 rfl (by decide +kernel) rfl (by decide +kernel) hk1 hFc
  generalize H1 = H at hP hS ⊢
  have hK : va_K (dC, dI) vwCl [(cA_m0_tape, .byte), (cA_m0_hours, .int), (cA_m0_courts, .int), (cA_m0_in, .int), (cA_m0_people, .int), (cA_m0_at0, .int), (cA_m0_stray, .int)] s := hK
  have b_r_5 : 0 ≤ r_5.toInt ∧ r_5.toInt ≤ 99 := hw.1
  have s_r_5 := hw.2.1
  have sf_r_5 := hw.2.2
  have zal_47 : Int64.toInt 47 = 47 := by decide
  have za_0 : Int32.toInt 0 = 0 := by decide
  replace hF := hF.trans (zL_eq rfl)
  replace hF := hF.trans (zL_eq sf_r_5)
  replace hF := hF.trans (zL_eq hf_17)
  replace hF := hF.trans (zL_eq hf_18)
  replace hF := hF.trans (zL_eq hf_19)
  replace hF := hF.trans (zL_eq hf_20)
  replace hF := hF.trans (zL_eq hf_21)
  replace hF := hF.trans (zL_eq hf_22)
  replace hF := hF.trans (zL_eq hf_23)
  refine lv_istore_n (lv' := [(2, .int r_5), (1, .int x_2), (0, .ref m0)]) hx hb dX10_personLine_26 rfl hl (by decide) rfl (fun ls hl => ?_)
  refine lv_iconst (v := 0) hx hb dX10_personLine_27 (by decide) ?_
  refine lv_istore_n (lv' := [(3, .int 0), (2, .int r_5), (1, .int x_2), (0, .ref m0)]) hx hb dX10_personLine_28 rfl hl (by decide) rfl (fun ls hl => ?_)
  refine lv_iconst (v := 0) hx hb dX10_personLine_29 (by decide) ?_
  refine lv_istore (lv' := [(4, .int 0), (3, .int 0), (2, .int r_5), (1, .int x_2), (0, .ref m0)]) hx hb dX10_personLine_30 hl (by decide) rfl (fun ls hl => ?_)
  have loop_1 : ∀ (t_1 : Nat) (v4_25 : Int32) (g_m0_at0_26 : Nat → Int32) (b_v4_25 : 0 ≤ v4_25.toInt ∧ v4_25.toInt ≤ 48) (b_g_m0_at0_26 : ∀ j : Nat, 0 ≤ (g_m0_at0_26 j).toInt ∧ (g_m0_at0_26 j).toInt ≤ 9) (H : Heap) (locs : List Loc) (ls : Array Slot), 48 - v4_25.toInt < (t_1 : Int) → RR = L_X10_personLine_1 x_2 r_5 (K_X10_personLine_1_0 m0_taped f_m0_tape f_m0_hours f_m0_courts x_3 x_2 f_m0_stray f_m0_people x_1 m0_strays r_5 n_m0_6 n_m0_7 n_m0_8 n_m0_9 n_m0_10 n_m0_11 n_m0_12) t_1 v4_25 g_m0_at0_26 → va_P (dC, dI) vwCl (zV281 m0_hours cA_m0_hours f_m0_hours m0_courts cA_m0_courts f_m0_courts m0_in cA_m0_in f_m0_in m0_people cA_m0_people f_m0_people m0_at0 cA_m0_at0 g_m0_at0_26 m0_stray cA_m0_stray f_m0_stray m0 m0_thrown m0_width m0_many m0_cells m0_moved m0_tape m0_taped n_m0_6 n_m0_7 n_m0_8 n_m0_9 n_m0_10 n_m0_11 n_m0_12 m0_fault m0_faultPlace m0_lines m0_hours m0_courts m0_in m0_gates m0_gate m0_people m0_at0 m0_stray m0_set m0_once m0_truth m0_known m0_isKept m0_strays m0_hostPerson m0_hostCourt m0_outside m0_inside m0_can m0_fewest m0_waysTo m0_then m0_two m0_nextTwo m0_three m0_nextThree m0_shut m0_worth m0_digit m0_codes m0_most m0_bestTry m0_dayCourt m0_dayHour m0_dayNo m0_x m0_tape cA_m0_tape f_m0_tape) H → va_D A (zV281 m0_hours cA_m0_hours f_m0_hours m0_courts cA_m0_courts f_m0_courts m0_in cA_m0_in f_m0_in m0_people cA_m0_people f_m0_people m0_at0 cA_m0_at0 g_m0_at0_26 m0_stray cA_m0_stray f_m0_stray m0 m0_thrown m0_width m0_many m0_cells m0_moved m0_tape m0_taped n_m0_6 n_m0_7 n_m0_8 n_m0_9 n_m0_10 n_m0_11 n_m0_12 m0_fault m0_faultPlace m0_lines m0_hours m0_courts m0_in m0_gates m0_gate m0_people m0_at0 m0_stray m0_set m0_once m0_truth m0_known m0_isKept m0_strays m0_hostPerson m0_hostCourt m0_outside m0_inside m0_can m0_fewest m0_waysTo m0_then m0_two m0_nextTwo m0_three m0_nextThree m0_shut m0_worth m0_digit m0_codes m0_most m0_bestTry m0_dayCourt m0_dayHour m0_dayNo m0_x m0_tape cA_m0_tape f_m0_tape) → va_S A s.heap H locs → lv_has ls 6 [(0, .ref m0), (1, .int x_2), (2, .int r_5), (3, .int 0), (4, .int v4_25)] → W p l e R s m args below meth c H locs 0 0 (MQ below Qc args s 0 0 A) (F0 m 32 ls []) := by
    intro t_1
    induction t_1 with
    | zero => intro v4_25 g_m0_at0_26 b_v4_25 b_g_m0_at0_26 H locs ls hmu _ _ _ _ _; exact absurd hmu (by first | with_reducible assumption | omega)
    | succ t_1 ih_1 =>
      intro v4_25 g_m0_at0_26 b_v4_25 b_g_m0_at0_26 H locs ls hmu hF hP hD hS hl
      replace hF := hF.trans L_X10_personLine_1_s
      refine lv_iload hx hb dX10_personLine_32 (lv_at hl 4 rfl) ?_
      refine lv_bipush (v := 48) hx hb dX10_personLine_34 (by decide) ?_
      refine lv_icmp_ge (tgt := 58) hx hb dX10_personLine_36 (by decide) (fun c_27 => ?_) (fun c_27 => ?_)
      · have ic_27 := zz_ge rfl (show Int32.toInt 48 = 48 from by decide) c_27
        replace hF := hF.trans (if_pos c_27)
        have hnn_q_28 := zMs_nn (b := n_m0_11.toInt) (a := n_m0_6.toInt) (t := n_m0_7.toInt) (by first | with_reducible assumption | omega) (by first | with_reducible assumption | omega) (by first | with_reducible assumption | omega)
        have loop_2 : ∀ (t_2 : Nat) (v2_29 : Int32) (v3_30 : Int32) (v4_31 : Int32) (g_m0_at0_39 : Nat → Int32) (w_m0_7_32 : Int32) (w_m0_8_33 : Int32) (w_m0_9_34 : Int32) (w_m0_10_35 : Int32) (w_m0_11_36 : Int64) (w_m0_12_37 : Int32) (w_m0_13_38 : Int32) (b_v2_29 : 0 ≤ v2_29.toInt ∧ v2_29.toInt ≤ 9) (b_v3_30 : 0 ≤ v3_30.toInt ∧ v3_30.toInt ≤ 48) (b_v4_31 : 1 ≤ v4_31.toInt ∧ v4_31.toInt ≤ 48) (b_g_m0_at0_39 : ∀ j : Nat, 0 ≤ (g_m0_at0_39 j).toInt ∧ (g_m0_at0_39 j).toInt ≤ 9) (b_w_m0_7_32 : 0 ≤ w_m0_7_32.toInt ∧ w_m0_7_32.toInt ≤ 1600) (b_w_m0_8_33 : 0 ≤ w_m0_8_33.toInt ∧ w_m0_8_33.toInt ≤ 4) (b_w_m0_10_35 : 0 ≤ w_m0_10_35.toInt ∧ w_m0_10_35.toInt ≤ 1000009) (b_w_m0_12_37 : 0 ≤ w_m0_12_37.toInt ∧ w_m0_12_37.toInt ≤ 3) (ex_2 : ¬ w_m0_12_37.toInt = 0 ∨ v3_30.toInt ≤ 47) (ex_2_1 : w_m0_7_32.toInt ≤ m0_taped.toInt) (ex_2_2 : zMs (w_m0_12_37.toInt) (w_m0_7_32.toInt) (w_m0_8_33.toInt) ≤ zMs (m0_bad.toInt) (m0_at.toInt) (m0_token.toInt)) (ex_2_3 : 0 ≤ zMs (w_m0_12_37.toInt) (w_m0_7_32.toInt) (w_m0_8_33.toInt)) (H : Heap) (locs : List Loc) (ls : Array Slot), zMs (w_m0_12_37.toInt) (w_m0_7_32.toInt) (w_m0_8_33.toInt) < (t_2 : Int) → RR = L_X10_personLine_2 m0_taped f_m0_tape f_m0_hours f_m0_courts x_3 x_2 (K_X10_personLine_2_0 x_2 f_m0_stray f_m0_people x_1 m0_strays m0_taped f_m0_tape f_m0_courts x_3) t_2 v2_29 v3_30 v4_31 g_m0_at0_39 w_m0_7_32 w_m0_8_33 w_m0_9_34 w_m0_10_35 w_m0_11_36 w_m0_12_37 w_m0_13_38 → va_P (dC, dI) vwCl (zV281 m0_hours cA_m0_hours f_m0_hours m0_courts cA_m0_courts f_m0_courts m0_in cA_m0_in f_m0_in m0_people cA_m0_people f_m0_people m0_at0 cA_m0_at0 g_m0_at0_39 m0_stray cA_m0_stray f_m0_stray m0 m0_thrown m0_width m0_many m0_cells m0_moved m0_tape m0_taped w_m0_7_32 w_m0_8_33 w_m0_9_34 w_m0_10_35 w_m0_11_36 w_m0_12_37 w_m0_13_38 m0_fault m0_faultPlace m0_lines m0_hours m0_courts m0_in m0_gates m0_gate m0_people m0_at0 m0_stray m0_set m0_once m0_truth m0_known m0_isKept m0_strays m0_hostPerson m0_hostCourt m0_outside m0_inside m0_can m0_fewest m0_waysTo m0_then m0_two m0_nextTwo m0_three m0_nextThree m0_shut m0_worth m0_digit m0_codes m0_most m0_bestTry m0_dayCourt m0_dayHour m0_dayNo m0_x m0_tape cA_m0_tape f_m0_tape) H → va_D A (zV281 m0_hours cA_m0_hours f_m0_hours m0_courts cA_m0_courts f_m0_courts m0_in cA_m0_in f_m0_in m0_people cA_m0_people f_m0_people m0_at0 cA_m0_at0 g_m0_at0_39 m0_stray cA_m0_stray f_m0_stray m0 m0_thrown m0_width m0_many m0_cells m0_moved m0_tape m0_taped w_m0_7_32 w_m0_8_33 w_m0_9_34 w_m0_10_35 w_m0_11_36 w_m0_12_37 w_m0_13_38 m0_fault m0_faultPlace m0_lines m0_hours m0_courts m0_in m0_gates m0_gate m0_people m0_at0 m0_stray m0_set m0_once m0_truth m0_known m0_isKept m0_strays m0_hostPerson m0_hostCourt m0_outside m0_inside m0_can m0_fewest m0_waysTo m0_then m0_two m0_nextTwo m0_three m0_nextThree m0_shut m0_worth m0_digit m0_codes m0_most m0_bestTry m0_dayCourt m0_dayHour m0_dayNo m0_x m0_tape cA_m0_tape f_m0_tape) → va_S A s.heap H locs → lv_has ls 6 [(0, .ref m0), (1, .int x_2), (2, .int v2_29), (3, .int v3_30), (4, .int v4_31)] → W p l e R s m args below meth c H locs 0 0 (MQ below Qc args s 0 0 A) (F0 m 58 ls []) := by
          intro t_2
          induction t_2 with
          | zero => intro v2_29 v3_30 v4_31 g_m0_at0_39 w_m0_7_32 w_m0_8_33 w_m0_9_34 w_m0_10_35 w_m0_11_36 w_m0_12_37 w_m0_13_38 b_v2_29 b_v3_30 b_v4_31 b_g_m0_at0_39 b_w_m0_7_32 b_w_m0_8_33 b_w_m0_10_35 b_w_m0_12_37 ex_2 ex_2_1 ex_2_2 ex_2_3 H locs ls hmu _ _ _ _ _; exact absurd hmu (by first | with_reducible assumption | omega)
          | succ t_2 ih_2 =>
            intro v2_29 v3_30 v4_31 g_m0_at0_39 w_m0_7_32 w_m0_8_33 w_m0_9_34 w_m0_10_35 w_m0_11_36 w_m0_12_37 w_m0_13_38 b_v2_29 b_v3_30 b_v4_31 b_g_m0_at0_39 b_w_m0_7_32 b_w_m0_8_33 b_w_m0_10_35 b_w_m0_12_37 ex_2 ex_2_1 ex_2_2 ex_2_3 H locs ls hmu hF hP hD hS hl
            replace hF := hF.trans L_X10_personLine_2_s
            refine lv_aload_n hx hb dX10_personLine_58 rfl (lv_at hl 0 rfl) ?_
            refine lv_ldc2 (v := 131638) hx hb hown (hts _ zw_t7_140) dX10_personLine_59 ?_
            obtain ⟨hPc, hDc, hFc⟩ := z_cut (wc := (zV264 m0 m0_thrown m0_width m0_many m0_cells m0_moved m0_tape m0_taped w_m0_7_32 w_m0_8_33 w_m0_9_34 w_m0_10_35 w_m0_11_36 w_m0_12_37 w_m0_13_38 m0_fault m0_faultPlace m0_lines m0_hours m0_courts m0_in m0_gates m0_gate m0_people m0_at0 m0_stray m0_set m0_once m0_truth m0_known m0_isKept m0_strays m0_hostPerson m0_hostCourt m0_outside m0_inside m0_can m0_fewest m0_waysTo m0_then m0_two m0_nextTwo m0_three m0_nextThree m0_shut m0_worth m0_digit m0_codes m0_most m0_bestTry m0_dayCourt m0_dayHour m0_dayNo m0_x m0_tape cA_m0_tape f_m0_tape)) hP hD hS hA [6, 7] rfl (by decide +kernel)
            have hKc := hK.sub (tys' := [(cA_m0_tape, .byte)]) [0] rfl
            refine va_calli (va_runV (As := [.long 131638]) (rest := []) ⟨hx, hb, hml, hown, hts⟩ (kf_X10_takes l sa dC dI m0 (131638) m0_thrown m0_width m0_many m0_cells m0_moved m0_tape m0_taped w_m0_7_32 w_m0_8_33 w_m0_9_34 w_m0_10_35 w_m0_11_36 w_m0_12_37 w_m0_13_38 m0_fault m0_faultPlace m0_lines m0_hours m0_courts m0_in m0_gates m0_gate m0_people m0_at0 m0_stray m0_set m0_once m0_truth m0_known m0_isKept m0_strays m0_hostPerson m0_hostCourt m0_outside m0_inside m0_can m0_fewest m0_waysTo m0_then m0_two m0_nextTwo m0_three m0_nextThree m0_shut m0_worth m0_digit m0_codes m0_most m0_bestTry m0_dayCourt m0_dayHour m0_dayNo m0_x cA_m0_tape f_m0_tape b_m0_taped b_w_m0_7_32 b_w_m0_8_33 b_w_m0_10_35 b_w_m0_12_37 b_m0_strays b_m0_hostCourt b_m0_dayCourt b_m0_dayHour (by first | assumption | omega) H.size) (cwV 1 hts (z_gV zw_t7_93 zw_t7_95 zw_s4_13 zw_t1_11 zw_t7_96) rfl rfl rfl (by decide +kernel) (by rw [← hRe]; exact ⟨(Nat.le_of_ble_eq_true rfl), (Nat.le_of_ble_eq_true rfl)⟩)) (z_preV hPc hKc hDc hN hXs hS hFc (q := (RX10, TX10, 53)) (ci := 10) (q0 := 0) rfl rfl) rfl rfl hl.1 rfl (lv_room (Nat.le_of_ble_eq_true rfl)) dX10_personLine_62 (by rw [← hRe]; exact ⟨(Nat.le_of_ble_eq_true rfl), (Nat.le_of_ble_eq_true rfl)⟩)) hS (fun q _ h => hFc q h) hFc (fun r_40 u t H1 locs ht hvm hw hB hz1 hk1 hS => ?_)
            obtain ⟨hu, hw⟩ := hw
            rw [hu] at hB
            refine hB.elim fun n_m0_41 ze1 => ze1.elim fun n_m0_42 ze2 => ze2.elim fun n_m0_43 ze3 => ze3.elim fun n_m0_44 ze4 => ze4.elim fun n_m0_45 ze5 => ze5.elim fun b_n_m0_41 ze6 => ze6.elim fun b_n_m0_42 ze7 => ze7.elim fun b_n_m0_44 ze8 => ze8.elim fun hf_46 ze9 => ze9.elim fun hf_47 ze10 => ze10.elim fun hf_48 ze11 => ze11.elim fun hf_49 ze12 => ze12.elim fun hf_50 ze13 => ze13.elim fun hf_51 ze14 => ze14.elim fun hf_52 ze15 => ze15.elim fun hf_53 ze16 => ?_
            clear hB ze1 ze2 ze3 ze4 ze5 ze6 ze7 ze8 ze9 ze10 ze11 ze12 ze13 ze14 ze15
            have hB := ze16
            clear ze16
            obtain ⟨hP, hD, hK⟩ := z_after3 (wn := (zV281 m0_hours cA_m0_hours f_m0_hours m0_courts cA_m0_courts f_m0_courts m0_in cA_m0_in f_m0_in m0_people cA_m0_people f_m0_people m0_at0 cA_m0_at0 g_m0_at0_39 m0_stray cA_m0_stray f_m0_stray m0 m0_thrown m0_width m0_many m0_cells m0_moved m0_tape m0_taped n_m0_41 n_m0_42 n_m0_43 n_m0_44 n_m0_45 w_m0_12_37 w_m0_13_38 m0_fault m0_faultPlace m0_lines m0_hours m0_courts m0_in m0_gates m0_gate m0_people m0_at0 m0_stray m0_set m0_once m0_truth m0_known m0_isKept m0_strays m0_hostPerson m0_hostCourt m0_outside m0_inside m0_can m0_fewest m0_waysTo m0_then m0_two m0_nextTwo m0_three m0_nextThree m0_shut m0_worth m0_digit m0_codes m0_most m0_bestTry m0_dayCourt m0_dayHour m0_dayNo m0_x m0_tape cA_m0_tape f_m0_tape)) hB ht hvm hP hD hK [6, 7] [0, 1, 2, 3, 4, 5] rfl 8 rfl (by decide +kernel) rfl (by decide +kernel) hk1 hFc
            generalize H1 = H at hP hS ⊢
            have hK : va_K (dC, dI) vwCl [(cA_m0_tape, .byte), (cA_m0_hours, .int), (cA_m0_courts, .int), (cA_m0_in, .int), (cA_m0_people, .int), (cA_m0_at0, .int), (cA_m0_stray, .int)] s := hK
            have b_r_40 : 0 ≤ r_40.toInt ∧ r_40.toInt ≤ 1 := hw.1
            have sf_r_40 := hw.2
            have zal_131638 : Int64.toInt 131638 = 131638 := by decide
            replace hF := hF.trans (zL_eq rfl)
            replace hF := hF.trans (zL_eq sf_r_40)
            replace hF := hF.trans (zL_eq hf_49)
            replace hF := hF.trans (zL_eq hf_50)
            replace hF := hF.trans (zL_eq hf_51)
            replace hF := hF.trans (zL_eq hf_52)
            replace hF := hF.trans (zL_eq hf_53)
            refine lv_if_eq (tgt := 145) hx hb dX10_personLine_65 (by decide) (fun c_55 => ?_) (fun c_55 => ?_)
            · have ic_55 := zz_eq rfl (show Int32.toInt 0 = 0 from by decide) c_55
              replace hF := hF.trans (if_pos c_55)
              refine lv_aload_n hx hb dX10_personLine_145 rfl (lv_at hl 0 rfl) ?_
              refine va_get (D := (dC, dI)) (ci := 10) (v := .ref m0_stray) (C := RX10) (T := TX10) (N := 53) hx hb hts zl_X10 hown hK hP 6 rfl rfl 24 (by decide) (hts _ zw_t6_124) (fun _ h9 => h9) rfl dX10_personLine_146 ?_
              refine lv_iconst (v := 2) hx hb dX10_personLine_149 (by decide) ?_
              refine lv_iload_n hx hb dX10_personLine_150 rfl (lv_at hl 1 rfl) ?_
              refine lv_imul hx hb dX10_personLine_151 ?_
              refine lv_topi (fun x_56 ex_56 => ?_)
              replace hF := hF.trans (zL_eq ex_56)
              have b_x_56 : x_56.toInt = 2 * x_2.toInt := by rw [ex_56]; exact zi_mul (show Int32.toInt 2 = 2 from by decide) rfl (z_rmc (z_eca b_x_2 b_x_1) (by decide))
              refine lv_iconst (v := 0) hx hb dX10_personLine_152 (by decide) ?_
              refine va_iast hx hb hK hP hD hS 5 6 rfl rfl (zi_in rfl (by first | exact z_rin (z_emc (c := 2) b_x_56 (z_eca b_x_2 b_x_1)) (by decide) | omega)) dX10_personLine_153 (fun H locs hP hD hS => ?_)
              obtain ⟨f_57, ef_57⟩ : ∃ g : Nat → Int32, g = upd f_m0_stray (Int32.toNatClampNeg x_56) 0 := ⟨_, rfl⟩
              replace hF := hF.trans (zL_eq ef_57)
              have kx_f_57 := zi_clamp (x := x_56) rfl (z_r0 (z_emc (c := 2) b_x_56 (z_eca b_x_2 b_x_1)) (by decide))
              have b_f_57 : ∀ j : Nat, 0 ≤ (f_57 j).toInt ∧ (f_57 j).toInt ≤ 99 ∧ (j % 2 = 1 → (f_57 j).toInt ≤ 9) := by rw [ef_57]; exact zi_updP b_f_m0_stray (show Int32.toInt 0 = 0 from by decide) (by first | with_reducible assumption | omega)
              have hP : va_P (dC, dI) vwCl (zV281 m0_hours cA_m0_hours f_m0_hours m0_courts cA_m0_courts f_m0_courts m0_in cA_m0_in f_m0_in m0_people cA_m0_people f_m0_people m0_at0 cA_m0_at0 g_m0_at0_39 m0_stray cA_m0_stray (upd f_m0_stray (Int32.toNatClampNeg x_56) 0) m0 m0_thrown m0_width m0_many m0_cells m0_moved m0_tape m0_taped n_m0_41 n_m0_42 n_m0_43 n_m0_44 n_m0_45 w_m0_12_37 w_m0_13_38 m0_fault m0_faultPlace m0_lines m0_hours m0_courts m0_in m0_gates m0_gate m0_people m0_at0 m0_stray m0_set m0_once m0_truth m0_known m0_isKept m0_strays m0_hostPerson m0_hostCourt m0_outside m0_inside m0_can m0_fewest m0_waysTo m0_then m0_two m0_nextTwo m0_three m0_nextThree m0_shut m0_worth m0_digit m0_codes m0_most m0_bestTry m0_dayCourt m0_dayHour m0_dayNo m0_x m0_tape cA_m0_tape f_m0_tape) H := hP
              have hD : va_D A (zV281 m0_hours cA_m0_hours f_m0_hours m0_courts cA_m0_courts f_m0_courts m0_in cA_m0_in f_m0_in m0_people cA_m0_people f_m0_people m0_at0 cA_m0_at0 g_m0_at0_39 m0_stray cA_m0_stray (upd f_m0_stray (Int32.toNatClampNeg x_56) 0) m0 m0_thrown m0_width m0_many m0_cells m0_moved m0_tape m0_taped n_m0_41 n_m0_42 n_m0_43 n_m0_44 n_m0_45 w_m0_12_37 w_m0_13_38 m0_fault m0_faultPlace m0_lines m0_hours m0_courts m0_in m0_gates m0_gate m0_people m0_at0 m0_stray m0_set m0_once m0_truth m0_known m0_isKept m0_strays m0_hostPerson m0_hostCourt m0_outside m0_inside m0_can m0_fewest m0_waysTo m0_then m0_two m0_nextTwo m0_three m0_nextThree m0_shut m0_worth m0_digit m0_codes m0_most m0_bestTry m0_dayCourt m0_dayHour m0_dayNo m0_x m0_tape cA_m0_tape f_m0_tape) := hD
              rw [← ef_57] at hP hD
              refine lv_aload_n hx hb dX10_personLine_154 rfl (lv_at hl 0 rfl) ?_
              refine va_get (D := (dC, dI)) (ci := 10) (v := .ref m0_stray) (C := RX10) (T := TX10) (N := 53) hx hb hts zl_X10 hown hK hP 6 rfl rfl 24 (by decide) (hts _ zw_t6_124) (fun _ h9 => h9) rfl dX10_personLine_155 ?_
              refine lv_iconst (v := 2) hx hb dX10_personLine_158 (by decide) ?_
              refine lv_iload_n hx hb dX10_personLine_159 rfl (lv_at hl 1 rfl) ?_
              refine lv_imul hx hb dX10_personLine_160 ?_
              refine lv_topi (fun x_58 ex_58 => ?_)
              replace hF := hF.trans (zL_eq ex_58)
              have b_x_58 : x_58.toInt = 2 * x_2.toInt := by rw [ex_58]; exact zi_mul (show Int32.toInt 2 = 2 from by decide) rfl (z_rmc (z_eca b_x_2 b_x_1) (by decide))
              refine lv_iconst (v := 1) hx hb dX10_personLine_161 (by decide) ?_
              refine lv_iadd hx hb dX10_personLine_162 ?_
              refine lv_topi (fun x_59 ex_59 => ?_)
              replace hF := hF.trans (zL_eq ex_59)
              have b_x_59 : x_59.toInt = x_58.toInt + 1 := by rw [ex_59]; exact zi_add rfl (show Int32.toInt 1 = 1 from by decide) (z_rac (z_emc (c := 2) b_x_58 (z_eca b_x_2 b_x_1)) (by decide))
              refine lv_iconst (v := 0) hx hb dX10_personLine_163 (by decide) ?_
              refine va_iast hx hb hK hP hD hS 5 6 rfl rfl (zi_in rfl (by first | exact z_rin (z_eac b_x_59 (z_emc (c := 2) b_x_58 (z_eca b_x_2 b_x_1))) (by decide) | omega)) dX10_personLine_164 (fun H locs hP hD hS => ?_)
              obtain ⟨f_60, ef_60⟩ : ∃ g : Nat → Int32, g = upd f_57 (Int32.toNatClampNeg x_59) 0 := ⟨_, rfl⟩
              replace hF := hF.trans (zL_eq ef_60)
              have kx_f_60 := zi_clamp (x := x_59) rfl (z_r0 (z_eac b_x_59 (z_emc (c := 2) b_x_58 (z_eca b_x_2 b_x_1))) (by decide))
              have b_f_60 : ∀ j : Nat, 0 ≤ (f_60 j).toInt ∧ (f_60 j).toInt ≤ 99 ∧ (j % 2 = 1 → (f_60 j).toInt ≤ 9) := by rw [ef_60]; exact zi_updP b_f_57 (show Int32.toInt 0 = 0 from by decide) (by first | with_reducible assumption | omega)
              have hP : va_P (dC, dI) vwCl (zV281 m0_hours cA_m0_hours f_m0_hours m0_courts cA_m0_courts f_m0_courts m0_in cA_m0_in f_m0_in m0_people cA_m0_people f_m0_people m0_at0 cA_m0_at0 g_m0_at0_39 m0_stray cA_m0_stray (upd f_57 (Int32.toNatClampNeg x_59) 0) m0 m0_thrown m0_width m0_many m0_cells m0_moved m0_tape m0_taped n_m0_41 n_m0_42 n_m0_43 n_m0_44 n_m0_45 w_m0_12_37 w_m0_13_38 m0_fault m0_faultPlace m0_lines m0_hours m0_courts m0_in m0_gates m0_gate m0_people m0_at0 m0_stray m0_set m0_once m0_truth m0_known m0_isKept m0_strays m0_hostPerson m0_hostCourt m0_outside m0_inside m0_can m0_fewest m0_waysTo m0_then m0_two m0_nextTwo m0_three m0_nextThree m0_shut m0_worth m0_digit m0_codes m0_most m0_bestTry m0_dayCourt m0_dayHour m0_dayNo m0_x m0_tape cA_m0_tape f_m0_tape) H := hP
              have hD : va_D A (zV281 m0_hours cA_m0_hours f_m0_hours m0_courts cA_m0_courts f_m0_courts m0_in cA_m0_in f_m0_in m0_people cA_m0_people f_m0_people m0_at0 cA_m0_at0 g_m0_at0_39 m0_stray cA_m0_stray (upd f_57 (Int32.toNatClampNeg x_59) 0) m0 m0_thrown m0_width m0_many m0_cells m0_moved m0_tape m0_taped n_m0_41 n_m0_42 n_m0_43 n_m0_44 n_m0_45 w_m0_12_37 w_m0_13_38 m0_fault m0_faultPlace m0_lines m0_hours m0_courts m0_in m0_gates m0_gate m0_people m0_at0 m0_stray m0_set m0_once m0_truth m0_known m0_isKept m0_strays m0_hostPerson m0_hostCourt m0_outside m0_inside m0_can m0_fewest m0_waysTo m0_then m0_two m0_nextTwo m0_three m0_nextThree m0_shut m0_worth m0_digit m0_codes m0_most m0_bestTry m0_dayCourt m0_dayHour m0_dayNo m0_x m0_tape cA_m0_tape f_m0_tape) := hD
              rw [← ef_60] at hP hD
              refine lv_aload_n hx hb dX10_personLine_165 rfl (lv_at hl 0 rfl) ?_
              refine lv_ldc2 (v := 283613770) hx hb hown (hts _ zw_t7_141) dX10_personLine_166 ?_
              obtain ⟨hPc, hDc, hFc⟩ := z_cut (wc := (zV84 m0 m0_thrown m0_width m0_many m0_cells m0_moved m0_tape m0_taped n_m0_41 n_m0_42 n_m0_43 n_m0_44 n_m0_45 w_m0_12_37 w_m0_13_38 m0_fault m0_faultPlace m0_lines m0_hours m0_courts m0_in m0_gates m0_gate m0_people m0_at0 m0_stray m0_set m0_once m0_truth m0_known m0_isKept m0_strays m0_hostPerson m0_hostCourt m0_outside m0_inside m0_can m0_fewest m0_waysTo m0_then m0_two m0_nextTwo m0_three m0_nextThree m0_shut m0_worth m0_digit m0_codes m0_most m0_bestTry m0_dayCourt m0_dayHour m0_dayNo m0_x)) hP hD hS hA [6] rfl (by decide +kernel)
              have hKc := hK.sub (tys' := []) [] rfl
              refine va_calli (va_runV (As := [.long 283613770]) (rest := []) ⟨hx, hb, hml, hown, hts⟩ (kf_X10_is_v1 l sa dC dI m0 (283613770) m0_thrown m0_width m0_many m0_cells m0_moved m0_tape m0_taped n_m0_41 n_m0_42 n_m0_43 n_m0_44 n_m0_45 w_m0_12_37 w_m0_13_38 m0_fault m0_faultPlace m0_lines m0_hours m0_courts m0_in m0_gates m0_gate m0_people m0_at0 m0_stray m0_set m0_once m0_truth m0_known m0_isKept m0_strays m0_hostPerson m0_hostCourt m0_outside m0_inside m0_can m0_fewest m0_waysTo m0_then m0_two m0_nextTwo m0_three m0_nextThree m0_shut m0_worth m0_digit m0_codes m0_most m0_bestTry m0_dayCourt m0_dayHour m0_dayNo m0_x b_m0_taped (by first | with_reducible assumption | omega) (by first | with_reducible assumption | omega) (by first | with_reducible assumption | omega) b_w_m0_12_37 b_m0_strays b_m0_hostCourt b_m0_dayCourt b_m0_dayHour H.size) (cwV 1 hts (z_gV zw_t7_97 zw_t7_99 zw_s4_14 zw_t1_11 zw_t7_100) rfl rfl rfl (by decide +kernel) (by rw [← hRe]; exact ⟨(Nat.le_of_ble_eq_true rfl), (Nat.le_of_ble_eq_true rfl)⟩)) (z_preV hPc hKc hDc hN hXs hS hFc (q := (RX10, TX10, 53)) (ci := 10) (q0 := 0) rfl rfl) rfl rfl hl.1 rfl (lv_room (Nat.le_of_ble_eq_true rfl)) dX10_personLine_169 (by rw [← hRe]; exact ⟨(Nat.le_of_ble_eq_true rfl), (Nat.le_of_ble_eq_true rfl)⟩)) hS (fun q _ h => hFc q h) hFc (fun r_61 u t H1 locs ht hvm hw hB hz1 hk1 hS => ?_)
              obtain ⟨hP, hD, hK⟩ := z_after3 (wn := (zV282 m0_hours cA_m0_hours f_m0_hours m0_courts cA_m0_courts f_m0_courts m0_in cA_m0_in f_m0_in m0_people cA_m0_people f_m0_people m0_at0 cA_m0_at0 g_m0_at0_39 m0_stray cA_m0_stray f_60 m0_tape cA_m0_tape f_m0_tape m0 m0_thrown m0_width m0_many m0_cells m0_moved m0_tape m0_taped n_m0_41 n_m0_42 n_m0_43 n_m0_44 n_m0_45 w_m0_12_37 w_m0_13_38 m0_fault m0_faultPlace m0_lines m0_hours m0_courts m0_in m0_gates m0_gate m0_people m0_at0 m0_stray m0_set m0_once m0_truth m0_known m0_isKept m0_strays m0_hostPerson m0_hostCourt m0_outside m0_inside m0_can m0_fewest m0_waysTo m0_then m0_two m0_nextTwo m0_three m0_nextThree m0_shut m0_worth m0_digit m0_codes m0_most m0_bestTry m0_dayCourt m0_dayHour m0_dayNo m0_x)) hB ht hvm hP hD hK [6] [0, 1, 2, 3, 4, 5, 7] rfl 8 rfl (by decide +kernel) rfl (by decide +kernel) hk1 hFc
              generalize H1 = H at hP hS ⊢
              have hK : va_K (dC, dI) vwCl [(cA_m0_tape, .byte), (cA_m0_hours, .int), (cA_m0_courts, .int), (cA_m0_in, .int), (cA_m0_people, .int), (cA_m0_at0, .int), (cA_m0_stray, .int)] s := hK
              have b_r_61 : 0 ≤ r_61.toInt ∧ r_61.toInt ≤ 1 := hw.1
              have s_r_61 := hw.2.1
              have sf_r_61 := hw.2.2
              have zal_283613770 : Int64.toInt 283613770 = 283613770 := by decide
              replace hF := hF.trans (zL_eq sf_r_61)
              refine lv_if_eq (tgt := 250) hx hb dX10_personLine_172 (by decide) (fun c_62 => ?_) (fun c_62 => ?_)
              · have ic_62 := zz_eq rfl (show Int32.toInt 0 = 0 from by decide) c_62
                replace hF := hF.trans (if_pos c_62)
                refine lv_aload_n hx hb dX10_personLine_250 rfl (lv_at hl 0 rfl) ?_
                refine va_get (D := (dC, dI)) (ci := 10) (v := .ref m0_people) (C := RX10) (T := TX10) (N := 53) hx hb hts zl_X10 hown hK hP 7 rfl rfl 22 (by decide) (hts _ zw_t6_122) (fun _ h9 => h9) rfl dX10_personLine_251 ?_
                refine lv_iconst (v := 4) hx hb dX10_personLine_254 (by decide) ?_
                refine lv_dup2_11 hx hb dX10_personLine_255 rfl rfl ?_
                refine va_iald hx hb hK hP 3 4 rfl rfl (zi_in (show Int32.toInt 4 = 4 from by decide) (by decide)) dX10_personLine_256 ?_
                refine lv_topi (fun x_63 ex_63 => ?_)
                replace hF := hF.trans (zL_eq ex_63)
                obtain rfl : x_1 = x_63 := ex_1.trans ex_63.symm
                refine lv_iconst (v := 1) hx hb dX10_personLine_257 (by decide) ?_
                refine lv_iadd hx hb dX10_personLine_258 ?_
                refine lv_topi (fun x_64 ex_64 => ?_)
                replace hF := hF.trans (zL_eq ex_64)
                have b_x_64 : x_64.toInt = x_1.toInt + 1 := by rw [ex_64]; exact zi_add rfl (show Int32.toInt 1 = 1 from by decide) (z_rac b_x_1 (by decide))
                refine va_iast hx hb hK hP hD hS 3 4 rfl rfl (zi_in (show Int32.toInt 4 = 4 from by decide) (by decide)) dX10_personLine_259 (fun H locs hP hD hS => ?_)
                obtain ⟨f_65, ef_65⟩ : ∃ g : Nat → Int32, g = upd f_m0_people (Int32.toNatClampNeg 4) x_64 := ⟨_, rfl⟩
                replace hF := hF.trans (zL_eq ef_65)
                have u_f_65 : (f_65 (Int32.toNatClampNeg 4)).toInt = x_64.toInt := by rw [ef_65, pk_us]
                have b_f_65 : ∀ j : Nat, 0 ≤ (f_65 j).toInt ∧ (f_65 j).toInt ≤ 10 := by rw [ef_65]; exact zi_upd b_f_m0_people rfl (by first | with_reducible assumption | omega)
                have hP : va_P (dC, dI) vwCl (zV282 m0_hours cA_m0_hours f_m0_hours m0_courts cA_m0_courts f_m0_courts m0_in cA_m0_in f_m0_in m0_people cA_m0_people (upd f_m0_people (Int32.toNatClampNeg 4) x_64) m0_at0 cA_m0_at0 g_m0_at0_39 m0_stray cA_m0_stray f_60 m0_tape cA_m0_tape f_m0_tape m0 m0_thrown m0_width m0_many m0_cells m0_moved m0_tape m0_taped n_m0_41 n_m0_42 n_m0_43 n_m0_44 n_m0_45 w_m0_12_37 w_m0_13_38 m0_fault m0_faultPlace m0_lines m0_hours m0_courts m0_in m0_gates m0_gate m0_people m0_at0 m0_stray m0_set m0_once m0_truth m0_known m0_isKept m0_strays m0_hostPerson m0_hostCourt m0_outside m0_inside m0_can m0_fewest m0_waysTo m0_then m0_two m0_nextTwo m0_three m0_nextThree m0_shut m0_worth m0_digit m0_codes m0_most m0_bestTry m0_dayCourt m0_dayHour m0_dayNo m0_x) H := hP
                have hD : va_D A (zV282 m0_hours cA_m0_hours f_m0_hours m0_courts cA_m0_courts f_m0_courts m0_in cA_m0_in f_m0_in m0_people cA_m0_people (upd f_m0_people (Int32.toNatClampNeg 4) x_64) m0_at0 cA_m0_at0 g_m0_at0_39 m0_stray cA_m0_stray f_60 m0_tape cA_m0_tape f_m0_tape m0 m0_thrown m0_width m0_many m0_cells m0_moved m0_tape m0_taped n_m0_41 n_m0_42 n_m0_43 n_m0_44 n_m0_45 w_m0_12_37 w_m0_13_38 m0_fault m0_faultPlace m0_lines m0_hours m0_courts m0_in m0_gates m0_gate m0_people m0_at0 m0_stray m0_set m0_once m0_truth m0_known m0_isKept m0_strays m0_hostPerson m0_hostCourt m0_outside m0_inside m0_can m0_fewest m0_waysTo m0_then m0_two m0_nextTwo m0_three m0_nextThree m0_shut m0_worth m0_digit m0_codes m0_most m0_bestTry m0_dayCourt m0_dayHour m0_dayNo m0_x) := hD
                rw [← ef_65] at hP hD
                have zi_4 : Int32.toInt 4 = 4 := by decide
                have hmd_66 : zMd f_m0_in f_m0_courts f_m0_hours f_65 f_m0_stray := zMd.setP (by assumption) ef_65 (by first | with_reducible assumption | omega)
                have hmd_67 : zMd f_m0_in f_m0_courts f_m0_hours f_65 f_57 := zMd.setS (by assumption) ef_57 (by first | with_reducible assumption | omega) b_f_65
                have hmd_68 : zMd f_m0_in f_m0_courts f_m0_hours f_65 f_60 := zMd.setS (by assumption) ef_60 (by first | with_reducible assumption | omega) b_f_65
                have hq_pe : zCt f_m0_stray 80 (f_m0_people (Int32.toNatClampNeg 4)).toInt = zCt f_m0_stray 80 x_1.toInt := by rw [t_x_1]
                have hq_f_57 : zCt f_57 80 x_1.toInt = zCt f_m0_stray 80 x_1.toInt := zCt_ge ef_57 (by first | with_reducible assumption | omega) (by first | with_reducible assumption | omega)
                have hq_f_60 : zCt f_60 80 x_1.toInt = zCt f_57 80 x_1.toInt := zCt_ge ef_60 (by first | with_reducible assumption | omega) (by first | with_reducible assumption | omega)
                have zv_0 : Int32.toInt 0 = 0 := by decide
                have hx1 : (0 : Int32) = f_60 (Int32.toNatClampNeg x_56) := by rw [zu_no ef_60 (by first | with_reducible assumption | omega) (by first | with_reducible assumption | omega) (by first | with_reducible assumption | omega)]; exact zu_is ef_57
                have hcs := zCt_at (base := 80) (p := x_1.toInt) hx1 (by first | with_reducible assumption | omega) (by first | with_reducible assumption | omega)
                have hpn : (f_65 (Int32.toNatClampNeg 4)).toInt = x_1.toInt + 1 := by omega
                have hq3 : zCt f_m0_stray 80 (f_m0_people (Int32.toNatClampNeg 4)).toInt = m0_strays.toInt ∧ m0_strays.toInt ≤ 4 := hep_3.resolve_left (fun q9 => q9 hep_1)
                have hQ : ¬ w_m0_12_37.toInt = 0 ∨ (zCt f_60 80 (f_65 (Int32.toNatClampNeg 4)).toInt = m0_strays.toInt ∧ m0_strays.toInt ≤ 4) := Or.inr ⟨by rw [hpn, hcs.2 (by decide), hq_f_60, hq_f_57, ← hq_pe]; exact hq3.1, hq3.2⟩
                have hF : RR = (n_m0_41, n_m0_42, n_m0_43, n_m0_44, n_m0_45, w_m0_12_37, w_m0_13_38, m0_strays, f_65, g_m0_at0_39, f_60) := hF
                exact W.vret hx hb hr (fun t ht hW => by rw [← hQe]; exact ⟨⟨(), rfl, trivial, ⟨n_m0_41, n_m0_42, n_m0_43, n_m0_44, n_m0_45, w_m0_12_37, w_m0_13_38, m0_strays, f_65, g_m0_at0_39, f_60, (by first | with_reducible assumption | omega), (by first | with_reducible assumption | omega), (by first | with_reducible assumption | omega), (by first | with_reducible assumption | omega), (by first | with_reducible assumption | omega), b_f_65, b_g_m0_at0_39, b_f_60, (by first | omega | assumption), (by first | omega | assumption), (by assumption), (by first | omega | assumption), (by rw [← hRR, hF]), (by rw [← hRR, hF]), (by rw [← hRR, hF]), (by rw [← hRR, hF]), (by rw [← hRR, hF]), (by rw [← hRR, hF]), (by rw [← hRR, hF]), (by rw [← hRR, hF]), (by rw [← hRR, hF]), (by rw [← hRR, hF]), (by rw [← hRR, hF]), z_ret hP hK hD ht hW [7, 6, 0, 1, 2, 3, 4, 5] [] rfl (by decide) rfl⟩⟩, hS.F ht⟩) hS.2.2 dX10_personLine_260
              · have ic_62 := zz_neq rfl (show Int32.toInt 0 = 0 from by decide) c_62
                replace hF := hF.trans (if_neg c_62)
                refine lv_aload_n hx hb dX10_personLine_175 rfl (lv_at hl 0 rfl) ?_
                refine va_get (D := (dC, dI)) (ci := 10) (v := .int m0_strays) (C := RX10) (T := TX10) (N := 53) hx hb hts zl_X10 hown hK hP 7 rfl rfl 30 (by decide) (hts _ zw_t6_130) (fun _ h9 => h9) rfl dX10_personLine_176 ?_
                refine lv_iconst (v := 4) hx hb dX10_personLine_179 (by decide) ?_
                refine lv_icmp_ne (tgt := 188) hx hb dX10_personLine_180 (by decide) (fun c_69 => ?_) (fun c_69 => ?_)
                · have ic_69 := zz_ne rfl (show Int32.toInt 4 = 4 from by decide) c_69
                  replace hF := hF.trans (if_neg c_69)
                  refine lv_aload_n hx hb dX10_personLine_188 rfl (lv_at hl 0 rfl) ?_
                  obtain ⟨hPc, hDc, hFc⟩ := z_cut (wc := (zV84 m0 m0_thrown m0_width m0_many m0_cells m0_moved m0_tape m0_taped n_m0_41 n_m0_42 n_m0_43 n_m0_44 n_m0_45 w_m0_12_37 w_m0_13_38 m0_fault m0_faultPlace m0_lines m0_hours m0_courts m0_in m0_gates m0_gate m0_people m0_at0 m0_stray m0_set m0_once m0_truth m0_known m0_isKept m0_strays m0_hostPerson m0_hostCourt m0_outside m0_inside m0_can m0_fewest m0_waysTo m0_then m0_two m0_nextTwo m0_three m0_nextThree m0_shut m0_worth m0_digit m0_codes m0_most m0_bestTry m0_dayCourt m0_dayHour m0_dayNo m0_x)) hP hD hS hA [7] rfl (by decide +kernel)
                  have hKc := hK.sub (tys' := []) [] rfl
                  refine va_calli (va_runV (As := []) (rest := []) ⟨hx, hb, hml, hown, hts⟩ (kf_X10_isGood_v1 l sa dC dI m0 m0_thrown m0_width m0_many m0_cells m0_moved m0_tape m0_taped n_m0_41 n_m0_42 n_m0_43 n_m0_44 n_m0_45 w_m0_12_37 w_m0_13_38 m0_fault m0_faultPlace m0_lines m0_hours m0_courts m0_in m0_gates m0_gate m0_people m0_at0 m0_stray m0_set m0_once m0_truth m0_known m0_isKept m0_strays m0_hostPerson m0_hostCourt m0_outside m0_inside m0_can m0_fewest m0_waysTo m0_then m0_two m0_nextTwo m0_three m0_nextThree m0_shut m0_worth m0_digit m0_codes m0_most m0_bestTry m0_dayCourt m0_dayHour m0_dayNo m0_x b_m0_taped (by first | with_reducible assumption | omega) (by first | with_reducible assumption | omega) (by first | with_reducible assumption | omega) b_w_m0_12_37 b_m0_strays b_m0_hostCourt b_m0_dayCourt b_m0_dayHour H.size) (cwV 0 hts (z_gV zw_t7_84 zw_t7_86 zw_s4_11 zw_t1_11 zw_t7_87) rfl rfl rfl (by decide +kernel) (by rw [← hRe]; exact ⟨(Nat.le_of_ble_eq_true rfl), (Nat.le_of_ble_eq_true rfl)⟩)) (z_preV hPc hKc hDc hN hXs hS hFc (q := (RX10, TX10, 53)) (ci := 10) (q0 := 0) rfl rfl) rfl rfl hl.1 rfl (lv_room (Nat.le_of_ble_eq_true rfl)) dX10_personLine_189 (by rw [← hRe]; exact ⟨(Nat.le_of_ble_eq_true rfl), (Nat.le_of_ble_eq_true rfl)⟩)) hS (fun q _ h => hFc q h) hFc (fun r_70 u t H1 locs ht hvm hw hB hz1 hk1 hS => ?_)
                  obtain ⟨hP, hD, hK⟩ := z_after3 (wn := (zV282 m0_hours cA_m0_hours f_m0_hours m0_courts cA_m0_courts f_m0_courts m0_in cA_m0_in f_m0_in m0_people cA_m0_people f_m0_people m0_at0 cA_m0_at0 g_m0_at0_39 m0_stray cA_m0_stray f_60 m0_tape cA_m0_tape f_m0_tape m0 m0_thrown m0_width m0_many m0_cells m0_moved m0_tape m0_taped n_m0_41 n_m0_42 n_m0_43 n_m0_44 n_m0_45 w_m0_12_37 w_m0_13_38 m0_fault m0_faultPlace m0_lines m0_hours m0_courts m0_in m0_gates m0_gate m0_people m0_at0 m0_stray m0_set m0_once m0_truth m0_known m0_isKept m0_strays m0_hostPerson m0_hostCourt m0_outside m0_inside m0_can m0_fewest m0_waysTo m0_then m0_two m0_nextTwo m0_three m0_nextThree m0_shut m0_worth m0_digit m0_codes m0_most m0_bestTry m0_dayCourt m0_dayHour m0_dayNo m0_x)) hB ht hvm hP hD hK [7] [0, 1, 2, 3, 4, 5, 6] rfl 8 rfl (by decide +kernel) rfl (by decide +kernel) hk1 hFc
                  generalize H1 = H at hP hS ⊢
                  have hK : va_K (dC, dI) vwCl [(cA_m0_tape, .byte), (cA_m0_hours, .int), (cA_m0_courts, .int), (cA_m0_in, .int), (cA_m0_people, .int), (cA_m0_at0, .int), (cA_m0_stray, .int)] s := hK
                  have b_r_70 : 0 ≤ r_70.toInt ∧ r_70.toInt ≤ 1 := hw.1
                  have s_r_70 := hw.2.1
                  have sf_r_70 := hw.2.2
                  replace hF := hF.trans (zL_eq sf_r_70)
                  refine lv_if_eq (tgt := 199) hx hb dX10_personLine_192 (by decide) (fun c_71 => ?_) (fun c_71 => ?_)
                  · have ic_71 := zz_eq rfl (show Int32.toInt 0 = 0 from by decide) c_71
                    replace hF := hF.trans (if_pos c_71)
                    refine lv_aload_n hx hb dX10_personLine_199 rfl (lv_at hl 0 rfl) ?_
                    refine va_get (D := (dC, dI)) (ci := 10) (v := .ref m0_stray) (C := RX10) (T := TX10) (N := 53) hx hb hts zl_X10 hown hK hP 7 rfl rfl 24 (by decide) (hts _ zw_t6_124) (fun _ h9 => h9) rfl dX10_personLine_200 ?_
                    refine lv_iconst (v := 2) hx hb dX10_personLine_203 (by decide) ?_
                    refine lv_iload_n hx hb dX10_personLine_204 rfl (lv_at hl 1 rfl) ?_
                    refine lv_imul hx hb dX10_personLine_205 ?_
                    refine lv_topi (fun x_72 ex_72 => ?_)
                    replace hF := hF.trans (zL_eq ex_72)
                    have b_x_72 : x_72.toInt = 2 * x_2.toInt := by rw [ex_72]; exact zi_mul (show Int32.toInt 2 = 2 from by decide) rfl (z_rmc (z_eca b_x_2 b_x_1) (by decide))
                    refine lv_aload_n hx hb dX10_personLine_206 rfl (lv_at hl 0 rfl) ?_
                    refine lv_iconst (v := 1) hx hb dX10_personLine_207 (by decide) ?_
                    refine lv_bipush (v := 99) hx hb dX10_personLine_208 (by decide) ?_
                    obtain ⟨hPc, hDc, hFc⟩ := z_cut (wc := (zV264 m0 m0_thrown m0_width m0_many m0_cells m0_moved m0_tape m0_taped n_m0_41 n_m0_42 n_m0_43 n_m0_44 n_m0_45 w_m0_12_37 w_m0_13_38 m0_fault m0_faultPlace m0_lines m0_hours m0_courts m0_in m0_gates m0_gate m0_people m0_at0 m0_stray m0_set m0_once m0_truth m0_known m0_isKept m0_strays m0_hostPerson m0_hostCourt m0_outside m0_inside m0_can m0_fewest m0_waysTo m0_then m0_two m0_nextTwo m0_three m0_nextThree m0_shut m0_worth m0_digit m0_codes m0_most m0_bestTry m0_dayCourt m0_dayHour m0_dayNo m0_x m0_tape cA_m0_tape f_m0_tape)) hP hD hS hA [7, 6] rfl (by decide +kernel)
                    have hKc := hK.sub (tys' := [(cA_m0_tape, .byte)]) [0] rfl
                    refine va_calli (va_runV (As := [.int 1, .int 99]) (rest := [.int x_72, .ref m0_stray]) ⟨hx, hb, hml, hown, hts⟩ (kf_X10_number l sa dC dI m0 (1) (99) m0_thrown m0_width m0_many m0_cells m0_moved m0_tape m0_taped n_m0_41 n_m0_42 n_m0_43 n_m0_44 n_m0_45 w_m0_12_37 w_m0_13_38 m0_fault m0_faultPlace m0_lines m0_hours m0_courts m0_in m0_gates m0_gate m0_people m0_at0 m0_stray m0_set m0_once m0_truth m0_known m0_isKept m0_strays m0_hostPerson m0_hostCourt m0_outside m0_inside m0_can m0_fewest m0_waysTo m0_then m0_two m0_nextTwo m0_three m0_nextThree m0_shut m0_worth m0_digit m0_codes m0_most m0_bestTry m0_dayCourt m0_dayHour m0_dayNo m0_x cA_m0_tape f_m0_tape (by decide) (by decide) b_m0_taped (by first | with_reducible assumption | omega) (by first | with_reducible assumption | omega) (by first | with_reducible assumption | omega) b_w_m0_12_37 b_m0_strays b_m0_hostCourt b_m0_dayCourt b_m0_dayHour (by first | assumption | omega) H.size) (cwV 2 hts (z_gV zw_t7_110 zw_t7_112 zw_s5_1 zw_t1_11 zw_t7_113) rfl rfl rfl (by decide +kernel) (by rw [← hRe]; exact ⟨(Nat.le_of_ble_eq_true rfl), (Nat.le_of_ble_eq_true rfl)⟩)) (z_preV hPc hKc hDc hN hXs hS hFc (q := (RX10, TX10, 53)) (ci := 10) (q0 := 0) rfl rfl) rfl rfl hl.1 rfl (lv_room (Nat.le_of_ble_eq_true rfl)) dX10_personLine_210 (by rw [← hRe]; exact ⟨(Nat.le_of_ble_eq_true rfl), (Nat.le_of_ble_eq_true rfl)⟩)) hS (fun q _ h => hFc q h) hFc (fun r_73 u t H1 locs ht hvm hw hB hz1 hk1 hS => ?_)
                    obtain ⟨hu, hw⟩ := hw
                    rw [hu] at hB
                    refine hB.elim fun n_m0_74 ze1 => ze1.elim fun n_m0_75 ze2 => ze2.elim fun n_m0_76 ze3 => ze3.elim fun n_m0_77 ze4 => ze4.elim fun n_m0_78 ze5 => ze5.elim fun n_m0_79 ze6 => ze6.elim fun n_m0_80 ze7 => ze7.elim fun b_n_m0_74 ze8 => ze8.elim fun b_n_m0_75 ze9 => ze9.elim fun b_n_m0_77 ze10 => ze10.elim fun b_n_m0_79 ze11 => ze11.elim fun hf_81 ze12 => ze12.elim fun hf_82 ze13 => ze13.elim fun hf_83 ze14 => ze14.elim fun hf_84 ze15 => ze15.elim fun hf_85 ze16 => ze16.elim fun hf_86 ze17 => ze17.elim fun hf_87 ze18 => ze18.elim fun hf_88 ze19 => ze19.elim fun hf_89 ze20 => ze20.elim fun hf_90 ze21 => ze21.elim fun hf_91 ze22 => ?_
                    clear hB ze1 ze2 ze3 ze4 ze5 ze6 ze7 ze8 ze9 ze10 ze11 ze12 ze13 ze14 ze15 ze16 ze17 ze18 ze19 ze20 ze21
                    have hB := ze22
                    clear ze22
                    obtain ⟨hP, hD, hK⟩ := z_after3 (wn := (zV281 m0_hours cA_m0_hours f_m0_hours m0_courts cA_m0_courts f_m0_courts m0_in cA_m0_in f_m0_in m0_people cA_m0_people f_m0_people m0_at0 cA_m0_at0 g_m0_at0_39 m0_stray cA_m0_stray f_60 m0 m0_thrown m0_width m0_many m0_cells m0_moved m0_tape m0_taped n_m0_74 n_m0_75 n_m0_76 n_m0_77 n_m0_78 n_m0_79 n_m0_80 m0_fault m0_faultPlace m0_lines m0_hours m0_courts m0_in m0_gates m0_gate m0_people m0_at0 m0_stray m0_set m0_once m0_truth m0_known m0_isKept m0_strays m0_hostPerson m0_hostCourt m0_outside m0_inside m0_can m0_fewest m0_waysTo m0_then m0_two m0_nextTwo m0_three m0_nextThree m0_shut m0_worth m0_digit m0_codes m0_most m0_bestTry m0_dayCourt m0_dayHour m0_dayNo m0_x m0_tape cA_m0_tape f_m0_tape)) hB ht hvm hP hD hK [7, 6] [0, 1, 2, 3, 4, 5] rfl 8 rfl (by decide +kernel) rfl (by decide +kernel) hk1 hFc
                    generalize H1 = H at hP hS ⊢
                    have hK : va_K (dC, dI) vwCl [(cA_m0_tape, .byte), (cA_m0_hours, .int), (cA_m0_courts, .int), (cA_m0_in, .int), (cA_m0_people, .int), (cA_m0_at0, .int), (cA_m0_stray, .int)] s := hK
                    have b_r_73 : 0 ≤ r_73.toInt ∧ r_73.toInt ≤ 99 := hw.1
                    have s_r_73 := hw.2.1
                    have sf_r_73 := hw.2.2
                    have za_1 : Int32.toInt 1 = 1 := by decide
                    have za_99 : Int32.toInt 99 = 99 := by decide
                    replace hF := hF.trans (zL_eq rfl)
                    replace hF := hF.trans (zL_eq sf_r_73)
                    replace hF := hF.trans (zL_eq hf_85)
                    replace hF := hF.trans (zL_eq hf_86)
                    replace hF := hF.trans (zL_eq hf_87)
                    replace hF := hF.trans (zL_eq hf_88)
                    replace hF := hF.trans (zL_eq hf_89)
                    replace hF := hF.trans (zL_eq hf_90)
                    replace hF := hF.trans (zL_eq hf_91)
                    refine va_iast hx hb hK hP hD hS 5 6 rfl rfl (zi_in rfl (by first | with_reducible assumption | omega)) dX10_personLine_213 (fun H locs hP hD hS => ?_)
                    obtain ⟨f_93, ef_93⟩ : ∃ g : Nat → Int32, g = upd f_60 (Int32.toNatClampNeg x_72) r_73 := ⟨_, rfl⟩
                    replace hF := hF.trans (zL_eq ef_93)
                    have kx_f_93 := zi_clamp (x := x_72) rfl (z_r0 (z_emc (c := 2) b_x_72 (z_eca b_x_2 b_x_1)) (by decide))
                    have b_f_93 : ∀ j : Nat, 0 ≤ (f_93 j).toInt ∧ (f_93 j).toInt ≤ 99 ∧ (j % 2 = 1 → (f_93 j).toInt ≤ 9) := by rw [ef_93]; exact zi_updP b_f_60 rfl (by first | with_reducible assumption | omega)
                    have hP : va_P (dC, dI) vwCl (zV281 m0_hours cA_m0_hours f_m0_hours m0_courts cA_m0_courts f_m0_courts m0_in cA_m0_in f_m0_in m0_people cA_m0_people f_m0_people m0_at0 cA_m0_at0 g_m0_at0_39 m0_stray cA_m0_stray (upd f_60 (Int32.toNatClampNeg x_72) r_73) m0 m0_thrown m0_width m0_many m0_cells m0_moved m0_tape m0_taped n_m0_74 n_m0_75 n_m0_76 n_m0_77 n_m0_78 n_m0_79 n_m0_80 m0_fault m0_faultPlace m0_lines m0_hours m0_courts m0_in m0_gates m0_gate m0_people m0_at0 m0_stray m0_set m0_once m0_truth m0_known m0_isKept m0_strays m0_hostPerson m0_hostCourt m0_outside m0_inside m0_can m0_fewest m0_waysTo m0_then m0_two m0_nextTwo m0_three m0_nextThree m0_shut m0_worth m0_digit m0_codes m0_most m0_bestTry m0_dayCourt m0_dayHour m0_dayNo m0_x m0_tape cA_m0_tape f_m0_tape) H := hP
                    have hD : va_D A (zV281 m0_hours cA_m0_hours f_m0_hours m0_courts cA_m0_courts f_m0_courts m0_in cA_m0_in f_m0_in m0_people cA_m0_people f_m0_people m0_at0 cA_m0_at0 g_m0_at0_39 m0_stray cA_m0_stray (upd f_60 (Int32.toNatClampNeg x_72) r_73) m0 m0_thrown m0_width m0_many m0_cells m0_moved m0_tape m0_taped n_m0_74 n_m0_75 n_m0_76 n_m0_77 n_m0_78 n_m0_79 n_m0_80 m0_fault m0_faultPlace m0_lines m0_hours m0_courts m0_in m0_gates m0_gate m0_people m0_at0 m0_stray m0_set m0_once m0_truth m0_known m0_isKept m0_strays m0_hostPerson m0_hostCourt m0_outside m0_inside m0_can m0_fewest m0_waysTo m0_then m0_two m0_nextTwo m0_three m0_nextThree m0_shut m0_worth m0_digit m0_codes m0_most m0_bestTry m0_dayCourt m0_dayHour m0_dayNo m0_x m0_tape cA_m0_tape f_m0_tape) := hD
                    rw [← ef_93] at hP hD
                    refine lv_aload_n hx hb dX10_personLine_214 rfl (lv_at hl 0 rfl) ?_
                    refine va_get (D := (dC, dI)) (ci := 10) (v := .ref m0_stray) (C := RX10) (T := TX10) (N := 53) hx hb hts zl_X10 hown hK hP 6 rfl rfl 24 (by decide) (hts _ zw_t6_124) (fun _ h9 => h9) rfl dX10_personLine_215 ?_
                    refine lv_iconst (v := 2) hx hb dX10_personLine_218 (by decide) ?_
                    refine lv_iload_n hx hb dX10_personLine_219 rfl (lv_at hl 1 rfl) ?_
                    refine lv_imul hx hb dX10_personLine_220 ?_
                    refine lv_topi (fun x_94 ex_94 => ?_)
                    replace hF := hF.trans (zL_eq ex_94)
                    have b_x_94 : x_94.toInt = 2 * x_2.toInt := by rw [ex_94]; exact zi_mul (show Int32.toInt 2 = 2 from by decide) rfl (z_rmc (z_eca b_x_2 b_x_1) (by decide))
                    refine lv_iconst (v := 1) hx hb dX10_personLine_221 (by decide) ?_
                    refine lv_iadd hx hb dX10_personLine_222 ?_
                    refine lv_topi (fun x_95 ex_95 => ?_)
                    replace hF := hF.trans (zL_eq ex_95)
                    have b_x_95 : x_95.toInt = x_94.toInt + 1 := by rw [ex_95]; exact zi_add rfl (show Int32.toInt 1 = 1 from by decide) (z_rac (z_emc (c := 2) b_x_94 (z_eca b_x_2 b_x_1)) (by decide))
                    refine lv_aload_n hx hb dX10_personLine_223 rfl (lv_at hl 0 rfl) ?_
                    refine lv_ldc2 (v := 555) hx hb hown (hts _ zw_t7_133) dX10_personLine_224 ?_
                    refine lv_iconst (v := 0) hx hb dX10_personLine_227 (by decide) ?_
                    refine lv_aload_n hx hb dX10_personLine_228 rfl (lv_at hl 0 rfl) ?_
                    refine va_get (D := (dC, dI)) (ci := 10) (v := .ref m0_courts) (C := RX10) (T := TX10) (N := 53) hx hb hts zl_X10 hown hK hP 6 rfl rfl 18 (by decide) (hts _ zw_t6_118) (fun _ h9 => h9) rfl dX10_personLine_229 ?_
                    refine lv_iconst (v := 4) hx hb dX10_personLine_232 (by decide) ?_
                    refine va_iald hx hb hK hP 1 2 rfl rfl (zi_in (show Int32.toInt 4 = 4 from by decide) (by decide)) dX10_personLine_233 ?_
                    refine lv_topi (fun x_96 ex_96 => ?_)
                    replace hF := hF.trans (zL_eq ex_96)
                    obtain rfl : x_3 = x_96 := ex_3.trans ex_96.symm
                    refine lv_iconst (v := 1) hx hb dX10_personLine_234 (by decide) ?_
                    refine lv_isub hx hb dX10_personLine_235 ?_
                    refine lv_topi (fun x_97 ex_97 => ?_)
                    replace hF := hF.trans (zL_eq ex_97)
                    have b_x_97 : x_97.toInt = x_3.toInt - 1 := by rw [ex_97]; exact zi_sub rfl (show Int32.toInt 1 = 1 from by decide) (z_rsc b_x_3 (by decide))
                    obtain ⟨hPc, hDc, hFc⟩ := z_cut (wc := (zV264 m0 m0_thrown m0_width m0_many m0_cells m0_moved m0_tape m0_taped n_m0_74 n_m0_75 n_m0_76 n_m0_77 n_m0_78 n_m0_79 n_m0_80 m0_fault m0_faultPlace m0_lines m0_hours m0_courts m0_in m0_gates m0_gate m0_people m0_at0 m0_stray m0_set m0_once m0_truth m0_known m0_isKept m0_strays m0_hostPerson m0_hostCourt m0_outside m0_inside m0_can m0_fewest m0_waysTo m0_then m0_two m0_nextTwo m0_three m0_nextThree m0_shut m0_worth m0_digit m0_codes m0_most m0_bestTry m0_dayCourt m0_dayHour m0_dayNo m0_x m0_tape cA_m0_tape f_m0_tape)) hP hD hS hA [6, 7] rfl (by decide +kernel)
                    have hKc := hK.sub (tys' := [(cA_m0_tape, .byte)]) [0] rfl
                    refine va_calli (va_runV (As := [.long 555, .int 0, .int x_97]) (rest := [.int x_95, .ref m0_stray]) ⟨hx, hb, hml, hown, hts⟩ (kf_X10_number_ l sa dC dI m0 (555) (0) x_97 m0_thrown m0_width m0_many m0_cells m0_moved m0_tape m0_taped n_m0_74 n_m0_75 n_m0_76 n_m0_77 n_m0_78 n_m0_79 n_m0_80 m0_fault m0_faultPlace m0_lines m0_hours m0_courts m0_in m0_gates m0_gate m0_people m0_at0 m0_stray m0_set m0_once m0_truth m0_known m0_isKept m0_strays m0_hostPerson m0_hostCourt m0_outside m0_inside m0_can m0_fewest m0_waysTo m0_then m0_two m0_nextTwo m0_three m0_nextThree m0_shut m0_worth m0_digit m0_codes m0_most m0_bestTry m0_dayCourt m0_dayHour m0_dayNo m0_x cA_m0_tape f_m0_tape (by decide) (by first | with_reducible assumption | omega) b_m0_taped (by first | with_reducible assumption | omega) (by first | with_reducible assumption | omega) (by first | with_reducible assumption | omega) (by first | with_reducible assumption | omega) b_m0_strays b_m0_hostCourt b_m0_dayCourt b_m0_dayHour (by first | assumption | omega) H.size) (cwV 3 hts (z_gV zw_t7_106 zw_t7_108 zw_s5_0 zw_t1_11 zw_t7_109) rfl rfl rfl (by decide +kernel) (by rw [← hRe]; exact ⟨(Nat.le_of_ble_eq_true rfl), (Nat.le_of_ble_eq_true rfl)⟩)) (z_preV hPc hKc hDc hN hXs hS hFc (q := (RX10, TX10, 53)) (ci := 10) (q0 := 0) rfl rfl) rfl rfl hl.1 rfl (lv_room (Nat.le_of_ble_eq_true rfl)) dX10_personLine_236 (by rw [← hRe]; exact ⟨(Nat.le_of_ble_eq_true rfl), (Nat.le_of_ble_eq_true rfl)⟩)) hS (fun q _ h => hFc q h) hFc (fun r_98 u t H1 locs ht hvm hw hB hz1 hk1 hS => ?_)
                    obtain ⟨hu, hw⟩ := hw
                    rw [hu] at hB
                    refine hB.elim fun n_m0_99 ze1 => ze1.elim fun n_m0_100 ze2 => ze2.elim fun n_m0_101 ze3 => ze3.elim fun n_m0_102 ze4 => ze4.elim fun n_m0_103 ze5 => ze5.elim fun n_m0_104 ze6 => ze6.elim fun n_m0_105 ze7 => ze7.elim fun b_n_m0_99 ze8 => ze8.elim fun b_n_m0_100 ze9 => ze9.elim fun b_n_m0_102 ze10 => ze10.elim fun b_n_m0_104 ze11 => ze11.elim fun hf_106 ze12 => ze12.elim fun hf_107 ze13 => ze13.elim fun hf_108 ze14 => ze14.elim fun hf_109 ze15 => ze15.elim fun hf_110 ze16 => ze16.elim fun hf_111 ze17 => ze17.elim fun hf_112 ze18 => ze18.elim fun hf_113 ze19 => ze19.elim fun hf_114 ze20 => ze20.elim fun hf_115 ze21 => ze21.elim fun hf_116 ze22 => ?_
                    clear hB ze1 ze2 ze3 ze4 ze5 ze6 ze7 ze8 ze9 ze10 ze11 ze12 ze13 ze14 ze15 ze16 ze17 ze18 ze19 ze20 ze21
                    have hB := ze22
                    clear ze22
                    obtain ⟨hP, hD, hK⟩ := z_after3 (wn := (zV281 m0_hours cA_m0_hours f_m0_hours m0_courts cA_m0_courts f_m0_courts m0_in cA_m0_in f_m0_in m0_people cA_m0_people f_m0_people m0_at0 cA_m0_at0 g_m0_at0_39 m0_stray cA_m0_stray f_93 m0 m0_thrown m0_width m0_many m0_cells m0_moved m0_tape m0_taped n_m0_99 n_m0_100 n_m0_101 n_m0_102 n_m0_103 n_m0_104 n_m0_105 m0_fault m0_faultPlace m0_lines m0_hours m0_courts m0_in m0_gates m0_gate m0_people m0_at0 m0_stray m0_set m0_once m0_truth m0_known m0_isKept m0_strays m0_hostPerson m0_hostCourt m0_outside m0_inside m0_can m0_fewest m0_waysTo m0_then m0_two m0_nextTwo m0_three m0_nextThree m0_shut m0_worth m0_digit m0_codes m0_most m0_bestTry m0_dayCourt m0_dayHour m0_dayNo m0_x m0_tape cA_m0_tape f_m0_tape)) hB ht hvm hP hD hK [6, 7] [0, 1, 2, 3, 4, 5] rfl 8 rfl (by decide +kernel) rfl (by decide +kernel) hk1 hFc
                    generalize H1 = H at hP hS ⊢
                    have hK : va_K (dC, dI) vwCl [(cA_m0_tape, .byte), (cA_m0_hours, .int), (cA_m0_courts, .int), (cA_m0_in, .int), (cA_m0_people, .int), (cA_m0_at0, .int), (cA_m0_stray, .int)] s := hK
                    have b_r_98 : 0 ≤ r_98.toInt ∧ r_98.toInt ≤ 99 := hw.1
                    have s_r_98 := hw.2.1
                    have sf_r_98 := hw.2.2
                    have zal_555 : Int64.toInt 555 = 555 := by decide
                    have za_0 : Int32.toInt 0 = 0 := by decide
                    replace hF := hF.trans (zL_eq rfl)
                    replace hF := hF.trans (zL_eq sf_r_98)
                    replace hF := hF.trans (zL_eq hf_110)
                    replace hF := hF.trans (zL_eq hf_111)
                    replace hF := hF.trans (zL_eq hf_112)
                    replace hF := hF.trans (zL_eq hf_113)
                    replace hF := hF.trans (zL_eq hf_114)
                    replace hF := hF.trans (zL_eq hf_115)
                    replace hF := hF.trans (zL_eq hf_116)
                    have hmz : n_m0_79.toInt = 0 ∨ ¬ n_m0_104.toInt = 0 := hf_109
                    refine va_iast hx hb hK hP hD hS 5 6 rfl rfl (zi_in rfl (by first | with_reducible assumption | omega)) dX10_personLine_239 (fun H locs hP hD hS => ?_)
                    obtain ⟨f_118, ef_118⟩ : ∃ g : Nat → Int32, g = upd f_93 (Int32.toNatClampNeg x_95) r_98 := ⟨_, rfl⟩
                    replace hF := hF.trans (zL_eq ef_118)
                    have kx_f_118 := zi_clamp (x := x_95) rfl (z_r0 (z_eac b_x_95 (z_emc (c := 2) b_x_94 (z_eca b_x_2 b_x_1))) (by decide))
                    have b_f_118 : ∀ j : Nat, 0 ≤ (f_118 j).toInt ∧ (f_118 j).toInt ≤ 99 ∧ (j % 2 = 1 → (f_118 j).toInt ≤ 9) := by rw [ef_118]; exact zi_updP b_f_93 rfl (by first | with_reducible assumption | omega)
                    have hP : va_P (dC, dI) vwCl (zV281 m0_hours cA_m0_hours f_m0_hours m0_courts cA_m0_courts f_m0_courts m0_in cA_m0_in f_m0_in m0_people cA_m0_people f_m0_people m0_at0 cA_m0_at0 g_m0_at0_39 m0_stray cA_m0_stray (upd f_93 (Int32.toNatClampNeg x_95) r_98) m0 m0_thrown m0_width m0_many m0_cells m0_moved m0_tape m0_taped n_m0_99 n_m0_100 n_m0_101 n_m0_102 n_m0_103 n_m0_104 n_m0_105 m0_fault m0_faultPlace m0_lines m0_hours m0_courts m0_in m0_gates m0_gate m0_people m0_at0 m0_stray m0_set m0_once m0_truth m0_known m0_isKept m0_strays m0_hostPerson m0_hostCourt m0_outside m0_inside m0_can m0_fewest m0_waysTo m0_then m0_two m0_nextTwo m0_three m0_nextThree m0_shut m0_worth m0_digit m0_codes m0_most m0_bestTry m0_dayCourt m0_dayHour m0_dayNo m0_x m0_tape cA_m0_tape f_m0_tape) H := hP
                    have hD : va_D A (zV281 m0_hours cA_m0_hours f_m0_hours m0_courts cA_m0_courts f_m0_courts m0_in cA_m0_in f_m0_in m0_people cA_m0_people f_m0_people m0_at0 cA_m0_at0 g_m0_at0_39 m0_stray cA_m0_stray (upd f_93 (Int32.toNatClampNeg x_95) r_98) m0 m0_thrown m0_width m0_many m0_cells m0_moved m0_tape m0_taped n_m0_99 n_m0_100 n_m0_101 n_m0_102 n_m0_103 n_m0_104 n_m0_105 m0_fault m0_faultPlace m0_lines m0_hours m0_courts m0_in m0_gates m0_gate m0_people m0_at0 m0_stray m0_set m0_once m0_truth m0_known m0_isKept m0_strays m0_hostPerson m0_hostCourt m0_outside m0_inside m0_can m0_fewest m0_waysTo m0_then m0_two m0_nextTwo m0_three m0_nextThree m0_shut m0_worth m0_digit m0_codes m0_most m0_bestTry m0_dayCourt m0_dayHour m0_dayNo m0_x m0_tape cA_m0_tape f_m0_tape) := hD
                    rw [← ef_118] at hP hD
                    refine lv_aload_n hx hb dX10_personLine_240 rfl (lv_at hl 0 rfl) ?_
                    refine lv_dup hx hb dX10_personLine_241 rfl ?_
                    refine va_get (D := (dC, dI)) (ci := 10) (v := .int m0_strays) (C := RX10) (T := TX10) (N := 53) hx hb hts zl_X10 hown hK hP 6 rfl rfl 30 (by decide) (hts _ zw_t6_130) (fun _ h9 => h9) rfl dX10_personLine_242 ?_
                    refine lv_iconst (v := 1) hx hb dX10_personLine_245 (by decide) ?_
                    refine lv_iadd hx hb dX10_personLine_246 ?_
                    refine lv_topi (fun x_119 ex_119 => ?_)
                    replace hF := hF.trans (zL_eq ex_119)
                    have b_x_119 : x_119.toInt = m0_strays.toInt + 1 := by rw [ex_119]; exact zi_add rfl (show Int32.toInt 1 = 1 from by decide) (z_rac b_m0_strays (by decide))
                    refine va_put (D := (dC, dI)) (ci := 10) (v := .int x_119) (ty := .int) (C := RX10) (T := TX10) (N := 53) hx hb hts zl_X10 tyX10 tyX10_ok nmX10 hown hK hP hD hS 6 rfl rfl 30 (by decide) (hts _ zw_t6_130) (fun _ h9 => h9) rfl (by decide +kernel) rfl rfl (Nat.le_of_ble_eq_true rfl) dX10_personLine_247 (fun H locs hP hD hS => ?_)
                    have hP : va_P (dC, dI) vwCl (zV281 m0_hours cA_m0_hours f_m0_hours m0_courts cA_m0_courts f_m0_courts m0_in cA_m0_in f_m0_in m0_people cA_m0_people f_m0_people m0_at0 cA_m0_at0 g_m0_at0_39 m0_stray cA_m0_stray f_118 m0 m0_thrown m0_width m0_many m0_cells m0_moved m0_tape m0_taped n_m0_99 n_m0_100 n_m0_101 n_m0_102 n_m0_103 n_m0_104 n_m0_105 m0_fault m0_faultPlace m0_lines m0_hours m0_courts m0_in m0_gates m0_gate m0_people m0_at0 m0_stray m0_set m0_once m0_truth m0_known m0_isKept x_119 m0_hostPerson m0_hostCourt m0_outside m0_inside m0_can m0_fewest m0_waysTo m0_then m0_two m0_nextTwo m0_three m0_nextThree m0_shut m0_worth m0_digit m0_codes m0_most m0_bestTry m0_dayCourt m0_dayHour m0_dayNo m0_x m0_tape cA_m0_tape f_m0_tape) H := hP
                    have hD : va_D A (zV281 m0_hours cA_m0_hours f_m0_hours m0_courts cA_m0_courts f_m0_courts m0_in cA_m0_in f_m0_in m0_people cA_m0_people f_m0_people m0_at0 cA_m0_at0 g_m0_at0_39 m0_stray cA_m0_stray f_118 m0 m0_thrown m0_width m0_many m0_cells m0_moved m0_tape m0_taped n_m0_99 n_m0_100 n_m0_101 n_m0_102 n_m0_103 n_m0_104 n_m0_105 m0_fault m0_faultPlace m0_lines m0_hours m0_courts m0_in m0_gates m0_gate m0_people m0_at0 m0_stray m0_set m0_once m0_truth m0_known m0_isKept x_119 m0_hostPerson m0_hostCourt m0_outside m0_inside m0_can m0_fewest m0_waysTo m0_then m0_two m0_nextTwo m0_three m0_nextThree m0_shut m0_worth m0_digit m0_codes m0_most m0_bestTry m0_dayCourt m0_dayHour m0_dayNo m0_x m0_tape cA_m0_tape f_m0_tape) := hD
                    refine lv_aload_n hx hb dX10_personLine_250 rfl (lv_at hl 0 rfl) ?_
                    refine va_get (D := (dC, dI)) (ci := 10) (v := .ref m0_people) (C := RX10) (T := TX10) (N := 53) hx hb hts zl_X10 hown hK hP 6 rfl rfl 22 (by decide) (hts _ zw_t6_122) (fun _ h9 => h9) rfl dX10_personLine_251 ?_
                    refine lv_iconst (v := 4) hx hb dX10_personLine_254 (by decide) ?_
                    refine lv_dup2_11 hx hb dX10_personLine_255 rfl rfl ?_
                    refine va_iald hx hb hK hP 3 4 rfl rfl (zi_in (show Int32.toInt 4 = 4 from by decide) (by decide)) dX10_personLine_256 ?_
                    refine lv_topi (fun x_120 ex_120 => ?_)
                    replace hF := hF.trans (zL_eq ex_120)
                    obtain rfl : x_1 = x_120 := ex_1.trans ex_120.symm
                    refine lv_iconst (v := 1) hx hb dX10_personLine_257 (by decide) ?_
                    refine lv_iadd hx hb dX10_personLine_258 ?_
                    refine lv_topi (fun x_121 ex_121 => ?_)
                    replace hF := hF.trans (zL_eq ex_121)
                    have b_x_121 : x_121.toInt = x_1.toInt + 1 := by rw [ex_121]; exact zi_add rfl (show Int32.toInt 1 = 1 from by decide) (z_rac b_x_1 (by decide))
                    refine va_iast hx hb hK hP hD hS 3 4 rfl rfl (zi_in (show Int32.toInt 4 = 4 from by decide) (by decide)) dX10_personLine_259 (fun H locs hP hD hS => ?_)
                    obtain ⟨f_122, ef_122⟩ : ∃ g : Nat → Int32, g = upd f_m0_people (Int32.toNatClampNeg 4) x_121 := ⟨_, rfl⟩
                    replace hF := hF.trans (zL_eq ef_122)
                    have u_f_122 : (f_122 (Int32.toNatClampNeg 4)).toInt = x_121.toInt := by rw [ef_122, pk_us]
                    have b_f_122 : ∀ j : Nat, 0 ≤ (f_122 j).toInt ∧ (f_122 j).toInt ≤ 10 := by rw [ef_122]; exact zi_upd b_f_m0_people rfl (by first | with_reducible assumption | omega)
                    have hP : va_P (dC, dI) vwCl (zV281 m0_hours cA_m0_hours f_m0_hours m0_courts cA_m0_courts f_m0_courts m0_in cA_m0_in f_m0_in m0_people cA_m0_people (upd f_m0_people (Int32.toNatClampNeg 4) x_121) m0_at0 cA_m0_at0 g_m0_at0_39 m0_stray cA_m0_stray f_118 m0 m0_thrown m0_width m0_many m0_cells m0_moved m0_tape m0_taped n_m0_99 n_m0_100 n_m0_101 n_m0_102 n_m0_103 n_m0_104 n_m0_105 m0_fault m0_faultPlace m0_lines m0_hours m0_courts m0_in m0_gates m0_gate m0_people m0_at0 m0_stray m0_set m0_once m0_truth m0_known m0_isKept x_119 m0_hostPerson m0_hostCourt m0_outside m0_inside m0_can m0_fewest m0_waysTo m0_then m0_two m0_nextTwo m0_three m0_nextThree m0_shut m0_worth m0_digit m0_codes m0_most m0_bestTry m0_dayCourt m0_dayHour m0_dayNo m0_x m0_tape cA_m0_tape f_m0_tape) H := hP
                    have hD : va_D A (zV281 m0_hours cA_m0_hours f_m0_hours m0_courts cA_m0_courts f_m0_courts m0_in cA_m0_in f_m0_in m0_people cA_m0_people (upd f_m0_people (Int32.toNatClampNeg 4) x_121) m0_at0 cA_m0_at0 g_m0_at0_39 m0_stray cA_m0_stray f_118 m0 m0_thrown m0_width m0_many m0_cells m0_moved m0_tape m0_taped n_m0_99 n_m0_100 n_m0_101 n_m0_102 n_m0_103 n_m0_104 n_m0_105 m0_fault m0_faultPlace m0_lines m0_hours m0_courts m0_in m0_gates m0_gate m0_people m0_at0 m0_stray m0_set m0_once m0_truth m0_known m0_isKept x_119 m0_hostPerson m0_hostCourt m0_outside m0_inside m0_can m0_fewest m0_waysTo m0_then m0_two m0_nextTwo m0_three m0_nextThree m0_shut m0_worth m0_digit m0_codes m0_most m0_bestTry m0_dayCourt m0_dayHour m0_dayNo m0_x m0_tape cA_m0_tape f_m0_tape) := hD
                    rw [← ef_122] at hP hD
                    have zi_4 : Int32.toInt 4 = 4 := by decide
                    have hmd_123 : zMd f_m0_in f_m0_courts f_m0_hours f_122 f_m0_stray := zMd.setP (by assumption) ef_122 (by first | with_reducible assumption | omega)
                    have hmd_124 : zMd f_m0_in f_m0_courts f_m0_hours f_122 f_57 := zMd.setS (by assumption) ef_57 (by first | with_reducible assumption | omega) b_f_122
                    have hmd_125 : zMd f_m0_in f_m0_courts f_m0_hours f_122 f_60 := zMd.setS (by assumption) ef_60 (by first | with_reducible assumption | omega) b_f_122
                    have hmd_126 : zMd f_m0_in f_m0_courts f_m0_hours f_122 f_93 := zMd.setS (by assumption) ef_93 (by first | with_reducible assumption | omega) b_f_122
                    have hmd_127 : zMd f_m0_in f_m0_courts f_m0_hours f_122 f_118 := zMd.setS (by assumption) ef_118 (by first | with_reducible assumption | omega) b_f_122
                    have hq_pe : zCt f_m0_stray 80 (f_m0_people (Int32.toNatClampNeg 4)).toInt = zCt f_m0_stray 80 x_1.toInt := by rw [t_x_1]
                    have hq_f_57 : zCt f_57 80 x_1.toInt = zCt f_m0_stray 80 x_1.toInt := zCt_ge ef_57 (by first | with_reducible assumption | omega) (by first | with_reducible assumption | omega)
                    have hq_f_60 : zCt f_60 80 x_1.toInt = zCt f_57 80 x_1.toInt := zCt_ge ef_60 (by first | with_reducible assumption | omega) (by first | with_reducible assumption | omega)
                    have hq_f_93 : zCt f_93 80 x_1.toInt = zCt f_60 80 x_1.toInt := zCt_ge ef_93 (by first | with_reducible assumption | omega) (by first | with_reducible assumption | omega)
                    have hq_f_118 : zCt f_118 80 x_1.toInt = zCt f_93 80 x_1.toInt := zCt_ge ef_118 (by first | with_reducible assumption | omega) (by first | with_reducible assumption | omega)
                    have hx1 : r_73 = f_118 (Int32.toNatClampNeg x_72) := by rw [zu_no ef_118 (by first | with_reducible assumption | omega) (by first | with_reducible assumption | omega) (by first | with_reducible assumption | omega)]; exact zu_is ef_93
                    have hcs := zCt_at (base := 80) (p := x_1.toInt) hx1 (by first | with_reducible assumption | omega) (by first | with_reducible assumption | omega)
                    have hpn : (f_122 (Int32.toNatClampNeg 4)).toInt = x_1.toInt + 1 := by omega
                    have hq3 : zCt f_m0_stray 80 (f_m0_people (Int32.toNatClampNeg 4)).toInt = m0_strays.toInt ∧ m0_strays.toInt ≤ 4 := hep_3.resolve_left (fun q9 => q9 hep_1)
                    have hq4 := hq3.2
                    have hs3 : x_119.toInt ≤ 4 := by omega
                    have hQ : ¬ n_m0_104.toInt = 0 ∨ (zCt f_118 80 (f_122 (Int32.toNatClampNeg 4)).toInt = x_119.toInt ∧ x_119.toInt ≤ 4) := Or.inr ⟨by rw [hpn, hcs.1 (by first | with_reducible assumption | omega), hq_f_118, hq_f_93, hq_f_60, hq_f_57, ← hq_pe, hq3.1]; omega, hs3⟩
                    have hF : RR = (n_m0_99, n_m0_100, n_m0_101, n_m0_102, n_m0_103, n_m0_104, n_m0_105, x_119, f_122, g_m0_at0_39, f_118) := hF
                    exact W.vret hx hb hr (fun t ht hW => by rw [← hQe]; exact ⟨⟨(), rfl, trivial, ⟨n_m0_99, n_m0_100, n_m0_101, n_m0_102, n_m0_103, n_m0_104, n_m0_105, x_119, f_122, g_m0_at0_39, f_118, (by first | with_reducible assumption | omega), (by first | with_reducible assumption | omega), (by first | with_reducible assumption | omega), (by first | with_reducible assumption | omega), (by first | with_reducible assumption | omega), b_f_122, b_g_m0_at0_39, b_f_118, (by first | omega | assumption), (by first | omega | assumption), (by assumption), (by first | omega | assumption), (by rw [← hRR, hF]), (by rw [← hRR, hF]), (by rw [← hRR, hF]), (by rw [← hRR, hF]), (by rw [← hRR, hF]), (by rw [← hRR, hF]), (by rw [← hRR, hF]), (by rw [← hRR, hF]), (by rw [← hRR, hF]), (by rw [← hRR, hF]), (by rw [← hRR, hF]), z_ret hP hK hD ht hW [6, 7, 0, 1, 2, 3, 4, 5] [] rfl (by decide) rfl⟩⟩, hS.F ht⟩) hS.2.2 dX10_personLine_260
                  · have ic_71 := zz_neq rfl (show Int32.toInt 0 = 0 from by decide) c_71
                    replace hF := hF.trans (if_neg c_71)
                    refine lv_aload_n hx hb dX10_personLine_195 rfl (lv_at hl 0 rfl) ?_
                    obtain ⟨hPc, hDc, hFc⟩ := z_cut (wc := (zV264 m0 m0_thrown m0_width m0_many m0_cells m0_moved m0_tape m0_taped n_m0_41 n_m0_42 n_m0_43 n_m0_44 n_m0_45 w_m0_12_37 w_m0_13_38 m0_fault m0_faultPlace m0_lines m0_hours m0_courts m0_in m0_gates m0_gate m0_people m0_at0 m0_stray m0_set m0_once m0_truth m0_known m0_isKept m0_strays m0_hostPerson m0_hostCourt m0_outside m0_inside m0_can m0_fewest m0_waysTo m0_then m0_two m0_nextTwo m0_three m0_nextThree m0_shut m0_worth m0_digit m0_codes m0_most m0_bestTry m0_dayCourt m0_dayHour m0_dayNo m0_x m0_tape cA_m0_tape f_m0_tape)) hP hD hS hA [7, 6] rfl (by decide +kernel)
                    have hKc := hK.sub (tys' := [(cA_m0_tape, .byte)]) [0] rfl
                    refine va_callv (va_runV (As := []) (rest := []) ⟨hx, hb, hml, hown, hts⟩ (kf_X10_next l sa dC dI m0 m0_thrown m0_width m0_many m0_cells m0_moved m0_tape m0_taped n_m0_41 n_m0_42 n_m0_43 n_m0_44 n_m0_45 w_m0_12_37 w_m0_13_38 m0_fault m0_faultPlace m0_lines m0_hours m0_courts m0_in m0_gates m0_gate m0_people m0_at0 m0_stray m0_set m0_once m0_truth m0_known m0_isKept m0_strays m0_hostPerson m0_hostCourt m0_outside m0_inside m0_can m0_fewest m0_waysTo m0_then m0_two m0_nextTwo m0_three m0_nextThree m0_shut m0_worth m0_digit m0_codes m0_most m0_bestTry m0_dayCourt m0_dayHour m0_dayNo m0_x cA_m0_tape f_m0_tape b_m0_taped (by first | with_reducible assumption | omega) (by first | with_reducible assumption | omega) (by first | with_reducible assumption | omega) b_w_m0_12_37 b_m0_strays b_m0_hostCourt b_m0_dayCourt b_m0_dayHour (by first | assumption | omega) H.size) (cwV 0 hts (z_gV zw_t7_71 zw_t7_73 zw_s4_9 zw_t1_11 zw_t7_74) rfl rfl rfl (by decide +kernel) (by rw [← hRe]; exact ⟨(Nat.le_of_ble_eq_true rfl), (Nat.le_of_ble_eq_true rfl)⟩)) (z_preV hPc hKc hDc hN hXs hS hFc (q := (RX10, TX10, 53)) (ci := 10) (q0 := 0) rfl rfl) rfl rfl hl.1 rfl (lv_room (Nat.le_of_ble_eq_true rfl)) dX10_personLine_196 (by rw [← hRe]; exact ⟨(Nat.le_of_ble_eq_true rfl), (Nat.le_of_ble_eq_true rfl)⟩)) hS (fun q _ h => hFc q h) hFc (fun u t H1 locs ht hvm hw hB hz1 hk1 hS => ?_)
                    refine hB.elim fun n_m0_129 ze1 => ze1.elim fun n_m0_130 ze2 => ze2.elim fun n_m0_131 ze3 => ze3.elim fun n_m0_132 ze4 => ze4.elim fun n_m0_133 ze5 => ze5.elim fun b_n_m0_129 ze6 => ze6.elim fun b_n_m0_130 ze7 => ze7.elim fun b_n_m0_132 ze8 => ze8.elim fun hf_134 ze9 => ze9.elim fun hf_135 ze10 => ze10.elim fun hf_136 ze11 => ze11.elim fun hf_137 ze12 => ze12.elim fun hf_138 ze13 => ze13.elim fun hf_139 ze14 => ze14.elim fun hf_140 ze15 => ?_
                    clear hB ze1 ze2 ze3 ze4 ze5 ze6 ze7 ze8 ze9 ze10 ze11 ze12 ze13 ze14
                    have hB := ze15
                    clear ze15
                    obtain ⟨hP, hD, hK⟩ := z_after3 (wn := (zV281 m0_hours cA_m0_hours f_m0_hours m0_courts cA_m0_courts f_m0_courts m0_in cA_m0_in f_m0_in m0_people cA_m0_people f_m0_people m0_at0 cA_m0_at0 g_m0_at0_39 m0_stray cA_m0_stray f_60 m0 m0_thrown m0_width m0_many m0_cells m0_moved m0_tape m0_taped n_m0_129 n_m0_130 n_m0_131 n_m0_132 n_m0_133 w_m0_12_37 w_m0_13_38 m0_fault m0_faultPlace m0_lines m0_hours m0_courts m0_in m0_gates m0_gate m0_people m0_at0 m0_stray m0_set m0_once m0_truth m0_known m0_isKept m0_strays m0_hostPerson m0_hostCourt m0_outside m0_inside m0_can m0_fewest m0_waysTo m0_then m0_two m0_nextTwo m0_three m0_nextThree m0_shut m0_worth m0_digit m0_codes m0_most m0_bestTry m0_dayCourt m0_dayHour m0_dayNo m0_x m0_tape cA_m0_tape f_m0_tape)) hB ht hvm hP hD hK [7, 6] [0, 1, 2, 3, 4, 5] rfl 8 rfl (by decide +kernel) rfl (by decide +kernel) hk1 hFc
                    generalize H1 = H at hP hS ⊢
                    have hK : va_K (dC, dI) vwCl [(cA_m0_tape, .byte), (cA_m0_hours, .int), (cA_m0_courts, .int), (cA_m0_in, .int), (cA_m0_people, .int), (cA_m0_at0, .int), (cA_m0_stray, .int)] s := hK
                    replace hF := hF.trans (zL_eq rfl)
                    replace hF := hF.trans (zL_eq hf_136)
                    replace hF := hF.trans (zL_eq hf_137)
                    replace hF := hF.trans (zL_eq hf_138)
                    replace hF := hF.trans (zL_eq hf_139)
                    replace hF := hF.trans (zL_eq hf_140)
                    have hms_hf_135 : zMs (w_m0_12_37.toInt) (n_m0_129.toInt) (n_m0_130.toInt) ≤ zMs (w_m0_12_37.toInt) (n_m0_41.toInt) (n_m0_42.toInt) := zNx.le hf_135 (by first | with_reducible assumption | omega) (by first | with_reducible assumption | omega)
                    refine lv_aload_n hx hb dX10_personLine_199 rfl (lv_at hl 0 rfl) ?_
                    refine va_get (D := (dC, dI)) (ci := 10) (v := .ref m0_stray) (C := RX10) (T := TX10) (N := 53) hx hb hts zl_X10 hown hK hP 6 rfl rfl 24 (by decide) (hts _ zw_t6_124) (fun _ h9 => h9) rfl dX10_personLine_200 ?_
                    refine lv_iconst (v := 2) hx hb dX10_personLine_203 (by decide) ?_
                    refine lv_iload_n hx hb dX10_personLine_204 rfl (lv_at hl 1 rfl) ?_
                    refine lv_imul hx hb dX10_personLine_205 ?_
                    refine lv_topi (fun x_142 ex_142 => ?_)
                    replace hF := hF.trans (zL_eq ex_142)
                    have b_x_142 : x_142.toInt = 2 * x_2.toInt := by rw [ex_142]; exact zi_mul (show Int32.toInt 2 = 2 from by decide) rfl (z_rmc (z_eca b_x_2 b_x_1) (by decide))
                    refine lv_aload_n hx hb dX10_personLine_206 rfl (lv_at hl 0 rfl) ?_
                    refine lv_iconst (v := 1) hx hb dX10_personLine_207 (by decide) ?_
                    refine lv_bipush (v := 99) hx hb dX10_personLine_208 (by decide) ?_
                    obtain ⟨hPc, hDc, hFc⟩ := z_cut (wc := (zV264 m0 m0_thrown m0_width m0_many m0_cells m0_moved m0_tape m0_taped n_m0_129 n_m0_130 n_m0_131 n_m0_132 n_m0_133 w_m0_12_37 w_m0_13_38 m0_fault m0_faultPlace m0_lines m0_hours m0_courts m0_in m0_gates m0_gate m0_people m0_at0 m0_stray m0_set m0_once m0_truth m0_known m0_isKept m0_strays m0_hostPerson m0_hostCourt m0_outside m0_inside m0_can m0_fewest m0_waysTo m0_then m0_two m0_nextTwo m0_three m0_nextThree m0_shut m0_worth m0_digit m0_codes m0_most m0_bestTry m0_dayCourt m0_dayHour m0_dayNo m0_x m0_tape cA_m0_tape f_m0_tape)) hP hD hS hA [6, 7] rfl (by decide +kernel)
                    have hKc := hK.sub (tys' := [(cA_m0_tape, .byte)]) [0] rfl
                    refine va_calli (va_runV (As := [.int 1, .int 99]) (rest := [.int x_142, .ref m0_stray]) ⟨hx, hb, hml, hown, hts⟩ (kf_X10_number l sa dC dI m0 (1) (99) m0_thrown m0_width m0_many m0_cells m0_moved m0_tape m0_taped n_m0_129 n_m0_130 n_m0_131 n_m0_132 n_m0_133 w_m0_12_37 w_m0_13_38 m0_fault m0_faultPlace m0_lines m0_hours m0_courts m0_in m0_gates m0_gate m0_people m0_at0 m0_stray m0_set m0_once m0_truth m0_known m0_isKept m0_strays m0_hostPerson m0_hostCourt m0_outside m0_inside m0_can m0_fewest m0_waysTo m0_then m0_two m0_nextTwo m0_three m0_nextThree m0_shut m0_worth m0_digit m0_codes m0_most m0_bestTry m0_dayCourt m0_dayHour m0_dayNo m0_x cA_m0_tape f_m0_tape (by decide) (by decide) b_m0_taped (by first | with_reducible assumption | omega) (by first | with_reducible assumption | omega) (by first | with_reducible assumption | omega) b_w_m0_12_37 b_m0_strays b_m0_hostCourt b_m0_dayCourt b_m0_dayHour (by first | assumption | omega) H.size) (cwV 2 hts (z_gV zw_t7_110 zw_t7_112 zw_s5_1 zw_t1_11 zw_t7_113) rfl rfl rfl (by decide +kernel) (by rw [← hRe]; exact ⟨(Nat.le_of_ble_eq_true rfl), (Nat.le_of_ble_eq_true rfl)⟩)) (z_preV hPc hKc hDc hN hXs hS hFc (q := (RX10, TX10, 53)) (ci := 10) (q0 := 0) rfl rfl) rfl rfl hl.1 rfl (lv_room (Nat.le_of_ble_eq_true rfl)) dX10_personLine_210 (by rw [← hRe]; exact ⟨(Nat.le_of_ble_eq_true rfl), (Nat.le_of_ble_eq_true rfl)⟩)) hS (fun q _ h => hFc q h) hFc (fun r_143 u t H1 locs ht hvm hw hB hz1 hk1 hS => ?_)
                    obtain ⟨hu, hw⟩ := hw
                    rw [hu] at hB
                    refine hB.elim fun n_m0_144 ze1 => ze1.elim fun n_m0_145 ze2 => ze2.elim fun n_m0_146 ze3 => ze3.elim fun n_m0_147 ze4 => ze4.elim fun n_m0_148 ze5 => ze5.elim fun n_m0_149 ze6 => ze6.elim fun n_m0_150 ze7 => ze7.elim fun b_n_m0_144 ze8 => ze8.elim fun b_n_m0_145 ze9 => ze9.elim fun b_n_m0_147 ze10 => ze10.elim fun b_n_m0_149 ze11 => ze11.elim fun hf_151 ze12 => ze12.elim fun hf_152 ze13 => ze13.elim fun hf_153 ze14 => ze14.elim fun hf_154 ze15 => ze15.elim fun hf_155 ze16 => ze16.elim fun hf_156 ze17 => ze17.elim fun hf_157 ze18 => ze18.elim fun hf_158 ze19 => ze19.elim fun hf_159 ze20 => ze20.elim fun hf_160 ze21 => ze21.elim fun hf_161 ze22 => ?_
                    clear hB ze1 ze2 ze3 ze4 ze5 ze6 ze7 ze8 ze9 ze10 ze11 ze12 ze13 ze14 ze15 ze16 ze17 ze18 ze19 ze20 ze21
                    have hB := ze22
                    clear ze22
                    obtain ⟨hP, hD, hK⟩ := z_after3 (wn := (zV281 m0_hours cA_m0_hours f_m0_hours m0_courts cA_m0_courts f_m0_courts m0_in cA_m0_in f_m0_in m0_people cA_m0_people f_m0_people m0_at0 cA_m0_at0 g_m0_at0_39 m0_stray cA_m0_stray f_60 m0 m0_thrown m0_width m0_many m0_cells m0_moved m0_tape m0_taped n_m0_144 n_m0_145 n_m0_146 n_m0_147 n_m0_148 n_m0_149 n_m0_150 m0_fault m0_faultPlace m0_lines m0_hours m0_courts m0_in m0_gates m0_gate m0_people m0_at0 m0_stray m0_set m0_once m0_truth m0_known m0_isKept m0_strays m0_hostPerson m0_hostCourt m0_outside m0_inside m0_can m0_fewest m0_waysTo m0_then m0_two m0_nextTwo m0_three m0_nextThree m0_shut m0_worth m0_digit m0_codes m0_most m0_bestTry m0_dayCourt m0_dayHour m0_dayNo m0_x m0_tape cA_m0_tape f_m0_tape)) hB ht hvm hP hD hK [6, 7] [0, 1, 2, 3, 4, 5] rfl 8 rfl (by decide +kernel) rfl (by decide +kernel) hk1 hFc
                    generalize H1 = H at hP hS ⊢
                    have hK : va_K (dC, dI) vwCl [(cA_m0_tape, .byte), (cA_m0_hours, .int), (cA_m0_courts, .int), (cA_m0_in, .int), (cA_m0_people, .int), (cA_m0_at0, .int), (cA_m0_stray, .int)] s := hK
                    have b_r_143 : 0 ≤ r_143.toInt ∧ r_143.toInt ≤ 99 := hw.1
                    have s_r_143 := hw.2.1
                    have sf_r_143 := hw.2.2
                    have za_1 : Int32.toInt 1 = 1 := by decide
                    have za_99 : Int32.toInt 99 = 99 := by decide
                    replace hF := hF.trans (zL_eq rfl)
                    replace hF := hF.trans (zL_eq sf_r_143)
                    replace hF := hF.trans (zL_eq hf_155)
                    replace hF := hF.trans (zL_eq hf_156)
                    replace hF := hF.trans (zL_eq hf_157)
                    replace hF := hF.trans (zL_eq hf_158)
                    replace hF := hF.trans (zL_eq hf_159)
                    replace hF := hF.trans (zL_eq hf_160)
                    replace hF := hF.trans (zL_eq hf_161)
                    refine va_iast hx hb hK hP hD hS 5 6 rfl rfl (zi_in rfl (by first | with_reducible assumption | omega)) dX10_personLine_213 (fun H locs hP hD hS => ?_)
                    obtain ⟨f_163, ef_163⟩ : ∃ g : Nat → Int32, g = upd f_60 (Int32.toNatClampNeg x_142) r_143 := ⟨_, rfl⟩
                    replace hF := hF.trans (zL_eq ef_163)
                    have kx_f_163 := zi_clamp (x := x_142) rfl (z_r0 (z_emc (c := 2) b_x_142 (z_eca b_x_2 b_x_1)) (by decide))
                    have b_f_163 : ∀ j : Nat, 0 ≤ (f_163 j).toInt ∧ (f_163 j).toInt ≤ 99 ∧ (j % 2 = 1 → (f_163 j).toInt ≤ 9) := by rw [ef_163]; exact zi_updP b_f_60 rfl (by first | with_reducible assumption | omega)
                    have hP : va_P (dC, dI) vwCl (zV281 m0_hours cA_m0_hours f_m0_hours m0_courts cA_m0_courts f_m0_courts m0_in cA_m0_in f_m0_in m0_people cA_m0_people f_m0_people m0_at0 cA_m0_at0 g_m0_at0_39 m0_stray cA_m0_stray (upd f_60 (Int32.toNatClampNeg x_142) r_143) m0 m0_thrown m0_width m0_many m0_cells m0_moved m0_tape m0_taped n_m0_144 n_m0_145 n_m0_146 n_m0_147 n_m0_148 n_m0_149 n_m0_150 m0_fault m0_faultPlace m0_lines m0_hours m0_courts m0_in m0_gates m0_gate m0_people m0_at0 m0_stray m0_set m0_once m0_truth m0_known m0_isKept m0_strays m0_hostPerson m0_hostCourt m0_outside m0_inside m0_can m0_fewest m0_waysTo m0_then m0_two m0_nextTwo m0_three m0_nextThree m0_shut m0_worth m0_digit m0_codes m0_most m0_bestTry m0_dayCourt m0_dayHour m0_dayNo m0_x m0_tape cA_m0_tape f_m0_tape) H := hP
                    have hD : va_D A (zV281 m0_hours cA_m0_hours f_m0_hours m0_courts cA_m0_courts f_m0_courts m0_in cA_m0_in f_m0_in m0_people cA_m0_people f_m0_people m0_at0 cA_m0_at0 g_m0_at0_39 m0_stray cA_m0_stray (upd f_60 (Int32.toNatClampNeg x_142) r_143) m0 m0_thrown m0_width m0_many m0_cells m0_moved m0_tape m0_taped n_m0_144 n_m0_145 n_m0_146 n_m0_147 n_m0_148 n_m0_149 n_m0_150 m0_fault m0_faultPlace m0_lines m0_hours m0_courts m0_in m0_gates m0_gate m0_people m0_at0 m0_stray m0_set m0_once m0_truth m0_known m0_isKept m0_strays m0_hostPerson m0_hostCourt m0_outside m0_inside m0_can m0_fewest m0_waysTo m0_then m0_two m0_nextTwo m0_three m0_nextThree m0_shut m0_worth m0_digit m0_codes m0_most m0_bestTry m0_dayCourt m0_dayHour m0_dayNo m0_x m0_tape cA_m0_tape f_m0_tape) := hD
                    rw [← ef_163] at hP hD
                    refine lv_aload_n hx hb dX10_personLine_214 rfl (lv_at hl 0 rfl) ?_
                    refine va_get (D := (dC, dI)) (ci := 10) (v := .ref m0_stray) (C := RX10) (T := TX10) (N := 53) hx hb hts zl_X10 hown hK hP 6 rfl rfl 24 (by decide) (hts _ zw_t6_124) (fun _ h9 => h9) rfl dX10_personLine_215 ?_
                    refine lv_iconst (v := 2) hx hb dX10_personLine_218 (by decide) ?_
                    refine lv_iload_n hx hb dX10_personLine_219 rfl (lv_at hl 1 rfl) ?_
                    refine lv_imul hx hb dX10_personLine_220 ?_
                    refine lv_topi (fun x_164 ex_164 => ?_)
                    replace hF := hF.trans (zL_eq ex_164)
                    have b_x_164 : x_164.toInt = 2 * x_2.toInt := by rw [ex_164]; exact zi_mul (show Int32.toInt 2 = 2 from by decide) rfl (z_rmc (z_eca b_x_2 b_x_1) (by decide))
                    refine lv_iconst (v := 1) hx hb dX10_personLine_221 (by decide) ?_
                    refine lv_iadd hx hb dX10_personLine_222 ?_
                    refine lv_topi (fun x_165 ex_165 => ?_)
                    replace hF := hF.trans (zL_eq ex_165)
                    have b_x_165 : x_165.toInt = x_164.toInt + 1 := by rw [ex_165]; exact zi_add rfl (show Int32.toInt 1 = 1 from by decide) (z_rac (z_emc (c := 2) b_x_164 (z_eca b_x_2 b_x_1)) (by decide))
                    refine lv_aload_n hx hb dX10_personLine_223 rfl (lv_at hl 0 rfl) ?_
                    refine lv_ldc2 (v := 555) hx hb hown (hts _ zw_t7_133) dX10_personLine_224 ?_
                    refine lv_iconst (v := 0) hx hb dX10_personLine_227 (by decide) ?_
                    refine lv_aload_n hx hb dX10_personLine_228 rfl (lv_at hl 0 rfl) ?_
                    refine va_get (D := (dC, dI)) (ci := 10) (v := .ref m0_courts) (C := RX10) (T := TX10) (N := 53) hx hb hts zl_X10 hown hK hP 6 rfl rfl 18 (by decide) (hts _ zw_t6_118) (fun _ h9 => h9) rfl dX10_personLine_229 ?_
                    refine lv_iconst (v := 4) hx hb dX10_personLine_232 (by decide) ?_
                    refine va_iald hx hb hK hP 1 2 rfl rfl (zi_in (show Int32.toInt 4 = 4 from by decide) (by decide)) dX10_personLine_233 ?_
                    refine lv_topi (fun x_166 ex_166 => ?_)
                    replace hF := hF.trans (zL_eq ex_166)
                    obtain rfl : x_3 = x_166 := ex_3.trans ex_166.symm
                    refine lv_iconst (v := 1) hx hb dX10_personLine_234 (by decide) ?_
                    refine lv_isub hx hb dX10_personLine_235 ?_
                    refine lv_topi (fun x_167 ex_167 => ?_)
                    replace hF := hF.trans (zL_eq ex_167)
                    have b_x_167 : x_167.toInt = x_3.toInt - 1 := by rw [ex_167]; exact zi_sub rfl (show Int32.toInt 1 = 1 from by decide) (z_rsc b_x_3 (by decide))
                    obtain ⟨hPc, hDc, hFc⟩ := z_cut (wc := (zV264 m0 m0_thrown m0_width m0_many m0_cells m0_moved m0_tape m0_taped n_m0_144 n_m0_145 n_m0_146 n_m0_147 n_m0_148 n_m0_149 n_m0_150 m0_fault m0_faultPlace m0_lines m0_hours m0_courts m0_in m0_gates m0_gate m0_people m0_at0 m0_stray m0_set m0_once m0_truth m0_known m0_isKept m0_strays m0_hostPerson m0_hostCourt m0_outside m0_inside m0_can m0_fewest m0_waysTo m0_then m0_two m0_nextTwo m0_three m0_nextThree m0_shut m0_worth m0_digit m0_codes m0_most m0_bestTry m0_dayCourt m0_dayHour m0_dayNo m0_x m0_tape cA_m0_tape f_m0_tape)) hP hD hS hA [6, 7] rfl (by decide +kernel)
                    have hKc := hK.sub (tys' := [(cA_m0_tape, .byte)]) [0] rfl
                    refine va_calli (va_runV (As := [.long 555, .int 0, .int x_167]) (rest := [.int x_165, .ref m0_stray]) ⟨hx, hb, hml, hown, hts⟩ (kf_X10_number_ l sa dC dI m0 (555) (0) x_167 m0_thrown m0_width m0_many m0_cells m0_moved m0_tape m0_taped n_m0_144 n_m0_145 n_m0_146 n_m0_147 n_m0_148 n_m0_149 n_m0_150 m0_fault m0_faultPlace m0_lines m0_hours m0_courts m0_in m0_gates m0_gate m0_people m0_at0 m0_stray m0_set m0_once m0_truth m0_known m0_isKept m0_strays m0_hostPerson m0_hostCourt m0_outside m0_inside m0_can m0_fewest m0_waysTo m0_then m0_two m0_nextTwo m0_three m0_nextThree m0_shut m0_worth m0_digit m0_codes m0_most m0_bestTry m0_dayCourt m0_dayHour m0_dayNo m0_x cA_m0_tape f_m0_tape (by decide) (by first | with_reducible assumption | omega) b_m0_taped (by first | with_reducible assumption | omega) (by first | with_reducible assumption | omega) (by first | with_reducible assumption | omega) (by first | with_reducible assumption | omega) b_m0_strays b_m0_hostCourt b_m0_dayCourt b_m0_dayHour (by first | assumption | omega) H.size) (cwV 3 hts (z_gV zw_t7_106 zw_t7_108 zw_s5_0 zw_t1_11 zw_t7_109) rfl rfl rfl (by decide +kernel) (by rw [← hRe]; exact ⟨(Nat.le_of_ble_eq_true rfl), (Nat.le_of_ble_eq_true rfl)⟩)) (z_preV hPc hKc hDc hN hXs hS hFc (q := (RX10, TX10, 53)) (ci := 10) (q0 := 0) rfl rfl) rfl rfl hl.1 rfl (lv_room (Nat.le_of_ble_eq_true rfl)) dX10_personLine_236 (by rw [← hRe]; exact ⟨(Nat.le_of_ble_eq_true rfl), (Nat.le_of_ble_eq_true rfl)⟩)) hS (fun q _ h => hFc q h) hFc (fun r_168 u t H1 locs ht hvm hw hB hz1 hk1 hS => ?_)
                    obtain ⟨hu, hw⟩ := hw
                    rw [hu] at hB
                    refine hB.elim fun n_m0_169 ze1 => ze1.elim fun n_m0_170 ze2 => ze2.elim fun n_m0_171 ze3 => ze3.elim fun n_m0_172 ze4 => ze4.elim fun n_m0_173 ze5 => ze5.elim fun n_m0_174 ze6 => ze6.elim fun n_m0_175 ze7 => ze7.elim fun b_n_m0_169 ze8 => ze8.elim fun b_n_m0_170 ze9 => ze9.elim fun b_n_m0_172 ze10 => ze10.elim fun b_n_m0_174 ze11 => ze11.elim fun hf_176 ze12 => ze12.elim fun hf_177 ze13 => ze13.elim fun hf_178 ze14 => ze14.elim fun hf_179 ze15 => ze15.elim fun hf_180 ze16 => ze16.elim fun hf_181 ze17 => ze17.elim fun hf_182 ze18 => ze18.elim fun hf_183 ze19 => ze19.elim fun hf_184 ze20 => ze20.elim fun hf_185 ze21 => ze21.elim fun hf_186 ze22 => ?_
                    clear hB ze1 ze2 ze3 ze4 ze5 ze6 ze7 ze8 ze9 ze10 ze11 ze12 ze13 ze14 ze15 ze16 ze17 ze18 ze19 ze20 ze21
                    have hB := ze22
                    clear ze22
                    obtain ⟨hP, hD, hK⟩ := z_after3 (wn := (zV281 m0_hours cA_m0_hours f_m0_hours m0_courts cA_m0_courts f_m0_courts m0_in cA_m0_in f_m0_in m0_people cA_m0_people f_m0_people m0_at0 cA_m0_at0 g_m0_at0_39 m0_stray cA_m0_stray f_163 m0 m0_thrown m0_width m0_many m0_cells m0_moved m0_tape m0_taped n_m0_169 n_m0_170 n_m0_171 n_m0_172 n_m0_173 n_m0_174 n_m0_175 m0_fault m0_faultPlace m0_lines m0_hours m0_courts m0_in m0_gates m0_gate m0_people m0_at0 m0_stray m0_set m0_once m0_truth m0_known m0_isKept m0_strays m0_hostPerson m0_hostCourt m0_outside m0_inside m0_can m0_fewest m0_waysTo m0_then m0_two m0_nextTwo m0_three m0_nextThree m0_shut m0_worth m0_digit m0_codes m0_most m0_bestTry m0_dayCourt m0_dayHour m0_dayNo m0_x m0_tape cA_m0_tape f_m0_tape)) hB ht hvm hP hD hK [6, 7] [0, 1, 2, 3, 4, 5] rfl 8 rfl (by decide +kernel) rfl (by decide +kernel) hk1 hFc
                    generalize H1 = H at hP hS ⊢
                    have hK : va_K (dC, dI) vwCl [(cA_m0_tape, .byte), (cA_m0_hours, .int), (cA_m0_courts, .int), (cA_m0_in, .int), (cA_m0_people, .int), (cA_m0_at0, .int), (cA_m0_stray, .int)] s := hK
                    have b_r_168 : 0 ≤ r_168.toInt ∧ r_168.toInt ≤ 99 := hw.1
                    have s_r_168 := hw.2.1
                    have sf_r_168 := hw.2.2
                    have zal_555 : Int64.toInt 555 = 555 := by decide
                    have za_0 : Int32.toInt 0 = 0 := by decide
                    replace hF := hF.trans (zL_eq rfl)
                    replace hF := hF.trans (zL_eq sf_r_168)
                    replace hF := hF.trans (zL_eq hf_180)
                    replace hF := hF.trans (zL_eq hf_181)
                    replace hF := hF.trans (zL_eq hf_182)
                    replace hF := hF.trans (zL_eq hf_183)
                    replace hF := hF.trans (zL_eq hf_184)
                    replace hF := hF.trans (zL_eq hf_185)
                    replace hF := hF.trans (zL_eq hf_186)
                    have hmz : n_m0_149.toInt = 0 ∨ ¬ n_m0_174.toInt = 0 := hf_179
                    refine va_iast hx hb hK hP hD hS 5 6 rfl rfl (zi_in rfl (by first | with_reducible assumption | omega)) dX10_personLine_239 (fun H locs hP hD hS => ?_)
                    obtain ⟨f_188, ef_188⟩ : ∃ g : Nat → Int32, g = upd f_163 (Int32.toNatClampNeg x_165) r_168 := ⟨_, rfl⟩
                    replace hF := hF.trans (zL_eq ef_188)
                    have kx_f_188 := zi_clamp (x := x_165) rfl (z_r0 (z_eac b_x_165 (z_emc (c := 2) b_x_164 (z_eca b_x_2 b_x_1))) (by decide))
                    have b_f_188 : ∀ j : Nat, 0 ≤ (f_188 j).toInt ∧ (f_188 j).toInt ≤ 99 ∧ (j % 2 = 1 → (f_188 j).toInt ≤ 9) := by rw [ef_188]; exact zi_updP b_f_163 rfl (by first | with_reducible assumption | omega)
                    have hP : va_P (dC, dI) vwCl (zV281 m0_hours cA_m0_hours f_m0_hours m0_courts cA_m0_courts f_m0_courts m0_in cA_m0_in f_m0_in m0_people cA_m0_people f_m0_people m0_at0 cA_m0_at0 g_m0_at0_39 m0_stray cA_m0_stray (upd f_163 (Int32.toNatClampNeg x_165) r_168) m0 m0_thrown m0_width m0_many m0_cells m0_moved m0_tape m0_taped n_m0_169 n_m0_170 n_m0_171 n_m0_172 n_m0_173 n_m0_174 n_m0_175 m0_fault m0_faultPlace m0_lines m0_hours m0_courts m0_in m0_gates m0_gate m0_people m0_at0 m0_stray m0_set m0_once m0_truth m0_known m0_isKept m0_strays m0_hostPerson m0_hostCourt m0_outside m0_inside m0_can m0_fewest m0_waysTo m0_then m0_two m0_nextTwo m0_three m0_nextThree m0_shut m0_worth m0_digit m0_codes m0_most m0_bestTry m0_dayCourt m0_dayHour m0_dayNo m0_x m0_tape cA_m0_tape f_m0_tape) H := hP
                    have hD : va_D A (zV281 m0_hours cA_m0_hours f_m0_hours m0_courts cA_m0_courts f_m0_courts m0_in cA_m0_in f_m0_in m0_people cA_m0_people f_m0_people m0_at0 cA_m0_at0 g_m0_at0_39 m0_stray cA_m0_stray (upd f_163 (Int32.toNatClampNeg x_165) r_168) m0 m0_thrown m0_width m0_many m0_cells m0_moved m0_tape m0_taped n_m0_169 n_m0_170 n_m0_171 n_m0_172 n_m0_173 n_m0_174 n_m0_175 m0_fault m0_faultPlace m0_lines m0_hours m0_courts m0_in m0_gates m0_gate m0_people m0_at0 m0_stray m0_set m0_once m0_truth m0_known m0_isKept m0_strays m0_hostPerson m0_hostCourt m0_outside m0_inside m0_can m0_fewest m0_waysTo m0_then m0_two m0_nextTwo m0_three m0_nextThree m0_shut m0_worth m0_digit m0_codes m0_most m0_bestTry m0_dayCourt m0_dayHour m0_dayNo m0_x m0_tape cA_m0_tape f_m0_tape) := hD
                    rw [← ef_188] at hP hD
                    refine lv_aload_n hx hb dX10_personLine_240 rfl (lv_at hl 0 rfl) ?_
                    refine lv_dup hx hb dX10_personLine_241 rfl ?_
                    refine va_get (D := (dC, dI)) (ci := 10) (v := .int m0_strays) (C := RX10) (T := TX10) (N := 53) hx hb hts zl_X10 hown hK hP 6 rfl rfl 30 (by decide) (hts _ zw_t6_130) (fun _ h9 => h9) rfl dX10_personLine_242 ?_
                    refine lv_iconst (v := 1) hx hb dX10_personLine_245 (by decide) ?_
                    refine lv_iadd hx hb dX10_personLine_246 ?_
                    refine lv_topi (fun x_189 ex_189 => ?_)
                    replace hF := hF.trans (zL_eq ex_189)
                    have b_x_189 : x_189.toInt = m0_strays.toInt + 1 := by rw [ex_189]; exact zi_add rfl (show Int32.toInt 1 = 1 from by decide) (z_rac b_m0_strays (by decide))
                    refine va_put (D := (dC, dI)) (ci := 10) (v := .int x_189) (ty := .int) (C := RX10) (T := TX10) (N := 53) hx hb hts zl_X10 tyX10 tyX10_ok nmX10 hown hK hP hD hS 6 rfl rfl 30 (by decide) (hts _ zw_t6_130) (fun _ h9 => h9) rfl (by decide +kernel) rfl rfl (Nat.le_of_ble_eq_true rfl) dX10_personLine_247 (fun H locs hP hD hS => ?_)
                    have hP : va_P (dC, dI) vwCl (zV281 m0_hours cA_m0_hours f_m0_hours m0_courts cA_m0_courts f_m0_courts m0_in cA_m0_in f_m0_in m0_people cA_m0_people f_m0_people m0_at0 cA_m0_at0 g_m0_at0_39 m0_stray cA_m0_stray f_188 m0 m0_thrown m0_width m0_many m0_cells m0_moved m0_tape m0_taped n_m0_169 n_m0_170 n_m0_171 n_m0_172 n_m0_173 n_m0_174 n_m0_175 m0_fault m0_faultPlace m0_lines m0_hours m0_courts m0_in m0_gates m0_gate m0_people m0_at0 m0_stray m0_set m0_once m0_truth m0_known m0_isKept x_189 m0_hostPerson m0_hostCourt m0_outside m0_inside m0_can m0_fewest m0_waysTo m0_then m0_two m0_nextTwo m0_three m0_nextThree m0_shut m0_worth m0_digit m0_codes m0_most m0_bestTry m0_dayCourt m0_dayHour m0_dayNo m0_x m0_tape cA_m0_tape f_m0_tape) H := hP
                    have hD : va_D A (zV281 m0_hours cA_m0_hours f_m0_hours m0_courts cA_m0_courts f_m0_courts m0_in cA_m0_in f_m0_in m0_people cA_m0_people f_m0_people m0_at0 cA_m0_at0 g_m0_at0_39 m0_stray cA_m0_stray f_188 m0 m0_thrown m0_width m0_many m0_cells m0_moved m0_tape m0_taped n_m0_169 n_m0_170 n_m0_171 n_m0_172 n_m0_173 n_m0_174 n_m0_175 m0_fault m0_faultPlace m0_lines m0_hours m0_courts m0_in m0_gates m0_gate m0_people m0_at0 m0_stray m0_set m0_once m0_truth m0_known m0_isKept x_189 m0_hostPerson m0_hostCourt m0_outside m0_inside m0_can m0_fewest m0_waysTo m0_then m0_two m0_nextTwo m0_three m0_nextThree m0_shut m0_worth m0_digit m0_codes m0_most m0_bestTry m0_dayCourt m0_dayHour m0_dayNo m0_x m0_tape cA_m0_tape f_m0_tape) := hD
                    refine lv_aload_n hx hb dX10_personLine_250 rfl (lv_at hl 0 rfl) ?_
                    refine va_get (D := (dC, dI)) (ci := 10) (v := .ref m0_people) (C := RX10) (T := TX10) (N := 53) hx hb hts zl_X10 hown hK hP 6 rfl rfl 22 (by decide) (hts _ zw_t6_122) (fun _ h9 => h9) rfl dX10_personLine_251 ?_
                    refine lv_iconst (v := 4) hx hb dX10_personLine_254 (by decide) ?_
                    refine lv_dup2_11 hx hb dX10_personLine_255 rfl rfl ?_
                    refine va_iald hx hb hK hP 3 4 rfl rfl (zi_in (show Int32.toInt 4 = 4 from by decide) (by decide)) dX10_personLine_256 ?_
                    refine lv_topi (fun x_190 ex_190 => ?_)
                    replace hF := hF.trans (zL_eq ex_190)
                    obtain rfl : x_1 = x_190 := ex_1.trans ex_190.symm
                    refine lv_iconst (v := 1) hx hb dX10_personLine_257 (by decide) ?_
                    refine lv_iadd hx hb dX10_personLine_258 ?_
                    refine lv_topi (fun x_191 ex_191 => ?_)
                    replace hF := hF.trans (zL_eq ex_191)
                    have b_x_191 : x_191.toInt = x_1.toInt + 1 := by rw [ex_191]; exact zi_add rfl (show Int32.toInt 1 = 1 from by decide) (z_rac b_x_1 (by decide))
                    refine va_iast hx hb hK hP hD hS 3 4 rfl rfl (zi_in (show Int32.toInt 4 = 4 from by decide) (by decide)) dX10_personLine_259 (fun H locs hP hD hS => ?_)
                    obtain ⟨f_192, ef_192⟩ : ∃ g : Nat → Int32, g = upd f_m0_people (Int32.toNatClampNeg 4) x_191 := ⟨_, rfl⟩
                    replace hF := hF.trans (zL_eq ef_192)
                    have u_f_192 : (f_192 (Int32.toNatClampNeg 4)).toInt = x_191.toInt := by rw [ef_192, pk_us]
                    have b_f_192 : ∀ j : Nat, 0 ≤ (f_192 j).toInt ∧ (f_192 j).toInt ≤ 10 := by rw [ef_192]; exact zi_upd b_f_m0_people rfl (by first | with_reducible assumption | omega)
                    have hP : va_P (dC, dI) vwCl (zV281 m0_hours cA_m0_hours f_m0_hours m0_courts cA_m0_courts f_m0_courts m0_in cA_m0_in f_m0_in m0_people cA_m0_people (upd f_m0_people (Int32.toNatClampNeg 4) x_191) m0_at0 cA_m0_at0 g_m0_at0_39 m0_stray cA_m0_stray f_188 m0 m0_thrown m0_width m0_many m0_cells m0_moved m0_tape m0_taped n_m0_169 n_m0_170 n_m0_171 n_m0_172 n_m0_173 n_m0_174 n_m0_175 m0_fault m0_faultPlace m0_lines m0_hours m0_courts m0_in m0_gates m0_gate m0_people m0_at0 m0_stray m0_set m0_once m0_truth m0_known m0_isKept x_189 m0_hostPerson m0_hostCourt m0_outside m0_inside m0_can m0_fewest m0_waysTo m0_then m0_two m0_nextTwo m0_three m0_nextThree m0_shut m0_worth m0_digit m0_codes m0_most m0_bestTry m0_dayCourt m0_dayHour m0_dayNo m0_x m0_tape cA_m0_tape f_m0_tape) H := hP
                    have hD : va_D A (zV281 m0_hours cA_m0_hours f_m0_hours m0_courts cA_m0_courts f_m0_courts m0_in cA_m0_in f_m0_in m0_people cA_m0_people (upd f_m0_people (Int32.toNatClampNeg 4) x_191) m0_at0 cA_m0_at0 g_m0_at0_39 m0_stray cA_m0_stray f_188 m0 m0_thrown m0_width m0_many m0_cells m0_moved m0_tape m0_taped n_m0_169 n_m0_170 n_m0_171 n_m0_172 n_m0_173 n_m0_174 n_m0_175 m0_fault m0_faultPlace m0_lines m0_hours m0_courts m0_in m0_gates m0_gate m0_people m0_at0 m0_stray m0_set m0_once m0_truth m0_known m0_isKept x_189 m0_hostPerson m0_hostCourt m0_outside m0_inside m0_can m0_fewest m0_waysTo m0_then m0_two m0_nextTwo m0_three m0_nextThree m0_shut m0_worth m0_digit m0_codes m0_most m0_bestTry m0_dayCourt m0_dayHour m0_dayNo m0_x m0_tape cA_m0_tape f_m0_tape) := hD
                    rw [← ef_192] at hP hD
                    have zi_4 : Int32.toInt 4 = 4 := by decide
                    have hmd_193 : zMd f_m0_in f_m0_courts f_m0_hours f_192 f_m0_stray := zMd.setP (by assumption) ef_192 (by first | with_reducible assumption | omega)
                    have hmd_194 : zMd f_m0_in f_m0_courts f_m0_hours f_192 f_57 := zMd.setS (by assumption) ef_57 (by first | with_reducible assumption | omega) b_f_192
                    have hmd_195 : zMd f_m0_in f_m0_courts f_m0_hours f_192 f_60 := zMd.setS (by assumption) ef_60 (by first | with_reducible assumption | omega) b_f_192
                    have hmd_196 : zMd f_m0_in f_m0_courts f_m0_hours f_192 f_163 := zMd.setS (by assumption) ef_163 (by first | with_reducible assumption | omega) b_f_192
                    have hmd_197 : zMd f_m0_in f_m0_courts f_m0_hours f_192 f_188 := zMd.setS (by assumption) ef_188 (by first | with_reducible assumption | omega) b_f_192
                    have hq_pe : zCt f_m0_stray 80 (f_m0_people (Int32.toNatClampNeg 4)).toInt = zCt f_m0_stray 80 x_1.toInt := by rw [t_x_1]
                    have hq_f_57 : zCt f_57 80 x_1.toInt = zCt f_m0_stray 80 x_1.toInt := zCt_ge ef_57 (by first | with_reducible assumption | omega) (by first | with_reducible assumption | omega)
                    have hq_f_60 : zCt f_60 80 x_1.toInt = zCt f_57 80 x_1.toInt := zCt_ge ef_60 (by first | with_reducible assumption | omega) (by first | with_reducible assumption | omega)
                    have hq_f_163 : zCt f_163 80 x_1.toInt = zCt f_60 80 x_1.toInt := zCt_ge ef_163 (by first | with_reducible assumption | omega) (by first | with_reducible assumption | omega)
                    have hq_f_188 : zCt f_188 80 x_1.toInt = zCt f_163 80 x_1.toInt := zCt_ge ef_188 (by first | with_reducible assumption | omega) (by first | with_reducible assumption | omega)
                    have hx1 : r_143 = f_188 (Int32.toNatClampNeg x_142) := by rw [zu_no ef_188 (by first | with_reducible assumption | omega) (by first | with_reducible assumption | omega) (by first | with_reducible assumption | omega)]; exact zu_is ef_163
                    have hcs := zCt_at (base := 80) (p := x_1.toInt) hx1 (by first | with_reducible assumption | omega) (by first | with_reducible assumption | omega)
                    have hpn : (f_192 (Int32.toNatClampNeg 4)).toInt = x_1.toInt + 1 := by omega
                    have hq3 : zCt f_m0_stray 80 (f_m0_people (Int32.toNatClampNeg 4)).toInt = m0_strays.toInt ∧ m0_strays.toInt ≤ 4 := hep_3.resolve_left (fun q9 => q9 hep_1)
                    have hq4 := hq3.2
                    have hs3 : x_189.toInt ≤ 4 := by omega
                    have hQ : ¬ n_m0_174.toInt = 0 ∨ (zCt f_188 80 (f_192 (Int32.toNatClampNeg 4)).toInt = x_189.toInt ∧ x_189.toInt ≤ 4) := Or.inr ⟨by rw [hpn, hcs.1 (by first | with_reducible assumption | omega), hq_f_188, hq_f_163, hq_f_60, hq_f_57, ← hq_pe, hq3.1]; omega, hs3⟩
                    have hF : RR = (n_m0_169, n_m0_170, n_m0_171, n_m0_172, n_m0_173, n_m0_174, n_m0_175, x_189, f_192, g_m0_at0_39, f_188) := hF
                    exact W.vret hx hb hr (fun t ht hW => by rw [← hQe]; exact ⟨⟨(), rfl, trivial, ⟨n_m0_169, n_m0_170, n_m0_171, n_m0_172, n_m0_173, n_m0_174, n_m0_175, x_189, f_192, g_m0_at0_39, f_188, (by first | with_reducible assumption | omega), (by first | with_reducible assumption | omega), (by first | with_reducible assumption | omega), (by first | with_reducible assumption | omega), (by first | with_reducible assumption | omega), b_f_192, b_g_m0_at0_39, b_f_188, (by first | omega | assumption), (by first | omega | assumption), (by assumption), (by first | omega | assumption), (by rw [← hRR, hF]), (by rw [← hRR, hF]), (by rw [← hRR, hF]), (by rw [← hRR, hF]), (by rw [← hRR, hF]), (by rw [← hRR, hF]), (by rw [← hRR, hF]), (by rw [← hRR, hF]), (by rw [← hRR, hF]), (by rw [← hRR, hF]), (by rw [← hRR, hF]), z_ret hP hK hD ht hW [6, 7, 0, 1, 2, 3, 4, 5] [] rfl (by decide) rfl⟩⟩, hS.F ht⟩) hS.2.2 dX10_personLine_260
                · have ic_69 := zz_nne rfl (show Int32.toInt 4 = 4 from by decide) c_69
                  replace hF := hF.trans (if_pos c_69)
                  refine lv_aload_n hx hb dX10_personLine_183 rfl (lv_at hl 0 rfl) ?_
                  refine lv_iconst (v := 2) hx hb dX10_personLine_184 (by decide) ?_
                  obtain ⟨hPc, hDc, hFc⟩ := z_cut (wc := (zV84 m0 m0_thrown m0_width m0_many m0_cells m0_moved m0_tape m0_taped n_m0_41 n_m0_42 n_m0_43 n_m0_44 n_m0_45 w_m0_12_37 w_m0_13_38 m0_fault m0_faultPlace m0_lines m0_hours m0_courts m0_in m0_gates m0_gate m0_people m0_at0 m0_stray m0_set m0_once m0_truth m0_known m0_isKept m0_strays m0_hostPerson m0_hostCourt m0_outside m0_inside m0_can m0_fewest m0_waysTo m0_then m0_two m0_nextTwo m0_three m0_nextThree m0_shut m0_worth m0_digit m0_codes m0_most m0_bestTry m0_dayCourt m0_dayHour m0_dayNo m0_x)) hP hD hS hA [7] rfl (by decide +kernel)
                  have hKc := hK.sub (tys' := []) [] rfl
                  refine va_callv (va_runV (As := [.int 2]) (rest := []) ⟨hx, hb, hml, hown, hts⟩ (kf_X10_fails_v1 l sa dC dI m0 (2) m0_thrown m0_width m0_many m0_cells m0_moved m0_tape m0_taped n_m0_41 n_m0_42 n_m0_43 n_m0_44 n_m0_45 w_m0_12_37 w_m0_13_38 m0_fault m0_faultPlace m0_lines m0_hours m0_courts m0_in m0_gates m0_gate m0_people m0_at0 m0_stray m0_set m0_once m0_truth m0_known m0_isKept m0_strays m0_hostPerson m0_hostCourt m0_outside m0_inside m0_can m0_fewest m0_waysTo m0_then m0_two m0_nextTwo m0_three m0_nextThree m0_shut m0_worth m0_digit m0_codes m0_most m0_bestTry m0_dayCourt m0_dayHour m0_dayNo m0_x (by decide) b_m0_taped (by first | with_reducible assumption | omega) (by first | with_reducible assumption | omega) (by first | with_reducible assumption | omega) b_w_m0_12_37 b_m0_strays b_m0_hostCourt b_m0_dayCourt b_m0_dayHour H.size) (cwV 1 hts (z_gV zw_t7_101 zw_t7_103 zw_s4_15 zw_t1_11 zw_t7_104) rfl rfl rfl (by decide +kernel) (by rw [← hRe]; exact ⟨(Nat.le_of_ble_eq_true rfl), (Nat.le_of_ble_eq_true rfl)⟩)) (z_preV hPc hKc hDc hN hXs hS hFc (q := (RX10, TX10, 53)) (ci := 10) (q0 := 0) rfl rfl) rfl rfl hl.1 rfl (lv_room (Nat.le_of_ble_eq_true rfl)) dX10_personLine_185 (by rw [← hRe]; exact ⟨(Nat.le_of_ble_eq_true rfl), (Nat.le_of_ble_eq_true rfl)⟩)) hS (fun q _ h => hFc q h) hFc (fun u t H1 locs ht hvm hw hB hz1 hk1 hS => ?_)
                  refine hB.elim fun n_m0_199 ze1 => ze1.elim fun n_m0_200 ze2 => ze2.elim fun b_n_m0_199 ze3 => ze3.elim fun hf_201 ze4 => ze4.elim fun hf_202 ze5 => ze5.elim fun hf_203 ze6 => ze6.elim fun hf_204 ze7 => ?_
                  clear hB ze1 ze2 ze3 ze4 ze5 ze6
                  have hB := ze7
                  clear ze7
                  obtain ⟨hP, hD, hK⟩ := z_after3 (wn := (zV282 m0_hours cA_m0_hours f_m0_hours m0_courts cA_m0_courts f_m0_courts m0_in cA_m0_in f_m0_in m0_people cA_m0_people f_m0_people m0_at0 cA_m0_at0 g_m0_at0_39 m0_stray cA_m0_stray f_60 m0_tape cA_m0_tape f_m0_tape m0 m0_thrown m0_width m0_many m0_cells m0_moved m0_tape m0_taped n_m0_41 n_m0_42 n_m0_43 n_m0_44 n_m0_45 n_m0_199 n_m0_200 m0_fault m0_faultPlace m0_lines m0_hours m0_courts m0_in m0_gates m0_gate m0_people m0_at0 m0_stray m0_set m0_once m0_truth m0_known m0_isKept m0_strays m0_hostPerson m0_hostCourt m0_outside m0_inside m0_can m0_fewest m0_waysTo m0_then m0_two m0_nextTwo m0_three m0_nextThree m0_shut m0_worth m0_digit m0_codes m0_most m0_bestTry m0_dayCourt m0_dayHour m0_dayNo m0_x)) hB ht hvm hP hD hK [7] [0, 1, 2, 3, 4, 5, 6] rfl 8 rfl (by decide +kernel) rfl (by decide +kernel) hk1 hFc
                  generalize H1 = H at hP hS ⊢
                  have hK : va_K (dC, dI) vwCl [(cA_m0_tape, .byte), (cA_m0_hours, .int), (cA_m0_courts, .int), (cA_m0_in, .int), (cA_m0_people, .int), (cA_m0_at0, .int), (cA_m0_stray, .int)] s := hK
                  replace hF := hF.trans (zL_eq rfl)
                  replace hF := hF.trans (zL_eq hf_203)
                  replace hF := hF.trans (zL_eq hf_204)
                  refine lv_aload_n hx hb dX10_personLine_188 rfl (lv_at hl 0 rfl) ?_
                  obtain ⟨hPc, hDc, hFc⟩ := z_cut (wc := (zV84 m0 m0_thrown m0_width m0_many m0_cells m0_moved m0_tape m0_taped n_m0_41 n_m0_42 n_m0_43 n_m0_44 n_m0_45 n_m0_199 n_m0_200 m0_fault m0_faultPlace m0_lines m0_hours m0_courts m0_in m0_gates m0_gate m0_people m0_at0 m0_stray m0_set m0_once m0_truth m0_known m0_isKept m0_strays m0_hostPerson m0_hostCourt m0_outside m0_inside m0_can m0_fewest m0_waysTo m0_then m0_two m0_nextTwo m0_three m0_nextThree m0_shut m0_worth m0_digit m0_codes m0_most m0_bestTry m0_dayCourt m0_dayHour m0_dayNo m0_x)) hP hD hS hA [7] rfl (by decide +kernel)
                  have hKc := hK.sub (tys' := []) [] rfl
                  refine va_calli (va_runV (As := []) (rest := []) ⟨hx, hb, hml, hown, hts⟩ (kf_X10_isGood_v1 l sa dC dI m0 m0_thrown m0_width m0_many m0_cells m0_moved m0_tape m0_taped n_m0_41 n_m0_42 n_m0_43 n_m0_44 n_m0_45 n_m0_199 n_m0_200 m0_fault m0_faultPlace m0_lines m0_hours m0_courts m0_in m0_gates m0_gate m0_people m0_at0 m0_stray m0_set m0_once m0_truth m0_known m0_isKept m0_strays m0_hostPerson m0_hostCourt m0_outside m0_inside m0_can m0_fewest m0_waysTo m0_then m0_two m0_nextTwo m0_three m0_nextThree m0_shut m0_worth m0_digit m0_codes m0_most m0_bestTry m0_dayCourt m0_dayHour m0_dayNo m0_x b_m0_taped (by first | with_reducible assumption | omega) (by first | with_reducible assumption | omega) (by first | with_reducible assumption | omega) (by first | with_reducible assumption | omega) b_m0_strays b_m0_hostCourt b_m0_dayCourt b_m0_dayHour H.size) (cwV 0 hts (z_gV zw_t7_84 zw_t7_86 zw_s4_11 zw_t1_11 zw_t7_87) rfl rfl rfl (by decide +kernel) (by rw [← hRe]; exact ⟨(Nat.le_of_ble_eq_true rfl), (Nat.le_of_ble_eq_true rfl)⟩)) (z_preV hPc hKc hDc hN hXs hS hFc (q := (RX10, TX10, 53)) (ci := 10) (q0 := 0) rfl rfl) rfl rfl hl.1 rfl (lv_room (Nat.le_of_ble_eq_true rfl)) dX10_personLine_189 (by rw [← hRe]; exact ⟨(Nat.le_of_ble_eq_true rfl), (Nat.le_of_ble_eq_true rfl)⟩)) hS (fun q _ h => hFc q h) hFc (fun r_206 u t H1 locs ht hvm hw hB hz1 hk1 hS => ?_)
                  obtain ⟨hP, hD, hK⟩ := z_after3 (wn := (zV282 m0_hours cA_m0_hours f_m0_hours m0_courts cA_m0_courts f_m0_courts m0_in cA_m0_in f_m0_in m0_people cA_m0_people f_m0_people m0_at0 cA_m0_at0 g_m0_at0_39 m0_stray cA_m0_stray f_60 m0_tape cA_m0_tape f_m0_tape m0 m0_thrown m0_width m0_many m0_cells m0_moved m0_tape m0_taped n_m0_41 n_m0_42 n_m0_43 n_m0_44 n_m0_45 n_m0_199 n_m0_200 m0_fault m0_faultPlace m0_lines m0_hours m0_courts m0_in m0_gates m0_gate m0_people m0_at0 m0_stray m0_set m0_once m0_truth m0_known m0_isKept m0_strays m0_hostPerson m0_hostCourt m0_outside m0_inside m0_can m0_fewest m0_waysTo m0_then m0_two m0_nextTwo m0_three m0_nextThree m0_shut m0_worth m0_digit m0_codes m0_most m0_bestTry m0_dayCourt m0_dayHour m0_dayNo m0_x)) hB ht hvm hP hD hK [7] [0, 1, 2, 3, 4, 5, 6] rfl 8 rfl (by decide +kernel) rfl (by decide +kernel) hk1 hFc
                  generalize H1 = H at hP hS ⊢
                  have hK : va_K (dC, dI) vwCl [(cA_m0_tape, .byte), (cA_m0_hours, .int), (cA_m0_courts, .int), (cA_m0_in, .int), (cA_m0_people, .int), (cA_m0_at0, .int), (cA_m0_stray, .int)] s := hK
                  have b_r_206 : 0 ≤ r_206.toInt ∧ r_206.toInt ≤ 1 := hw.1
                  have s_r_206 := hw.2.1
                  have sf_r_206 := hw.2.2
                  replace hF := hF.trans (zL_eq sf_r_206)
                  refine lv_if_eq (tgt := 199) hx hb dX10_personLine_192 (by decide) (fun c_207 => ?_) (fun c_207 => ?_)
                  · have ic_207 := zz_eq rfl (show Int32.toInt 0 = 0 from by decide) c_207
                    replace hF := hF.trans (if_pos c_207)
                    refine lv_aload_n hx hb dX10_personLine_199 rfl (lv_at hl 0 rfl) ?_
                    refine va_get (D := (dC, dI)) (ci := 10) (v := .ref m0_stray) (C := RX10) (T := TX10) (N := 53) hx hb hts zl_X10 hown hK hP 7 rfl rfl 24 (by decide) (hts _ zw_t6_124) (fun _ h9 => h9) rfl dX10_personLine_200 ?_
                    refine lv_iconst (v := 2) hx hb dX10_personLine_203 (by decide) ?_
                    refine lv_iload_n hx hb dX10_personLine_204 rfl (lv_at hl 1 rfl) ?_
                    refine lv_imul hx hb dX10_personLine_205 ?_
                    refine lv_topi (fun x_208 ex_208 => ?_)
                    replace hF := hF.trans (zL_eq ex_208)
                    have b_x_208 : x_208.toInt = 2 * x_2.toInt := by rw [ex_208]; exact zi_mul (show Int32.toInt 2 = 2 from by decide) rfl (z_rmc (z_eca b_x_2 b_x_1) (by decide))
                    refine lv_aload_n hx hb dX10_personLine_206 rfl (lv_at hl 0 rfl) ?_
                    refine lv_iconst (v := 1) hx hb dX10_personLine_207 (by decide) ?_
                    refine lv_bipush (v := 99) hx hb dX10_personLine_208 (by decide) ?_
                    obtain ⟨hPc, hDc, hFc⟩ := z_cut (wc := (zV264 m0 m0_thrown m0_width m0_many m0_cells m0_moved m0_tape m0_taped n_m0_41 n_m0_42 n_m0_43 n_m0_44 n_m0_45 n_m0_199 n_m0_200 m0_fault m0_faultPlace m0_lines m0_hours m0_courts m0_in m0_gates m0_gate m0_people m0_at0 m0_stray m0_set m0_once m0_truth m0_known m0_isKept m0_strays m0_hostPerson m0_hostCourt m0_outside m0_inside m0_can m0_fewest m0_waysTo m0_then m0_two m0_nextTwo m0_three m0_nextThree m0_shut m0_worth m0_digit m0_codes m0_most m0_bestTry m0_dayCourt m0_dayHour m0_dayNo m0_x m0_tape cA_m0_tape f_m0_tape)) hP hD hS hA [7, 6] rfl (by decide +kernel)
                    have hKc := hK.sub (tys' := [(cA_m0_tape, .byte)]) [0] rfl
                    refine va_calli (va_runV (As := [.int 1, .int 99]) (rest := [.int x_208, .ref m0_stray]) ⟨hx, hb, hml, hown, hts⟩ (kf_X10_number l sa dC dI m0 (1) (99) m0_thrown m0_width m0_many m0_cells m0_moved m0_tape m0_taped n_m0_41 n_m0_42 n_m0_43 n_m0_44 n_m0_45 n_m0_199 n_m0_200 m0_fault m0_faultPlace m0_lines m0_hours m0_courts m0_in m0_gates m0_gate m0_people m0_at0 m0_stray m0_set m0_once m0_truth m0_known m0_isKept m0_strays m0_hostPerson m0_hostCourt m0_outside m0_inside m0_can m0_fewest m0_waysTo m0_then m0_two m0_nextTwo m0_three m0_nextThree m0_shut m0_worth m0_digit m0_codes m0_most m0_bestTry m0_dayCourt m0_dayHour m0_dayNo m0_x cA_m0_tape f_m0_tape (by decide) (by decide) b_m0_taped (by first | with_reducible assumption | omega) (by first | with_reducible assumption | omega) (by first | with_reducible assumption | omega) (by first | with_reducible assumption | omega) b_m0_strays b_m0_hostCourt b_m0_dayCourt b_m0_dayHour (by first | assumption | omega) H.size) (cwV 2 hts (z_gV zw_t7_110 zw_t7_112 zw_s5_1 zw_t1_11 zw_t7_113) rfl rfl rfl (by decide +kernel) (by rw [← hRe]; exact ⟨(Nat.le_of_ble_eq_true rfl), (Nat.le_of_ble_eq_true rfl)⟩)) (z_preV hPc hKc hDc hN hXs hS hFc (q := (RX10, TX10, 53)) (ci := 10) (q0 := 0) rfl rfl) rfl rfl hl.1 rfl (lv_room (Nat.le_of_ble_eq_true rfl)) dX10_personLine_210 (by rw [← hRe]; exact ⟨(Nat.le_of_ble_eq_true rfl), (Nat.le_of_ble_eq_true rfl)⟩)) hS (fun q _ h => hFc q h) hFc (fun r_209 u t H1 locs ht hvm hw hB hz1 hk1 hS => ?_)
                    obtain ⟨hu, hw⟩ := hw
                    rw [hu] at hB
                    refine hB.elim fun n_m0_210 ze1 => ze1.elim fun n_m0_211 ze2 => ze2.elim fun n_m0_212 ze3 => ze3.elim fun n_m0_213 ze4 => ze4.elim fun n_m0_214 ze5 => ze5.elim fun n_m0_215 ze6 => ze6.elim fun n_m0_216 ze7 => ze7.elim fun b_n_m0_210 ze8 => ze8.elim fun b_n_m0_211 ze9 => ze9.elim fun b_n_m0_213 ze10 => ze10.elim fun b_n_m0_215 ze11 => ze11.elim fun hf_217 ze12 => ze12.elim fun hf_218 ze13 => ze13.elim fun hf_219 ze14 => ze14.elim fun hf_220 ze15 => ze15.elim fun hf_221 ze16 => ze16.elim fun hf_222 ze17 => ze17.elim fun hf_223 ze18 => ze18.elim fun hf_224 ze19 => ze19.elim fun hf_225 ze20 => ze20.elim fun hf_226 ze21 => ze21.elim fun hf_227 ze22 => ?_
                    clear hB ze1 ze2 ze3 ze4 ze5 ze6 ze7 ze8 ze9 ze10 ze11 ze12 ze13 ze14 ze15 ze16 ze17 ze18 ze19 ze20 ze21
                    have hB := ze22
                    clear ze22
                    obtain ⟨hP, hD, hK⟩ := z_after3 (wn := (zV281 m0_hours cA_m0_hours f_m0_hours m0_courts cA_m0_courts f_m0_courts m0_in cA_m0_in f_m0_in m0_people cA_m0_people f_m0_people m0_at0 cA_m0_at0 g_m0_at0_39 m0_stray cA_m0_stray f_60 m0 m0_thrown m0_width m0_many m0_cells m0_moved m0_tape m0_taped n_m0_210 n_m0_211 n_m0_212 n_m0_213 n_m0_214 n_m0_215 n_m0_216 m0_fault m0_faultPlace m0_lines m0_hours m0_courts m0_in m0_gates m0_gate m0_people m0_at0 m0_stray m0_set m0_once m0_truth m0_known m0_isKept m0_strays m0_hostPerson m0_hostCourt m0_outside m0_inside m0_can m0_fewest m0_waysTo m0_then m0_two m0_nextTwo m0_three m0_nextThree m0_shut m0_worth m0_digit m0_codes m0_most m0_bestTry m0_dayCourt m0_dayHour m0_dayNo m0_x m0_tape cA_m0_tape f_m0_tape)) hB ht hvm hP hD hK [7, 6] [0, 1, 2, 3, 4, 5] rfl 8 rfl (by decide +kernel) rfl (by decide +kernel) hk1 hFc
                    generalize H1 = H at hP hS ⊢
                    have hK : va_K (dC, dI) vwCl [(cA_m0_tape, .byte), (cA_m0_hours, .int), (cA_m0_courts, .int), (cA_m0_in, .int), (cA_m0_people, .int), (cA_m0_at0, .int), (cA_m0_stray, .int)] s := hK
                    have b_r_209 : 0 ≤ r_209.toInt ∧ r_209.toInt ≤ 99 := hw.1
                    have s_r_209 := hw.2.1
                    have sf_r_209 := hw.2.2
                    have za_1 : Int32.toInt 1 = 1 := by decide
                    have za_99 : Int32.toInt 99 = 99 := by decide
                    replace hF := hF.trans (zL_eq rfl)
                    replace hF := hF.trans (zL_eq sf_r_209)
                    replace hF := hF.trans (zL_eq hf_221)
                    replace hF := hF.trans (zL_eq hf_222)
                    replace hF := hF.trans (zL_eq hf_223)
                    replace hF := hF.trans (zL_eq hf_224)
                    replace hF := hF.trans (zL_eq hf_225)
                    replace hF := hF.trans (zL_eq hf_226)
                    replace hF := hF.trans (zL_eq hf_227)
                    have hfb_229 := zMo.go hf_220 hf_201
                    refine va_iast hx hb hK hP hD hS 5 6 rfl rfl (zi_in rfl (by first | with_reducible assumption | omega)) dX10_personLine_213 (fun H locs hP hD hS => ?_)
                    obtain ⟨f_230, ef_230⟩ : ∃ g : Nat → Int32, g = upd f_60 (Int32.toNatClampNeg x_208) r_209 := ⟨_, rfl⟩
                    replace hF := hF.trans (zL_eq ef_230)
                    have kx_f_230 := zi_clamp (x := x_208) rfl (z_r0 (z_emc (c := 2) b_x_208 (z_eca b_x_2 b_x_1)) (by decide))
                    have b_f_230 : ∀ j : Nat, 0 ≤ (f_230 j).toInt ∧ (f_230 j).toInt ≤ 99 ∧ (j % 2 = 1 → (f_230 j).toInt ≤ 9) := by rw [ef_230]; exact zi_updP b_f_60 rfl (by first | with_reducible assumption | omega)
                    have hP : va_P (dC, dI) vwCl (zV281 m0_hours cA_m0_hours f_m0_hours m0_courts cA_m0_courts f_m0_courts m0_in cA_m0_in f_m0_in m0_people cA_m0_people f_m0_people m0_at0 cA_m0_at0 g_m0_at0_39 m0_stray cA_m0_stray (upd f_60 (Int32.toNatClampNeg x_208) r_209) m0 m0_thrown m0_width m0_many m0_cells m0_moved m0_tape m0_taped n_m0_210 n_m0_211 n_m0_212 n_m0_213 n_m0_214 n_m0_215 n_m0_216 m0_fault m0_faultPlace m0_lines m0_hours m0_courts m0_in m0_gates m0_gate m0_people m0_at0 m0_stray m0_set m0_once m0_truth m0_known m0_isKept m0_strays m0_hostPerson m0_hostCourt m0_outside m0_inside m0_can m0_fewest m0_waysTo m0_then m0_two m0_nextTwo m0_three m0_nextThree m0_shut m0_worth m0_digit m0_codes m0_most m0_bestTry m0_dayCourt m0_dayHour m0_dayNo m0_x m0_tape cA_m0_tape f_m0_tape) H := hP
                    have hD : va_D A (zV281 m0_hours cA_m0_hours f_m0_hours m0_courts cA_m0_courts f_m0_courts m0_in cA_m0_in f_m0_in m0_people cA_m0_people f_m0_people m0_at0 cA_m0_at0 g_m0_at0_39 m0_stray cA_m0_stray (upd f_60 (Int32.toNatClampNeg x_208) r_209) m0 m0_thrown m0_width m0_many m0_cells m0_moved m0_tape m0_taped n_m0_210 n_m0_211 n_m0_212 n_m0_213 n_m0_214 n_m0_215 n_m0_216 m0_fault m0_faultPlace m0_lines m0_hours m0_courts m0_in m0_gates m0_gate m0_people m0_at0 m0_stray m0_set m0_once m0_truth m0_known m0_isKept m0_strays m0_hostPerson m0_hostCourt m0_outside m0_inside m0_can m0_fewest m0_waysTo m0_then m0_two m0_nextTwo m0_three m0_nextThree m0_shut m0_worth m0_digit m0_codes m0_most m0_bestTry m0_dayCourt m0_dayHour m0_dayNo m0_x m0_tape cA_m0_tape f_m0_tape) := hD
                    rw [← ef_230] at hP hD
                    refine lv_aload_n hx hb dX10_personLine_214 rfl (lv_at hl 0 rfl) ?_
                    refine va_get (D := (dC, dI)) (ci := 10) (v := .ref m0_stray) (C := RX10) (T := TX10) (N := 53) hx hb hts zl_X10 hown hK hP 6 rfl rfl 24 (by decide) (hts _ zw_t6_124) (fun _ h9 => h9) rfl dX10_personLine_215 ?_
                    refine lv_iconst (v := 2) hx hb dX10_personLine_218 (by decide) ?_
                    refine lv_iload_n hx hb dX10_personLine_219 rfl (lv_at hl 1 rfl) ?_
                    refine lv_imul hx hb dX10_personLine_220 ?_
                    refine lv_topi (fun x_231 ex_231 => ?_)
                    replace hF := hF.trans (zL_eq ex_231)
                    have b_x_231 : x_231.toInt = 2 * x_2.toInt := by rw [ex_231]; exact zi_mul (show Int32.toInt 2 = 2 from by decide) rfl (z_rmc (z_eca b_x_2 b_x_1) (by decide))
                    refine lv_iconst (v := 1) hx hb dX10_personLine_221 (by decide) ?_
                    refine lv_iadd hx hb dX10_personLine_222 ?_
                    refine lv_topi (fun x_232 ex_232 => ?_)
                    replace hF := hF.trans (zL_eq ex_232)
                    have b_x_232 : x_232.toInt = x_231.toInt + 1 := by rw [ex_232]; exact zi_add rfl (show Int32.toInt 1 = 1 from by decide) (z_rac (z_emc (c := 2) b_x_231 (z_eca b_x_2 b_x_1)) (by decide))
                    refine lv_aload_n hx hb dX10_personLine_223 rfl (lv_at hl 0 rfl) ?_
                    refine lv_ldc2 (v := 555) hx hb hown (hts _ zw_t7_133) dX10_personLine_224 ?_
                    refine lv_iconst (v := 0) hx hb dX10_personLine_227 (by decide) ?_
                    refine lv_aload_n hx hb dX10_personLine_228 rfl (lv_at hl 0 rfl) ?_
                    refine va_get (D := (dC, dI)) (ci := 10) (v := .ref m0_courts) (C := RX10) (T := TX10) (N := 53) hx hb hts zl_X10 hown hK hP 6 rfl rfl 18 (by decide) (hts _ zw_t6_118) (fun _ h9 => h9) rfl dX10_personLine_229 ?_
                    refine lv_iconst (v := 4) hx hb dX10_personLine_232 (by decide) ?_
                    refine va_iald hx hb hK hP 1 2 rfl rfl (zi_in (show Int32.toInt 4 = 4 from by decide) (by decide)) dX10_personLine_233 ?_
                    refine lv_topi (fun x_233 ex_233 => ?_)
                    replace hF := hF.trans (zL_eq ex_233)
                    obtain rfl : x_3 = x_233 := ex_3.trans ex_233.symm
                    refine lv_iconst (v := 1) hx hb dX10_personLine_234 (by decide) ?_
                    refine lv_isub hx hb dX10_personLine_235 ?_
                    refine lv_topi (fun x_234 ex_234 => ?_)
                    replace hF := hF.trans (zL_eq ex_234)
                    have b_x_234 : x_234.toInt = x_3.toInt - 1 := by rw [ex_234]; exact zi_sub rfl (show Int32.toInt 1 = 1 from by decide) (z_rsc b_x_3 (by decide))
                    obtain ⟨hPc, hDc, hFc⟩ := z_cut (wc := (zV264 m0 m0_thrown m0_width m0_many m0_cells m0_moved m0_tape m0_taped n_m0_210 n_m0_211 n_m0_212 n_m0_213 n_m0_214 n_m0_215 n_m0_216 m0_fault m0_faultPlace m0_lines m0_hours m0_courts m0_in m0_gates m0_gate m0_people m0_at0 m0_stray m0_set m0_once m0_truth m0_known m0_isKept m0_strays m0_hostPerson m0_hostCourt m0_outside m0_inside m0_can m0_fewest m0_waysTo m0_then m0_two m0_nextTwo m0_three m0_nextThree m0_shut m0_worth m0_digit m0_codes m0_most m0_bestTry m0_dayCourt m0_dayHour m0_dayNo m0_x m0_tape cA_m0_tape f_m0_tape)) hP hD hS hA [6, 7] rfl (by decide +kernel)
                    have hKc := hK.sub (tys' := [(cA_m0_tape, .byte)]) [0] rfl
                    refine va_calli (va_runV (As := [.long 555, .int 0, .int x_234]) (rest := [.int x_232, .ref m0_stray]) ⟨hx, hb, hml, hown, hts⟩ (kf_X10_number_ l sa dC dI m0 (555) (0) x_234 m0_thrown m0_width m0_many m0_cells m0_moved m0_tape m0_taped n_m0_210 n_m0_211 n_m0_212 n_m0_213 n_m0_214 n_m0_215 n_m0_216 m0_fault m0_faultPlace m0_lines m0_hours m0_courts m0_in m0_gates m0_gate m0_people m0_at0 m0_stray m0_set m0_once m0_truth m0_known m0_isKept m0_strays m0_hostPerson m0_hostCourt m0_outside m0_inside m0_can m0_fewest m0_waysTo m0_then m0_two m0_nextTwo m0_three m0_nextThree m0_shut m0_worth m0_digit m0_codes m0_most m0_bestTry m0_dayCourt m0_dayHour m0_dayNo m0_x cA_m0_tape f_m0_tape (by decide) (by first | with_reducible assumption | omega) b_m0_taped (by first | with_reducible assumption | omega) (by first | with_reducible assumption | omega) (by first | with_reducible assumption | omega) (by first | with_reducible assumption | omega) b_m0_strays b_m0_hostCourt b_m0_dayCourt b_m0_dayHour (by first | assumption | omega) H.size) (cwV 3 hts (z_gV zw_t7_106 zw_t7_108 zw_s5_0 zw_t1_11 zw_t7_109) rfl rfl rfl (by decide +kernel) (by rw [← hRe]; exact ⟨(Nat.le_of_ble_eq_true rfl), (Nat.le_of_ble_eq_true rfl)⟩)) (z_preV hPc hKc hDc hN hXs hS hFc (q := (RX10, TX10, 53)) (ci := 10) (q0 := 0) rfl rfl) rfl rfl hl.1 rfl (lv_room (Nat.le_of_ble_eq_true rfl)) dX10_personLine_236 (by rw [← hRe]; exact ⟨(Nat.le_of_ble_eq_true rfl), (Nat.le_of_ble_eq_true rfl)⟩)) hS (fun q _ h => hFc q h) hFc (fun r_235 u t H1 locs ht hvm hw hB hz1 hk1 hS => ?_)
                    obtain ⟨hu, hw⟩ := hw
                    rw [hu] at hB
                    refine hB.elim fun n_m0_236 ze1 => ze1.elim fun n_m0_237 ze2 => ze2.elim fun n_m0_238 ze3 => ze3.elim fun n_m0_239 ze4 => ze4.elim fun n_m0_240 ze5 => ze5.elim fun n_m0_241 ze6 => ze6.elim fun n_m0_242 ze7 => ze7.elim fun b_n_m0_236 ze8 => ze8.elim fun b_n_m0_237 ze9 => ze9.elim fun b_n_m0_239 ze10 => ze10.elim fun b_n_m0_241 ze11 => ze11.elim fun hf_243 ze12 => ze12.elim fun hf_244 ze13 => ze13.elim fun hf_245 ze14 => ze14.elim fun hf_246 ze15 => ze15.elim fun hf_247 ze16 => ze16.elim fun hf_248 ze17 => ze17.elim fun hf_249 ze18 => ze18.elim fun hf_250 ze19 => ze19.elim fun hf_251 ze20 => ze20.elim fun hf_252 ze21 => ze21.elim fun hf_253 ze22 => ?_
                    clear hB ze1 ze2 ze3 ze4 ze5 ze6 ze7 ze8 ze9 ze10 ze11 ze12 ze13 ze14 ze15 ze16 ze17 ze18 ze19 ze20 ze21
                    have hB := ze22
                    clear ze22
                    obtain ⟨hP, hD, hK⟩ := z_after3 (wn := (zV281 m0_hours cA_m0_hours f_m0_hours m0_courts cA_m0_courts f_m0_courts m0_in cA_m0_in f_m0_in m0_people cA_m0_people f_m0_people m0_at0 cA_m0_at0 g_m0_at0_39 m0_stray cA_m0_stray f_230 m0 m0_thrown m0_width m0_many m0_cells m0_moved m0_tape m0_taped n_m0_236 n_m0_237 n_m0_238 n_m0_239 n_m0_240 n_m0_241 n_m0_242 m0_fault m0_faultPlace m0_lines m0_hours m0_courts m0_in m0_gates m0_gate m0_people m0_at0 m0_stray m0_set m0_once m0_truth m0_known m0_isKept m0_strays m0_hostPerson m0_hostCourt m0_outside m0_inside m0_can m0_fewest m0_waysTo m0_then m0_two m0_nextTwo m0_three m0_nextThree m0_shut m0_worth m0_digit m0_codes m0_most m0_bestTry m0_dayCourt m0_dayHour m0_dayNo m0_x m0_tape cA_m0_tape f_m0_tape)) hB ht hvm hP hD hK [6, 7] [0, 1, 2, 3, 4, 5] rfl 8 rfl (by decide +kernel) rfl (by decide +kernel) hk1 hFc
                    generalize H1 = H at hP hS ⊢
                    have hK : va_K (dC, dI) vwCl [(cA_m0_tape, .byte), (cA_m0_hours, .int), (cA_m0_courts, .int), (cA_m0_in, .int), (cA_m0_people, .int), (cA_m0_at0, .int), (cA_m0_stray, .int)] s := hK
                    have b_r_235 : 0 ≤ r_235.toInt ∧ r_235.toInt ≤ 99 := hw.1
                    have s_r_235 := hw.2.1
                    have sf_r_235 := hw.2.2
                    have zal_555 : Int64.toInt 555 = 555 := by decide
                    have za_0 : Int32.toInt 0 = 0 := by decide
                    replace hF := hF.trans (zL_eq rfl)
                    replace hF := hF.trans (zL_eq sf_r_235)
                    replace hF := hF.trans (zL_eq hf_247)
                    replace hF := hF.trans (zL_eq hf_248)
                    replace hF := hF.trans (zL_eq hf_249)
                    replace hF := hF.trans (zL_eq hf_250)
                    replace hF := hF.trans (zL_eq hf_251)
                    replace hF := hF.trans (zL_eq hf_252)
                    replace hF := hF.trans (zL_eq hf_253)
                    have hfb_255 := zMo.go hf_246 hfb_229
                    have hmz : n_m0_215.toInt = 0 ∨ ¬ n_m0_241.toInt = 0 := hf_246
                    refine va_iast hx hb hK hP hD hS 5 6 rfl rfl (zi_in rfl (by first | with_reducible assumption | omega)) dX10_personLine_239 (fun H locs hP hD hS => ?_)
                    obtain ⟨f_256, ef_256⟩ : ∃ g : Nat → Int32, g = upd f_230 (Int32.toNatClampNeg x_232) r_235 := ⟨_, rfl⟩
                    replace hF := hF.trans (zL_eq ef_256)
                    have kx_f_256 := zi_clamp (x := x_232) rfl (z_r0 (z_eac b_x_232 (z_emc (c := 2) b_x_231 (z_eca b_x_2 b_x_1))) (by decide))
                    have b_f_256 : ∀ j : Nat, 0 ≤ (f_256 j).toInt ∧ (f_256 j).toInt ≤ 99 ∧ (j % 2 = 1 → (f_256 j).toInt ≤ 9) := by rw [ef_256]; exact zi_updP b_f_230 rfl (by first | with_reducible assumption | omega)
                    have hP : va_P (dC, dI) vwCl (zV281 m0_hours cA_m0_hours f_m0_hours m0_courts cA_m0_courts f_m0_courts m0_in cA_m0_in f_m0_in m0_people cA_m0_people f_m0_people m0_at0 cA_m0_at0 g_m0_at0_39 m0_stray cA_m0_stray (upd f_230 (Int32.toNatClampNeg x_232) r_235) m0 m0_thrown m0_width m0_many m0_cells m0_moved m0_tape m0_taped n_m0_236 n_m0_237 n_m0_238 n_m0_239 n_m0_240 n_m0_241 n_m0_242 m0_fault m0_faultPlace m0_lines m0_hours m0_courts m0_in m0_gates m0_gate m0_people m0_at0 m0_stray m0_set m0_once m0_truth m0_known m0_isKept m0_strays m0_hostPerson m0_hostCourt m0_outside m0_inside m0_can m0_fewest m0_waysTo m0_then m0_two m0_nextTwo m0_three m0_nextThree m0_shut m0_worth m0_digit m0_codes m0_most m0_bestTry m0_dayCourt m0_dayHour m0_dayNo m0_x m0_tape cA_m0_tape f_m0_tape) H := hP
                    have hD : va_D A (zV281 m0_hours cA_m0_hours f_m0_hours m0_courts cA_m0_courts f_m0_courts m0_in cA_m0_in f_m0_in m0_people cA_m0_people f_m0_people m0_at0 cA_m0_at0 g_m0_at0_39 m0_stray cA_m0_stray (upd f_230 (Int32.toNatClampNeg x_232) r_235) m0 m0_thrown m0_width m0_many m0_cells m0_moved m0_tape m0_taped n_m0_236 n_m0_237 n_m0_238 n_m0_239 n_m0_240 n_m0_241 n_m0_242 m0_fault m0_faultPlace m0_lines m0_hours m0_courts m0_in m0_gates m0_gate m0_people m0_at0 m0_stray m0_set m0_once m0_truth m0_known m0_isKept m0_strays m0_hostPerson m0_hostCourt m0_outside m0_inside m0_can m0_fewest m0_waysTo m0_then m0_two m0_nextTwo m0_three m0_nextThree m0_shut m0_worth m0_digit m0_codes m0_most m0_bestTry m0_dayCourt m0_dayHour m0_dayNo m0_x m0_tape cA_m0_tape f_m0_tape) := hD
                    rw [← ef_256] at hP hD
                    refine lv_aload_n hx hb dX10_personLine_240 rfl (lv_at hl 0 rfl) ?_
                    refine lv_dup hx hb dX10_personLine_241 rfl ?_
                    refine va_get (D := (dC, dI)) (ci := 10) (v := .int m0_strays) (C := RX10) (T := TX10) (N := 53) hx hb hts zl_X10 hown hK hP 6 rfl rfl 30 (by decide) (hts _ zw_t6_130) (fun _ h9 => h9) rfl dX10_personLine_242 ?_
                    refine lv_iconst (v := 1) hx hb dX10_personLine_245 (by decide) ?_
                    refine lv_iadd hx hb dX10_personLine_246 ?_
                    refine lv_topi (fun x_257 ex_257 => ?_)
                    replace hF := hF.trans (zL_eq ex_257)
                    have b_x_257 : x_257.toInt = m0_strays.toInt + 1 := by rw [ex_257]; exact zi_add rfl (show Int32.toInt 1 = 1 from by decide) (z_rac b_m0_strays (by decide))
                    refine va_put (D := (dC, dI)) (ci := 10) (v := .int x_257) (ty := .int) (C := RX10) (T := TX10) (N := 53) hx hb hts zl_X10 tyX10 tyX10_ok nmX10 hown hK hP hD hS 6 rfl rfl 30 (by decide) (hts _ zw_t6_130) (fun _ h9 => h9) rfl (by decide +kernel) rfl rfl (Nat.le_of_ble_eq_true rfl) dX10_personLine_247 (fun H locs hP hD hS => ?_)
                    have hP : va_P (dC, dI) vwCl (zV281 m0_hours cA_m0_hours f_m0_hours m0_courts cA_m0_courts f_m0_courts m0_in cA_m0_in f_m0_in m0_people cA_m0_people f_m0_people m0_at0 cA_m0_at0 g_m0_at0_39 m0_stray cA_m0_stray f_256 m0 m0_thrown m0_width m0_many m0_cells m0_moved m0_tape m0_taped n_m0_236 n_m0_237 n_m0_238 n_m0_239 n_m0_240 n_m0_241 n_m0_242 m0_fault m0_faultPlace m0_lines m0_hours m0_courts m0_in m0_gates m0_gate m0_people m0_at0 m0_stray m0_set m0_once m0_truth m0_known m0_isKept x_257 m0_hostPerson m0_hostCourt m0_outside m0_inside m0_can m0_fewest m0_waysTo m0_then m0_two m0_nextTwo m0_three m0_nextThree m0_shut m0_worth m0_digit m0_codes m0_most m0_bestTry m0_dayCourt m0_dayHour m0_dayNo m0_x m0_tape cA_m0_tape f_m0_tape) H := hP
                    have hD : va_D A (zV281 m0_hours cA_m0_hours f_m0_hours m0_courts cA_m0_courts f_m0_courts m0_in cA_m0_in f_m0_in m0_people cA_m0_people f_m0_people m0_at0 cA_m0_at0 g_m0_at0_39 m0_stray cA_m0_stray f_256 m0 m0_thrown m0_width m0_many m0_cells m0_moved m0_tape m0_taped n_m0_236 n_m0_237 n_m0_238 n_m0_239 n_m0_240 n_m0_241 n_m0_242 m0_fault m0_faultPlace m0_lines m0_hours m0_courts m0_in m0_gates m0_gate m0_people m0_at0 m0_stray m0_set m0_once m0_truth m0_known m0_isKept x_257 m0_hostPerson m0_hostCourt m0_outside m0_inside m0_can m0_fewest m0_waysTo m0_then m0_two m0_nextTwo m0_three m0_nextThree m0_shut m0_worth m0_digit m0_codes m0_most m0_bestTry m0_dayCourt m0_dayHour m0_dayNo m0_x m0_tape cA_m0_tape f_m0_tape) := hD
                    refine lv_aload_n hx hb dX10_personLine_250 rfl (lv_at hl 0 rfl) ?_
                    refine va_get (D := (dC, dI)) (ci := 10) (v := .ref m0_people) (C := RX10) (T := TX10) (N := 53) hx hb hts zl_X10 hown hK hP 6 rfl rfl 22 (by decide) (hts _ zw_t6_122) (fun _ h9 => h9) rfl dX10_personLine_251 ?_
                    refine lv_iconst (v := 4) hx hb dX10_personLine_254 (by decide) ?_
                    refine lv_dup2_11 hx hb dX10_personLine_255 rfl rfl ?_
                    refine va_iald hx hb hK hP 3 4 rfl rfl (zi_in (show Int32.toInt 4 = 4 from by decide) (by decide)) dX10_personLine_256 ?_
                    refine lv_topi (fun x_258 ex_258 => ?_)
                    replace hF := hF.trans (zL_eq ex_258)
                    obtain rfl : x_1 = x_258 := ex_1.trans ex_258.symm
                    refine lv_iconst (v := 1) hx hb dX10_personLine_257 (by decide) ?_
                    refine lv_iadd hx hb dX10_personLine_258 ?_
                    refine lv_topi (fun x_259 ex_259 => ?_)
                    replace hF := hF.trans (zL_eq ex_259)
                    have b_x_259 : x_259.toInt = x_1.toInt + 1 := by rw [ex_259]; exact zi_add rfl (show Int32.toInt 1 = 1 from by decide) (z_rac b_x_1 (by decide))
                    refine va_iast hx hb hK hP hD hS 3 4 rfl rfl (zi_in (show Int32.toInt 4 = 4 from by decide) (by decide)) dX10_personLine_259 (fun H locs hP hD hS => ?_)
                    obtain ⟨f_260, ef_260⟩ : ∃ g : Nat → Int32, g = upd f_m0_people (Int32.toNatClampNeg 4) x_259 := ⟨_, rfl⟩
                    replace hF := hF.trans (zL_eq ef_260)
                    have u_f_260 : (f_260 (Int32.toNatClampNeg 4)).toInt = x_259.toInt := by rw [ef_260, pk_us]
                    have b_f_260 : ∀ j : Nat, 0 ≤ (f_260 j).toInt ∧ (f_260 j).toInt ≤ 10 := by rw [ef_260]; exact zi_upd b_f_m0_people rfl (by first | with_reducible assumption | omega)
                    have hP : va_P (dC, dI) vwCl (zV281 m0_hours cA_m0_hours f_m0_hours m0_courts cA_m0_courts f_m0_courts m0_in cA_m0_in f_m0_in m0_people cA_m0_people (upd f_m0_people (Int32.toNatClampNeg 4) x_259) m0_at0 cA_m0_at0 g_m0_at0_39 m0_stray cA_m0_stray f_256 m0 m0_thrown m0_width m0_many m0_cells m0_moved m0_tape m0_taped n_m0_236 n_m0_237 n_m0_238 n_m0_239 n_m0_240 n_m0_241 n_m0_242 m0_fault m0_faultPlace m0_lines m0_hours m0_courts m0_in m0_gates m0_gate m0_people m0_at0 m0_stray m0_set m0_once m0_truth m0_known m0_isKept x_257 m0_hostPerson m0_hostCourt m0_outside m0_inside m0_can m0_fewest m0_waysTo m0_then m0_two m0_nextTwo m0_three m0_nextThree m0_shut m0_worth m0_digit m0_codes m0_most m0_bestTry m0_dayCourt m0_dayHour m0_dayNo m0_x m0_tape cA_m0_tape f_m0_tape) H := hP
                    have hD : va_D A (zV281 m0_hours cA_m0_hours f_m0_hours m0_courts cA_m0_courts f_m0_courts m0_in cA_m0_in f_m0_in m0_people cA_m0_people (upd f_m0_people (Int32.toNatClampNeg 4) x_259) m0_at0 cA_m0_at0 g_m0_at0_39 m0_stray cA_m0_stray f_256 m0 m0_thrown m0_width m0_many m0_cells m0_moved m0_tape m0_taped n_m0_236 n_m0_237 n_m0_238 n_m0_239 n_m0_240 n_m0_241 n_m0_242 m0_fault m0_faultPlace m0_lines m0_hours m0_courts m0_in m0_gates m0_gate m0_people m0_at0 m0_stray m0_set m0_once m0_truth m0_known m0_isKept x_257 m0_hostPerson m0_hostCourt m0_outside m0_inside m0_can m0_fewest m0_waysTo m0_then m0_two m0_nextTwo m0_three m0_nextThree m0_shut m0_worth m0_digit m0_codes m0_most m0_bestTry m0_dayCourt m0_dayHour m0_dayNo m0_x m0_tape cA_m0_tape f_m0_tape) := hD
                    rw [← ef_260] at hP hD
                    have zi_4 : Int32.toInt 4 = 4 := by decide
                    have hmd_261 : zMd f_m0_in f_m0_courts f_m0_hours f_260 f_m0_stray := zMd.setP (by assumption) ef_260 (by first | with_reducible assumption | omega)
                    have hmd_262 : zMd f_m0_in f_m0_courts f_m0_hours f_260 f_57 := zMd.setS (by assumption) ef_57 (by first | with_reducible assumption | omega) b_f_260
                    have hmd_263 : zMd f_m0_in f_m0_courts f_m0_hours f_260 f_60 := zMd.setS (by assumption) ef_60 (by first | with_reducible assumption | omega) b_f_260
                    have hmd_264 : zMd f_m0_in f_m0_courts f_m0_hours f_260 f_230 := zMd.setS (by assumption) ef_230 (by first | with_reducible assumption | omega) b_f_260
                    have hmd_265 : zMd f_m0_in f_m0_courts f_m0_hours f_260 f_256 := zMd.setS (by assumption) ef_256 (by first | with_reducible assumption | omega) b_f_260
                    have hQ : ¬ n_m0_241.toInt = 0 ∨ (zCt f_256 80 (f_260 (Int32.toNatClampNeg 4)).toInt = x_257.toInt ∧ x_257.toInt ≤ 4) := Or.inl hfb_255
                    have hF : RR = (n_m0_236, n_m0_237, n_m0_238, n_m0_239, n_m0_240, n_m0_241, n_m0_242, x_257, f_260, g_m0_at0_39, f_256) := hF
                    exact W.vret hx hb hr (fun t ht hW => by rw [← hQe]; exact ⟨⟨(), rfl, trivial, ⟨n_m0_236, n_m0_237, n_m0_238, n_m0_239, n_m0_240, n_m0_241, n_m0_242, x_257, f_260, g_m0_at0_39, f_256, (by first | with_reducible assumption | omega), (by first | with_reducible assumption | omega), (by first | with_reducible assumption | omega), (by first | with_reducible assumption | omega), (by first | with_reducible assumption | omega), b_f_260, b_g_m0_at0_39, b_f_256, (by first | omega | assumption), (by first | omega | assumption), (by assumption), (by first | omega | assumption), (by rw [← hRR, hF]), (by rw [← hRR, hF]), (by rw [← hRR, hF]), (by rw [← hRR, hF]), (by rw [← hRR, hF]), (by rw [← hRR, hF]), (by rw [← hRR, hF]), (by rw [← hRR, hF]), (by rw [← hRR, hF]), (by rw [← hRR, hF]), (by rw [← hRR, hF]), z_ret hP hK hD ht hW [6, 7, 0, 1, 2, 3, 4, 5] [] rfl (by decide) rfl⟩⟩, hS.F ht⟩) hS.2.2 dX10_personLine_260
                  · have ic_207 := zz_neq rfl (show Int32.toInt 0 = 0 from by decide) c_207
                    replace hF := hF.trans (if_neg c_207)
                    refine lv_aload_n hx hb dX10_personLine_195 rfl (lv_at hl 0 rfl) ?_
                    obtain ⟨hPc, hDc, hFc⟩ := z_cut (wc := (zV264 m0 m0_thrown m0_width m0_many m0_cells m0_moved m0_tape m0_taped n_m0_41 n_m0_42 n_m0_43 n_m0_44 n_m0_45 n_m0_199 n_m0_200 m0_fault m0_faultPlace m0_lines m0_hours m0_courts m0_in m0_gates m0_gate m0_people m0_at0 m0_stray m0_set m0_once m0_truth m0_known m0_isKept m0_strays m0_hostPerson m0_hostCourt m0_outside m0_inside m0_can m0_fewest m0_waysTo m0_then m0_two m0_nextTwo m0_three m0_nextThree m0_shut m0_worth m0_digit m0_codes m0_most m0_bestTry m0_dayCourt m0_dayHour m0_dayNo m0_x m0_tape cA_m0_tape f_m0_tape)) hP hD hS hA [7, 6] rfl (by decide +kernel)
                    have hKc := hK.sub (tys' := [(cA_m0_tape, .byte)]) [0] rfl
                    refine va_callv (va_runV (As := []) (rest := []) ⟨hx, hb, hml, hown, hts⟩ (kf_X10_next l sa dC dI m0 m0_thrown m0_width m0_many m0_cells m0_moved m0_tape m0_taped n_m0_41 n_m0_42 n_m0_43 n_m0_44 n_m0_45 n_m0_199 n_m0_200 m0_fault m0_faultPlace m0_lines m0_hours m0_courts m0_in m0_gates m0_gate m0_people m0_at0 m0_stray m0_set m0_once m0_truth m0_known m0_isKept m0_strays m0_hostPerson m0_hostCourt m0_outside m0_inside m0_can m0_fewest m0_waysTo m0_then m0_two m0_nextTwo m0_three m0_nextThree m0_shut m0_worth m0_digit m0_codes m0_most m0_bestTry m0_dayCourt m0_dayHour m0_dayNo m0_x cA_m0_tape f_m0_tape b_m0_taped (by first | with_reducible assumption | omega) (by first | with_reducible assumption | omega) (by first | with_reducible assumption | omega) (by first | with_reducible assumption | omega) b_m0_strays b_m0_hostCourt b_m0_dayCourt b_m0_dayHour (by first | assumption | omega) H.size) (cwV 0 hts (z_gV zw_t7_71 zw_t7_73 zw_s4_9 zw_t1_11 zw_t7_74) rfl rfl rfl (by decide +kernel) (by rw [← hRe]; exact ⟨(Nat.le_of_ble_eq_true rfl), (Nat.le_of_ble_eq_true rfl)⟩)) (z_preV hPc hKc hDc hN hXs hS hFc (q := (RX10, TX10, 53)) (ci := 10) (q0 := 0) rfl rfl) rfl rfl hl.1 rfl (lv_room (Nat.le_of_ble_eq_true rfl)) dX10_personLine_196 (by rw [← hRe]; exact ⟨(Nat.le_of_ble_eq_true rfl), (Nat.le_of_ble_eq_true rfl)⟩)) hS (fun q _ h => hFc q h) hFc (fun u t H1 locs ht hvm hw hB hz1 hk1 hS => ?_)
                    refine hB.elim fun n_m0_267 ze1 => ze1.elim fun n_m0_268 ze2 => ze2.elim fun n_m0_269 ze3 => ze3.elim fun n_m0_270 ze4 => ze4.elim fun n_m0_271 ze5 => ze5.elim fun b_n_m0_267 ze6 => ze6.elim fun b_n_m0_268 ze7 => ze7.elim fun b_n_m0_270 ze8 => ze8.elim fun hf_272 ze9 => ze9.elim fun hf_273 ze10 => ze10.elim fun hf_274 ze11 => ze11.elim fun hf_275 ze12 => ze12.elim fun hf_276 ze13 => ze13.elim fun hf_277 ze14 => ze14.elim fun hf_278 ze15 => ?_
                    clear hB ze1 ze2 ze3 ze4 ze5 ze6 ze7 ze8 ze9 ze10 ze11 ze12 ze13 ze14
                    have hB := ze15
                    clear ze15
                    obtain ⟨hP, hD, hK⟩ := z_after3 (wn := (zV281 m0_hours cA_m0_hours f_m0_hours m0_courts cA_m0_courts f_m0_courts m0_in cA_m0_in f_m0_in m0_people cA_m0_people f_m0_people m0_at0 cA_m0_at0 g_m0_at0_39 m0_stray cA_m0_stray f_60 m0 m0_thrown m0_width m0_many m0_cells m0_moved m0_tape m0_taped n_m0_267 n_m0_268 n_m0_269 n_m0_270 n_m0_271 n_m0_199 n_m0_200 m0_fault m0_faultPlace m0_lines m0_hours m0_courts m0_in m0_gates m0_gate m0_people m0_at0 m0_stray m0_set m0_once m0_truth m0_known m0_isKept m0_strays m0_hostPerson m0_hostCourt m0_outside m0_inside m0_can m0_fewest m0_waysTo m0_then m0_two m0_nextTwo m0_three m0_nextThree m0_shut m0_worth m0_digit m0_codes m0_most m0_bestTry m0_dayCourt m0_dayHour m0_dayNo m0_x m0_tape cA_m0_tape f_m0_tape)) hB ht hvm hP hD hK [7, 6] [0, 1, 2, 3, 4, 5] rfl 8 rfl (by decide +kernel) rfl (by decide +kernel) hk1 hFc
                    generalize H1 = H at hP hS ⊢
                    have hK : va_K (dC, dI) vwCl [(cA_m0_tape, .byte), (cA_m0_hours, .int), (cA_m0_courts, .int), (cA_m0_in, .int), (cA_m0_people, .int), (cA_m0_at0, .int), (cA_m0_stray, .int)] s := hK
                    replace hF := hF.trans (zL_eq rfl)
                    replace hF := hF.trans (zL_eq hf_274)
                    replace hF := hF.trans (zL_eq hf_275)
                    replace hF := hF.trans (zL_eq hf_276)
                    replace hF := hF.trans (zL_eq hf_277)
                    replace hF := hF.trans (zL_eq hf_278)
                    have hms_hf_273 : zMs (n_m0_199.toInt) (n_m0_267.toInt) (n_m0_268.toInt) ≤ zMs (n_m0_199.toInt) (n_m0_41.toInt) (n_m0_42.toInt) := zNx.le hf_273 (by first | with_reducible assumption | omega) (by first | with_reducible assumption | omega)
                    refine lv_aload_n hx hb dX10_personLine_199 rfl (lv_at hl 0 rfl) ?_
                    refine va_get (D := (dC, dI)) (ci := 10) (v := .ref m0_stray) (C := RX10) (T := TX10) (N := 53) hx hb hts zl_X10 hown hK hP 6 rfl rfl 24 (by decide) (hts _ zw_t6_124) (fun _ h9 => h9) rfl dX10_personLine_200 ?_
                    refine lv_iconst (v := 2) hx hb dX10_personLine_203 (by decide) ?_
                    refine lv_iload_n hx hb dX10_personLine_204 rfl (lv_at hl 1 rfl) ?_
                    refine lv_imul hx hb dX10_personLine_205 ?_
                    refine lv_topi (fun x_280 ex_280 => ?_)
                    replace hF := hF.trans (zL_eq ex_280)
                    have b_x_280 : x_280.toInt = 2 * x_2.toInt := by rw [ex_280]; exact zi_mul (show Int32.toInt 2 = 2 from by decide) rfl (z_rmc (z_eca b_x_2 b_x_1) (by decide))
                    refine lv_aload_n hx hb dX10_personLine_206 rfl (lv_at hl 0 rfl) ?_
                    refine lv_iconst (v := 1) hx hb dX10_personLine_207 (by decide) ?_
                    refine lv_bipush (v := 99) hx hb dX10_personLine_208 (by decide) ?_
                    obtain ⟨hPc, hDc, hFc⟩ := z_cut (wc := (zV264 m0 m0_thrown m0_width m0_many m0_cells m0_moved m0_tape m0_taped n_m0_267 n_m0_268 n_m0_269 n_m0_270 n_m0_271 n_m0_199 n_m0_200 m0_fault m0_faultPlace m0_lines m0_hours m0_courts m0_in m0_gates m0_gate m0_people m0_at0 m0_stray m0_set m0_once m0_truth m0_known m0_isKept m0_strays m0_hostPerson m0_hostCourt m0_outside m0_inside m0_can m0_fewest m0_waysTo m0_then m0_two m0_nextTwo m0_three m0_nextThree m0_shut m0_worth m0_digit m0_codes m0_most m0_bestTry m0_dayCourt m0_dayHour m0_dayNo m0_x m0_tape cA_m0_tape f_m0_tape)) hP hD hS hA [6, 7] rfl (by decide +kernel)
                    have hKc := hK.sub (tys' := [(cA_m0_tape, .byte)]) [0] rfl
                    refine va_calli (va_runV (As := [.int 1, .int 99]) (rest := [.int x_280, .ref m0_stray]) ⟨hx, hb, hml, hown, hts⟩ (kf_X10_number l sa dC dI m0 (1) (99) m0_thrown m0_width m0_many m0_cells m0_moved m0_tape m0_taped n_m0_267 n_m0_268 n_m0_269 n_m0_270 n_m0_271 n_m0_199 n_m0_200 m0_fault m0_faultPlace m0_lines m0_hours m0_courts m0_in m0_gates m0_gate m0_people m0_at0 m0_stray m0_set m0_once m0_truth m0_known m0_isKept m0_strays m0_hostPerson m0_hostCourt m0_outside m0_inside m0_can m0_fewest m0_waysTo m0_then m0_two m0_nextTwo m0_three m0_nextThree m0_shut m0_worth m0_digit m0_codes m0_most m0_bestTry m0_dayCourt m0_dayHour m0_dayNo m0_x cA_m0_tape f_m0_tape (by decide) (by decide) b_m0_taped (by first | with_reducible assumption | omega) (by first | with_reducible assumption | omega) (by first | with_reducible assumption | omega) (by first | with_reducible assumption | omega) b_m0_strays b_m0_hostCourt b_m0_dayCourt b_m0_dayHour (by first | assumption | omega) H.size) (cwV 2 hts (z_gV zw_t7_110 zw_t7_112 zw_s5_1 zw_t1_11 zw_t7_113) rfl rfl rfl (by decide +kernel) (by rw [← hRe]; exact ⟨(Nat.le_of_ble_eq_true rfl), (Nat.le_of_ble_eq_true rfl)⟩)) (z_preV hPc hKc hDc hN hXs hS hFc (q := (RX10, TX10, 53)) (ci := 10) (q0 := 0) rfl rfl) rfl rfl hl.1 rfl (lv_room (Nat.le_of_ble_eq_true rfl)) dX10_personLine_210 (by rw [← hRe]; exact ⟨(Nat.le_of_ble_eq_true rfl), (Nat.le_of_ble_eq_true rfl)⟩)) hS (fun q _ h => hFc q h) hFc (fun r_281 u t H1 locs ht hvm hw hB hz1 hk1 hS => ?_)
                    obtain ⟨hu, hw⟩ := hw
                    rw [hu] at hB
                    refine hB.elim fun n_m0_282 ze1 => ze1.elim fun n_m0_283 ze2 => ze2.elim fun n_m0_284 ze3 => ze3.elim fun n_m0_285 ze4 => ze4.elim fun n_m0_286 ze5 => ze5.elim fun n_m0_287 ze6 => ze6.elim fun n_m0_288 ze7 => ze7.elim fun b_n_m0_282 ze8 => ze8.elim fun b_n_m0_283 ze9 => ze9.elim fun b_n_m0_285 ze10 => ze10.elim fun b_n_m0_287 ze11 => ze11.elim fun hf_289 ze12 => ze12.elim fun hf_290 ze13 => ze13.elim fun hf_291 ze14 => ze14.elim fun hf_292 ze15 => ze15.elim fun hf_293 ze16 => ze16.elim fun hf_294 ze17 => ze17.elim fun hf_295 ze18 => ze18.elim fun hf_296 ze19 => ze19.elim fun hf_297 ze20 => ze20.elim fun hf_298 ze21 => ze21.elim fun hf_299 ze22 => ?_
                    clear hB ze1 ze2 ze3 ze4 ze5 ze6 ze7 ze8 ze9 ze10 ze11 ze12 ze13 ze14 ze15 ze16 ze17 ze18 ze19 ze20 ze21
                    have hB := ze22
                    clear ze22
                    obtain ⟨hP, hD, hK⟩ := z_after3 (wn := (zV281 m0_hours cA_m0_hours f_m0_hours m0_courts cA_m0_courts f_m0_courts m0_in cA_m0_in f_m0_in m0_people cA_m0_people f_m0_people m0_at0 cA_m0_at0 g_m0_at0_39 m0_stray cA_m0_stray f_60 m0 m0_thrown m0_width m0_many m0_cells m0_moved m0_tape m0_taped n_m0_282 n_m0_283 n_m0_284 n_m0_285 n_m0_286 n_m0_287 n_m0_288 m0_fault m0_faultPlace m0_lines m0_hours m0_courts m0_in m0_gates m0_gate m0_people m0_at0 m0_stray m0_set m0_once m0_truth m0_known m0_isKept m0_strays m0_hostPerson m0_hostCourt m0_outside m0_inside m0_can m0_fewest m0_waysTo m0_then m0_two m0_nextTwo m0_three m0_nextThree m0_shut m0_worth m0_digit m0_codes m0_most m0_bestTry m0_dayCourt m0_dayHour m0_dayNo m0_x m0_tape cA_m0_tape f_m0_tape)) hB ht hvm hP hD hK [6, 7] [0, 1, 2, 3, 4, 5] rfl 8 rfl (by decide +kernel) rfl (by decide +kernel) hk1 hFc
                    generalize H1 = H at hP hS ⊢
                    have hK : va_K (dC, dI) vwCl [(cA_m0_tape, .byte), (cA_m0_hours, .int), (cA_m0_courts, .int), (cA_m0_in, .int), (cA_m0_people, .int), (cA_m0_at0, .int), (cA_m0_stray, .int)] s := hK
                    have b_r_281 : 0 ≤ r_281.toInt ∧ r_281.toInt ≤ 99 := hw.1
                    have s_r_281 := hw.2.1
                    have sf_r_281 := hw.2.2
                    have za_1 : Int32.toInt 1 = 1 := by decide
                    have za_99 : Int32.toInt 99 = 99 := by decide
                    replace hF := hF.trans (zL_eq rfl)
                    replace hF := hF.trans (zL_eq sf_r_281)
                    replace hF := hF.trans (zL_eq hf_293)
                    replace hF := hF.trans (zL_eq hf_294)
                    replace hF := hF.trans (zL_eq hf_295)
                    replace hF := hF.trans (zL_eq hf_296)
                    replace hF := hF.trans (zL_eq hf_297)
                    replace hF := hF.trans (zL_eq hf_298)
                    replace hF := hF.trans (zL_eq hf_299)
                    have hfb_301 := zMo.go hf_292 hf_201
                    refine va_iast hx hb hK hP hD hS 5 6 rfl rfl (zi_in rfl (by first | with_reducible assumption | omega)) dX10_personLine_213 (fun H locs hP hD hS => ?_)
                    obtain ⟨f_302, ef_302⟩ : ∃ g : Nat → Int32, g = upd f_60 (Int32.toNatClampNeg x_280) r_281 := ⟨_, rfl⟩
                    replace hF := hF.trans (zL_eq ef_302)
                    have kx_f_302 := zi_clamp (x := x_280) rfl (z_r0 (z_emc (c := 2) b_x_280 (z_eca b_x_2 b_x_1)) (by decide))
                    have b_f_302 : ∀ j : Nat, 0 ≤ (f_302 j).toInt ∧ (f_302 j).toInt ≤ 99 ∧ (j % 2 = 1 → (f_302 j).toInt ≤ 9) := by rw [ef_302]; exact zi_updP b_f_60 rfl (by first | with_reducible assumption | omega)
                    have hP : va_P (dC, dI) vwCl (zV281 m0_hours cA_m0_hours f_m0_hours m0_courts cA_m0_courts f_m0_courts m0_in cA_m0_in f_m0_in m0_people cA_m0_people f_m0_people m0_at0 cA_m0_at0 g_m0_at0_39 m0_stray cA_m0_stray (upd f_60 (Int32.toNatClampNeg x_280) r_281) m0 m0_thrown m0_width m0_many m0_cells m0_moved m0_tape m0_taped n_m0_282 n_m0_283 n_m0_284 n_m0_285 n_m0_286 n_m0_287 n_m0_288 m0_fault m0_faultPlace m0_lines m0_hours m0_courts m0_in m0_gates m0_gate m0_people m0_at0 m0_stray m0_set m0_once m0_truth m0_known m0_isKept m0_strays m0_hostPerson m0_hostCourt m0_outside m0_inside m0_can m0_fewest m0_waysTo m0_then m0_two m0_nextTwo m0_three m0_nextThree m0_shut m0_worth m0_digit m0_codes m0_most m0_bestTry m0_dayCourt m0_dayHour m0_dayNo m0_x m0_tape cA_m0_tape f_m0_tape) H := hP
                    have hD : va_D A (zV281 m0_hours cA_m0_hours f_m0_hours m0_courts cA_m0_courts f_m0_courts m0_in cA_m0_in f_m0_in m0_people cA_m0_people f_m0_people m0_at0 cA_m0_at0 g_m0_at0_39 m0_stray cA_m0_stray (upd f_60 (Int32.toNatClampNeg x_280) r_281) m0 m0_thrown m0_width m0_many m0_cells m0_moved m0_tape m0_taped n_m0_282 n_m0_283 n_m0_284 n_m0_285 n_m0_286 n_m0_287 n_m0_288 m0_fault m0_faultPlace m0_lines m0_hours m0_courts m0_in m0_gates m0_gate m0_people m0_at0 m0_stray m0_set m0_once m0_truth m0_known m0_isKept m0_strays m0_hostPerson m0_hostCourt m0_outside m0_inside m0_can m0_fewest m0_waysTo m0_then m0_two m0_nextTwo m0_three m0_nextThree m0_shut m0_worth m0_digit m0_codes m0_most m0_bestTry m0_dayCourt m0_dayHour m0_dayNo m0_x m0_tape cA_m0_tape f_m0_tape) := hD
                    rw [← ef_302] at hP hD
                    refine lv_aload_n hx hb dX10_personLine_214 rfl (lv_at hl 0 rfl) ?_
                    refine va_get (D := (dC, dI)) (ci := 10) (v := .ref m0_stray) (C := RX10) (T := TX10) (N := 53) hx hb hts zl_X10 hown hK hP 6 rfl rfl 24 (by decide) (hts _ zw_t6_124) (fun _ h9 => h9) rfl dX10_personLine_215 ?_
                    refine lv_iconst (v := 2) hx hb dX10_personLine_218 (by decide) ?_
                    refine lv_iload_n hx hb dX10_personLine_219 rfl (lv_at hl 1 rfl) ?_
                    refine lv_imul hx hb dX10_personLine_220 ?_
                    refine lv_topi (fun x_303 ex_303 => ?_)
                    replace hF := hF.trans (zL_eq ex_303)
                    have b_x_303 : x_303.toInt = 2 * x_2.toInt := by rw [ex_303]; exact zi_mul (show Int32.toInt 2 = 2 from by decide) rfl (z_rmc (z_eca b_x_2 b_x_1) (by decide))
                    refine lv_iconst (v := 1) hx hb dX10_personLine_221 (by decide) ?_
                    refine lv_iadd hx hb dX10_personLine_222 ?_
                    refine lv_topi (fun x_304 ex_304 => ?_)
                    replace hF := hF.trans (zL_eq ex_304)
                    have b_x_304 : x_304.toInt = x_303.toInt + 1 := by rw [ex_304]; exact zi_add rfl (show Int32.toInt 1 = 1 from by decide) (z_rac (z_emc (c := 2) b_x_303 (z_eca b_x_2 b_x_1)) (by decide))
                    refine lv_aload_n hx hb dX10_personLine_223 rfl (lv_at hl 0 rfl) ?_
                    refine lv_ldc2 (v := 555) hx hb hown (hts _ zw_t7_133) dX10_personLine_224 ?_
                    refine lv_iconst (v := 0) hx hb dX10_personLine_227 (by decide) ?_
                    refine lv_aload_n hx hb dX10_personLine_228 rfl (lv_at hl 0 rfl) ?_
                    refine va_get (D := (dC, dI)) (ci := 10) (v := .ref m0_courts) (C := RX10) (T := TX10) (N := 53) hx hb hts zl_X10 hown hK hP 6 rfl rfl 18 (by decide) (hts _ zw_t6_118) (fun _ h9 => h9) rfl dX10_personLine_229 ?_
                    refine lv_iconst (v := 4) hx hb dX10_personLine_232 (by decide) ?_
                    refine va_iald hx hb hK hP 1 2 rfl rfl (zi_in (show Int32.toInt 4 = 4 from by decide) (by decide)) dX10_personLine_233 ?_
                    refine lv_topi (fun x_305 ex_305 => ?_)
                    replace hF := hF.trans (zL_eq ex_305)
                    obtain rfl : x_3 = x_305 := ex_3.trans ex_305.symm
                    refine lv_iconst (v := 1) hx hb dX10_personLine_234 (by decide) ?_
                    refine lv_isub hx hb dX10_personLine_235 ?_
                    refine lv_topi (fun x_306 ex_306 => ?_)
                    replace hF := hF.trans (zL_eq ex_306)
                    have b_x_306 : x_306.toInt = x_3.toInt - 1 := by rw [ex_306]; exact zi_sub rfl (show Int32.toInt 1 = 1 from by decide) (z_rsc b_x_3 (by decide))
                    obtain ⟨hPc, hDc, hFc⟩ := z_cut (wc := (zV264 m0 m0_thrown m0_width m0_many m0_cells m0_moved m0_tape m0_taped n_m0_282 n_m0_283 n_m0_284 n_m0_285 n_m0_286 n_m0_287 n_m0_288 m0_fault m0_faultPlace m0_lines m0_hours m0_courts m0_in m0_gates m0_gate m0_people m0_at0 m0_stray m0_set m0_once m0_truth m0_known m0_isKept m0_strays m0_hostPerson m0_hostCourt m0_outside m0_inside m0_can m0_fewest m0_waysTo m0_then m0_two m0_nextTwo m0_three m0_nextThree m0_shut m0_worth m0_digit m0_codes m0_most m0_bestTry m0_dayCourt m0_dayHour m0_dayNo m0_x m0_tape cA_m0_tape f_m0_tape)) hP hD hS hA [6, 7] rfl (by decide +kernel)
                    have hKc := hK.sub (tys' := [(cA_m0_tape, .byte)]) [0] rfl
                    refine va_calli (va_runV (As := [.long 555, .int 0, .int x_306]) (rest := [.int x_304, .ref m0_stray]) ⟨hx, hb, hml, hown, hts⟩ (kf_X10_number_ l sa dC dI m0 (555) (0) x_306 m0_thrown m0_width m0_many m0_cells m0_moved m0_tape m0_taped n_m0_282 n_m0_283 n_m0_284 n_m0_285 n_m0_286 n_m0_287 n_m0_288 m0_fault m0_faultPlace m0_lines m0_hours m0_courts m0_in m0_gates m0_gate m0_people m0_at0 m0_stray m0_set m0_once m0_truth m0_known m0_isKept m0_strays m0_hostPerson m0_hostCourt m0_outside m0_inside m0_can m0_fewest m0_waysTo m0_then m0_two m0_nextTwo m0_three m0_nextThree m0_shut m0_worth m0_digit m0_codes m0_most m0_bestTry m0_dayCourt m0_dayHour m0_dayNo m0_x cA_m0_tape f_m0_tape (by decide) (by first | with_reducible assumption | omega) b_m0_taped (by first | with_reducible assumption | omega) (by first | with_reducible assumption | omega) (by first | with_reducible assumption | omega) (by first | with_reducible assumption | omega) b_m0_strays b_m0_hostCourt b_m0_dayCourt b_m0_dayHour (by first | assumption | omega) H.size) (cwV 3 hts (z_gV zw_t7_106 zw_t7_108 zw_s5_0 zw_t1_11 zw_t7_109) rfl rfl rfl (by decide +kernel) (by rw [← hRe]; exact ⟨(Nat.le_of_ble_eq_true rfl), (Nat.le_of_ble_eq_true rfl)⟩)) (z_preV hPc hKc hDc hN hXs hS hFc (q := (RX10, TX10, 53)) (ci := 10) (q0 := 0) rfl rfl) rfl rfl hl.1 rfl (lv_room (Nat.le_of_ble_eq_true rfl)) dX10_personLine_236 (by rw [← hRe]; exact ⟨(Nat.le_of_ble_eq_true rfl), (Nat.le_of_ble_eq_true rfl)⟩)) hS (fun q _ h => hFc q h) hFc (fun r_307 u t H1 locs ht hvm hw hB hz1 hk1 hS => ?_)
                    obtain ⟨hu, hw⟩ := hw
                    rw [hu] at hB
                    refine hB.elim fun n_m0_308 ze1 => ze1.elim fun n_m0_309 ze2 => ze2.elim fun n_m0_310 ze3 => ze3.elim fun n_m0_311 ze4 => ze4.elim fun n_m0_312 ze5 => ze5.elim fun n_m0_313 ze6 => ze6.elim fun n_m0_314 ze7 => ze7.elim fun b_n_m0_308 ze8 => ze8.elim fun b_n_m0_309 ze9 => ze9.elim fun b_n_m0_311 ze10 => ze10.elim fun b_n_m0_313 ze11 => ze11.elim fun hf_315 ze12 => ze12.elim fun hf_316 ze13 => ze13.elim fun hf_317 ze14 => ze14.elim fun hf_318 ze15 => ze15.elim fun hf_319 ze16 => ze16.elim fun hf_320 ze17 => ze17.elim fun hf_321 ze18 => ze18.elim fun hf_322 ze19 => ze19.elim fun hf_323 ze20 => ze20.elim fun hf_324 ze21 => ze21.elim fun hf_325 ze22 => ?_
                    clear hB ze1 ze2 ze3 ze4 ze5 ze6 ze7 ze8 ze9 ze10 ze11 ze12 ze13 ze14 ze15 ze16 ze17 ze18 ze19 ze20 ze21
                    have hB := ze22
                    clear ze22
                    obtain ⟨hP, hD, hK⟩ := z_after3 (wn := (zV281 m0_hours cA_m0_hours f_m0_hours m0_courts cA_m0_courts f_m0_courts m0_in cA_m0_in f_m0_in m0_people cA_m0_people f_m0_people m0_at0 cA_m0_at0 g_m0_at0_39 m0_stray cA_m0_stray f_302 m0 m0_thrown m0_width m0_many m0_cells m0_moved m0_tape m0_taped n_m0_308 n_m0_309 n_m0_310 n_m0_311 n_m0_312 n_m0_313 n_m0_314 m0_fault m0_faultPlace m0_lines m0_hours m0_courts m0_in m0_gates m0_gate m0_people m0_at0 m0_stray m0_set m0_once m0_truth m0_known m0_isKept m0_strays m0_hostPerson m0_hostCourt m0_outside m0_inside m0_can m0_fewest m0_waysTo m0_then m0_two m0_nextTwo m0_three m0_nextThree m0_shut m0_worth m0_digit m0_codes m0_most m0_bestTry m0_dayCourt m0_dayHour m0_dayNo m0_x m0_tape cA_m0_tape f_m0_tape)) hB ht hvm hP hD hK [6, 7] [0, 1, 2, 3, 4, 5] rfl 8 rfl (by decide +kernel) rfl (by decide +kernel) hk1 hFc
                    generalize H1 = H at hP hS ⊢
                    have hK : va_K (dC, dI) vwCl [(cA_m0_tape, .byte), (cA_m0_hours, .int), (cA_m0_courts, .int), (cA_m0_in, .int), (cA_m0_people, .int), (cA_m0_at0, .int), (cA_m0_stray, .int)] s := hK
                    have b_r_307 : 0 ≤ r_307.toInt ∧ r_307.toInt ≤ 99 := hw.1
                    have s_r_307 := hw.2.1
                    have sf_r_307 := hw.2.2
                    have zal_555 : Int64.toInt 555 = 555 := by decide
                    have za_0 : Int32.toInt 0 = 0 := by decide
                    replace hF := hF.trans (zL_eq rfl)
                    replace hF := hF.trans (zL_eq sf_r_307)
                    replace hF := hF.trans (zL_eq hf_319)
                    replace hF := hF.trans (zL_eq hf_320)
                    replace hF := hF.trans (zL_eq hf_321)
                    replace hF := hF.trans (zL_eq hf_322)
                    replace hF := hF.trans (zL_eq hf_323)
                    replace hF := hF.trans (zL_eq hf_324)
                    replace hF := hF.trans (zL_eq hf_325)
                    have hfb_327 := zMo.go hf_318 hfb_301
                    have hmz : n_m0_287.toInt = 0 ∨ ¬ n_m0_313.toInt = 0 := hf_318
                    refine va_iast hx hb hK hP hD hS 5 6 rfl rfl (zi_in rfl (by first | with_reducible assumption | omega)) dX10_personLine_239 (fun H locs hP hD hS => ?_)
                    obtain ⟨f_328, ef_328⟩ : ∃ g : Nat → Int32, g = upd f_302 (Int32.toNatClampNeg x_304) r_307 := ⟨_, rfl⟩
                    replace hF := hF.trans (zL_eq ef_328)
                    have kx_f_328 := zi_clamp (x := x_304) rfl (z_r0 (z_eac b_x_304 (z_emc (c := 2) b_x_303 (z_eca b_x_2 b_x_1))) (by decide))
                    have b_f_328 : ∀ j : Nat, 0 ≤ (f_328 j).toInt ∧ (f_328 j).toInt ≤ 99 ∧ (j % 2 = 1 → (f_328 j).toInt ≤ 9) := by rw [ef_328]; exact zi_updP b_f_302 rfl (by first | with_reducible assumption | omega)
                    have hP : va_P (dC, dI) vwCl (zV281 m0_hours cA_m0_hours f_m0_hours m0_courts cA_m0_courts f_m0_courts m0_in cA_m0_in f_m0_in m0_people cA_m0_people f_m0_people m0_at0 cA_m0_at0 g_m0_at0_39 m0_stray cA_m0_stray (upd f_302 (Int32.toNatClampNeg x_304) r_307) m0 m0_thrown m0_width m0_many m0_cells m0_moved m0_tape m0_taped n_m0_308 n_m0_309 n_m0_310 n_m0_311 n_m0_312 n_m0_313 n_m0_314 m0_fault m0_faultPlace m0_lines m0_hours m0_courts m0_in m0_gates m0_gate m0_people m0_at0 m0_stray m0_set m0_once m0_truth m0_known m0_isKept m0_strays m0_hostPerson m0_hostCourt m0_outside m0_inside m0_can m0_fewest m0_waysTo m0_then m0_two m0_nextTwo m0_three m0_nextThree m0_shut m0_worth m0_digit m0_codes m0_most m0_bestTry m0_dayCourt m0_dayHour m0_dayNo m0_x m0_tape cA_m0_tape f_m0_tape) H := hP
                    have hD : va_D A (zV281 m0_hours cA_m0_hours f_m0_hours m0_courts cA_m0_courts f_m0_courts m0_in cA_m0_in f_m0_in m0_people cA_m0_people f_m0_people m0_at0 cA_m0_at0 g_m0_at0_39 m0_stray cA_m0_stray (upd f_302 (Int32.toNatClampNeg x_304) r_307) m0 m0_thrown m0_width m0_many m0_cells m0_moved m0_tape m0_taped n_m0_308 n_m0_309 n_m0_310 n_m0_311 n_m0_312 n_m0_313 n_m0_314 m0_fault m0_faultPlace m0_lines m0_hours m0_courts m0_in m0_gates m0_gate m0_people m0_at0 m0_stray m0_set m0_once m0_truth m0_known m0_isKept m0_strays m0_hostPerson m0_hostCourt m0_outside m0_inside m0_can m0_fewest m0_waysTo m0_then m0_two m0_nextTwo m0_three m0_nextThree m0_shut m0_worth m0_digit m0_codes m0_most m0_bestTry m0_dayCourt m0_dayHour m0_dayNo m0_x m0_tape cA_m0_tape f_m0_tape) := hD
                    rw [← ef_328] at hP hD
                    refine lv_aload_n hx hb dX10_personLine_240 rfl (lv_at hl 0 rfl) ?_
                    refine lv_dup hx hb dX10_personLine_241 rfl ?_
                    refine va_get (D := (dC, dI)) (ci := 10) (v := .int m0_strays) (C := RX10) (T := TX10) (N := 53) hx hb hts zl_X10 hown hK hP 6 rfl rfl 30 (by decide) (hts _ zw_t6_130) (fun _ h9 => h9) rfl dX10_personLine_242 ?_
                    refine lv_iconst (v := 1) hx hb dX10_personLine_245 (by decide) ?_
                    refine lv_iadd hx hb dX10_personLine_246 ?_
                    refine lv_topi (fun x_329 ex_329 => ?_)
                    replace hF := hF.trans (zL_eq ex_329)
                    have b_x_329 : x_329.toInt = m0_strays.toInt + 1 := by rw [ex_329]; exact zi_add rfl (show Int32.toInt 1 = 1 from by decide) (z_rac b_m0_strays (by decide))
                    refine va_put (D := (dC, dI)) (ci := 10) (v := .int x_329) (ty := .int) (C := RX10) (T := TX10) (N := 53) hx hb hts zl_X10 tyX10 tyX10_ok nmX10 hown hK hP hD hS 6 rfl rfl 30 (by decide) (hts _ zw_t6_130) (fun _ h9 => h9) rfl (by decide +kernel) rfl rfl (Nat.le_of_ble_eq_true rfl) dX10_personLine_247 (fun H locs hP hD hS => ?_)
                    have hP : va_P (dC, dI) vwCl (zV281 m0_hours cA_m0_hours f_m0_hours m0_courts cA_m0_courts f_m0_courts m0_in cA_m0_in f_m0_in m0_people cA_m0_people f_m0_people m0_at0 cA_m0_at0 g_m0_at0_39 m0_stray cA_m0_stray f_328 m0 m0_thrown m0_width m0_many m0_cells m0_moved m0_tape m0_taped n_m0_308 n_m0_309 n_m0_310 n_m0_311 n_m0_312 n_m0_313 n_m0_314 m0_fault m0_faultPlace m0_lines m0_hours m0_courts m0_in m0_gates m0_gate m0_people m0_at0 m0_stray m0_set m0_once m0_truth m0_known m0_isKept x_329 m0_hostPerson m0_hostCourt m0_outside m0_inside m0_can m0_fewest m0_waysTo m0_then m0_two m0_nextTwo m0_three m0_nextThree m0_shut m0_worth m0_digit m0_codes m0_most m0_bestTry m0_dayCourt m0_dayHour m0_dayNo m0_x m0_tape cA_m0_tape f_m0_tape) H := hP
                    have hD : va_D A (zV281 m0_hours cA_m0_hours f_m0_hours m0_courts cA_m0_courts f_m0_courts m0_in cA_m0_in f_m0_in m0_people cA_m0_people f_m0_people m0_at0 cA_m0_at0 g_m0_at0_39 m0_stray cA_m0_stray f_328 m0 m0_thrown m0_width m0_many m0_cells m0_moved m0_tape m0_taped n_m0_308 n_m0_309 n_m0_310 n_m0_311 n_m0_312 n_m0_313 n_m0_314 m0_fault m0_faultPlace m0_lines m0_hours m0_courts m0_in m0_gates m0_gate m0_people m0_at0 m0_stray m0_set m0_once m0_truth m0_known m0_isKept x_329 m0_hostPerson m0_hostCourt m0_outside m0_inside m0_can m0_fewest m0_waysTo m0_then m0_two m0_nextTwo m0_three m0_nextThree m0_shut m0_worth m0_digit m0_codes m0_most m0_bestTry m0_dayCourt m0_dayHour m0_dayNo m0_x m0_tape cA_m0_tape f_m0_tape) := hD
                    refine lv_aload_n hx hb dX10_personLine_250 rfl (lv_at hl 0 rfl) ?_
                    refine va_get (D := (dC, dI)) (ci := 10) (v := .ref m0_people) (C := RX10) (T := TX10) (N := 53) hx hb hts zl_X10 hown hK hP 6 rfl rfl 22 (by decide) (hts _ zw_t6_122) (fun _ h9 => h9) rfl dX10_personLine_251 ?_
                    refine lv_iconst (v := 4) hx hb dX10_personLine_254 (by decide) ?_
                    refine lv_dup2_11 hx hb dX10_personLine_255 rfl rfl ?_
                    refine va_iald hx hb hK hP 3 4 rfl rfl (zi_in (show Int32.toInt 4 = 4 from by decide) (by decide)) dX10_personLine_256 ?_
                    refine lv_topi (fun x_330 ex_330 => ?_)
                    replace hF := hF.trans (zL_eq ex_330)
                    obtain rfl : x_1 = x_330 := ex_1.trans ex_330.symm
                    refine lv_iconst (v := 1) hx hb dX10_personLine_257 (by decide) ?_
                    refine lv_iadd hx hb dX10_personLine_258 ?_
                    refine lv_topi (fun x_331 ex_331 => ?_)
                    replace hF := hF.trans (zL_eq ex_331)
                    have b_x_331 : x_331.toInt = x_1.toInt + 1 := by rw [ex_331]; exact zi_add rfl (show Int32.toInt 1 = 1 from by decide) (z_rac b_x_1 (by decide))
                    refine va_iast hx hb hK hP hD hS 3 4 rfl rfl (zi_in (show Int32.toInt 4 = 4 from by decide) (by decide)) dX10_personLine_259 (fun H locs hP hD hS => ?_)
                    obtain ⟨f_332, ef_332⟩ : ∃ g : Nat → Int32, g = upd f_m0_people (Int32.toNatClampNeg 4) x_331 := ⟨_, rfl⟩
                    replace hF := hF.trans (zL_eq ef_332)
                    have u_f_332 : (f_332 (Int32.toNatClampNeg 4)).toInt = x_331.toInt := by rw [ef_332, pk_us]
                    have b_f_332 : ∀ j : Nat, 0 ≤ (f_332 j).toInt ∧ (f_332 j).toInt ≤ 10 := by rw [ef_332]; exact zi_upd b_f_m0_people rfl (by first | with_reducible assumption | omega)
                    have hP : va_P (dC, dI) vwCl (zV281 m0_hours cA_m0_hours f_m0_hours m0_courts cA_m0_courts f_m0_courts m0_in cA_m0_in f_m0_in m0_people cA_m0_people (upd f_m0_people (Int32.toNatClampNeg 4) x_331) m0_at0 cA_m0_at0 g_m0_at0_39 m0_stray cA_m0_stray f_328 m0 m0_thrown m0_width m0_many m0_cells m0_moved m0_tape m0_taped n_m0_308 n_m0_309 n_m0_310 n_m0_311 n_m0_312 n_m0_313 n_m0_314 m0_fault m0_faultPlace m0_lines m0_hours m0_courts m0_in m0_gates m0_gate m0_people m0_at0 m0_stray m0_set m0_once m0_truth m0_known m0_isKept x_329 m0_hostPerson m0_hostCourt m0_outside m0_inside m0_can m0_fewest m0_waysTo m0_then m0_two m0_nextTwo m0_three m0_nextThree m0_shut m0_worth m0_digit m0_codes m0_most m0_bestTry m0_dayCourt m0_dayHour m0_dayNo m0_x m0_tape cA_m0_tape f_m0_tape) H := hP
                    have hD : va_D A (zV281 m0_hours cA_m0_hours f_m0_hours m0_courts cA_m0_courts f_m0_courts m0_in cA_m0_in f_m0_in m0_people cA_m0_people (upd f_m0_people (Int32.toNatClampNeg 4) x_331) m0_at0 cA_m0_at0 g_m0_at0_39 m0_stray cA_m0_stray f_328 m0 m0_thrown m0_width m0_many m0_cells m0_moved m0_tape m0_taped n_m0_308 n_m0_309 n_m0_310 n_m0_311 n_m0_312 n_m0_313 n_m0_314 m0_fault m0_faultPlace m0_lines m0_hours m0_courts m0_in m0_gates m0_gate m0_people m0_at0 m0_stray m0_set m0_once m0_truth m0_known m0_isKept x_329 m0_hostPerson m0_hostCourt m0_outside m0_inside m0_can m0_fewest m0_waysTo m0_then m0_two m0_nextTwo m0_three m0_nextThree m0_shut m0_worth m0_digit m0_codes m0_most m0_bestTry m0_dayCourt m0_dayHour m0_dayNo m0_x m0_tape cA_m0_tape f_m0_tape) := hD
                    rw [← ef_332] at hP hD
                    have zi_4 : Int32.toInt 4 = 4 := by decide
                    have hmd_333 : zMd f_m0_in f_m0_courts f_m0_hours f_332 f_m0_stray := zMd.setP (by assumption) ef_332 (by first | with_reducible assumption | omega)
                    have hmd_334 : zMd f_m0_in f_m0_courts f_m0_hours f_332 f_57 := zMd.setS (by assumption) ef_57 (by first | with_reducible assumption | omega) b_f_332
                    have hmd_335 : zMd f_m0_in f_m0_courts f_m0_hours f_332 f_60 := zMd.setS (by assumption) ef_60 (by first | with_reducible assumption | omega) b_f_332
                    have hmd_336 : zMd f_m0_in f_m0_courts f_m0_hours f_332 f_302 := zMd.setS (by assumption) ef_302 (by first | with_reducible assumption | omega) b_f_332
                    have hmd_337 : zMd f_m0_in f_m0_courts f_m0_hours f_332 f_328 := zMd.setS (by assumption) ef_328 (by first | with_reducible assumption | omega) b_f_332
                    have hQ : ¬ n_m0_313.toInt = 0 ∨ (zCt f_328 80 (f_332 (Int32.toNatClampNeg 4)).toInt = x_329.toInt ∧ x_329.toInt ≤ 4) := Or.inl hfb_327
                    have hF : RR = (n_m0_308, n_m0_309, n_m0_310, n_m0_311, n_m0_312, n_m0_313, n_m0_314, x_329, f_332, g_m0_at0_39, f_328) := hF
                    exact W.vret hx hb hr (fun t ht hW => by rw [← hQe]; exact ⟨⟨(), rfl, trivial, ⟨n_m0_308, n_m0_309, n_m0_310, n_m0_311, n_m0_312, n_m0_313, n_m0_314, x_329, f_332, g_m0_at0_39, f_328, (by first | with_reducible assumption | omega), (by first | with_reducible assumption | omega), (by first | with_reducible assumption | omega), (by first | with_reducible assumption | omega), (by first | with_reducible assumption | omega), b_f_332, b_g_m0_at0_39, b_f_328, (by first | omega | assumption), (by first | omega | assumption), (by assumption), (by first | omega | assumption), (by rw [← hRR, hF]), (by rw [← hRR, hF]), (by rw [← hRR, hF]), (by rw [← hRR, hF]), (by rw [← hRR, hF]), (by rw [← hRR, hF]), (by rw [← hRR, hF]), (by rw [← hRR, hF]), (by rw [← hRR, hF]), (by rw [← hRR, hF]), (by rw [← hRR, hF]), z_ret hP hK hD ht hW [6, 7, 0, 1, 2, 3, 4, 5] [] rfl (by decide) rfl⟩⟩, hS.F ht⟩) hS.2.2 dX10_personLine_260
            · have ic_55 := zz_neq rfl (show Int32.toInt 0 = 0 from by decide) c_55
              replace hF := hF.trans (if_neg c_55)
              refine lv_aload_n hx hb dX10_personLine_68 rfl (lv_at hl 0 rfl) ?_
              refine lv_iload_n hx hb dX10_personLine_69 rfl (lv_at hl 3 rfl) ?_
              refine lv_iconst (v := 1) hx hb dX10_personLine_70 (by decide) ?_
              refine lv_iadd hx hb dX10_personLine_71 ?_
              refine lv_topi (fun x_338 ex_338 => ?_)
              replace hF := hF.trans (zL_eq ex_338)
              have b_x_338 : x_338.toInt = v3_30.toInt + 1 := by rw [ex_338]; exact zi_add rfl (show Int32.toInt 1 = 1 from by decide) (z_rac b_v3_30 (by decide))
              refine lv_aload_n hx hb dX10_personLine_72 rfl (lv_at hl 0 rfl) ?_
              refine va_get (D := (dC, dI)) (ci := 10) (v := .ref m0_hours) (C := RX10) (T := TX10) (N := 53) hx hb hts zl_X10 hown hK hP 6 rfl rfl 17 (by decide) (hts _ zw_t6_117) (fun _ h9 => h9) rfl dX10_personLine_73 ?_
              refine lv_iconst (v := 4) hx hb dX10_personLine_76 (by decide) ?_
              refine va_iald hx hb hK hP 0 1 rfl rfl (zi_in (show Int32.toInt 4 = 4 from by decide) (by decide)) dX10_personLine_77 ?_
              refine lv_topi (fun x_339 ex_339 => ?_)
              replace hF := hF.trans (zL_eq ex_339)
              have b_x_339 : 0 ≤ x_339.toInt ∧ x_339.toInt ≤ 48 := by rw [ex_339]; exact b_f_m0_hours _
              have t_x_339 : x_339.toInt = (f_m0_hours (Int32.toNatClampNeg 4)).toInt := by rw [ex_339]
              refine lv_iconst (v := 1) hx hb dX10_personLine_78 (by decide) ?_
              refine lv_isub hx hb dX10_personLine_79 ?_
              refine lv_topi (fun x_340 ex_340 => ?_)
              replace hF := hF.trans (zL_eq ex_340)
              have b_x_340 : x_340.toInt = x_339.toInt - 1 := by rw [ex_340]; exact zi_sub rfl (show Int32.toInt 1 = 1 from by decide) (z_rsc b_x_339 (by decide))
              obtain ⟨hPc, hDc, hFc⟩ := z_cut (wc := (zV264 m0 m0_thrown m0_width m0_many m0_cells m0_moved m0_tape m0_taped n_m0_41 n_m0_42 n_m0_43 n_m0_44 n_m0_45 w_m0_12_37 w_m0_13_38 m0_fault m0_faultPlace m0_lines m0_hours m0_courts m0_in m0_gates m0_gate m0_people m0_at0 m0_stray m0_set m0_once m0_truth m0_known m0_isKept m0_strays m0_hostPerson m0_hostCourt m0_outside m0_inside m0_can m0_fewest m0_waysTo m0_then m0_two m0_nextTwo m0_three m0_nextThree m0_shut m0_worth m0_digit m0_codes m0_most m0_bestTry m0_dayCourt m0_dayHour m0_dayNo m0_x m0_tape cA_m0_tape f_m0_tape)) hP hD hS hA [6, 7] rfl (by decide +kernel)
              have hKc := hK.sub (tys' := [(cA_m0_tape, .byte)]) [0] rfl
              refine va_calli (va_runV (As := [.int x_338, .int x_340]) (rest := []) ⟨hx, hb, hml, hown, hts⟩ (kf_X10_number l sa dC dI m0 x_338 x_340 m0_thrown m0_width m0_many m0_cells m0_moved m0_tape m0_taped n_m0_41 n_m0_42 n_m0_43 n_m0_44 n_m0_45 w_m0_12_37 w_m0_13_38 m0_fault m0_faultPlace m0_lines m0_hours m0_courts m0_in m0_gates m0_gate m0_people m0_at0 m0_stray m0_set m0_once m0_truth m0_known m0_isKept m0_strays m0_hostPerson m0_hostCourt m0_outside m0_inside m0_can m0_fewest m0_waysTo m0_then m0_two m0_nextTwo m0_three m0_nextThree m0_shut m0_worth m0_digit m0_codes m0_most m0_bestTry m0_dayCourt m0_dayHour m0_dayNo m0_x cA_m0_tape f_m0_tape (by first | with_reducible assumption | omega) (by first | with_reducible assumption | omega) b_m0_taped (by first | with_reducible assumption | omega) (by first | with_reducible assumption | omega) (by first | with_reducible assumption | omega) b_w_m0_12_37 b_m0_strays b_m0_hostCourt b_m0_dayCourt b_m0_dayHour (by first | assumption | omega) H.size) (cwV 2 hts (z_gV zw_t7_110 zw_t7_112 zw_s5_1 zw_t1_11 zw_t7_113) rfl rfl rfl (by decide +kernel) (by rw [← hRe]; exact ⟨(Nat.le_of_ble_eq_true rfl), (Nat.le_of_ble_eq_true rfl)⟩)) (z_preV hPc hKc hDc hN hXs hS hFc (q := (RX10, TX10, 53)) (ci := 10) (q0 := 0) rfl rfl) rfl rfl hl.1 rfl (lv_room (Nat.le_of_ble_eq_true rfl)) dX10_personLine_80 (by rw [← hRe]; exact ⟨(Nat.le_of_ble_eq_true rfl), (Nat.le_of_ble_eq_true rfl)⟩)) hS (fun q _ h => hFc q h) hFc (fun r_341 u t H1 locs ht hvm hw hB hz1 hk1 hS => ?_)
              obtain ⟨hu, hw⟩ := hw
              rw [hu] at hB
              refine hB.elim fun n_m0_342 ze1 => ze1.elim fun n_m0_343 ze2 => ze2.elim fun n_m0_344 ze3 => ze3.elim fun n_m0_345 ze4 => ze4.elim fun n_m0_346 ze5 => ze5.elim fun n_m0_347 ze6 => ze6.elim fun n_m0_348 ze7 => ze7.elim fun b_n_m0_342 ze8 => ze8.elim fun b_n_m0_343 ze9 => ze9.elim fun b_n_m0_345 ze10 => ze10.elim fun b_n_m0_347 ze11 => ze11.elim fun hf_349 ze12 => ze12.elim fun hf_350 ze13 => ze13.elim fun hf_351 ze14 => ze14.elim fun hf_352 ze15 => ze15.elim fun hf_353 ze16 => ze16.elim fun hf_354 ze17 => ze17.elim fun hf_355 ze18 => ze18.elim fun hf_356 ze19 => ze19.elim fun hf_357 ze20 => ze20.elim fun hf_358 ze21 => ze21.elim fun hf_359 ze22 => ?_
              clear hB ze1 ze2 ze3 ze4 ze5 ze6 ze7 ze8 ze9 ze10 ze11 ze12 ze13 ze14 ze15 ze16 ze17 ze18 ze19 ze20 ze21
              have hB := ze22
              clear ze22
              obtain ⟨hP, hD, hK⟩ := z_after3 (wn := (zV281 m0_hours cA_m0_hours f_m0_hours m0_courts cA_m0_courts f_m0_courts m0_in cA_m0_in f_m0_in m0_people cA_m0_people f_m0_people m0_at0 cA_m0_at0 g_m0_at0_39 m0_stray cA_m0_stray f_m0_stray m0 m0_thrown m0_width m0_many m0_cells m0_moved m0_tape m0_taped n_m0_342 n_m0_343 n_m0_344 n_m0_345 n_m0_346 n_m0_347 n_m0_348 m0_fault m0_faultPlace m0_lines m0_hours m0_courts m0_in m0_gates m0_gate m0_people m0_at0 m0_stray m0_set m0_once m0_truth m0_known m0_isKept m0_strays m0_hostPerson m0_hostCourt m0_outside m0_inside m0_can m0_fewest m0_waysTo m0_then m0_two m0_nextTwo m0_three m0_nextThree m0_shut m0_worth m0_digit m0_codes m0_most m0_bestTry m0_dayCourt m0_dayHour m0_dayNo m0_x m0_tape cA_m0_tape f_m0_tape)) hB ht hvm hP hD hK [6, 7] [0, 1, 2, 3, 4, 5] rfl 8 rfl (by decide +kernel) rfl (by decide +kernel) hk1 hFc
              generalize H1 = H at hP hS ⊢
              have hK : va_K (dC, dI) vwCl [(cA_m0_tape, .byte), (cA_m0_hours, .int), (cA_m0_courts, .int), (cA_m0_in, .int), (cA_m0_people, .int), (cA_m0_at0, .int), (cA_m0_stray, .int)] s := hK
              have b_r_341 : 0 ≤ r_341.toInt ∧ r_341.toInt ≤ 99 := hw.1
              have s_r_341 := hw.2.1
              have sf_r_341 := hw.2.2
              replace hF := hF.trans (zL_eq rfl)
              replace hF := hF.trans (zL_eq sf_r_341)
              replace hF := hF.trans (zL_eq hf_353)
              replace hF := hF.trans (zL_eq hf_354)
              replace hF := hF.trans (zL_eq hf_355)
              replace hF := hF.trans (zL_eq hf_356)
              replace hF := hF.trans (zL_eq hf_357)
              replace hF := hF.trans (zL_eq hf_358)
              replace hF := hF.trans (zL_eq hf_359)
              refine lv_istore (lv' := [(4, .int r_341), (0, .ref m0), (1, .int x_2), (2, .int v2_29), (3, .int v3_30)]) hx hb dX10_personLine_83 hl (by decide) rfl (fun ls hl => ?_)
              refine lv_aload_n hx hb dX10_personLine_85 rfl (lv_at hl 1 rfl) ?_
              refine lv_ldc2 (v := 47) hx hb hown (hts _ zw_t7_139) dX10_personLine_86 ?_
              refine lv_iconst (v := 0) hx hb dX10_personLine_89 (by decide) ?_
              refine lv_aload_n hx hb dX10_personLine_90 rfl (lv_at hl 1 rfl) ?_
              refine va_get (D := (dC, dI)) (ci := 10) (v := .ref m0_courts) (C := RX10) (T := TX10) (N := 53) hx hb hts zl_X10 hown hK hP 6 rfl rfl 18 (by decide) (hts _ zw_t6_118) (fun _ h9 => h9) rfl dX10_personLine_91 ?_
              refine lv_iconst (v := 4) hx hb dX10_personLine_94 (by decide) ?_
              refine va_iald hx hb hK hP 1 2 rfl rfl (zi_in (show Int32.toInt 4 = 4 from by decide) (by decide)) dX10_personLine_95 ?_
              refine lv_topi (fun x_361 ex_361 => ?_)
              replace hF := hF.trans (zL_eq ex_361)
              obtain rfl : x_3 = x_361 := ex_3.trans ex_361.symm
              refine lv_iconst (v := 1) hx hb dX10_personLine_96 (by decide) ?_
              refine lv_isub hx hb dX10_personLine_97 ?_
              refine lv_topi (fun x_362 ex_362 => ?_)
              replace hF := hF.trans (zL_eq ex_362)
              have b_x_362 : x_362.toInt = x_3.toInt - 1 := by rw [ex_362]; exact zi_sub rfl (show Int32.toInt 1 = 1 from by decide) (z_rsc b_x_3 (by decide))
              obtain ⟨hPc, hDc, hFc⟩ := z_cut (wc := (zV264 m0 m0_thrown m0_width m0_many m0_cells m0_moved m0_tape m0_taped n_m0_342 n_m0_343 n_m0_344 n_m0_345 n_m0_346 n_m0_347 n_m0_348 m0_fault m0_faultPlace m0_lines m0_hours m0_courts m0_in m0_gates m0_gate m0_people m0_at0 m0_stray m0_set m0_once m0_truth m0_known m0_isKept m0_strays m0_hostPerson m0_hostCourt m0_outside m0_inside m0_can m0_fewest m0_waysTo m0_then m0_two m0_nextTwo m0_three m0_nextThree m0_shut m0_worth m0_digit m0_codes m0_most m0_bestTry m0_dayCourt m0_dayHour m0_dayNo m0_x m0_tape cA_m0_tape f_m0_tape)) hP hD hS hA [6, 7] rfl (by decide +kernel)
              have hKc := hK.sub (tys' := [(cA_m0_tape, .byte)]) [0] rfl
              refine va_calli (va_runV (As := [.long 47, .int 0, .int x_362]) (rest := []) ⟨hx, hb, hml, hown, hts⟩ (kf_X10_number_ l sa dC dI m0 (47) (0) x_362 m0_thrown m0_width m0_many m0_cells m0_moved m0_tape m0_taped n_m0_342 n_m0_343 n_m0_344 n_m0_345 n_m0_346 n_m0_347 n_m0_348 m0_fault m0_faultPlace m0_lines m0_hours m0_courts m0_in m0_gates m0_gate m0_people m0_at0 m0_stray m0_set m0_once m0_truth m0_known m0_isKept m0_strays m0_hostPerson m0_hostCourt m0_outside m0_inside m0_can m0_fewest m0_waysTo m0_then m0_two m0_nextTwo m0_three m0_nextThree m0_shut m0_worth m0_digit m0_codes m0_most m0_bestTry m0_dayCourt m0_dayHour m0_dayNo m0_x cA_m0_tape f_m0_tape (by decide) (by first | with_reducible assumption | omega) b_m0_taped (by first | with_reducible assumption | omega) (by first | with_reducible assumption | omega) (by first | with_reducible assumption | omega) (by first | with_reducible assumption | omega) b_m0_strays b_m0_hostCourt b_m0_dayCourt b_m0_dayHour (by first | assumption | omega) H.size) (cwV 3 hts (z_gV zw_t7_106 zw_t7_108 zw_s5_0 zw_t1_11 zw_t7_109) rfl rfl rfl (by decide +kernel) (by rw [← hRe]; exact ⟨(Nat.le_of_ble_eq_true rfl), (Nat.le_of_ble_eq_true rfl)⟩)) (z_preV hPc hKc hDc hN hXs hS hFc (q := (RX10, TX10, 53)) (ci := 10) (q0 := 0) rfl rfl) rfl rfl hl.1 rfl (lv_room (Nat.le_of_ble_eq_true rfl)) dX10_personLine_98 (by rw [← hRe]; exact ⟨(Nat.le_of_ble_eq_true rfl), (Nat.le_of_ble_eq_true rfl)⟩)) hS (fun q _ h => hFc q h) hFc (fun r_363 u t H1 locs ht hvm hw hB hz1 hk1 hS => ?_)
              obtain ⟨hu, hw⟩ := hw
              rw [hu] at hB
              refine hB.elim fun n_m0_364 ze1 => ze1.elim fun n_m0_365 ze2 => ze2.elim fun n_m0_366 ze3 => ze3.elim fun n_m0_367 ze4 => ze4.elim fun n_m0_368 ze5 => ze5.elim fun n_m0_369 ze6 => ze6.elim fun n_m0_370 ze7 => ze7.elim fun b_n_m0_364 ze8 => ze8.elim fun b_n_m0_365 ze9 => ze9.elim fun b_n_m0_367 ze10 => ze10.elim fun b_n_m0_369 ze11 => ze11.elim fun hf_371 ze12 => ze12.elim fun hf_372 ze13 => ze13.elim fun hf_373 ze14 => ze14.elim fun hf_374 ze15 => ze15.elim fun hf_375 ze16 => ze16.elim fun hf_376 ze17 => ze17.elim fun hf_377 ze18 => ze18.elim fun hf_378 ze19 => ze19.elim fun hf_379 ze20 => ze20.elim fun hf_380 ze21 => ze21.elim fun hf_381 ze22 => ?_
              clear hB ze1 ze2 ze3 ze4 ze5 ze6 ze7 ze8 ze9 ze10 ze11 ze12 ze13 ze14 ze15 ze16 ze17 ze18 ze19 ze20 ze21
              have hB := ze22
              clear ze22
              obtain ⟨hP, hD, hK⟩ := z_after3 (wn := (zV281 m0_hours cA_m0_hours f_m0_hours m0_courts cA_m0_courts f_m0_courts m0_in cA_m0_in f_m0_in m0_people cA_m0_people f_m0_people m0_at0 cA_m0_at0 g_m0_at0_39 m0_stray cA_m0_stray f_m0_stray m0 m0_thrown m0_width m0_many m0_cells m0_moved m0_tape m0_taped n_m0_364 n_m0_365 n_m0_366 n_m0_367 n_m0_368 n_m0_369 n_m0_370 m0_fault m0_faultPlace m0_lines m0_hours m0_courts m0_in m0_gates m0_gate m0_people m0_at0 m0_stray m0_set m0_once m0_truth m0_known m0_isKept m0_strays m0_hostPerson m0_hostCourt m0_outside m0_inside m0_can m0_fewest m0_waysTo m0_then m0_two m0_nextTwo m0_three m0_nextThree m0_shut m0_worth m0_digit m0_codes m0_most m0_bestTry m0_dayCourt m0_dayHour m0_dayNo m0_x m0_tape cA_m0_tape f_m0_tape)) hB ht hvm hP hD hK [6, 7] [0, 1, 2, 3, 4, 5] rfl 8 rfl (by decide +kernel) rfl (by decide +kernel) hk1 hFc
              generalize H1 = H at hP hS ⊢
              have hK : va_K (dC, dI) vwCl [(cA_m0_tape, .byte), (cA_m0_hours, .int), (cA_m0_courts, .int), (cA_m0_in, .int), (cA_m0_people, .int), (cA_m0_at0, .int), (cA_m0_stray, .int)] s := hK
              have b_r_363 : 0 ≤ r_363.toInt ∧ r_363.toInt ≤ 99 := hw.1
              have s_r_363 := hw.2.1
              have sf_r_363 := hw.2.2
              have zal_47 : Int64.toInt 47 = 47 := by decide
              have za_0 : Int32.toInt 0 = 0 := by decide
              replace hF := hF.trans (zL_eq rfl)
              replace hF := hF.trans (zL_eq sf_r_363)
              replace hF := hF.trans (zL_eq hf_375)
              replace hF := hF.trans (zL_eq hf_376)
              replace hF := hF.trans (zL_eq hf_377)
              replace hF := hF.trans (zL_eq hf_378)
              replace hF := hF.trans (zL_eq hf_379)
              replace hF := hF.trans (zL_eq hf_380)
              replace hF := hF.trans (zL_eq hf_381)
              have hmz : n_m0_347.toInt = 0 ∨ ¬ n_m0_369.toInt = 0 := hf_374
              refine lv_istore_n (lv' := [(2, .int r_363), (4, .int r_341), (0, .ref m0), (1, .int x_2), (3, .int v3_30)]) hx hb dX10_personLine_101 rfl hl (by decide) rfl (fun ls hl => ?_)
              refine lv_iload hx hb dX10_personLine_102 (lv_at hl 1 rfl) ?_
              refine lv_istore (lv' := [(5, .int r_341), (2, .int r_363), (4, .int r_341), (0, .ref m0), (1, .int x_2), (3, .int v3_30)]) hx hb dX10_personLine_104 hl (by decide) rfl (fun ls hl => ?_)
              have loop_3 : ∀ (t_3 : Nat) (v5_383 : Int32) (g_m0_at0_384 : Nat → Int32) (b_v5_383 : 1 ≤ v5_383.toInt ∧ v5_383.toInt ≤ 48) (ge_v5_383 : r_341.toInt ≤ v5_383.toInt) (b_g_m0_at0_384 : ∀ j : Nat, 0 ≤ (g_m0_at0_384 j).toInt ∧ (g_m0_at0_384 j).toInt ≤ 9) (H : Heap) (locs : List Loc) (ls : Array Slot), 48 - v5_383.toInt < (t_3 : Int) → RR = L_X10_personLine_3 n_m0_369 x_2 r_363 (K_X10_personLine_3_0 (L_X10_personLine_2 m0_taped f_m0_tape f_m0_hours f_m0_courts x_3 x_2 (K_X10_personLine_2_0 x_2 f_m0_stray f_m0_people x_1 m0_strays m0_taped f_m0_tape f_m0_courts x_3) t_2) r_363 r_341 n_m0_364 n_m0_365 n_m0_366 n_m0_367 n_m0_368 n_m0_369 n_m0_370) (K_X10_personLine_3_1 (L_X10_personLine_2 m0_taped f_m0_tape f_m0_hours f_m0_courts x_3 x_2 (K_X10_personLine_2_0 x_2 f_m0_stray f_m0_people x_1 m0_strays m0_taped f_m0_tape f_m0_courts x_3) t_2) r_363 r_341 n_m0_364 n_m0_365 n_m0_366 n_m0_367 n_m0_368 n_m0_369 n_m0_370) t_3 v5_383 g_m0_at0_384 → va_P (dC, dI) vwCl (zV281 m0_hours cA_m0_hours f_m0_hours m0_courts cA_m0_courts f_m0_courts m0_in cA_m0_in f_m0_in m0_people cA_m0_people f_m0_people m0_at0 cA_m0_at0 g_m0_at0_384 m0_stray cA_m0_stray f_m0_stray m0 m0_thrown m0_width m0_many m0_cells m0_moved m0_tape m0_taped n_m0_364 n_m0_365 n_m0_366 n_m0_367 n_m0_368 n_m0_369 n_m0_370 m0_fault m0_faultPlace m0_lines m0_hours m0_courts m0_in m0_gates m0_gate m0_people m0_at0 m0_stray m0_set m0_once m0_truth m0_known m0_isKept m0_strays m0_hostPerson m0_hostCourt m0_outside m0_inside m0_can m0_fewest m0_waysTo m0_then m0_two m0_nextTwo m0_three m0_nextThree m0_shut m0_worth m0_digit m0_codes m0_most m0_bestTry m0_dayCourt m0_dayHour m0_dayNo m0_x m0_tape cA_m0_tape f_m0_tape) H → va_D A (zV281 m0_hours cA_m0_hours f_m0_hours m0_courts cA_m0_courts f_m0_courts m0_in cA_m0_in f_m0_in m0_people cA_m0_people f_m0_people m0_at0 cA_m0_at0 g_m0_at0_384 m0_stray cA_m0_stray f_m0_stray m0 m0_thrown m0_width m0_many m0_cells m0_moved m0_tape m0_taped n_m0_364 n_m0_365 n_m0_366 n_m0_367 n_m0_368 n_m0_369 n_m0_370 m0_fault m0_faultPlace m0_lines m0_hours m0_courts m0_in m0_gates m0_gate m0_people m0_at0 m0_stray m0_set m0_once m0_truth m0_known m0_isKept m0_strays m0_hostPerson m0_hostCourt m0_outside m0_inside m0_can m0_fewest m0_waysTo m0_then m0_two m0_nextTwo m0_three m0_nextThree m0_shut m0_worth m0_digit m0_codes m0_most m0_bestTry m0_dayCourt m0_dayHour m0_dayNo m0_x m0_tape cA_m0_tape f_m0_tape) → va_S A s.heap H locs → lv_has ls 6 [(0, .ref m0), (1, .int x_2), (2, .int r_363), (3, .int v3_30), (4, .int r_341), (5, .int v5_383)] → W p l e R s m args below meth c H locs 0 0 (MQ below Qc args s 0 0 A) (F0 m 106 ls []) := by
                intro t_3
                induction t_3 with
                | zero => intro v5_383 g_m0_at0_384 b_v5_383 ge_v5_383 b_g_m0_at0_384 H locs ls hmu _ _ _ _ _; exact absurd hmu (by first | with_reducible assumption | omega)
                | succ t_3 ih_3 =>
                  intro v5_383 g_m0_at0_384 b_v5_383 ge_v5_383 b_g_m0_at0_384 H locs ls hmu hF hP hD hS hl
                  replace hF := hF.trans L_X10_personLine_3_s
                  refine lv_iload hx hb dX10_personLine_106 (lv_at hl 5 rfl) ?_
                  refine lv_bipush (v := 48) hx hb dX10_personLine_108 (by decide) ?_
                  refine lv_icmp_ge (tgt := 139) hx hb dX10_personLine_110 (by decide) (fun c_385 => ?_) (fun c_385 => ?_)
                  · have ic_385 := zz_ge rfl (show Int32.toInt 48 = 48 from by decide) c_385
                    replace hF := hF.trans (if_pos c_385)
                    refine lv_iload hx hb dX10_personLine_139 (lv_at hl 4 rfl) ?_
                    refine lv_istore_n (lv' := [(3, .int r_341), (0, .ref m0), (1, .int x_2), (2, .int r_363), (4, .int r_341), (5, .int v5_383)]) hx hb dX10_personLine_141 rfl hl (by decide) rfl (fun ls hl => ?_)
                    refine lv_goto (tgt := 58) hx hb dX10_personLine_142 (by decide) ?_
                    have hnn_q_386 := zMs_nn (b := n_m0_369.toInt) (a := n_m0_364.toInt) (t := n_m0_365.toInt) (by first | with_reducible assumption | omega) (by first | with_reducible assumption | omega) (by first | with_reducible assumption | omega)
                    exact ih_2 r_363 r_341 r_341 g_m0_at0_384 n_m0_364 n_m0_365 n_m0_366 n_m0_367 n_m0_368 n_m0_369 n_m0_370 (by first | with_reducible assumption | omega) (by first | with_reducible assumption | omega) (by first | with_reducible assumption | omega) b_g_m0_at0_384 (by first | with_reducible assumption | omega) (by first | with_reducible assumption | omega) (by first | with_reducible assumption | omega) (by first | with_reducible assumption | omega) (by first | assumption | decide | omega) (by first | assumption | decide | omega) (by first | assumption | decide | omega) (by first | assumption | decide | omega) _ _ _ (by first | with_reducible assumption | omega) hF (hP.sub (ws' := (zV281 m0_hours cA_m0_hours f_m0_hours m0_courts cA_m0_courts f_m0_courts m0_in cA_m0_in f_m0_in m0_people cA_m0_people f_m0_people m0_at0 cA_m0_at0 g_m0_at0_384 m0_stray cA_m0_stray f_m0_stray m0 m0_thrown m0_width m0_many m0_cells m0_moved m0_tape m0_taped n_m0_364 n_m0_365 n_m0_366 n_m0_367 n_m0_368 n_m0_369 n_m0_370 m0_fault m0_faultPlace m0_lines m0_hours m0_courts m0_in m0_gates m0_gate m0_people m0_at0 m0_stray m0_set m0_once m0_truth m0_known m0_isKept m0_strays m0_hostPerson m0_hostCourt m0_outside m0_inside m0_can m0_fewest m0_waysTo m0_then m0_two m0_nextTwo m0_three m0_nextThree m0_shut m0_worth m0_digit m0_codes m0_most m0_bestTry m0_dayCourt m0_dayHour m0_dayNo m0_x m0_tape cA_m0_tape f_m0_tape)) [0, 1, 2, 3, 4, 5, 6, 7] rfl) (hD.sub (ws' := (zV281 m0_hours cA_m0_hours f_m0_hours m0_courts cA_m0_courts f_m0_courts m0_in cA_m0_in f_m0_in m0_people cA_m0_people f_m0_people m0_at0 cA_m0_at0 g_m0_at0_384 m0_stray cA_m0_stray f_m0_stray m0 m0_thrown m0_width m0_many m0_cells m0_moved m0_tape m0_taped n_m0_364 n_m0_365 n_m0_366 n_m0_367 n_m0_368 n_m0_369 n_m0_370 m0_fault m0_faultPlace m0_lines m0_hours m0_courts m0_in m0_gates m0_gate m0_people m0_at0 m0_stray m0_set m0_once m0_truth m0_known m0_isKept m0_strays m0_hostPerson m0_hostCourt m0_outside m0_inside m0_can m0_fewest m0_waysTo m0_then m0_two m0_nextTwo m0_three m0_nextThree m0_shut m0_worth m0_digit m0_codes m0_most m0_bestTry m0_dayCourt m0_dayHour m0_dayNo m0_x m0_tape cA_m0_tape f_m0_tape)) [0, 1, 2, 3, 4, 5, 6, 7] (by decide) rfl) hS (lv_sub hl [1, 2, 3, 0, 4] rfl)
                  · have ic_385 := zz_nge rfl (show Int32.toInt 48 = 48 from by decide) c_385
                    replace hF := hF.trans (if_neg c_385)
                    refine lv_aload_n hx hb dX10_personLine_113 rfl (lv_at hl 0 rfl) ?_
                    obtain ⟨hPc, hDc, hFc⟩ := z_cut (wc := (zV84 m0 m0_thrown m0_width m0_many m0_cells m0_moved m0_tape m0_taped n_m0_364 n_m0_365 n_m0_366 n_m0_367 n_m0_368 n_m0_369 n_m0_370 m0_fault m0_faultPlace m0_lines m0_hours m0_courts m0_in m0_gates m0_gate m0_people m0_at0 m0_stray m0_set m0_once m0_truth m0_known m0_isKept m0_strays m0_hostPerson m0_hostCourt m0_outside m0_inside m0_can m0_fewest m0_waysTo m0_then m0_two m0_nextTwo m0_three m0_nextThree m0_shut m0_worth m0_digit m0_codes m0_most m0_bestTry m0_dayCourt m0_dayHour m0_dayNo m0_x)) hP hD hS hA [6] rfl (by decide +kernel)
                    have hKc := hK.sub (tys' := []) [] rfl
                    refine va_calli (va_runV (As := []) (rest := []) ⟨hx, hb, hml, hown, hts⟩ (kf_X10_isGood_v1 l sa dC dI m0 m0_thrown m0_width m0_many m0_cells m0_moved m0_tape m0_taped n_m0_364 n_m0_365 n_m0_366 n_m0_367 n_m0_368 n_m0_369 n_m0_370 m0_fault m0_faultPlace m0_lines m0_hours m0_courts m0_in m0_gates m0_gate m0_people m0_at0 m0_stray m0_set m0_once m0_truth m0_known m0_isKept m0_strays m0_hostPerson m0_hostCourt m0_outside m0_inside m0_can m0_fewest m0_waysTo m0_then m0_two m0_nextTwo m0_three m0_nextThree m0_shut m0_worth m0_digit m0_codes m0_most m0_bestTry m0_dayCourt m0_dayHour m0_dayNo m0_x b_m0_taped (by first | with_reducible assumption | omega) (by first | with_reducible assumption | omega) (by first | with_reducible assumption | omega) (by first | with_reducible assumption | omega) b_m0_strays b_m0_hostCourt b_m0_dayCourt b_m0_dayHour H.size) (cwV 0 hts (z_gV zw_t7_84 zw_t7_86 zw_s4_11 zw_t1_11 zw_t7_87) rfl rfl rfl (by decide +kernel) (by rw [← hRe]; exact ⟨(Nat.le_of_ble_eq_true rfl), (Nat.le_of_ble_eq_true rfl)⟩)) (z_preV hPc hKc hDc hN hXs hS hFc (q := (RX10, TX10, 53)) (ci := 10) (q0 := 0) rfl rfl) rfl rfl hl.1 rfl (lv_room (Nat.le_of_ble_eq_true rfl)) dX10_personLine_114 (by rw [← hRe]; exact ⟨(Nat.le_of_ble_eq_true rfl), (Nat.le_of_ble_eq_true rfl)⟩)) hS (fun q _ h => hFc q h) hFc (fun r_387 u t H1 locs ht hvm hw hB hz1 hk1 hS => ?_)
                    obtain ⟨hP, hD, hK⟩ := z_after3 (wn := (zV282 m0_hours cA_m0_hours f_m0_hours m0_courts cA_m0_courts f_m0_courts m0_in cA_m0_in f_m0_in m0_people cA_m0_people f_m0_people m0_at0 cA_m0_at0 g_m0_at0_384 m0_stray cA_m0_stray f_m0_stray m0_tape cA_m0_tape f_m0_tape m0 m0_thrown m0_width m0_many m0_cells m0_moved m0_tape m0_taped n_m0_364 n_m0_365 n_m0_366 n_m0_367 n_m0_368 n_m0_369 n_m0_370 m0_fault m0_faultPlace m0_lines m0_hours m0_courts m0_in m0_gates m0_gate m0_people m0_at0 m0_stray m0_set m0_once m0_truth m0_known m0_isKept m0_strays m0_hostPerson m0_hostCourt m0_outside m0_inside m0_can m0_fewest m0_waysTo m0_then m0_two m0_nextTwo m0_three m0_nextThree m0_shut m0_worth m0_digit m0_codes m0_most m0_bestTry m0_dayCourt m0_dayHour m0_dayNo m0_x)) hB ht hvm hP hD hK [6] [0, 1, 2, 3, 4, 5, 7] rfl 8 rfl (by decide +kernel) rfl (by decide +kernel) hk1 hFc
                    generalize H1 = H at hP hS ⊢
                    have hK : va_K (dC, dI) vwCl [(cA_m0_tape, .byte), (cA_m0_hours, .int), (cA_m0_courts, .int), (cA_m0_in, .int), (cA_m0_people, .int), (cA_m0_at0, .int), (cA_m0_stray, .int)] s := hK
                    have b_r_387 : 0 ≤ r_387.toInt ∧ r_387.toInt ≤ 1 := hw.1
                    have s_r_387 := hw.2.1
                    have sf_r_387 := hw.2.2
                    replace hF := hF.trans (zL_eq sf_r_387)
                    refine lv_if_eq (tgt := 139) hx hb dX10_personLine_117 (by decide) (fun c_388 => ?_) (fun c_388 => ?_)
                    · have ic_388 := zz_eq rfl (show Int32.toInt 0 = 0 from by decide) c_388
                      replace hF := hF.trans (if_pos c_388)
                      refine lv_iload hx hb dX10_personLine_139 (lv_at hl 4 rfl) ?_
                      refine lv_istore_n (lv' := [(3, .int r_341), (0, .ref m0), (1, .int x_2), (2, .int r_363), (4, .int r_341), (5, .int v5_383)]) hx hb dX10_personLine_141 rfl hl (by decide) rfl (fun ls hl => ?_)
                      refine lv_goto (tgt := 58) hx hb dX10_personLine_142 (by decide) ?_
                      have hnn_q_389 := zMs_nn (b := n_m0_369.toInt) (a := n_m0_364.toInt) (t := n_m0_365.toInt) (by first | with_reducible assumption | omega) (by first | with_reducible assumption | omega) (by first | with_reducible assumption | omega)
                      exact ih_2 r_363 r_341 r_341 g_m0_at0_384 n_m0_364 n_m0_365 n_m0_366 n_m0_367 n_m0_368 n_m0_369 n_m0_370 (by first | with_reducible assumption | omega) (by first | with_reducible assumption | omega) (by first | with_reducible assumption | omega) b_g_m0_at0_384 (by first | with_reducible assumption | omega) (by first | with_reducible assumption | omega) (by first | with_reducible assumption | omega) (by first | with_reducible assumption | omega) (by first | assumption | decide | omega) (by first | assumption | decide | omega) (by first | assumption | decide | omega) (by first | assumption | decide | omega) _ _ _ (by first | with_reducible assumption | omega) hF (hP.sub (ws' := (zV281 m0_hours cA_m0_hours f_m0_hours m0_courts cA_m0_courts f_m0_courts m0_in cA_m0_in f_m0_in m0_people cA_m0_people f_m0_people m0_at0 cA_m0_at0 g_m0_at0_384 m0_stray cA_m0_stray f_m0_stray m0 m0_thrown m0_width m0_many m0_cells m0_moved m0_tape m0_taped n_m0_364 n_m0_365 n_m0_366 n_m0_367 n_m0_368 n_m0_369 n_m0_370 m0_fault m0_faultPlace m0_lines m0_hours m0_courts m0_in m0_gates m0_gate m0_people m0_at0 m0_stray m0_set m0_once m0_truth m0_known m0_isKept m0_strays m0_hostPerson m0_hostCourt m0_outside m0_inside m0_can m0_fewest m0_waysTo m0_then m0_two m0_nextTwo m0_three m0_nextThree m0_shut m0_worth m0_digit m0_codes m0_most m0_bestTry m0_dayCourt m0_dayHour m0_dayNo m0_x m0_tape cA_m0_tape f_m0_tape)) [0, 1, 2, 3, 4, 5, 7, 6] rfl) (hD.sub (ws' := (zV281 m0_hours cA_m0_hours f_m0_hours m0_courts cA_m0_courts f_m0_courts m0_in cA_m0_in f_m0_in m0_people cA_m0_people f_m0_people m0_at0 cA_m0_at0 g_m0_at0_384 m0_stray cA_m0_stray f_m0_stray m0 m0_thrown m0_width m0_many m0_cells m0_moved m0_tape m0_taped n_m0_364 n_m0_365 n_m0_366 n_m0_367 n_m0_368 n_m0_369 n_m0_370 m0_fault m0_faultPlace m0_lines m0_hours m0_courts m0_in m0_gates m0_gate m0_people m0_at0 m0_stray m0_set m0_once m0_truth m0_known m0_isKept m0_strays m0_hostPerson m0_hostCourt m0_outside m0_inside m0_can m0_fewest m0_waysTo m0_then m0_two m0_nextTwo m0_three m0_nextThree m0_shut m0_worth m0_digit m0_codes m0_most m0_bestTry m0_dayCourt m0_dayHour m0_dayNo m0_x m0_tape cA_m0_tape f_m0_tape)) [0, 1, 2, 3, 4, 5, 7, 6] (by decide) rfl) hS (lv_sub hl [1, 2, 3, 0, 4] rfl)
                    · have ic_388 := zz_neq rfl (show Int32.toInt 0 = 0 from by decide) c_388
                      replace hF := hF.trans (if_neg c_388)
                      refine lv_aload_n hx hb dX10_personLine_120 rfl (lv_at hl 0 rfl) ?_
                      refine va_get (D := (dC, dI)) (ci := 10) (v := .ref m0_at0) (C := RX10) (T := TX10) (N := 53) hx hb hts zl_X10 hown hK hP 7 rfl rfl 23 (by decide) (hts _ zw_t6_123) (fun _ h9 => h9) rfl dX10_personLine_121 ?_
                      refine lv_bipush (v := 48) hx hb dX10_personLine_124 (by decide) ?_
                      refine lv_iload_n hx hb dX10_personLine_126 rfl (lv_at hl 1 rfl) ?_
                      refine lv_imul hx hb dX10_personLine_127 ?_
                      refine lv_topi (fun x_390 ex_390 => ?_)
                      replace hF := hF.trans (zL_eq ex_390)
                      have b_x_390 : x_390.toInt = 48 * x_2.toInt := by rw [ex_390]; exact zi_mul (show Int32.toInt 48 = 48 from by decide) rfl (z_rmc (z_eca b_x_2 b_x_1) (by decide))
                      refine lv_iload hx hb dX10_personLine_128 (lv_at hl 5 rfl) ?_
                      refine lv_iadd hx hb dX10_personLine_130 ?_
                      refine lv_topi (fun x_391 ex_391 => ?_)
                      replace hF := hF.trans (zL_eq ex_391)
                      have b_x_391 : x_391.toInt = x_390.toInt + v5_383.toInt := by rw [ex_391]; exact zi_add rfl rfl (z_raa (z_emc (c := 48) b_x_390 (z_eca b_x_2 b_x_1)) b_v5_383 (by decide))
                      refine lv_iload_n hx hb dX10_personLine_131 rfl (lv_at hl 2 rfl) ?_
                      refine va_iast hx hb hK hP hD hS 4 5 rfl rfl (zi_in rfl (by first | exact z_rin (z_ead b_x_391 (z_emc (c := 48) b_x_390 (z_eca b_x_2 b_x_1)) b_v5_383) (by decide) | omega)) dX10_personLine_132 (fun H locs hP hD hS => ?_)
                      obtain ⟨f_392, ef_392⟩ : ∃ g : Nat → Int32, g = upd g_m0_at0_384 (Int32.toNatClampNeg x_391) r_363 := ⟨_, rfl⟩
                      replace hF := hF.trans (zL_eq ef_392)
                      have b_f_392 : ∀ j : Nat, 0 ≤ (f_392 j).toInt ∧ (f_392 j).toInt ≤ 9 := by rw [ef_392]; exact zi_upd b_g_m0_at0_384 rfl (by first | with_reducible assumption | omega)
                      have hP : va_P (dC, dI) vwCl (zV282 m0_hours cA_m0_hours f_m0_hours m0_courts cA_m0_courts f_m0_courts m0_in cA_m0_in f_m0_in m0_people cA_m0_people f_m0_people m0_at0 cA_m0_at0 (upd g_m0_at0_384 (Int32.toNatClampNeg x_391) r_363) m0_stray cA_m0_stray f_m0_stray m0_tape cA_m0_tape f_m0_tape m0 m0_thrown m0_width m0_many m0_cells m0_moved m0_tape m0_taped n_m0_364 n_m0_365 n_m0_366 n_m0_367 n_m0_368 n_m0_369 n_m0_370 m0_fault m0_faultPlace m0_lines m0_hours m0_courts m0_in m0_gates m0_gate m0_people m0_at0 m0_stray m0_set m0_once m0_truth m0_known m0_isKept m0_strays m0_hostPerson m0_hostCourt m0_outside m0_inside m0_can m0_fewest m0_waysTo m0_then m0_two m0_nextTwo m0_three m0_nextThree m0_shut m0_worth m0_digit m0_codes m0_most m0_bestTry m0_dayCourt m0_dayHour m0_dayNo m0_x) H := hP
                      have hD : va_D A (zV282 m0_hours cA_m0_hours f_m0_hours m0_courts cA_m0_courts f_m0_courts m0_in cA_m0_in f_m0_in m0_people cA_m0_people f_m0_people m0_at0 cA_m0_at0 (upd g_m0_at0_384 (Int32.toNatClampNeg x_391) r_363) m0_stray cA_m0_stray f_m0_stray m0_tape cA_m0_tape f_m0_tape m0 m0_thrown m0_width m0_many m0_cells m0_moved m0_tape m0_taped n_m0_364 n_m0_365 n_m0_366 n_m0_367 n_m0_368 n_m0_369 n_m0_370 m0_fault m0_faultPlace m0_lines m0_hours m0_courts m0_in m0_gates m0_gate m0_people m0_at0 m0_stray m0_set m0_once m0_truth m0_known m0_isKept m0_strays m0_hostPerson m0_hostCourt m0_outside m0_inside m0_can m0_fewest m0_waysTo m0_then m0_two m0_nextTwo m0_three m0_nextThree m0_shut m0_worth m0_digit m0_codes m0_most m0_bestTry m0_dayCourt m0_dayHour m0_dayNo m0_x) := hD
                      rw [← ef_392] at hP hD
                      obtain ⟨x_393, ex_393⟩ : ∃ z : Int32, z = v5_383 + Int32.ofInt 1 := ⟨_, rfl⟩
                      have b_x_393 : x_393.toInt = v5_383.toInt + 1 := by rw [ex_393]; exact zi_add rfl (show (Int32.ofInt 1).toInt = 1 from by decide) (z_rac b_v5_383 (by decide))
                      refine lv_iinc (v := x_393) (lv' := [(5, .int x_393), (0, .ref m0), (1, .int x_2), (2, .int r_363), (3, .int v3_30), (4, .int r_341)]) hx hb dX10_personLine_133 hl (k := 5) rfl ex_393.symm (by decide) rfl (fun ls hl => ?_)
                      replace hF := hF.trans (zL_eq ex_393)
                      refine lv_goto (tgt := 106) hx hb dX10_personLine_136 (by decide) ?_
                      exact ih_3 x_393 f_392 (by first | with_reducible assumption | omega) (by first | with_reducible assumption | omega) b_f_392 _ _ _ (by first | with_reducible assumption | omega) hF (hP.sub (ws' := (zV281 m0_hours cA_m0_hours f_m0_hours m0_courts cA_m0_courts f_m0_courts m0_in cA_m0_in f_m0_in m0_people cA_m0_people f_m0_people m0_at0 cA_m0_at0 f_392 m0_stray cA_m0_stray f_m0_stray m0 m0_thrown m0_width m0_many m0_cells m0_moved m0_tape m0_taped n_m0_364 n_m0_365 n_m0_366 n_m0_367 n_m0_368 n_m0_369 n_m0_370 m0_fault m0_faultPlace m0_lines m0_hours m0_courts m0_in m0_gates m0_gate m0_people m0_at0 m0_stray m0_set m0_once m0_truth m0_known m0_isKept m0_strays m0_hostPerson m0_hostCourt m0_outside m0_inside m0_can m0_fewest m0_waysTo m0_then m0_two m0_nextTwo m0_three m0_nextThree m0_shut m0_worth m0_digit m0_codes m0_most m0_bestTry m0_dayCourt m0_dayHour m0_dayNo m0_x m0_tape cA_m0_tape f_m0_tape)) [0, 1, 2, 3, 4, 5, 7, 6] rfl) (hD.sub (ws' := (zV281 m0_hours cA_m0_hours f_m0_hours m0_courts cA_m0_courts f_m0_courts m0_in cA_m0_in f_m0_in m0_people cA_m0_people f_m0_people m0_at0 cA_m0_at0 f_392 m0_stray cA_m0_stray f_m0_stray m0 m0_thrown m0_width m0_many m0_cells m0_moved m0_tape m0_taped n_m0_364 n_m0_365 n_m0_366 n_m0_367 n_m0_368 n_m0_369 n_m0_370 m0_fault m0_faultPlace m0_lines m0_hours m0_courts m0_in m0_gates m0_gate m0_people m0_at0 m0_stray m0_set m0_once m0_truth m0_known m0_isKept m0_strays m0_hostPerson m0_hostCourt m0_outside m0_inside m0_can m0_fewest m0_waysTo m0_then m0_two m0_nextTwo m0_three m0_nextThree m0_shut m0_worth m0_digit m0_codes m0_most m0_bestTry m0_dayCourt m0_dayHour m0_dayNo m0_x m0_tape cA_m0_tape f_m0_tape)) [0, 1, 2, 3, 4, 5, 7, 6] (by decide) rfl) hS (lv_sub hl [1, 2, 3, 4, 5, 0] rfl)
              exact loop_3 49 r_341 g_m0_at0_39 (by first | with_reducible assumption | omega) (by first | with_reducible assumption | omega) b_g_m0_at0_39 _ _ _ (by first | with_reducible assumption | omega) hF hP hD hS (lv_sub hl [3, 4, 1, 5, 2, 0] rfl)
        have zb_0 : Int32.toInt 0 = 0 := by decide
        exact loop_2 116005 r_5 (0) v4_25 g_m0_at0_26 n_m0_6 n_m0_7 n_m0_8 n_m0_9 n_m0_10 n_m0_11 n_m0_12 (by first | with_reducible assumption | omega) (by decide) (by first | with_reducible assumption | omega) b_g_m0_at0_26 (by first | with_reducible assumption | omega) (by first | with_reducible assumption | omega) (by first | with_reducible assumption | omega) (by first | with_reducible assumption | omega) (by first | assumption | decide | omega) (by first | assumption | decide | omega) (by first | assumption | decide | omega) (by first | assumption | decide | omega) _ _ _ (by first | with_reducible assumption | omega) hF hP hD hS (lv_sub hl [0, 1, 2, 3, 4] rfl)
      · have ic_27 := zz_nge rfl (show Int32.toInt 48 = 48 from by decide) c_27
        replace hF := hF.trans (if_neg c_27)
        refine lv_aload_n hx hb dX10_personLine_39 rfl (lv_at hl 0 rfl) ?_
        refine va_get (D := (dC, dI)) (ci := 10) (v := .ref m0_at0) (C := RX10) (T := TX10) (N := 53) hx hb hts zl_X10 hown hK hP 6 rfl rfl 23 (by decide) (hts _ zw_t6_123) (fun _ h9 => h9) rfl dX10_personLine_40 ?_
        refine lv_bipush (v := 48) hx hb dX10_personLine_43 (by decide) ?_
        refine lv_iload_n hx hb dX10_personLine_45 rfl (lv_at hl 1 rfl) ?_
        refine lv_imul hx hb dX10_personLine_46 ?_
        refine lv_topi (fun x_394 ex_394 => ?_)
        replace hF := hF.trans (zL_eq ex_394)
        have b_x_394 : x_394.toInt = 48 * x_2.toInt := by rw [ex_394]; exact zi_mul (show Int32.toInt 48 = 48 from by decide) rfl (z_rmc (z_eca b_x_2 b_x_1) (by decide))
        refine lv_iload hx hb dX10_personLine_47 (lv_at hl 4 rfl) ?_
        refine lv_iadd hx hb dX10_personLine_49 ?_
        refine lv_topi (fun x_395 ex_395 => ?_)
        replace hF := hF.trans (zL_eq ex_395)
        have b_x_395 : x_395.toInt = x_394.toInt + v4_25.toInt := by rw [ex_395]; exact zi_add rfl rfl (z_raa (z_emc (c := 48) b_x_394 (z_eca b_x_2 b_x_1)) b_v4_25 (by decide))
        refine lv_iload_n hx hb dX10_personLine_50 rfl (lv_at hl 2 rfl) ?_
        refine va_iast hx hb hK hP hD hS 4 5 rfl rfl (zi_in rfl (by first | exact z_rin (z_ead b_x_395 (z_emc (c := 48) b_x_394 (z_eca b_x_2 b_x_1)) b_v4_25) (by decide) | omega)) dX10_personLine_51 (fun H locs hP hD hS => ?_)
        obtain ⟨f_396, ef_396⟩ : ∃ g : Nat → Int32, g = upd g_m0_at0_26 (Int32.toNatClampNeg x_395) r_5 := ⟨_, rfl⟩
        replace hF := hF.trans (zL_eq ef_396)
        have b_f_396 : ∀ j : Nat, 0 ≤ (f_396 j).toInt ∧ (f_396 j).toInt ≤ 9 := by rw [ef_396]; exact zi_upd b_g_m0_at0_26 rfl (by first | with_reducible assumption | omega)
        have hP : va_P (dC, dI) vwCl (zV281 m0_hours cA_m0_hours f_m0_hours m0_courts cA_m0_courts f_m0_courts m0_in cA_m0_in f_m0_in m0_people cA_m0_people f_m0_people m0_at0 cA_m0_at0 (upd g_m0_at0_26 (Int32.toNatClampNeg x_395) r_5) m0_stray cA_m0_stray f_m0_stray m0 m0_thrown m0_width m0_many m0_cells m0_moved m0_tape m0_taped n_m0_6 n_m0_7 n_m0_8 n_m0_9 n_m0_10 n_m0_11 n_m0_12 m0_fault m0_faultPlace m0_lines m0_hours m0_courts m0_in m0_gates m0_gate m0_people m0_at0 m0_stray m0_set m0_once m0_truth m0_known m0_isKept m0_strays m0_hostPerson m0_hostCourt m0_outside m0_inside m0_can m0_fewest m0_waysTo m0_then m0_two m0_nextTwo m0_three m0_nextThree m0_shut m0_worth m0_digit m0_codes m0_most m0_bestTry m0_dayCourt m0_dayHour m0_dayNo m0_x m0_tape cA_m0_tape f_m0_tape) H := hP
        have hD : va_D A (zV281 m0_hours cA_m0_hours f_m0_hours m0_courts cA_m0_courts f_m0_courts m0_in cA_m0_in f_m0_in m0_people cA_m0_people f_m0_people m0_at0 cA_m0_at0 (upd g_m0_at0_26 (Int32.toNatClampNeg x_395) r_5) m0_stray cA_m0_stray f_m0_stray m0 m0_thrown m0_width m0_many m0_cells m0_moved m0_tape m0_taped n_m0_6 n_m0_7 n_m0_8 n_m0_9 n_m0_10 n_m0_11 n_m0_12 m0_fault m0_faultPlace m0_lines m0_hours m0_courts m0_in m0_gates m0_gate m0_people m0_at0 m0_stray m0_set m0_once m0_truth m0_known m0_isKept m0_strays m0_hostPerson m0_hostCourt m0_outside m0_inside m0_can m0_fewest m0_waysTo m0_then m0_two m0_nextTwo m0_three m0_nextThree m0_shut m0_worth m0_digit m0_codes m0_most m0_bestTry m0_dayCourt m0_dayHour m0_dayNo m0_x m0_tape cA_m0_tape f_m0_tape) := hD
        rw [← ef_396] at hP hD
        obtain ⟨x_397, ex_397⟩ : ∃ z : Int32, z = v4_25 + Int32.ofInt 1 := ⟨_, rfl⟩
        have b_x_397 : x_397.toInt = v4_25.toInt + 1 := by rw [ex_397]; exact zi_add rfl (show (Int32.ofInt 1).toInt = 1 from by decide) (z_rac b_v4_25 (by decide))
        refine lv_iinc (v := x_397) (lv' := [(4, .int x_397), (0, .ref m0), (1, .int x_2), (2, .int r_5), (3, .int 0)]) hx hb dX10_personLine_52 hl (k := 4) rfl ex_397.symm (by decide) rfl (fun ls hl => ?_)
        replace hF := hF.trans (zL_eq ex_397)
        refine lv_goto (tgt := 32) hx hb dX10_personLine_55 (by decide) ?_
        exact ih_1 x_397 f_396 (by first | with_reducible assumption | omega) b_f_396 _ _ _ (by first | with_reducible assumption | omega) hF (hP.sub (ws' := (zV281 m0_hours cA_m0_hours f_m0_hours m0_courts cA_m0_courts f_m0_courts m0_in cA_m0_in f_m0_in m0_people cA_m0_people f_m0_people m0_at0 cA_m0_at0 f_396 m0_stray cA_m0_stray f_m0_stray m0 m0_thrown m0_width m0_many m0_cells m0_moved m0_tape m0_taped n_m0_6 n_m0_7 n_m0_8 n_m0_9 n_m0_10 n_m0_11 n_m0_12 m0_fault m0_faultPlace m0_lines m0_hours m0_courts m0_in m0_gates m0_gate m0_people m0_at0 m0_stray m0_set m0_once m0_truth m0_known m0_isKept m0_strays m0_hostPerson m0_hostCourt m0_outside m0_inside m0_can m0_fewest m0_waysTo m0_then m0_two m0_nextTwo m0_three m0_nextThree m0_shut m0_worth m0_digit m0_codes m0_most m0_bestTry m0_dayCourt m0_dayHour m0_dayNo m0_x m0_tape cA_m0_tape f_m0_tape)) [0, 1, 2, 3, 4, 5, 6, 7] rfl) (hD.sub (ws' := (zV281 m0_hours cA_m0_hours f_m0_hours m0_courts cA_m0_courts f_m0_courts m0_in cA_m0_in f_m0_in m0_people cA_m0_people f_m0_people m0_at0 cA_m0_at0 f_396 m0_stray cA_m0_stray f_m0_stray m0 m0_thrown m0_width m0_many m0_cells m0_moved m0_tape m0_taped n_m0_6 n_m0_7 n_m0_8 n_m0_9 n_m0_10 n_m0_11 n_m0_12 m0_fault m0_faultPlace m0_lines m0_hours m0_courts m0_in m0_gates m0_gate m0_people m0_at0 m0_stray m0_set m0_once m0_truth m0_known m0_isKept m0_strays m0_hostPerson m0_hostCourt m0_outside m0_inside m0_can m0_fewest m0_waysTo m0_then m0_two m0_nextTwo m0_three m0_nextThree m0_shut m0_worth m0_digit m0_codes m0_most m0_bestTry m0_dayCourt m0_dayHour m0_dayNo m0_x m0_tape cA_m0_tape f_m0_tape)) [0, 1, 2, 3, 4, 5, 6, 7] (by decide) rfl) hS (lv_sub hl [1, 2, 3, 4, 0] rfl)
  exact loop_1 50 (0) f_m0_at0 (by decide) b_f_m0_at0 _ _ _ (by decide) hF hP hD hS (lv_sub hl [4, 3, 2, 1, 0] rfl)
