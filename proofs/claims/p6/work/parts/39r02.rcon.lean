set_option linter.all false
set_option maxHeartbeats 4000000 in
set_option maxRecDepth 100000 in
theorem kf_X10_isWithin (l : Launch) (sa : Nat → Nat) (dC : Nat → ClassId) (dI : Nat → Nat → Nat) (m0 : Nat) (p1 : Int32) (p2 : Int32) (p3 : Int32) (p4 : Int32) (m0_thrown : Int32) (m0_width : Nat) (m0_many : Nat) (m0_cells : Nat) (m0_moved : Nat) (m0_tape : Nat) (m0_taped : Int32) (m0_at : Int32) (m0_token : Int32) (m0_place : Int32) (m0_value : Int32) (m0_word : Int64) (m0_bad : Int32) (m0_badPlace : Int32) (m0_fault : Int32) (m0_faultPlace : Int32) (m0_lines : Nat) (m0_hours : Nat) (m0_courts : Nat) (m0_in : Nat) (m0_gates : Nat) (m0_gate : Nat) (m0_people : Nat) (m0_at0 : Nat) (m0_stray : Nat) (m0_set : Nat) (m0_once : Nat) (m0_truth : Nat) (m0_known : Nat) (m0_isKept : Nat) (m0_strays : Int32) (m0_hostPerson : Int32) (m0_hostCourt : Int32) (m0_outside : Int32) (m0_inside : Nat) (m0_can : Nat) (m0_fewest : Nat) (m0_waysTo : Nat) (m0_then : Nat) (m0_two : Nat) (m0_nextTwo : Nat) (m0_three : Nat) (m0_nextThree : Nat) (m0_shut : Int32) (m0_worth : Nat) (m0_digit : Nat) (m0_codes : Int32) (m0_most : Int64) (m0_bestTry : Int32) (m0_dayCourt : Int32) (m0_dayHour : Int32) (m0_dayNo : Int32) (m0_x : Int64) (cA_m0_in : ClassId) (f_m0_in : Nat → Int32) (cA_m0_at0 : ClassId) (f_m0_at0 : Nat → Int32) (cA_m0_stray : ClassId) (f_m0_stray : Nat → Int32) (cA_m0_set : ClassId) (f_m0_set : Nat → Int32) (b_p1 : 0 ≤ p1.toInt ∧ p1.toInt ≤ 9) (b_p2 : 0 ≤ p2.toInt ∧ p2.toInt ≤ 1) (b_p4 : 0 ≤ p4.toInt ∧ p4.toInt ≤ 47) (b_m0_taped : 0 ≤ m0_taped.toInt ∧ m0_taped.toInt ≤ 1600) (b_m0_at : 0 ≤ m0_at.toInt ∧ m0_at.toInt ≤ 1600) (b_m0_token : 0 ≤ m0_token.toInt ∧ m0_token.toInt ≤ 4) (b_m0_value : 0 ≤ m0_value.toInt ∧ m0_value.toInt ≤ 1000009) (b_m0_bad : 0 ≤ m0_bad.toInt ∧ m0_bad.toInt ≤ 3) (b_m0_strays : 0 ≤ m0_strays.toInt ∧ m0_strays.toInt ≤ 5) (b_m0_hostCourt : 0 ≤ m0_hostCourt.toInt ∧ m0_hostCourt.toInt ≤ 9) (b_m0_dayCourt : 0 ≤ m0_dayCourt.toInt ∧ m0_dayCourt.toInt ≤ 9) (b_m0_dayHour : 0 ≤ m0_dayHour.toInt ∧ m0_dayHour.toInt ≤ 48) (b_f_m0_in : ∀ j : Nat, j < 10 → (-1) ≤ (f_m0_in j).toInt ∧ (f_m0_in j).toInt < (j : Int)) (b_f_m0_at0 : ∀ j : Nat, 0 ≤ (f_m0_at0 j).toInt ∧ (f_m0_at0 j).toInt ≤ 9) (b_f_m0_stray : ∀ j : Nat, 0 ≤ (f_m0_stray j).toInt ∧ (f_m0_stray j).toInt ≤ 99 ∧ (j % 2 = 1 → (f_m0_stray j).toInt ≤ 9)) (b_f_m0_set : ∀ j : Nat, 0 ≤ (f_m0_set j).toInt ∧ (f_m0_set j).toInt ≤ 9) (sz : Nat) : Met l yX10_isWithin (.code yX10_isWithin cX10_isWithin 5 (some .boolean) :: zT) ({ frames := 2, cells := 0, slots := 0, locals := 45 }) (va_Pc [.ref m0, .int p1, .int p2, .int p3, .int p4] (zB sa dC dI (zV88 m0 m0_thrown m0_width m0_many m0_cells m0_moved m0_tape m0_taped m0_at m0_token m0_place m0_value m0_word m0_bad m0_badPlace m0_fault m0_faultPlace m0_lines m0_hours m0_courts m0_in m0_gates m0_gate m0_people m0_at0 m0_stray m0_set m0_once m0_truth m0_known m0_isKept m0_strays m0_hostPerson m0_hostCourt m0_outside m0_inside m0_can m0_fewest m0_waysTo m0_then m0_two m0_nextTwo m0_three m0_nextThree m0_shut m0_worth m0_digit m0_codes m0_most m0_bestTry m0_dayCourt m0_dayHour m0_dayNo m0_x m0_in cA_m0_in f_m0_in m0_at0 cA_m0_at0 f_m0_at0 m0_stray cA_m0_stray f_m0_stray m0_set cA_m0_set f_m0_set) [(cA_m0_in, .int), (cA_m0_at0, .int), (cA_m0_stray, .int), (cA_m0_set, .int)] sz)) (va_Qi (fun (r : Int32) (_ : Unit) => (0 ≤ r.toInt ∧ r.toInt ≤ 1) ∧ r = (F_X10_isWithin p1 p2 p3 p4 m0_hostPerson m0_hostCourt f_m0_in f_m0_at0 f_m0_stray f_m0_set)) (fun _ t => zW dC dI (zV88 m0 m0_thrown m0_width m0_many m0_cells m0_moved m0_tape m0_taped m0_at m0_token m0_place m0_value m0_word m0_bad m0_badPlace m0_fault m0_faultPlace m0_lines m0_hours m0_courts m0_in m0_gates m0_gate m0_people m0_at0 m0_stray m0_set m0_once m0_truth m0_known m0_isKept m0_strays m0_hostPerson m0_hostCourt m0_outside m0_inside m0_can m0_fewest m0_waysTo m0_then m0_two m0_nextTwo m0_three m0_nextThree m0_shut m0_worth m0_digit m0_codes m0_most m0_bestTry m0_dayCourt m0_dayHour m0_dayNo m0_x m0_in cA_m0_in f_m0_in m0_at0 cA_m0_at0 f_m0_at0 m0_stray cA_m0_stray f_m0_stray m0_set cA_m0_set f_m0_set) [] (va_A (zV88 m0 m0_thrown m0_width m0_many m0_cells m0_moved m0_tape m0_taped m0_at m0_token m0_place m0_value m0_word m0_bad m0_badPlace m0_fault m0_faultPlace m0_lines m0_hours m0_courts m0_in m0_gates m0_gate m0_people m0_at0 m0_stray m0_set m0_once m0_truth m0_known m0_isKept m0_strays m0_hostPerson m0_hostCourt m0_outside m0_inside m0_can m0_fewest m0_waysTo m0_then m0_two m0_nextTwo m0_three m0_nextThree m0_shut m0_worth m0_digit m0_codes m0_most m0_bestTry m0_dayCourt m0_dayHour m0_dayNo m0_x m0_in cA_m0_in f_m0_in m0_at0 cA_m0_at0 f_m0_at0 m0_stray cA_m0_stray f_m0_stray m0_set cA_m0_set f_m0_set) sz) t) (va_A (zV88 m0 m0_thrown m0_width m0_many m0_cells m0_moved m0_tape m0_taped m0_at m0_token m0_place m0_value m0_word m0_bad m0_badPlace m0_fault m0_faultPlace m0_lines m0_hours m0_courts m0_in m0_gates m0_gate m0_people m0_at0 m0_stray m0_set m0_once m0_truth m0_known m0_isKept m0_strays m0_hostPerson m0_hostCourt m0_outside m0_inside m0_can m0_fewest m0_waysTo m0_then m0_two m0_nextTwo m0_three m0_nextThree m0_shut m0_worth m0_digit m0_codes m0_most m0_bestTry m0_dayCourt m0_dayHour m0_dayNo m0_x m0_in cA_m0_in f_m0_in m0_at0 cA_m0_at0 f_m0_at0 m0_stray cA_m0_stray f_m0_stray m0_set cA_m0_set f_m0_set) sz)) 0 0 (va_A (zV88 m0 m0_thrown m0_width m0_many m0_cells m0_moved m0_tape m0_taped m0_at m0_token m0_place m0_value m0_word m0_bad m0_badPlace m0_fault m0_faultPlace m0_lines m0_hours m0_courts m0_in m0_gates m0_gate m0_people m0_at0 m0_stray m0_set m0_once m0_truth m0_known m0_isKept m0_strays m0_hostPerson m0_hostCourt m0_outside m0_inside m0_can m0_fewest m0_waysTo m0_then m0_two m0_nextTwo m0_three m0_nextThree m0_shut m0_worth m0_digit m0_codes m0_most m0_bestTry m0_dayCourt m0_dayHour m0_dayNo m0_x m0_in cA_m0_in f_m0_in m0_at0 cA_m0_at0 f_m0_at0 m0_stray cA_m0_stray f_m0_stray m0_set cA_m0_set f_m0_set) sz) := by
  refine z_enter (by decide) (by exact (Nat.le_of_ble_eq_true rfl)) ?_
  intro p e s m args below meth c ls A R Qc hargs hsz hQe hAe hRe hx hb hml hr hts hown hlocks hin hl hP hK hD hN hXs hA hS
  rw [hAe] at hQe
  have hown : s.vm.findClass RX10 = some m.cls := hown
  have hl : lv_has ls 5 [(0, .ref m0), (1, .int p1), (2, .int p2), (3, .int p3), (4, .int p4)] := hl
  obtain ⟨RR, hRR⟩ : ∃ z : Int32, z = (F_X10_isWithin p1 p2 p3 p4 m0_hostPerson m0_hostCourt f_m0_in f_m0_at0 f_m0_stray f_m0_set) := ⟨_, rfl⟩
  have hF : RR = (F_X10_isWithin p1 p2 p3 p4 m0_hostPerson m0_hostCourt f_m0_in f_m0_at0 f_m0_stray f_m0_set) := hRR
  refine lv_aload_n hx hb dX10_isWithin_0 rfl (lv_at hl 0 rfl) ?_
  refine lv_aload_n hx hb dX10_isWithin_1 rfl (lv_at hl 0 rfl) ?_
  refine lv_iload_n hx hb dX10_isWithin_2 rfl (lv_at hl 1 rfl) ?_
  refine lv_iload_n hx hb dX10_isWithin_3 rfl (lv_at hl 2 rfl) ?_
  refine lv_iload hx hb dX10_isWithin_4 (lv_at hl 4 rfl) ?_
  obtain ⟨hPc, hDc, hFc⟩ := z_cut (wc := (zV85 m0 m0_thrown m0_width m0_many m0_cells m0_moved m0_tape m0_taped m0_at m0_token m0_place m0_value m0_word m0_bad m0_badPlace m0_fault m0_faultPlace m0_lines m0_hours m0_courts m0_in m0_gates m0_gate m0_people m0_at0 m0_stray m0_set m0_once m0_truth m0_known m0_isKept m0_strays m0_hostPerson m0_hostCourt m0_outside m0_inside m0_can m0_fewest m0_waysTo m0_then m0_two m0_nextTwo m0_three m0_nextThree m0_shut m0_worth m0_digit m0_codes m0_most m0_bestTry m0_dayCourt m0_dayHour m0_dayNo m0_x m0_at0 cA_m0_at0 f_m0_at0 m0_stray cA_m0_stray f_m0_stray)) hP hD hS hA [0, 2, 3] rfl (by decide +kernel)
  have hKc := hK.sub (tys' := [(cA_m0_at0, .int), (cA_m0_stray, .int)]) [1, 2] rfl
  refine va_calli (va_runV (As := [.int p1, .int p2, .int p4]) (rest := [.ref m0]) ⟨hx, hb, hml, hown, hts⟩ (kf_X10_placeOf l sa dC dI m0 p1 p2 p4 m0_thrown m0_width m0_many m0_cells m0_moved m0_tape m0_taped m0_at m0_token m0_place m0_value m0_word m0_bad m0_badPlace m0_fault m0_faultPlace m0_lines m0_hours m0_courts m0_in m0_gates m0_gate m0_people m0_at0 m0_stray m0_set m0_once m0_truth m0_known m0_isKept m0_strays m0_hostPerson m0_hostCourt m0_outside m0_inside m0_can m0_fewest m0_waysTo m0_then m0_two m0_nextTwo m0_three m0_nextThree m0_shut m0_worth m0_digit m0_codes m0_most m0_bestTry m0_dayCourt m0_dayHour m0_dayNo m0_x cA_m0_at0 f_m0_at0 cA_m0_stray f_m0_stray b_p1 b_p2 b_p4 b_m0_taped b_m0_at b_m0_token b_m0_value b_m0_bad b_m0_strays b_m0_hostCourt b_m0_dayCourt b_m0_dayHour b_f_m0_at0 b_f_m0_stray s.heap.size) (cwV 3 hts (z_gV zw_t7_189 zw_t7_191 zw_s5_14 zw_t1_11 zw_t7_192) rfl rfl rfl (by decide +kernel) (by rw [← hRe]; exact ⟨(Nat.le_of_ble_eq_true rfl), (Nat.le_of_ble_eq_true rfl)⟩)) (z_preV hPc hKc hDc hN hXs hS hFc (q := (RX10, TX10, 53)) (ci := 10) (q0 := 0) rfl rfl) rfl rfl hl.1 rfl (lv_room (Nat.le_of_ble_eq_true rfl)) dX10_isWithin_6 (by rw [← hRe]; exact ⟨(Nat.le_of_ble_eq_true rfl), (Nat.le_of_ble_eq_true rfl)⟩)) hS (fun q _ h => hFc q h) hFc (fun r_1 u t H1 locs ht hvm hw hB hz1 hk1 hS => ?_)
  obtain ⟨hP, hD, hK⟩ := z_after3 (wn := [(m0_in, .inl (cA_m0_in, 50, .inl f_m0_in)), (m0_set, .inl (cA_m0_set, 10, .inl f_m0_set)), (m0, .inr (10, [.int m0_thrown, .ref m0_width, .ref m0_many, .ref m0_cells, .ref m0_moved, .ref m0_tape, .int m0_taped, .int m0_at, .int m0_token, .int m0_place, .int m0_value, .long m0_word, .int m0_bad, .int m0_badPlace, .int m0_fault, .int m0_faultPlace, .ref m0_lines, .ref m0_hours, .ref m0_courts, .ref m0_in, .ref m0_gates, .ref m0_gate, .ref m0_people, .ref m0_at0, .ref m0_stray, .ref m0_set, .ref m0_once, .ref m0_truth, .ref m0_known, .ref m0_isKept, .int m0_strays, .int m0_hostPerson, .int m0_hostCourt, .int m0_outside, .ref m0_inside, .ref m0_can, .ref m0_fewest, .ref m0_waysTo, .ref m0_then, .ref m0_two, .ref m0_nextTwo, .ref m0_three, .ref m0_nextThree, .int m0_shut, .ref m0_worth, .ref m0_digit, .int m0_codes, .long m0_most, .int m0_bestTry, .int m0_dayCourt, .int m0_dayHour, .int m0_dayNo, .long m0_x])), (m0_at0, .inl (cA_m0_at0, 2400, .inl f_m0_at0)), (m0_stray, .inl (cA_m0_stray, 100, .inl f_m0_stray))]) hB ht hvm hP hD hK [0, 2, 3] [1, 4] rfl 5 rfl (by decide +kernel) rfl (by decide +kernel) hk1 hFc
  generalize H1 = H at hP hS ⊢
  have hK : va_K (dC, dI) vwCl [(cA_m0_in, .int), (cA_m0_at0, .int), (cA_m0_stray, .int), (cA_m0_set, .int)] s := hK
  have b_r_1 : 0 ≤ r_1.toInt ∧ r_1.toInt ≤ 9 := hw.1
  have sf_r_1 := hw.2
  replace hF := hF.trans (zL_eq sf_r_1)
  refine lv_iload_n hx hb dX10_isWithin_9 rfl (lv_at hl 3 rfl) ?_
  obtain ⟨hPc, hDc, hFc⟩ := z_cut (wc := (zV87 m0 m0_thrown m0_width m0_many m0_cells m0_moved m0_tape m0_taped m0_at m0_token m0_place m0_value m0_word m0_bad m0_badPlace m0_fault m0_faultPlace m0_lines m0_hours m0_courts m0_in m0_gates m0_gate m0_people m0_at0 m0_stray m0_set m0_once m0_truth m0_known m0_isKept m0_strays m0_hostPerson m0_hostCourt m0_outside m0_inside m0_can m0_fewest m0_waysTo m0_then m0_two m0_nextTwo m0_three m0_nextThree m0_shut m0_worth m0_digit m0_codes m0_most m0_bestTry m0_dayCourt m0_dayHour m0_dayNo m0_x m0_in cA_m0_in f_m0_in m0_set cA_m0_set f_m0_set)) hP hD hS hA [2, 0, 1] rfl (by decide +kernel)
  have hKc := hK.sub (tys' := [(cA_m0_in, .int), (cA_m0_set, .int)]) [0, 3] rfl
  refine va_calli (va_runV (As := [.int r_1, .int p3]) (rest := []) ⟨hx, hb, hml, hown, hts⟩ (kf_X10_counts l sa dC dI m0 r_1 p3 m0_thrown m0_width m0_many m0_cells m0_moved m0_tape m0_taped m0_at m0_token m0_place m0_value m0_word m0_bad m0_badPlace m0_fault m0_faultPlace m0_lines m0_hours m0_courts m0_in m0_gates m0_gate m0_people m0_at0 m0_stray m0_set m0_once m0_truth m0_known m0_isKept m0_strays m0_hostPerson m0_hostCourt m0_outside m0_inside m0_can m0_fewest m0_waysTo m0_then m0_two m0_nextTwo m0_three m0_nextThree m0_shut m0_worth m0_digit m0_codes m0_most m0_bestTry m0_dayCourt m0_dayHour m0_dayNo m0_x cA_m0_in f_m0_in cA_m0_set f_m0_set b_r_1 b_m0_taped b_m0_at b_m0_token b_m0_value b_m0_bad b_m0_strays b_m0_hostCourt b_m0_dayCourt b_m0_dayHour b_f_m0_in b_f_m0_set H.size) (cwV 2 hts (z_gV zw_t7_205 zw_t7_207 zw_s6_1 zw_t1_11 zw_t7_208) rfl rfl rfl (by decide +kernel) (by rw [← hRe]; exact ⟨(Nat.le_of_ble_eq_true rfl), (Nat.le_of_ble_eq_true rfl)⟩)) (z_preV hPc hKc hDc hN hXs hS hFc (q := (RX10, TX10, 53)) (ci := 10) (q0 := 0) rfl rfl) rfl rfl hl.1 rfl (lv_room (Nat.le_of_ble_eq_true rfl)) dX10_isWithin_10 (by rw [← hRe]; exact ⟨(Nat.le_of_ble_eq_true rfl), (Nat.le_of_ble_eq_true rfl)⟩)) hS (fun q _ h => hFc q h) hFc (fun r_2 u t H1 locs ht hvm hw hB hz1 hk1 hS => ?_)
  obtain ⟨hP, hD, hK⟩ := z_after3 (wn := [(m0_at0, .inl (cA_m0_at0, 2400, .inl f_m0_at0)), (m0_stray, .inl (cA_m0_stray, 100, .inl f_m0_stray)), (m0, .inr (10, [.int m0_thrown, .ref m0_width, .ref m0_many, .ref m0_cells, .ref m0_moved, .ref m0_tape, .int m0_taped, .int m0_at, .int m0_token, .int m0_place, .int m0_value, .long m0_word, .int m0_bad, .int m0_badPlace, .int m0_fault, .int m0_faultPlace, .ref m0_lines, .ref m0_hours, .ref m0_courts, .ref m0_in, .ref m0_gates, .ref m0_gate, .ref m0_people, .ref m0_at0, .ref m0_stray, .ref m0_set, .ref m0_once, .ref m0_truth, .ref m0_known, .ref m0_isKept, .int m0_strays, .int m0_hostPerson, .int m0_hostCourt, .int m0_outside, .ref m0_inside, .ref m0_can, .ref m0_fewest, .ref m0_waysTo, .ref m0_then, .ref m0_two, .ref m0_nextTwo, .ref m0_three, .ref m0_nextThree, .int m0_shut, .ref m0_worth, .ref m0_digit, .int m0_codes, .long m0_most, .int m0_bestTry, .int m0_dayCourt, .int m0_dayHour, .int m0_dayNo, .long m0_x])), (m0_in, .inl (cA_m0_in, 50, .inl f_m0_in)), (m0_set, .inl (cA_m0_set, 10, .inl f_m0_set))]) hB ht hvm hP hD hK [2, 0, 1] [3, 4] rfl 5 rfl (by decide +kernel) rfl (by decide +kernel) hk1 hFc
  generalize H1 = H at hP hS ⊢
  have hK : va_K (dC, dI) vwCl [(cA_m0_in, .int), (cA_m0_at0, .int), (cA_m0_stray, .int), (cA_m0_set, .int)] s := hK
  have b_r_2 : 0 ≤ r_2.toInt ∧ r_2.toInt ≤ 1 := hw.1
  have sf_r_2 := hw.2
  replace hF := hF.trans (zL_eq sf_r_2)
  have hF : RR = r_2 := hF
  exact W.zret (v := r_2) hx hb hr (zi_bool (by first | with_reducible assumption | omega)) (fun t ht hW => by rw [← hQe]; exact ⟨⟨r_2, (), rfl, ⟨by omega, (by rw [← hRR, hF])⟩, z_ret hP hK hD ht hW [2, 3, 0, 1, 4] [] rfl (by decide) rfl⟩, hS.F ht⟩) hS.2.2 dX10_isWithin_13
set_option maxHeartbeats 4000000 in
set_option maxRecDepth 100000 in
theorem kf_X10_withinOf (l : Launch) (sa : Nat → Nat) (dC : Nat → ClassId) (dI : Nat → Nat → Nat) (m0 : Nat) (p1 : Int32) (p2 : Int32) (m0_thrown : Int32) (m0_width : Nat) (m0_many : Nat) (m0_cells : Nat) (m0_moved : Nat) (m0_tape : Nat) (m0_taped : Int32) (m0_at : Int32) (m0_token : Int32) (m0_place : Int32) (m0_value : Int32) (m0_word : Int64) (m0_bad : Int32) (m0_badPlace : Int32) (m0_fault : Int32) (m0_faultPlace : Int32) (m0_lines : Nat) (m0_hours : Nat) (m0_courts : Nat) (m0_in : Nat) (m0_gates : Nat) (m0_gate : Nat) (m0_people : Nat) (m0_at0 : Nat) (m0_stray : Nat) (m0_set : Nat) (m0_once : Nat) (m0_truth : Nat) (m0_known : Nat) (m0_isKept : Nat) (m0_strays : Int32) (m0_hostPerson : Int32) (m0_hostCourt : Int32) (m0_outside : Int32) (m0_inside : Nat) (m0_can : Nat) (m0_fewest : Nat) (m0_waysTo : Nat) (m0_then : Nat) (m0_two : Nat) (m0_nextTwo : Nat) (m0_three : Nat) (m0_nextThree : Nat) (m0_shut : Int32) (m0_worth : Nat) (m0_digit : Nat) (m0_codes : Int32) (m0_most : Int64) (m0_bestTry : Int32) (m0_dayCourt : Int32) (m0_dayHour : Int32) (m0_dayNo : Int32) (m0_x : Int64) (cA_m0_in : ClassId) (f_m0_in : Nat → Int32) (cA_m0_people : ClassId) (f_m0_people : Nat → Int32) (cA_m0_at0 : ClassId) (f_m0_at0 : Nat → Int32) (cA_m0_stray : ClassId) (f_m0_stray : Nat → Int32) (cA_m0_set : ClassId) (f_m0_set : Nat → Int32) (cA_m0_truth : ClassId) (f_m0_truth : Nat → Int32) (b_p2 : 0 ≤ p2.toInt ∧ p2.toInt ≤ 47) (b_m0_taped : 0 ≤ m0_taped.toInt ∧ m0_taped.toInt ≤ 1600) (b_m0_at : 0 ≤ m0_at.toInt ∧ m0_at.toInt ≤ 1600) (b_m0_token : 0 ≤ m0_token.toInt ∧ m0_token.toInt ≤ 4) (b_m0_value : 0 ≤ m0_value.toInt ∧ m0_value.toInt ≤ 1000009) (b_m0_bad : 0 ≤ m0_bad.toInt ∧ m0_bad.toInt ≤ 3) (b_m0_strays : 0 ≤ m0_strays.toInt ∧ m0_strays.toInt ≤ 5) (b_m0_hostCourt : 0 ≤ m0_hostCourt.toInt ∧ m0_hostCourt.toInt ≤ 9) (b_m0_dayCourt : 0 ≤ m0_dayCourt.toInt ∧ m0_dayCourt.toInt ≤ 9) (b_m0_dayHour : 0 ≤ m0_dayHour.toInt ∧ m0_dayHour.toInt ≤ 48) (b_f_m0_in : ∀ j : Nat, j < 10 → (-1) ≤ (f_m0_in j).toInt ∧ (f_m0_in j).toInt < (j : Int)) (b_f_m0_people : ∀ j : Nat, 0 ≤ (f_m0_people j).toInt ∧ (f_m0_people j).toInt ≤ 10) (b_f_m0_at0 : ∀ j : Nat, 0 ≤ (f_m0_at0 j).toInt ∧ (f_m0_at0 j).toInt ≤ 9) (b_f_m0_stray : ∀ j : Nat, 0 ≤ (f_m0_stray j).toInt ∧ (f_m0_stray j).toInt ≤ 99 ∧ (j % 2 = 1 → (f_m0_stray j).toInt ≤ 9)) (b_f_m0_set : ∀ j : Nat, 0 ≤ (f_m0_set j).toInt ∧ (f_m0_set j).toInt ≤ 9) (sz : Nat) : Met l yX10_withinOf (.code yX10_withinOf cX10_withinOf 6 (some .int) :: zT) ({ frames := 3, cells := 0, slots := 0, locals := 69 }) (va_Pc [.ref m0, .int p1, .int p2] (zB sa dC dI (zV89 m0 m0_thrown m0_width m0_many m0_cells m0_moved m0_tape m0_taped m0_at m0_token m0_place m0_value m0_word m0_bad m0_badPlace m0_fault m0_faultPlace m0_lines m0_hours m0_courts m0_in m0_gates m0_gate m0_people m0_at0 m0_stray m0_set m0_once m0_truth m0_known m0_isKept m0_strays m0_hostPerson m0_hostCourt m0_outside m0_inside m0_can m0_fewest m0_waysTo m0_then m0_two m0_nextTwo m0_three m0_nextThree m0_shut m0_worth m0_digit m0_codes m0_most m0_bestTry m0_dayCourt m0_dayHour m0_dayNo m0_x m0_in cA_m0_in f_m0_in m0_people cA_m0_people f_m0_people m0_at0 cA_m0_at0 f_m0_at0 m0_stray cA_m0_stray f_m0_stray m0_set cA_m0_set f_m0_set m0_truth cA_m0_truth f_m0_truth) [(cA_m0_in, .int), (cA_m0_people, .int), (cA_m0_at0, .int), (cA_m0_stray, .int), (cA_m0_set, .int), (cA_m0_truth, .int)] sz)) (va_Qi (fun (r : Int32) (_ : Unit) => (0 ≤ r.toInt ∧ r.toInt ≤ 1023) ∧ r = (F_X10_withinOf p1 p2 m0_hostPerson m0_hostCourt m0_outside f_m0_in f_m0_people f_m0_at0 f_m0_stray f_m0_set f_m0_truth)) (fun _ t => zW dC dI (zV89 m0 m0_thrown m0_width m0_many m0_cells m0_moved m0_tape m0_taped m0_at m0_token m0_place m0_value m0_word m0_bad m0_badPlace m0_fault m0_faultPlace m0_lines m0_hours m0_courts m0_in m0_gates m0_gate m0_people m0_at0 m0_stray m0_set m0_once m0_truth m0_known m0_isKept m0_strays m0_hostPerson m0_hostCourt m0_outside m0_inside m0_can m0_fewest m0_waysTo m0_then m0_two m0_nextTwo m0_three m0_nextThree m0_shut m0_worth m0_digit m0_codes m0_most m0_bestTry m0_dayCourt m0_dayHour m0_dayNo m0_x m0_in cA_m0_in f_m0_in m0_people cA_m0_people f_m0_people m0_at0 cA_m0_at0 f_m0_at0 m0_stray cA_m0_stray f_m0_stray m0_set cA_m0_set f_m0_set m0_truth cA_m0_truth f_m0_truth) [] (va_A (zV89 m0 m0_thrown m0_width m0_many m0_cells m0_moved m0_tape m0_taped m0_at m0_token m0_place m0_value m0_word m0_bad m0_badPlace m0_fault m0_faultPlace m0_lines m0_hours m0_courts m0_in m0_gates m0_gate m0_people m0_at0 m0_stray m0_set m0_once m0_truth m0_known m0_isKept m0_strays m0_hostPerson m0_hostCourt m0_outside m0_inside m0_can m0_fewest m0_waysTo m0_then m0_two m0_nextTwo m0_three m0_nextThree m0_shut m0_worth m0_digit m0_codes m0_most m0_bestTry m0_dayCourt m0_dayHour m0_dayNo m0_x m0_in cA_m0_in f_m0_in m0_people cA_m0_people f_m0_people m0_at0 cA_m0_at0 f_m0_at0 m0_stray cA_m0_stray f_m0_stray m0_set cA_m0_set f_m0_set m0_truth cA_m0_truth f_m0_truth) sz) t) (va_A (zV89 m0 m0_thrown m0_width m0_many m0_cells m0_moved m0_tape m0_taped m0_at m0_token m0_place m0_value m0_word m0_bad m0_badPlace m0_fault m0_faultPlace m0_lines m0_hours m0_courts m0_in m0_gates m0_gate m0_people m0_at0 m0_stray m0_set m0_once m0_truth m0_known m0_isKept m0_strays m0_hostPerson m0_hostCourt m0_outside m0_inside m0_can m0_fewest m0_waysTo m0_then m0_two m0_nextTwo m0_three m0_nextThree m0_shut m0_worth m0_digit m0_codes m0_most m0_bestTry m0_dayCourt m0_dayHour m0_dayNo m0_x m0_in cA_m0_in f_m0_in m0_people cA_m0_people f_m0_people m0_at0 cA_m0_at0 f_m0_at0 m0_stray cA_m0_stray f_m0_stray m0_set cA_m0_set f_m0_set m0_truth cA_m0_truth f_m0_truth) sz)) 0 0 (va_A (zV89 m0 m0_thrown m0_width m0_many m0_cells m0_moved m0_tape m0_taped m0_at m0_token m0_place m0_value m0_word m0_bad m0_badPlace m0_fault m0_faultPlace m0_lines m0_hours m0_courts m0_in m0_gates m0_gate m0_people m0_at0 m0_stray m0_set m0_once m0_truth m0_known m0_isKept m0_strays m0_hostPerson m0_hostCourt m0_outside m0_inside m0_can m0_fewest m0_waysTo m0_then m0_two m0_nextTwo m0_three m0_nextThree m0_shut m0_worth m0_digit m0_codes m0_most m0_bestTry m0_dayCourt m0_dayHour m0_dayNo m0_x m0_in cA_m0_in f_m0_in m0_people cA_m0_people f_m0_people m0_at0 cA_m0_at0 f_m0_at0 m0_stray cA_m0_stray f_m0_stray m0_set cA_m0_set f_m0_set m0_truth cA_m0_truth f_m0_truth) sz) := by
  refine z_enter (by decide) (by exact (Nat.le_of_ble_eq_true rfl)) ?_
  intro p e s m args below meth c ls A R Qc hargs hsz hQe hAe hRe hx hb hml hr hts hown hlocks hin hl hP hK hD hN hXs hA hS
  rw [hAe] at hQe
  have hown : s.vm.findClass RX10 = some m.cls := hown
  have hl : lv_has ls 6 [(0, .ref m0), (1, .int p1), (2, .int p2)] := hl
  obtain ⟨RR, hRR⟩ : ∃ z : Int32, z = (F_X10_withinOf p1 p2 m0_hostPerson m0_hostCourt m0_outside f_m0_in f_m0_people f_m0_at0 f_m0_stray f_m0_set f_m0_truth) := ⟨_, rfl⟩
  have hF : RR = (F_X10_withinOf p1 p2 m0_hostPerson m0_hostCourt m0_outside f_m0_in f_m0_people f_m0_at0 f_m0_stray f_m0_set f_m0_truth) := hRR
  refine lv_iconst (v := 0) hx hb dX10_withinOf_0 (by decide) ?_
  refine lv_istore_n (lv' := [(3, .int 0), (0, .ref m0), (1, .int p1), (2, .int p2)]) hx hb dX10_withinOf_1 rfl hl (by decide) rfl (fun ls hl => ?_)
  refine lv_iconst (v := 0) hx hb dX10_withinOf_2 (by decide) ?_
  refine lv_istore (lv' := [(4, .int 0), (3, .int 0), (0, .ref m0), (1, .int p1), (2, .int p2)]) hx hb dX10_withinOf_3 hl (by decide) rfl (fun ls hl => ?_)
  have loop_1 : ∀ (t_1 : Nat) (v3_2 : Int32) (v4_1 : Int32) (b_v3_2 : 0 ≤ v3_2.toInt ∧ v3_2.toInt ≤ 1023) (b_v4_1 : 0 ≤ v4_1.toInt ∧ v4_1.toInt ≤ 10) (H : Heap) (locs : List Loc) (ls : Array Slot), 10 - v4_1.toInt < (t_1 : Int) → RR = L_X10_withinOf_1 f_m0_people m0_outside p1 f_m0_in f_m0_set f_m0_truth p2 m0_hostPerson m0_hostCourt f_m0_at0 f_m0_stray K_X10_withinOf_1_0 t_1 v3_2 v4_1 → va_P (dC, dI) vwCl (zV89 m0 m0_thrown m0_width m0_many m0_cells m0_moved m0_tape m0_taped m0_at m0_token m0_place m0_value m0_word m0_bad m0_badPlace m0_fault m0_faultPlace m0_lines m0_hours m0_courts m0_in m0_gates m0_gate m0_people m0_at0 m0_stray m0_set m0_once m0_truth m0_known m0_isKept m0_strays m0_hostPerson m0_hostCourt m0_outside m0_inside m0_can m0_fewest m0_waysTo m0_then m0_two m0_nextTwo m0_three m0_nextThree m0_shut m0_worth m0_digit m0_codes m0_most m0_bestTry m0_dayCourt m0_dayHour m0_dayNo m0_x m0_in cA_m0_in f_m0_in m0_people cA_m0_people f_m0_people m0_at0 cA_m0_at0 f_m0_at0 m0_stray cA_m0_stray f_m0_stray m0_set cA_m0_set f_m0_set m0_truth cA_m0_truth f_m0_truth) H → va_D A (zV89 m0 m0_thrown m0_width m0_many m0_cells m0_moved m0_tape m0_taped m0_at m0_token m0_place m0_value m0_word m0_bad m0_badPlace m0_fault m0_faultPlace m0_lines m0_hours m0_courts m0_in m0_gates m0_gate m0_people m0_at0 m0_stray m0_set m0_once m0_truth m0_known m0_isKept m0_strays m0_hostPerson m0_hostCourt m0_outside m0_inside m0_can m0_fewest m0_waysTo m0_then m0_two m0_nextTwo m0_three m0_nextThree m0_shut m0_worth m0_digit m0_codes m0_most m0_bestTry m0_dayCourt m0_dayHour m0_dayNo m0_x m0_in cA_m0_in f_m0_in m0_people cA_m0_people f_m0_people m0_at0 cA_m0_at0 f_m0_at0 m0_stray cA_m0_stray f_m0_stray m0_set cA_m0_set f_m0_set m0_truth cA_m0_truth f_m0_truth) → va_S A s.heap H locs → lv_has ls 6 [(0, .ref m0), (1, .int p1), (2, .int p2), (3, .int v3_2), (4, .int v4_1)] → W p l e R s m args below meth c H locs 0 0 (MQ below Qc args s 0 0 A) (F0 m 5 ls []) := by
    intro t_1
    induction t_1 with
    | zero => intro v3_2 v4_1 b_v3_2 b_v4_1 H locs ls hmu _ _ _ _ _; exact absurd hmu (by first | with_reducible assumption | omega)
    | succ t_1 ih_1 =>
      intro v3_2 v4_1 b_v3_2 b_v4_1 H locs ls hmu hF hP hD hS hl
      replace hF := hF.trans L_X10_withinOf_1_s
      refine lv_iload hx hb dX10_withinOf_5 (lv_at hl 4 rfl) ?_
      refine lv_aload_n hx hb dX10_withinOf_7 rfl (lv_at hl 0 rfl) ?_
      refine va_get (D := (dC, dI)) (ci := 10) (v := .ref m0_people) (C := RX10) (T := TX10) (N := 53) hx hb hts zl_X10 hown hK hP 0 rfl rfl 22 (by decide) (hts _ zw_t6_122) (fun _ h9 => h9) rfl dX10_withinOf_8 ?_
      refine lv_iconst (v := 0) hx hb dX10_withinOf_11 (by decide) ?_
      refine va_iald hx hb hK hP 2 1 rfl rfl (zi_in (show Int32.toInt 0 = 0 from by decide) (by decide)) dX10_withinOf_12 ?_
      refine lv_topi (fun x_3 ex_3 => ?_)
      replace hF := hF.trans (zL_eq ex_3)
      have b_x_3 : 0 ≤ x_3.toInt ∧ x_3.toInt ≤ 10 := by rw [ex_3]; exact b_f_m0_people _
      have t_x_3 : x_3.toInt = (f_m0_people (Int32.toNatClampNeg 0)).toInt := by rw [ex_3]
      refine lv_icmp_ge (tgt := 76) hx hb dX10_withinOf_13 (by decide) (fun c_4 => ?_) (fun c_4 => ?_)
      · have ic_4 := zz_ge rfl rfl c_4
        replace hF := hF.trans (if_pos c_4)
        refine lv_iload_n hx hb dX10_withinOf_76 rfl (lv_at hl 3 rfl) ?_
        have hF : RR = v3_2 := hF
        exact W.iret (v := v3_2) hx hb hr (fun t ht hW => by rw [← hQe]; exact ⟨⟨v3_2, (), rfl, ⟨by omega, (by rw [← hRR, hF])⟩, z_ret hP hK hD ht hW [0, 1, 2, 3, 4, 5, 6] [] rfl (by decide) rfl⟩, hS.F ht⟩) hS.2.2 dX10_withinOf_77
      · have ic_4 := zz_nge rfl rfl c_4
        replace hF := hF.trans (if_neg c_4)
        refine lv_aload_n hx hb dX10_withinOf_16 rfl (lv_at hl 0 rfl) ?_
        refine va_get (D := (dC, dI)) (ci := 10) (v := .int m0_outside) (C := RX10) (T := TX10) (N := 53) hx hb hts zl_X10 hown hK hP 0 rfl rfl 33 (by decide) (hts _ zw_t6_133) (fun _ h9 => h9) rfl dX10_withinOf_17 ?_
        refine lv_iload hx hb dX10_withinOf_20 (lv_at hl 4 rfl) ?_
        refine lv_ishr hx hb dX10_withinOf_22 ?_
        refine lv_topi (fun x_5 ex_5 => ?_)
        replace hF := hF.trans (zL_eq ex_5)
        refine lv_iconst (v := 1) hx hb dX10_withinOf_23 (by decide) ?_
        refine lv_iand hx hb dX10_withinOf_24 ?_
        refine lv_topi (fun x_6 ex_6 => ?_)
        replace hF := hF.trans (zL_eq ex_6)
        have b_x_6 : 0 ≤ x_6.toInt ∧ x_6.toInt ≤ 1 := by rw [ex_6]; exact zi_andR (show Int32.toInt 1 = 1 from by decide) (by first | with_reducible assumption | omega) (by first | with_reducible assumption | omega)
        refine lv_iconst (v := 1) hx hb dX10_withinOf_25 (by decide) ?_
        refine lv_icmp_ne (tgt := 38) hx hb dX10_withinOf_26 (by decide) (fun c_7 => ?_) (fun c_7 => ?_)
        · have ic_7 := zz_ne rfl (show Int32.toInt 1 = 1 from by decide) c_7
          replace hF := hF.trans (if_neg c_7)
          refine lv_aload_n hx hb dX10_withinOf_38 rfl (lv_at hl 0 rfl) ?_
          refine lv_iload hx hb dX10_withinOf_39 (lv_at hl 4 rfl) ?_
          refine lv_aload_n hx hb dX10_withinOf_41 rfl (lv_at hl 0 rfl) ?_
          refine lv_iload hx hb dX10_withinOf_42 (lv_at hl 4 rfl) ?_
          obtain ⟨hPc, hDc, hFc⟩ := z_cut (wc := (zV80 m0 m0_thrown m0_width m0_many m0_cells m0_moved m0_tape m0_taped m0_at m0_token m0_place m0_value m0_word m0_bad m0_badPlace m0_fault m0_faultPlace m0_lines m0_hours m0_courts m0_in m0_gates m0_gate m0_people m0_at0 m0_stray m0_set m0_once m0_truth m0_known m0_isKept m0_strays m0_hostPerson m0_hostCourt m0_outside m0_inside m0_can m0_fewest m0_waysTo m0_then m0_two m0_nextTwo m0_three m0_nextThree m0_shut m0_worth m0_digit m0_codes m0_most m0_bestTry m0_dayCourt m0_dayHour m0_dayNo m0_x m0_truth cA_m0_truth f_m0_truth)) hP hD hS hA [0, 6] rfl (by decide +kernel)
          have hKc := hK.sub (tys' := [(cA_m0_truth, .int)]) [5] rfl
          refine va_calli (va_runV (As := [.int v4_1]) (rest := [.int v4_1, .ref m0]) ⟨hx, hb, hml, hown, hts⟩ (kf_X10_isStrayed l sa dC dI m0 v4_1 m0_thrown m0_width m0_many m0_cells m0_moved m0_tape m0_taped m0_at m0_token m0_place m0_value m0_word m0_bad m0_badPlace m0_fault m0_faultPlace m0_lines m0_hours m0_courts m0_in m0_gates m0_gate m0_people m0_at0 m0_stray m0_set m0_once m0_truth m0_known m0_isKept m0_strays m0_hostPerson m0_hostCourt m0_outside m0_inside m0_can m0_fewest m0_waysTo m0_then m0_two m0_nextTwo m0_three m0_nextThree m0_shut m0_worth m0_digit m0_codes m0_most m0_bestTry m0_dayCourt m0_dayHour m0_dayNo m0_x cA_m0_truth f_m0_truth b_m0_taped b_m0_at b_m0_token b_m0_value b_m0_bad b_m0_strays b_m0_hostCourt b_m0_dayCourt b_m0_dayHour H.size) (cwV 1 hts (z_gV zw_t7_185 zw_t7_187 zw_s5_13 zw_t1_11 zw_t7_188) rfl rfl rfl (by decide +kernel) (by rw [← hRe]; exact ⟨(Nat.le_of_ble_eq_true rfl), (Nat.le_of_ble_eq_true rfl)⟩)) (z_preV hPc hKc hDc hN hXs hS hFc (q := (RX10, TX10, 53)) (ci := 10) (q0 := 0) rfl rfl) rfl rfl hl.1 rfl (lv_room (Nat.le_of_ble_eq_true rfl)) dX10_withinOf_44 (by rw [← hRe]; exact ⟨(Nat.le_of_ble_eq_true rfl), (Nat.le_of_ble_eq_true rfl)⟩)) hS (fun q _ h => hFc q h) hFc (fun r_8 u t H1 locs ht hvm hw hB hz1 hk1 hS => ?_)
          obtain ⟨hP, hD, hK⟩ := z_after3 (wn := [(m0_in, .inl (cA_m0_in, 50, .inl f_m0_in)), (m0_people, .inl (cA_m0_people, 5, .inl f_m0_people)), (m0_at0, .inl (cA_m0_at0, 2400, .inl f_m0_at0)), (m0_stray, .inl (cA_m0_stray, 100, .inl f_m0_stray)), (m0_set, .inl (cA_m0_set, 10, .inl f_m0_set)), (m0, .inr (10, [.int m0_thrown, .ref m0_width, .ref m0_many, .ref m0_cells, .ref m0_moved, .ref m0_tape, .int m0_taped, .int m0_at, .int m0_token, .int m0_place, .int m0_value, .long m0_word, .int m0_bad, .int m0_badPlace, .int m0_fault, .int m0_faultPlace, .ref m0_lines, .ref m0_hours, .ref m0_courts, .ref m0_in, .ref m0_gates, .ref m0_gate, .ref m0_people, .ref m0_at0, .ref m0_stray, .ref m0_set, .ref m0_once, .ref m0_truth, .ref m0_known, .ref m0_isKept, .int m0_strays, .int m0_hostPerson, .int m0_hostCourt, .int m0_outside, .ref m0_inside, .ref m0_can, .ref m0_fewest, .ref m0_waysTo, .ref m0_then, .ref m0_two, .ref m0_nextTwo, .ref m0_three, .ref m0_nextThree, .int m0_shut, .ref m0_worth, .ref m0_digit, .int m0_codes, .long m0_most, .int m0_bestTry, .int m0_dayCourt, .int m0_dayHour, .int m0_dayNo, .long m0_x])), (m0_truth, .inl (cA_m0_truth, 10, .inl f_m0_truth))]) hB ht hvm hP hD hK [0, 6] [1, 2, 3, 4, 5] rfl 7 rfl (by decide +kernel) rfl (by decide +kernel) hk1 hFc
          generalize H1 = H at hP hS ⊢
          have hK : va_K (dC, dI) vwCl [(cA_m0_in, .int), (cA_m0_people, .int), (cA_m0_at0, .int), (cA_m0_stray, .int), (cA_m0_set, .int), (cA_m0_truth, .int)] s := hK
          have b_r_8 : 0 ≤ r_8.toInt ∧ r_8.toInt ≤ 1 := hw.1
          have sf_r_8 := hw.2
          replace hF := hF.trans (zL_eq sf_r_8)
          refine lv_iload_n hx hb dX10_withinOf_47 rfl (lv_at hl 1 rfl) ?_
          refine lv_iload_n hx hb dX10_withinOf_48 rfl (lv_at hl 2 rfl) ?_
          obtain ⟨hPc, hDc, hFc⟩ := z_cut (wc := (zV88 m0 m0_thrown m0_width m0_many m0_cells m0_moved m0_tape m0_taped m0_at m0_token m0_place m0_value m0_word m0_bad m0_badPlace m0_fault m0_faultPlace m0_lines m0_hours m0_courts m0_in m0_gates m0_gate m0_people m0_at0 m0_stray m0_set m0_once m0_truth m0_known m0_isKept m0_strays m0_hostPerson m0_hostCourt m0_outside m0_inside m0_can m0_fewest m0_waysTo m0_then m0_two m0_nextTwo m0_three m0_nextThree m0_shut m0_worth m0_digit m0_codes m0_most m0_bestTry m0_dayCourt m0_dayHour m0_dayNo m0_x m0_in cA_m0_in f_m0_in m0_at0 cA_m0_at0 f_m0_at0 m0_stray cA_m0_stray f_m0_stray m0_set cA_m0_set f_m0_set)) hP hD hS hA [5, 0, 2, 3, 4] rfl (by decide +kernel)
          have hKc := hK.sub (tys' := [(cA_m0_in, .int), (cA_m0_at0, .int), (cA_m0_stray, .int), (cA_m0_set, .int)]) [0, 2, 3, 4] rfl
          refine va_calli (va_runV (As := [.int v4_1, .int r_8, .int p1, .int p2]) (rest := []) ⟨hx, hb, hml, hown, hts⟩ (kf_X10_isWithin l sa dC dI m0 v4_1 r_8 p1 p2 m0_thrown m0_width m0_many m0_cells m0_moved m0_tape m0_taped m0_at m0_token m0_place m0_value m0_word m0_bad m0_badPlace m0_fault m0_faultPlace m0_lines m0_hours m0_courts m0_in m0_gates m0_gate m0_people m0_at0 m0_stray m0_set m0_once m0_truth m0_known m0_isKept m0_strays m0_hostPerson m0_hostCourt m0_outside m0_inside m0_can m0_fewest m0_waysTo m0_then m0_two m0_nextTwo m0_three m0_nextThree m0_shut m0_worth m0_digit m0_codes m0_most m0_bestTry m0_dayCourt m0_dayHour m0_dayNo m0_x cA_m0_in f_m0_in cA_m0_at0 f_m0_at0 cA_m0_stray f_m0_stray cA_m0_set f_m0_set (by first | with_reducible assumption | omega) b_r_8 b_p2 b_m0_taped b_m0_at b_m0_token b_m0_value b_m0_bad b_m0_strays b_m0_hostCourt b_m0_dayCourt b_m0_dayHour b_f_m0_in b_f_m0_at0 b_f_m0_stray b_f_m0_set H.size) (cwV 4 hts (z_gV zw_t7_213 zw_t7_215 zw_s6_3 zw_t1_11 zw_t7_216) rfl rfl rfl (by decide +kernel) (by rw [← hRe]; exact ⟨(Nat.le_of_ble_eq_true rfl), (Nat.le_of_ble_eq_true rfl)⟩)) (z_preV hPc hKc hDc hN hXs hS hFc (q := (RX10, TX10, 53)) (ci := 10) (q0 := 0) rfl rfl) rfl rfl hl.1 rfl (lv_room (Nat.le_of_ble_eq_true rfl)) dX10_withinOf_49 (by rw [← hRe]; exact ⟨(Nat.le_of_ble_eq_true rfl), (Nat.le_of_ble_eq_true rfl)⟩)) hS (fun q _ h => hFc q h) hFc (fun r_9 u t H1 locs ht hvm hw hB hz1 hk1 hS => ?_)
          obtain ⟨hP, hD, hK⟩ := z_after3 (wn := [(m0_people, .inl (cA_m0_people, 5, .inl f_m0_people)), (m0_truth, .inl (cA_m0_truth, 10, .inl f_m0_truth)), (m0, .inr (10, [.int m0_thrown, .ref m0_width, .ref m0_many, .ref m0_cells, .ref m0_moved, .ref m0_tape, .int m0_taped, .int m0_at, .int m0_token, .int m0_place, .int m0_value, .long m0_word, .int m0_bad, .int m0_badPlace, .int m0_fault, .int m0_faultPlace, .ref m0_lines, .ref m0_hours, .ref m0_courts, .ref m0_in, .ref m0_gates, .ref m0_gate, .ref m0_people, .ref m0_at0, .ref m0_stray, .ref m0_set, .ref m0_once, .ref m0_truth, .ref m0_known, .ref m0_isKept, .int m0_strays, .int m0_hostPerson, .int m0_hostCourt, .int m0_outside, .ref m0_inside, .ref m0_can, .ref m0_fewest, .ref m0_waysTo, .ref m0_then, .ref m0_two, .ref m0_nextTwo, .ref m0_three, .ref m0_nextThree, .int m0_shut, .ref m0_worth, .ref m0_digit, .int m0_codes, .long m0_most, .int m0_bestTry, .int m0_dayCourt, .int m0_dayHour, .int m0_dayNo, .long m0_x])), (m0_in, .inl (cA_m0_in, 50, .inl f_m0_in)), (m0_at0, .inl (cA_m0_at0, 2400, .inl f_m0_at0)), (m0_stray, .inl (cA_m0_stray, 100, .inl f_m0_stray)), (m0_set, .inl (cA_m0_set, 10, .inl f_m0_set))]) hB ht hvm hP hD hK [5, 0, 2, 3, 4] [1, 6] rfl 7 rfl (by decide +kernel) rfl (by decide +kernel) hk1 hFc
          generalize H1 = H at hP hS ⊢
          have hK : va_K (dC, dI) vwCl [(cA_m0_in, .int), (cA_m0_people, .int), (cA_m0_at0, .int), (cA_m0_stray, .int), (cA_m0_set, .int), (cA_m0_truth, .int)] s := hK
          have b_r_9 : 0 ≤ r_9.toInt ∧ r_9.toInt ≤ 1 := hw.1
          have sf_r_9 := hw.2
          replace hF := hF.trans (zL_eq sf_r_9)
          refine lv_istore (lv' := [(5, .int r_9), (0, .ref m0), (1, .int p1), (2, .int p2), (3, .int v3_2), (4, .int v4_1)]) hx hb dX10_withinOf_52 hl (by decide) rfl (fun ls hl => ?_)
          refine lv_iload_n hx hb dX10_withinOf_54 rfl (lv_at hl 4 rfl) ?_
          refine lv_iload hx hb dX10_withinOf_55 (lv_at hl 0 rfl) ?_
          refine lv_if_eq (tgt := 67) hx hb dX10_withinOf_57 (by decide) (fun c_10 => ?_) (fun c_10 => ?_)
          · have ic_10 := zz_eq rfl (show Int32.toInt 0 = 0 from by decide) c_10
            replace hF := hF.trans (if_pos c_10)
            refine lv_iconst (v := 0) hx hb dX10_withinOf_67 (by decide) ?_
            refine lv_ior hx hb dX10_withinOf_68 ?_
            refine lv_topi (fun x_11 ex_11 => ?_)
            replace hF := hF.trans (zL_eq ex_11)
            have b_x_11 : 0 ≤ x_11.toInt ∧ x_11.toInt ≤ 1023 := by rw [ex_11]; exact zi_or 10 rfl (show Int32.toInt 0 = 0 from by decide) (by first | with_reducible assumption | omega) (by first | with_reducible assumption | omega) (by decide)
            refine lv_istore_n (lv' := [(3, .int x_11), (5, .int r_9), (0, .ref m0), (1, .int p1), (2, .int p2), (4, .int v4_1)]) hx hb dX10_withinOf_69 rfl hl (by decide) rfl (fun ls hl => ?_)
            obtain ⟨x_12, ex_12⟩ : ∃ z : Int32, z = v4_1 + Int32.ofInt 1 := ⟨_, rfl⟩
            have b_x_12 : x_12.toInt = v4_1.toInt + 1 := by rw [ex_12]; exact zi_add rfl (show (Int32.ofInt 1).toInt = 1 from by decide) (z_rac b_v4_1 (by decide))
            refine lv_iinc (v := x_12) (lv' := [(4, .int x_12), (3, .int x_11), (5, .int r_9), (0, .ref m0), (1, .int p1), (2, .int p2)]) hx hb dX10_withinOf_70 hl (k := 5) rfl ex_12.symm (by decide) rfl (fun ls hl => ?_)
            replace hF := hF.trans (zL_eq ex_12)
            refine lv_goto (tgt := 5) hx hb dX10_withinOf_73 (by decide) ?_
            exact ih_1 x_11 x_12 (by first | with_reducible assumption | omega) (by first | with_reducible assumption | omega) _ _ _ (by first | with_reducible assumption | omega) hF (hP.sub (ws' := (zV89 m0 m0_thrown m0_width m0_many m0_cells m0_moved m0_tape m0_taped m0_at m0_token m0_place m0_value m0_word m0_bad m0_badPlace m0_fault m0_faultPlace m0_lines m0_hours m0_courts m0_in m0_gates m0_gate m0_people m0_at0 m0_stray m0_set m0_once m0_truth m0_known m0_isKept m0_strays m0_hostPerson m0_hostCourt m0_outside m0_inside m0_can m0_fewest m0_waysTo m0_then m0_two m0_nextTwo m0_three m0_nextThree m0_shut m0_worth m0_digit m0_codes m0_most m0_bestTry m0_dayCourt m0_dayHour m0_dayNo m0_x m0_in cA_m0_in f_m0_in m0_people cA_m0_people f_m0_people m0_at0 cA_m0_at0 f_m0_at0 m0_stray cA_m0_stray f_m0_stray m0_set cA_m0_set f_m0_set m0_truth cA_m0_truth f_m0_truth)) [2, 3, 0, 4, 5, 6, 1] rfl) (hD.sub (ws' := (zV89 m0 m0_thrown m0_width m0_many m0_cells m0_moved m0_tape m0_taped m0_at m0_token m0_place m0_value m0_word m0_bad m0_badPlace m0_fault m0_faultPlace m0_lines m0_hours m0_courts m0_in m0_gates m0_gate m0_people m0_at0 m0_stray m0_set m0_once m0_truth m0_known m0_isKept m0_strays m0_hostPerson m0_hostCourt m0_outside m0_inside m0_can m0_fewest m0_waysTo m0_then m0_two m0_nextTwo m0_three m0_nextThree m0_shut m0_worth m0_digit m0_codes m0_most m0_bestTry m0_dayCourt m0_dayHour m0_dayNo m0_x m0_in cA_m0_in f_m0_in m0_people cA_m0_people f_m0_people m0_at0 cA_m0_at0 f_m0_at0 m0_stray cA_m0_stray f_m0_stray m0_set cA_m0_set f_m0_set m0_truth cA_m0_truth f_m0_truth)) [2, 3, 0, 4, 5, 6, 1] (by decide) rfl) hS (lv_sub hl [3, 4, 5, 1, 0] rfl)
          · have ic_10 := zz_neq rfl (show Int32.toInt 0 = 0 from by decide) c_10
            replace hF := hF.trans (if_neg c_10)
            refine lv_iconst (v := 1) hx hb dX10_withinOf_60 (by decide) ?_
            refine lv_iload hx hb dX10_withinOf_61 (lv_at hl 5 rfl) ?_
            refine lv_ishl hx hb dX10_withinOf_63 ?_
            refine lv_topi (fun x_13 ex_13 => ?_)
            replace hF := hF.trans (zL_eq ex_13)
            have b_x_13 : 1 ≤ x_13.toInt ∧ x_13.toInt ≤ 512 := by rw [ex_13]; exact zi_shl9 rfl (by first | with_reducible assumption | omega)
            refine lv_goto (tgt := 68) hx hb dX10_withinOf_64 (by decide) ?_
            refine lv_ior hx hb dX10_withinOf_68 ?_
            refine lv_topi (fun x_14 ex_14 => ?_)
            replace hF := hF.trans (zL_eq ex_14)
            have b_x_14 : 0 ≤ x_14.toInt ∧ x_14.toInt ≤ 1023 := by rw [ex_14]; exact zi_or 10 rfl rfl (by first | with_reducible assumption | omega) (by first | with_reducible assumption | omega) (by decide)
            refine lv_istore_n (lv' := [(3, .int x_14), (5, .int r_9), (0, .ref m0), (1, .int p1), (2, .int p2), (4, .int v4_1)]) hx hb dX10_withinOf_69 rfl hl (by decide) rfl (fun ls hl => ?_)
            obtain ⟨x_15, ex_15⟩ : ∃ z : Int32, z = v4_1 + Int32.ofInt 1 := ⟨_, rfl⟩
            have b_x_15 : x_15.toInt = v4_1.toInt + 1 := by rw [ex_15]; exact zi_add rfl (show (Int32.ofInt 1).toInt = 1 from by decide) (z_rac b_v4_1 (by decide))
            refine lv_iinc (v := x_15) (lv' := [(4, .int x_15), (3, .int x_14), (5, .int r_9), (0, .ref m0), (1, .int p1), (2, .int p2)]) hx hb dX10_withinOf_70 hl (k := 5) rfl ex_15.symm (by decide) rfl (fun ls hl => ?_)
            replace hF := hF.trans (zL_eq ex_15)
            refine lv_goto (tgt := 5) hx hb dX10_withinOf_73 (by decide) ?_
            exact ih_1 x_14 x_15 (by first | with_reducible assumption | omega) (by first | with_reducible assumption | omega) _ _ _ (by first | with_reducible assumption | omega) hF (hP.sub (ws' := (zV89 m0 m0_thrown m0_width m0_many m0_cells m0_moved m0_tape m0_taped m0_at m0_token m0_place m0_value m0_word m0_bad m0_badPlace m0_fault m0_faultPlace m0_lines m0_hours m0_courts m0_in m0_gates m0_gate m0_people m0_at0 m0_stray m0_set m0_once m0_truth m0_known m0_isKept m0_strays m0_hostPerson m0_hostCourt m0_outside m0_inside m0_can m0_fewest m0_waysTo m0_then m0_two m0_nextTwo m0_three m0_nextThree m0_shut m0_worth m0_digit m0_codes m0_most m0_bestTry m0_dayCourt m0_dayHour m0_dayNo m0_x m0_in cA_m0_in f_m0_in m0_people cA_m0_people f_m0_people m0_at0 cA_m0_at0 f_m0_at0 m0_stray cA_m0_stray f_m0_stray m0_set cA_m0_set f_m0_set m0_truth cA_m0_truth f_m0_truth)) [2, 3, 0, 4, 5, 6, 1] rfl) (hD.sub (ws' := (zV89 m0 m0_thrown m0_width m0_many m0_cells m0_moved m0_tape m0_taped m0_at m0_token m0_place m0_value m0_word m0_bad m0_badPlace m0_fault m0_faultPlace m0_lines m0_hours m0_courts m0_in m0_gates m0_gate m0_people m0_at0 m0_stray m0_set m0_once m0_truth m0_known m0_isKept m0_strays m0_hostPerson m0_hostCourt m0_outside m0_inside m0_can m0_fewest m0_waysTo m0_then m0_two m0_nextTwo m0_three m0_nextThree m0_shut m0_worth m0_digit m0_codes m0_most m0_bestTry m0_dayCourt m0_dayHour m0_dayNo m0_x m0_in cA_m0_in f_m0_in m0_people cA_m0_people f_m0_people m0_at0 cA_m0_at0 f_m0_at0 m0_stray cA_m0_stray f_m0_stray m0_set cA_m0_set f_m0_set m0_truth cA_m0_truth f_m0_truth)) [2, 3, 0, 4, 5, 6, 1] (by decide) rfl) hS (lv_sub hl [3, 4, 5, 1, 0] rfl)
        · have ic_7 := zz_nne rfl (show Int32.toInt 1 = 1 from by decide) c_7
          replace hF := hF.trans (if_pos c_7)
          refine lv_aload_n hx hb dX10_withinOf_29 rfl (lv_at hl 0 rfl) ?_
          refine lv_iconst (v := 0) hx hb dX10_withinOf_30 (by decide) ?_
          refine lv_iload_n hx hb dX10_withinOf_31 rfl (lv_at hl 1 rfl) ?_
          obtain ⟨hPc, hDc, hFc⟩ := z_cut (wc := (zV87 m0 m0_thrown m0_width m0_many m0_cells m0_moved m0_tape m0_taped m0_at m0_token m0_place m0_value m0_word m0_bad m0_badPlace m0_fault m0_faultPlace m0_lines m0_hours m0_courts m0_in m0_gates m0_gate m0_people m0_at0 m0_stray m0_set m0_once m0_truth m0_known m0_isKept m0_strays m0_hostPerson m0_hostCourt m0_outside m0_inside m0_can m0_fewest m0_waysTo m0_then m0_two m0_nextTwo m0_three m0_nextThree m0_shut m0_worth m0_digit m0_codes m0_most m0_bestTry m0_dayCourt m0_dayHour m0_dayNo m0_x m0_in cA_m0_in f_m0_in m0_set cA_m0_set f_m0_set)) hP hD hS hA [0, 1, 5] rfl (by decide +kernel)
          have hKc := hK.sub (tys' := [(cA_m0_in, .int), (cA_m0_set, .int)]) [0, 4] rfl
          refine va_calli (va_runV (As := [.int 0, .int p1]) (rest := []) ⟨hx, hb, hml, hown, hts⟩ (kf_X10_counts l sa dC dI m0 (0) p1 m0_thrown m0_width m0_many m0_cells m0_moved m0_tape m0_taped m0_at m0_token m0_place m0_value m0_word m0_bad m0_badPlace m0_fault m0_faultPlace m0_lines m0_hours m0_courts m0_in m0_gates m0_gate m0_people m0_at0 m0_stray m0_set m0_once m0_truth m0_known m0_isKept m0_strays m0_hostPerson m0_hostCourt m0_outside m0_inside m0_can m0_fewest m0_waysTo m0_then m0_two m0_nextTwo m0_three m0_nextThree m0_shut m0_worth m0_digit m0_codes m0_most m0_bestTry m0_dayCourt m0_dayHour m0_dayNo m0_x cA_m0_in f_m0_in cA_m0_set f_m0_set (by decide) b_m0_taped b_m0_at b_m0_token b_m0_value b_m0_bad b_m0_strays b_m0_hostCourt b_m0_dayCourt b_m0_dayHour b_f_m0_in b_f_m0_set H.size) (cwV 2 hts (z_gV zw_t7_205 zw_t7_207 zw_s6_1 zw_t1_11 zw_t7_208) rfl rfl rfl (by decide +kernel) (by rw [← hRe]; exact ⟨(Nat.le_of_ble_eq_true rfl), (Nat.le_of_ble_eq_true rfl)⟩)) (z_preV hPc hKc hDc hN hXs hS hFc (q := (RX10, TX10, 53)) (ci := 10) (q0 := 0) rfl rfl) rfl rfl hl.1 rfl (lv_room (Nat.le_of_ble_eq_true rfl)) dX10_withinOf_32 (by rw [← hRe]; exact ⟨(Nat.le_of_ble_eq_true rfl), (Nat.le_of_ble_eq_true rfl)⟩)) hS (fun q _ h => hFc q h) hFc (fun r_16 u t H1 locs ht hvm hw hB hz1 hk1 hS => ?_)
          obtain ⟨hP, hD, hK⟩ := z_after3 (wn := [(m0_people, .inl (cA_m0_people, 5, .inl f_m0_people)), (m0_at0, .inl (cA_m0_at0, 2400, .inl f_m0_at0)), (m0_stray, .inl (cA_m0_stray, 100, .inl f_m0_stray)), (m0_truth, .inl (cA_m0_truth, 10, .inl f_m0_truth)), (m0, .inr (10, [.int m0_thrown, .ref m0_width, .ref m0_many, .ref m0_cells, .ref m0_moved, .ref m0_tape, .int m0_taped, .int m0_at, .int m0_token, .int m0_place, .int m0_value, .long m0_word, .int m0_bad, .int m0_badPlace, .int m0_fault, .int m0_faultPlace, .ref m0_lines, .ref m0_hours, .ref m0_courts, .ref m0_in, .ref m0_gates, .ref m0_gate, .ref m0_people, .ref m0_at0, .ref m0_stray, .ref m0_set, .ref m0_once, .ref m0_truth, .ref m0_known, .ref m0_isKept, .int m0_strays, .int m0_hostPerson, .int m0_hostCourt, .int m0_outside, .ref m0_inside, .ref m0_can, .ref m0_fewest, .ref m0_waysTo, .ref m0_then, .ref m0_two, .ref m0_nextTwo, .ref m0_three, .ref m0_nextThree, .int m0_shut, .ref m0_worth, .ref m0_digit, .int m0_codes, .long m0_most, .int m0_bestTry, .int m0_dayCourt, .int m0_dayHour, .int m0_dayNo, .long m0_x])), (m0_in, .inl (cA_m0_in, 50, .inl f_m0_in)), (m0_set, .inl (cA_m0_set, 10, .inl f_m0_set))]) hB ht hvm hP hD hK [0, 1, 5] [2, 3, 4, 6] rfl 7 rfl (by decide +kernel) rfl (by decide +kernel) hk1 hFc
          generalize H1 = H at hP hS ⊢
          have hK : va_K (dC, dI) vwCl [(cA_m0_in, .int), (cA_m0_people, .int), (cA_m0_at0, .int), (cA_m0_stray, .int), (cA_m0_set, .int), (cA_m0_truth, .int)] s := hK
          have b_r_16 : 0 ≤ r_16.toInt ∧ r_16.toInt ≤ 1 := hw.1
          have sf_r_16 := hw.2
          have za_0 : Int32.toInt 0 = 0 := by decide
          replace hF := hF.trans (zL_eq sf_r_16)
          refine lv_goto (tgt := 52) hx hb dX10_withinOf_35 (by decide) ?_
          refine lv_istore (lv' := [(5, .int r_16), (0, .ref m0), (1, .int p1), (2, .int p2), (3, .int v3_2), (4, .int v4_1)]) hx hb dX10_withinOf_52 hl (by decide) rfl (fun ls hl => ?_)
          refine lv_iload_n hx hb dX10_withinOf_54 rfl (lv_at hl 4 rfl) ?_
          refine lv_iload hx hb dX10_withinOf_55 (lv_at hl 0 rfl) ?_
          refine lv_if_eq (tgt := 67) hx hb dX10_withinOf_57 (by decide) (fun c_17 => ?_) (fun c_17 => ?_)
          · have ic_17 := zz_eq rfl (show Int32.toInt 0 = 0 from by decide) c_17
            replace hF := hF.trans (if_pos c_17)
            refine lv_iconst (v := 0) hx hb dX10_withinOf_67 (by decide) ?_
            refine lv_ior hx hb dX10_withinOf_68 ?_
            refine lv_topi (fun x_18 ex_18 => ?_)
            replace hF := hF.trans (zL_eq ex_18)
            have b_x_18 : 0 ≤ x_18.toInt ∧ x_18.toInt ≤ 1023 := by rw [ex_18]; exact zi_or 10 rfl (show Int32.toInt 0 = 0 from by decide) (by first | with_reducible assumption | omega) (by first | with_reducible assumption | omega) (by decide)
            refine lv_istore_n (lv' := [(3, .int x_18), (5, .int r_16), (0, .ref m0), (1, .int p1), (2, .int p2), (4, .int v4_1)]) hx hb dX10_withinOf_69 rfl hl (by decide) rfl (fun ls hl => ?_)
            obtain ⟨x_19, ex_19⟩ : ∃ z : Int32, z = v4_1 + Int32.ofInt 1 := ⟨_, rfl⟩
            have b_x_19 : x_19.toInt = v4_1.toInt + 1 := by rw [ex_19]; exact zi_add rfl (show (Int32.ofInt 1).toInt = 1 from by decide) (z_rac b_v4_1 (by decide))
            refine lv_iinc (v := x_19) (lv' := [(4, .int x_19), (3, .int x_18), (5, .int r_16), (0, .ref m0), (1, .int p1), (2, .int p2)]) hx hb dX10_withinOf_70 hl (k := 5) rfl ex_19.symm (by decide) rfl (fun ls hl => ?_)
            replace hF := hF.trans (zL_eq ex_19)
            refine lv_goto (tgt := 5) hx hb dX10_withinOf_73 (by decide) ?_
            exact ih_1 x_18 x_19 (by first | with_reducible assumption | omega) (by first | with_reducible assumption | omega) _ _ _ (by first | with_reducible assumption | omega) hF (hP.sub (ws' := (zV89 m0 m0_thrown m0_width m0_many m0_cells m0_moved m0_tape m0_taped m0_at m0_token m0_place m0_value m0_word m0_bad m0_badPlace m0_fault m0_faultPlace m0_lines m0_hours m0_courts m0_in m0_gates m0_gate m0_people m0_at0 m0_stray m0_set m0_once m0_truth m0_known m0_isKept m0_strays m0_hostPerson m0_hostCourt m0_outside m0_inside m0_can m0_fewest m0_waysTo m0_then m0_two m0_nextTwo m0_three m0_nextThree m0_shut m0_worth m0_digit m0_codes m0_most m0_bestTry m0_dayCourt m0_dayHour m0_dayNo m0_x m0_in cA_m0_in f_m0_in m0_people cA_m0_people f_m0_people m0_at0 cA_m0_at0 f_m0_at0 m0_stray cA_m0_stray f_m0_stray m0_set cA_m0_set f_m0_set m0_truth cA_m0_truth f_m0_truth)) [4, 5, 0, 1, 2, 6, 3] rfl) (hD.sub (ws' := (zV89 m0 m0_thrown m0_width m0_many m0_cells m0_moved m0_tape m0_taped m0_at m0_token m0_place m0_value m0_word m0_bad m0_badPlace m0_fault m0_faultPlace m0_lines m0_hours m0_courts m0_in m0_gates m0_gate m0_people m0_at0 m0_stray m0_set m0_once m0_truth m0_known m0_isKept m0_strays m0_hostPerson m0_hostCourt m0_outside m0_inside m0_can m0_fewest m0_waysTo m0_then m0_two m0_nextTwo m0_three m0_nextThree m0_shut m0_worth m0_digit m0_codes m0_most m0_bestTry m0_dayCourt m0_dayHour m0_dayNo m0_x m0_in cA_m0_in f_m0_in m0_people cA_m0_people f_m0_people m0_at0 cA_m0_at0 f_m0_at0 m0_stray cA_m0_stray f_m0_stray m0_set cA_m0_set f_m0_set m0_truth cA_m0_truth f_m0_truth)) [4, 5, 0, 1, 2, 6, 3] (by decide) rfl) hS (lv_sub hl [3, 4, 5, 1, 0] rfl)
          · have ic_17 := zz_neq rfl (show Int32.toInt 0 = 0 from by decide) c_17
            replace hF := hF.trans (if_neg c_17)
            refine lv_iconst (v := 1) hx hb dX10_withinOf_60 (by decide) ?_
            refine lv_iload hx hb dX10_withinOf_61 (lv_at hl 5 rfl) ?_
            refine lv_ishl hx hb dX10_withinOf_63 ?_
            refine lv_topi (fun x_20 ex_20 => ?_)
            replace hF := hF.trans (zL_eq ex_20)
            have b_x_20 : 1 ≤ x_20.toInt ∧ x_20.toInt ≤ 512 := by rw [ex_20]; exact zi_shl9 rfl (by first | with_reducible assumption | omega)
            refine lv_goto (tgt := 68) hx hb dX10_withinOf_64 (by decide) ?_
            refine lv_ior hx hb dX10_withinOf_68 ?_
            refine lv_topi (fun x_21 ex_21 => ?_)
            replace hF := hF.trans (zL_eq ex_21)
            have b_x_21 : 0 ≤ x_21.toInt ∧ x_21.toInt ≤ 1023 := by rw [ex_21]; exact zi_or 10 rfl rfl (by first | with_reducible assumption | omega) (by first | with_reducible assumption | omega) (by decide)
            refine lv_istore_n (lv' := [(3, .int x_21), (5, .int r_16), (0, .ref m0), (1, .int p1), (2, .int p2), (4, .int v4_1)]) hx hb dX10_withinOf_69 rfl hl (by decide) rfl (fun ls hl => ?_)
            obtain ⟨x_22, ex_22⟩ : ∃ z : Int32, z = v4_1 + Int32.ofInt 1 := ⟨_, rfl⟩
            have b_x_22 : x_22.toInt = v4_1.toInt + 1 := by rw [ex_22]; exact zi_add rfl (show (Int32.ofInt 1).toInt = 1 from by decide) (z_rac b_v4_1 (by decide))
            refine lv_iinc (v := x_22) (lv' := [(4, .int x_22), (3, .int x_21), (5, .int r_16), (0, .ref m0), (1, .int p1), (2, .int p2)]) hx hb dX10_withinOf_70 hl (k := 5) rfl ex_22.symm (by decide) rfl (fun ls hl => ?_)
            replace hF := hF.trans (zL_eq ex_22)
            refine lv_goto (tgt := 5) hx hb dX10_withinOf_73 (by decide) ?_
            exact ih_1 x_21 x_22 (by first | with_reducible assumption | omega) (by first | with_reducible assumption | omega) _ _ _ (by first | with_reducible assumption | omega) hF (hP.sub (ws' := (zV89 m0 m0_thrown m0_width m0_many m0_cells m0_moved m0_tape m0_taped m0_at m0_token m0_place m0_value m0_word m0_bad m0_badPlace m0_fault m0_faultPlace m0_lines m0_hours m0_courts m0_in m0_gates m0_gate m0_people m0_at0 m0_stray m0_set m0_once m0_truth m0_known m0_isKept m0_strays m0_hostPerson m0_hostCourt m0_outside m0_inside m0_can m0_fewest m0_waysTo m0_then m0_two m0_nextTwo m0_three m0_nextThree m0_shut m0_worth m0_digit m0_codes m0_most m0_bestTry m0_dayCourt m0_dayHour m0_dayNo m0_x m0_in cA_m0_in f_m0_in m0_people cA_m0_people f_m0_people m0_at0 cA_m0_at0 f_m0_at0 m0_stray cA_m0_stray f_m0_stray m0_set cA_m0_set f_m0_set m0_truth cA_m0_truth f_m0_truth)) [4, 5, 0, 1, 2, 6, 3] rfl) (hD.sub (ws' := (zV89 m0 m0_thrown m0_width m0_many m0_cells m0_moved m0_tape m0_taped m0_at m0_token m0_place m0_value m0_word m0_bad m0_badPlace m0_fault m0_faultPlace m0_lines m0_hours m0_courts m0_in m0_gates m0_gate m0_people m0_at0 m0_stray m0_set m0_once m0_truth m0_known m0_isKept m0_strays m0_hostPerson m0_hostCourt m0_outside m0_inside m0_can m0_fewest m0_waysTo m0_then m0_two m0_nextTwo m0_three m0_nextThree m0_shut m0_worth m0_digit m0_codes m0_most m0_bestTry m0_dayCourt m0_dayHour m0_dayNo m0_x m0_in cA_m0_in f_m0_in m0_people cA_m0_people f_m0_people m0_at0 cA_m0_at0 f_m0_at0 m0_stray cA_m0_stray f_m0_stray m0_set cA_m0_set f_m0_set m0_truth cA_m0_truth f_m0_truth)) [4, 5, 0, 1, 2, 6, 3] (by decide) rfl) hS (lv_sub hl [3, 4, 5, 1, 0] rfl)
  exact loop_1 12 (0) (0) (by decide) (by decide) _ _ _ (by decide) hF hP hD hS (lv_sub hl [2, 3, 4, 1, 0] rfl)
set_option maxHeartbeats 4000000 in
set_option maxRecDepth 100000 in
theorem kf_X10_copyRow (l : Launch) (sa : Nat → Nat) (dC : Nat → ClassId) (dI : Nat → Nat → Nat) (a : Nat) (p2 : Int32) (p3 : Int32) (cA_a : ClassId) (f_a : Nat → Int32) (b_p2 : 0 ≤ p2.toInt ∧ p2.toInt ≤ 4) (b_p3 : 0 ≤ p3.toInt ∧ p3.toInt ≤ 4) (sz : Nat) : Met l yX10_copyRow (.code yX10_copyRow cX10_copyRow 5 none :: zT) ({ frames := 0, cells := 0, slots := 0, locals := 0 }) (va_Pc [.ref a, .int 1, .int p2, .int p3] (zB sa dC dI [(a, .inl (cA_a, 5, .inl f_a))] [(cA_a, .int)] sz)) (va_Qv (fun _ : Unit => True) (fun _ t => ∃ (n_a : Nat → Int32), (zCq f_a n_a 1 p2.toInt p3.toInt 1) ∧ (n_a = (F_X10_copyRow p2 p3 f_a)) ∧ zW dC dI [(a, .inl (cA_a, 5, .inl n_a))] [] (va_A [(a, .inl (cA_a, 5, .inl f_a))] sz) t) (va_A [(a, .inl (cA_a, 5, .inl f_a))] sz)) 0 0 (va_A [(a, .inl (cA_a, 5, .inl f_a))] sz) := by
  refine z_enter (by decide) (by exact (Nat.le_of_ble_eq_true rfl)) ?_
  intro p e s m args below meth c ls A R Qc hargs hsz hQe hAe hRe hx hb hml hr hts hown hlocks hin hl hP hK hD hN hXs hA hS
  rw [hAe] at hQe
  have hown : s.vm.findClass RX10 = some m.cls := hown
  have hl : lv_has ls 5 [(0, .ref a), (1, .int 1), (2, .int p2), (3, .int p3)] := hl
  obtain ⟨RR, hRR⟩ : ∃ z : (Nat → Int32), z = (F_X10_copyRow p2 p3 f_a) := ⟨_, rfl⟩
  have hF : RR = (F_X10_copyRow p2 p3 f_a) := hRR
  refine lv_iconst (v := 0) hx hb dX10_copyRow_0 (by decide) ?_
  refine lv_istore (lv' := [(4, .int 0), (0, .ref a), (1, .int 1), (2, .int p2), (3, .int p3)]) hx hb dX10_copyRow_1 hl (by decide) rfl (fun ls hl => ?_)
  have hbe : zCq f_a f_a 1 p2.toInt p3.toInt (Int32.toInt 0) := zCq.zero (by decide)
  have loop_1 : ∀ (t_1 : Nat) (v4_1 : Int32) (g_a_2 : Nat → Int32) (b_v4_1 : 0 ≤ v4_1.toInt ∧ v4_1.toInt ≤ 1) (ex_1 : zCq f_a g_a_2 1 p2.toInt p3.toInt v4_1.toInt) (H : Heap) (locs : List Loc) (ls : Array Slot), 1 - v4_1.toInt < (t_1 : Int) → RR = L_X10_copyRow_1 p3 p2 K_X10_copyRow_1_0 t_1 v4_1 g_a_2 → va_P (dC, dI) vwCl [(a, .inl (cA_a, 5, .inl g_a_2))] H → va_D A [(a, .inl (cA_a, 5, .inl g_a_2))] → va_S A s.heap H locs → lv_has ls 5 [(0, .ref a), (1, .int 1), (2, .int p2), (3, .int p3), (4, .int v4_1)] → W p l e R s m args below meth c H locs 0 0 (MQ below Qc args s 0 0 A) (F0 m 3 ls []) := by
    intro t_1
    induction t_1 with
    | zero => intro v4_1 g_a_2 b_v4_1 ex_1 H locs ls hmu _ _ _ _ _; exact absurd hmu (by first | with_reducible assumption | omega)
    | succ t_1 ih_1 =>
      intro v4_1 g_a_2 b_v4_1 ex_1 H locs ls hmu hF hP hD hS hl
      replace hF := hF.trans L_X10_copyRow_1_s
      refine lv_iload hx hb dX10_copyRow_3 (lv_at hl 4 rfl) ?_
      refine lv_iload_n hx hb dX10_copyRow_5 rfl (lv_at hl 1 rfl) ?_
      refine lv_icmp_ge (tgt := 31) hx hb dX10_copyRow_6 (by decide) (fun c_3 => ?_) (fun c_3 => ?_)
      · have ic_3 := zz_ge rfl (show Int32.toInt 1 = 1 from by decide) c_3
        replace hF := hF.trans (if_pos c_3)
        have hkk : v4_1.toInt = 1 := by omega
        have hcq : zCq f_a g_a_2 1 p2.toInt p3.toInt 1 := by have h9 := ex_1; rw [hkk] at h9; exact h9
        have hF : RR = g_a_2 := hF
        exact W.vret hx hb hr (fun t ht hW => by rw [← hQe]; exact ⟨⟨(), rfl, trivial, ⟨g_a_2, (by first | omega | assumption), (by rw [← hRR, hF]), z_ret hP hK hD ht hW [0] [] rfl (by decide) rfl⟩⟩, hS.F ht⟩) hS.2.2 dX10_copyRow_31
      · have ic_3 := zz_nge rfl (show Int32.toInt 1 = 1 from by decide) c_3
        replace hF := hF.trans (if_neg c_3)
        refine lv_aload_n hx hb dX10_copyRow_9 rfl (lv_at hl 0 rfl) ?_
        refine lv_iload_n hx hb dX10_copyRow_10 rfl (lv_at hl 1 rfl) ?_
        refine lv_iload_n hx hb dX10_copyRow_11 rfl (lv_at hl 3 rfl) ?_
        refine lv_imul hx hb dX10_copyRow_12 ?_
        refine lv_topi (fun x_4 ex_4 => ?_)
        replace hF := hF.trans (zL_eq ex_4)
        have b_x_4 : x_4.toInt = 1 * p3.toInt := by rw [ex_4]; exact zi_mul (show Int32.toInt 1 = 1 from by decide) rfl (z_rmc b_p3 (by decide))
        refine lv_iload hx hb dX10_copyRow_13 (lv_at hl 4 rfl) ?_
        refine lv_iadd hx hb dX10_copyRow_15 ?_
        refine lv_topi (fun x_5 ex_5 => ?_)
        replace hF := hF.trans (zL_eq ex_5)
        have b_x_5 : x_5.toInt = x_4.toInt + v4_1.toInt := by rw [ex_5]; exact zi_add rfl rfl (z_raa (z_emc (c := 1) b_x_4 b_p3) b_v4_1 (by decide))
        refine lv_aload_n hx hb dX10_copyRow_16 rfl (lv_at hl 0 rfl) ?_
        refine lv_iload_n hx hb dX10_copyRow_17 rfl (lv_at hl 1 rfl) ?_
        refine lv_iload_n hx hb dX10_copyRow_18 rfl (lv_at hl 2 rfl) ?_
        refine lv_imul hx hb dX10_copyRow_19 ?_
        refine lv_topi (fun x_6 ex_6 => ?_)
        replace hF := hF.trans (zL_eq ex_6)
        have b_x_6 : x_6.toInt = 1 * p2.toInt := by rw [ex_6]; exact zi_mul (show Int32.toInt 1 = 1 from by decide) rfl (z_rmc b_p2 (by decide))
        refine lv_iload hx hb dX10_copyRow_20 (lv_at hl 4 rfl) ?_
        refine lv_iadd hx hb dX10_copyRow_22 ?_
        refine lv_topi (fun x_7 ex_7 => ?_)
        replace hF := hF.trans (zL_eq ex_7)
        have b_x_7 : x_7.toInt = x_6.toInt + v4_1.toInt := by rw [ex_7]; exact zi_add rfl rfl (z_raa (z_emc (c := 1) b_x_6 b_p2) b_v4_1 (by decide))
        refine va_iald hx hb hK hP 0 0 rfl rfl (zi_in rfl (by first | exact z_rin (z_ead b_x_7 (z_emc (c := 1) b_x_6 b_p2) b_v4_1) (by decide) | omega)) dX10_copyRow_23 ?_
        refine lv_topi (fun x_8 ex_8 => ?_)
        replace hF := hF.trans (zL_eq ex_8)
        refine va_iast hx hb hK hP hD hS 0 0 rfl rfl (zi_in rfl (by first | exact z_rin (z_ead b_x_5 (z_emc (c := 1) b_x_4 b_p3) b_v4_1) (by decide) | omega)) dX10_copyRow_24 (fun H locs hP hD hS => ?_)
        obtain ⟨f_9, ef_9⟩ : ∃ g : Nat → Int32, g = upd g_a_2 (Int32.toNatClampNeg x_5) x_8 := ⟨_, rfl⟩
        replace hF := hF.trans (zL_eq ef_9)
        have hP : va_P (dC, dI) vwCl [(a, .inl (cA_a, 5, .inl (upd g_a_2 (Int32.toNatClampNeg x_5) x_8)))] H := hP
        have hD : va_D A [(a, .inl (cA_a, 5, .inl (upd g_a_2 (Int32.toNatClampNeg x_5) x_8)))] := hD
        rw [← ef_9] at hP hD
        obtain ⟨x_10, ex_10⟩ : ∃ z : Int32, z = v4_1 + Int32.ofInt 1 := ⟨_, rfl⟩
        have b_x_10 : x_10.toInt = v4_1.toInt + 1 := by rw [ex_10]; exact zi_add rfl (show (Int32.ofInt 1).toInt = 1 from by decide) (z_rac b_v4_1 (by decide))
        refine lv_iinc (v := x_10) (lv' := [(4, .int x_10), (0, .ref a), (1, .int 1), (2, .int p2), (3, .int p3)]) hx hb dX10_copyRow_25 hl (k := 4) rfl ex_10.symm (by decide) rfl (fun ls hl => ?_)
        replace hF := hF.trans (zL_eq ex_10)
        refine lv_goto (tgt := 3) hx hb dX10_copyRow_28 (by decide) ?_
        have hbk : zCq f_a f_9 1 p2.toInt p3.toInt x_10.toInt := zCq.step ex_1 ef_9 ex_8 (i := x_5) (i2 := x_7) rfl rfl (by first | with_reducible assumption | omega) (by first | with_reducible assumption | omega) (by first | with_reducible assumption | omega) (by first | with_reducible assumption | omega) (by first | with_reducible assumption | omega)
        exact ih_1 x_10 f_9 (by first | with_reducible assumption | omega) (by first | assumption | decide | omega) _ _ _ (by first | with_reducible assumption | omega) hF (hP.sub (ws' := [(a, .inl (cA_a, 5, .inl f_9))]) [0] rfl) (hD.sub (ws' := [(a, .inl (cA_a, 5, .inl f_9))]) [0] (by decide) rfl) hS (lv_sub hl [1, 2, 3, 4, 0] rfl)
  have zb_0 : Int32.toInt 0 = 0 := by decide
  exact loop_1 3 (0) f_a (by decide) (by first | assumption | decide | omega) _ _ _ (by decide) hF hP hD hS (lv_sub hl [1, 2, 3, 4, 0] rfl)
set_option maxHeartbeats 4000000 in
set_option maxRecDepth 100000 in
theorem kf_X10_copyRow_v1 (l : Launch) (sa : Nat → Nat) (dC : Nat → ClassId) (dI : Nat → Nat → Nat) (a : Nat) (p2 : Int32) (p3 : Int32) (cA_a : ClassId) (f_a : Nat → Int32) (b_p2 : 0 ≤ p2.toInt ∧ p2.toInt ≤ 4) (b_p3 : 0 ≤ p3.toInt ∧ p3.toInt ≤ 4) (b_f_a : ∀ j : Nat, 0 ≤ (f_a j).toInt ∧ (f_a j).toInt ≤ 48) (sz : Nat) : Met l yX10_copyRow (.code yX10_copyRow cX10_copyRow 5 none :: zT) ({ frames := 0, cells := 0, slots := 0, locals := 0 }) (va_Pc [.ref a, .int 1, .int p2, .int p3] (zB sa dC dI [(a, .inl (cA_a, 5, .inl f_a))] [(cA_a, .int)] sz)) (va_Qv (fun _ : Unit => True) (fun _ t => ∃ (n_a : Nat → Int32), (∀ j : Nat, 0 ≤ (n_a j).toInt ∧ (n_a j).toInt ≤ 48) ∧ (zCq f_a n_a 1 p2.toInt p3.toInt 1) ∧ (n_a = (F_X10_copyRow_v1 p2 p3 f_a)) ∧ zW dC dI [(a, .inl (cA_a, 5, .inl n_a))] [] (va_A [(a, .inl (cA_a, 5, .inl f_a))] sz) t) (va_A [(a, .inl (cA_a, 5, .inl f_a))] sz)) 0 0 (va_A [(a, .inl (cA_a, 5, .inl f_a))] sz) := by
  refine z_enter (by decide) (by exact (Nat.le_of_ble_eq_true rfl)) ?_
  intro p e s m args below meth c ls A R Qc hargs hsz hQe hAe hRe hx hb hml hr hts hown hlocks hin hl hP hK hD hN hXs hA hS
  rw [hAe] at hQe
  have hown : s.vm.findClass RX10 = some m.cls := hown
  have hl : lv_has ls 5 [(0, .ref a), (1, .int 1), (2, .int p2), (3, .int p3)] := hl
  obtain ⟨RR, hRR⟩ : ∃ z : (Nat → Int32), z = (F_X10_copyRow_v1 p2 p3 f_a) := ⟨_, rfl⟩
  have hF : RR = (F_X10_copyRow_v1 p2 p3 f_a) := hRR
  refine lv_iconst (v := 0) hx hb dX10_copyRow_0 (by decide) ?_
  refine lv_istore (lv' := [(4, .int 0), (0, .ref a), (1, .int 1), (2, .int p2), (3, .int p3)]) hx hb dX10_copyRow_1 hl (by decide) rfl (fun ls hl => ?_)
  have hbe : zCq f_a f_a 1 p2.toInt p3.toInt (Int32.toInt 0) := zCq.zero (by decide)
  have loop_1 : ∀ (t_1 : Nat) (v4_1 : Int32) (g_a_2 : Nat → Int32) (b_v4_1 : 0 ≤ v4_1.toInt ∧ v4_1.toInt ≤ 1) (b_g_a_2 : ∀ j : Nat, 0 ≤ (g_a_2 j).toInt ∧ (g_a_2 j).toInt ≤ 48) (ex_1 : zCq f_a g_a_2 1 p2.toInt p3.toInt v4_1.toInt) (H : Heap) (locs : List Loc) (ls : Array Slot), 1 - v4_1.toInt < (t_1 : Int) → RR = L_X10_copyRow_1_v1 p3 p2 K_X10_copyRow_1_0_v1 t_1 v4_1 g_a_2 → va_P (dC, dI) vwCl [(a, .inl (cA_a, 5, .inl g_a_2))] H → va_D A [(a, .inl (cA_a, 5, .inl g_a_2))] → va_S A s.heap H locs → lv_has ls 5 [(0, .ref a), (1, .int 1), (2, .int p2), (3, .int p3), (4, .int v4_1)] → W p l e R s m args below meth c H locs 0 0 (MQ below Qc args s 0 0 A) (F0 m 3 ls []) := by
    intro t_1
    induction t_1 with
    | zero => intro v4_1 g_a_2 b_v4_1 b_g_a_2 ex_1 H locs ls hmu _ _ _ _ _; exact absurd hmu (by first | with_reducible assumption | omega)
    | succ t_1 ih_1 =>
      intro v4_1 g_a_2 b_v4_1 b_g_a_2 ex_1 H locs ls hmu hF hP hD hS hl
      replace hF := hF.trans L_X10_copyRow_1_v1_s
      refine lv_iload hx hb dX10_copyRow_3 (lv_at hl 4 rfl) ?_
      refine lv_iload_n hx hb dX10_copyRow_5 rfl (lv_at hl 1 rfl) ?_
      refine lv_icmp_ge (tgt := 31) hx hb dX10_copyRow_6 (by decide) (fun c_3 => ?_) (fun c_3 => ?_)
      · have ic_3 := zz_ge rfl (show Int32.toInt 1 = 1 from by decide) c_3
        replace hF := hF.trans (if_pos c_3)
        have hkk : v4_1.toInt = 1 := by omega
        have hcq : zCq f_a g_a_2 1 p2.toInt p3.toInt 1 := by have h9 := ex_1; rw [hkk] at h9; exact h9
        have hF : RR = g_a_2 := hF
        exact W.vret hx hb hr (fun t ht hW => by rw [← hQe]; exact ⟨⟨(), rfl, trivial, ⟨g_a_2, b_g_a_2, (by first | omega | assumption), (by rw [← hRR, hF]), z_ret hP hK hD ht hW [0] [] rfl (by decide) rfl⟩⟩, hS.F ht⟩) hS.2.2 dX10_copyRow_31
      · have ic_3 := zz_nge rfl (show Int32.toInt 1 = 1 from by decide) c_3
        replace hF := hF.trans (if_neg c_3)
        refine lv_aload_n hx hb dX10_copyRow_9 rfl (lv_at hl 0 rfl) ?_
        refine lv_iload_n hx hb dX10_copyRow_10 rfl (lv_at hl 1 rfl) ?_
        refine lv_iload_n hx hb dX10_copyRow_11 rfl (lv_at hl 3 rfl) ?_
        refine lv_imul hx hb dX10_copyRow_12 ?_
        refine lv_topi (fun x_4 ex_4 => ?_)
        replace hF := hF.trans (zL_eq ex_4)
        have b_x_4 : x_4.toInt = 1 * p3.toInt := by rw [ex_4]; exact zi_mul (show Int32.toInt 1 = 1 from by decide) rfl (z_rmc b_p3 (by decide))
        refine lv_iload hx hb dX10_copyRow_13 (lv_at hl 4 rfl) ?_
        refine lv_iadd hx hb dX10_copyRow_15 ?_
        refine lv_topi (fun x_5 ex_5 => ?_)
        replace hF := hF.trans (zL_eq ex_5)
        have b_x_5 : x_5.toInt = x_4.toInt + v4_1.toInt := by rw [ex_5]; exact zi_add rfl rfl (z_raa (z_emc (c := 1) b_x_4 b_p3) b_v4_1 (by decide))
        refine lv_aload_n hx hb dX10_copyRow_16 rfl (lv_at hl 0 rfl) ?_
        refine lv_iload_n hx hb dX10_copyRow_17 rfl (lv_at hl 1 rfl) ?_
        refine lv_iload_n hx hb dX10_copyRow_18 rfl (lv_at hl 2 rfl) ?_
        refine lv_imul hx hb dX10_copyRow_19 ?_
        refine lv_topi (fun x_6 ex_6 => ?_)
        replace hF := hF.trans (zL_eq ex_6)
        have b_x_6 : x_6.toInt = 1 * p2.toInt := by rw [ex_6]; exact zi_mul (show Int32.toInt 1 = 1 from by decide) rfl (z_rmc b_p2 (by decide))
        refine lv_iload hx hb dX10_copyRow_20 (lv_at hl 4 rfl) ?_
        refine lv_iadd hx hb dX10_copyRow_22 ?_
        refine lv_topi (fun x_7 ex_7 => ?_)
        replace hF := hF.trans (zL_eq ex_7)
        have b_x_7 : x_7.toInt = x_6.toInt + v4_1.toInt := by rw [ex_7]; exact zi_add rfl rfl (z_raa (z_emc (c := 1) b_x_6 b_p2) b_v4_1 (by decide))
        refine va_iald hx hb hK hP 0 0 rfl rfl (zi_in rfl (by first | exact z_rin (z_ead b_x_7 (z_emc (c := 1) b_x_6 b_p2) b_v4_1) (by decide) | omega)) dX10_copyRow_23 ?_
        refine lv_topi (fun x_8 ex_8 => ?_)
        replace hF := hF.trans (zL_eq ex_8)
        have b_x_8 : 0 ≤ x_8.toInt ∧ x_8.toInt ≤ 48 := by rw [ex_8]; exact b_g_a_2 _
        refine va_iast hx hb hK hP hD hS 0 0 rfl rfl (zi_in rfl (by first | exact z_rin (z_ead b_x_5 (z_emc (c := 1) b_x_4 b_p3) b_v4_1) (by decide) | omega)) dX10_copyRow_24 (fun H locs hP hD hS => ?_)
        obtain ⟨f_9, ef_9⟩ : ∃ g : Nat → Int32, g = upd g_a_2 (Int32.toNatClampNeg x_5) x_8 := ⟨_, rfl⟩
        replace hF := hF.trans (zL_eq ef_9)
        have b_f_9 : ∀ j : Nat, 0 ≤ (f_9 j).toInt ∧ (f_9 j).toInt ≤ 48 := by rw [ef_9]; exact zi_upd b_g_a_2 rfl (by first | with_reducible assumption | omega)
        have hP : va_P (dC, dI) vwCl [(a, .inl (cA_a, 5, .inl (upd g_a_2 (Int32.toNatClampNeg x_5) x_8)))] H := hP
        have hD : va_D A [(a, .inl (cA_a, 5, .inl (upd g_a_2 (Int32.toNatClampNeg x_5) x_8)))] := hD
        rw [← ef_9] at hP hD
        obtain ⟨x_10, ex_10⟩ : ∃ z : Int32, z = v4_1 + Int32.ofInt 1 := ⟨_, rfl⟩
        have b_x_10 : x_10.toInt = v4_1.toInt + 1 := by rw [ex_10]; exact zi_add rfl (show (Int32.ofInt 1).toInt = 1 from by decide) (z_rac b_v4_1 (by decide))
        refine lv_iinc (v := x_10) (lv' := [(4, .int x_10), (0, .ref a), (1, .int 1), (2, .int p2), (3, .int p3)]) hx hb dX10_copyRow_25 hl (k := 4) rfl ex_10.symm (by decide) rfl (fun ls hl => ?_)
        replace hF := hF.trans (zL_eq ex_10)
        refine lv_goto (tgt := 3) hx hb dX10_copyRow_28 (by decide) ?_
        have hbk : zCq f_a f_9 1 p2.toInt p3.toInt x_10.toInt := zCq.step ex_1 ef_9 ex_8 (i := x_5) (i2 := x_7) rfl rfl (by first | with_reducible assumption | omega) (by first | with_reducible assumption | omega) (by first | with_reducible assumption | omega) (by first | with_reducible assumption | omega) (by first | with_reducible assumption | omega)
        exact ih_1 x_10 f_9 (by first | with_reducible assumption | omega) b_f_9 (by first | assumption | decide | omega) _ _ _ (by first | with_reducible assumption | omega) hF (hP.sub (ws' := [(a, .inl (cA_a, 5, .inl f_9))]) [0] rfl) (hD.sub (ws' := [(a, .inl (cA_a, 5, .inl f_9))]) [0] (by decide) rfl) hS (lv_sub hl [1, 2, 3, 4, 0] rfl)
  have zb_0 : Int32.toInt 0 = 0 := by decide
  exact loop_1 3 (0) f_a (by decide) b_f_a (by first | assumption | decide | omega) _ _ _ (by decide) hF hP hD hS (lv_sub hl [1, 2, 3, 4, 0] rfl)
set_option maxHeartbeats 4000000 in
set_option maxRecDepth 100000 in
theorem kf_X10_copyRow_v2 (l : Launch) (sa : Nat → Nat) (dC : Nat → ClassId) (dI : Nat → Nat → Nat) (a : Nat) (p2 : Int32) (p3 : Int32) (cA_a : ClassId) (f_a : Nat → Int32) (b_p2 : 0 ≤ p2.toInt ∧ p2.toInt ≤ 4) (b_p3 : 0 ≤ p3.toInt ∧ p3.toInt ≤ 4) (b_f_a : ∀ j : Nat, 0 ≤ (f_a j).toInt ∧ (f_a j).toInt ≤ 10) (sz : Nat) : Met l yX10_copyRow (.code yX10_copyRow cX10_copyRow 5 none :: zT) ({ frames := 0, cells := 0, slots := 0, locals := 0 }) (va_Pc [.ref a, .int 1, .int p2, .int p3] (zB sa dC dI [(a, .inl (cA_a, 5, .inl f_a))] [(cA_a, .int)] sz)) (va_Qv (fun _ : Unit => True) (fun _ t => ∃ (n_a : Nat → Int32), (∀ j : Nat, 0 ≤ (n_a j).toInt ∧ (n_a j).toInt ≤ 10) ∧ (zCq f_a n_a 1 p2.toInt p3.toInt 1) ∧ (n_a = (F_X10_copyRow_v2 p2 p3 f_a)) ∧ zW dC dI [(a, .inl (cA_a, 5, .inl n_a))] [] (va_A [(a, .inl (cA_a, 5, .inl f_a))] sz) t) (va_A [(a, .inl (cA_a, 5, .inl f_a))] sz)) 0 0 (va_A [(a, .inl (cA_a, 5, .inl f_a))] sz) := by
  refine z_enter (by decide) (by exact (Nat.le_of_ble_eq_true rfl)) ?_
  intro p e s m args below meth c ls A R Qc hargs hsz hQe hAe hRe hx hb hml hr hts hown hlocks hin hl hP hK hD hN hXs hA hS
  rw [hAe] at hQe
  have hown : s.vm.findClass RX10 = some m.cls := hown
  have hl : lv_has ls 5 [(0, .ref a), (1, .int 1), (2, .int p2), (3, .int p3)] := hl
  obtain ⟨RR, hRR⟩ : ∃ z : (Nat → Int32), z = (F_X10_copyRow_v2 p2 p3 f_a) := ⟨_, rfl⟩
  have hF : RR = (F_X10_copyRow_v2 p2 p3 f_a) := hRR
  refine lv_iconst (v := 0) hx hb dX10_copyRow_0 (by decide) ?_
  refine lv_istore (lv' := [(4, .int 0), (0, .ref a), (1, .int 1), (2, .int p2), (3, .int p3)]) hx hb dX10_copyRow_1 hl (by decide) rfl (fun ls hl => ?_)
  have hbe : zCq f_a f_a 1 p2.toInt p3.toInt (Int32.toInt 0) := zCq.zero (by decide)
  have loop_1 : ∀ (t_1 : Nat) (v4_1 : Int32) (g_a_2 : Nat → Int32) (b_v4_1 : 0 ≤ v4_1.toInt ∧ v4_1.toInt ≤ 1) (b_g_a_2 : ∀ j : Nat, 0 ≤ (g_a_2 j).toInt ∧ (g_a_2 j).toInt ≤ 10) (ex_1 : zCq f_a g_a_2 1 p2.toInt p3.toInt v4_1.toInt) (H : Heap) (locs : List Loc) (ls : Array Slot), 1 - v4_1.toInt < (t_1 : Int) → RR = L_X10_copyRow_1_v2 p3 p2 K_X10_copyRow_1_0_v2 t_1 v4_1 g_a_2 → va_P (dC, dI) vwCl [(a, .inl (cA_a, 5, .inl g_a_2))] H → va_D A [(a, .inl (cA_a, 5, .inl g_a_2))] → va_S A s.heap H locs → lv_has ls 5 [(0, .ref a), (1, .int 1), (2, .int p2), (3, .int p3), (4, .int v4_1)] → W p l e R s m args below meth c H locs 0 0 (MQ below Qc args s 0 0 A) (F0 m 3 ls []) := by
    intro t_1
    induction t_1 with
    | zero => intro v4_1 g_a_2 b_v4_1 b_g_a_2 ex_1 H locs ls hmu _ _ _ _ _; exact absurd hmu (by first | with_reducible assumption | omega)
    | succ t_1 ih_1 =>
      intro v4_1 g_a_2 b_v4_1 b_g_a_2 ex_1 H locs ls hmu hF hP hD hS hl
      replace hF := hF.trans L_X10_copyRow_1_v2_s
      refine lv_iload hx hb dX10_copyRow_3 (lv_at hl 4 rfl) ?_
      refine lv_iload_n hx hb dX10_copyRow_5 rfl (lv_at hl 1 rfl) ?_
      refine lv_icmp_ge (tgt := 31) hx hb dX10_copyRow_6 (by decide) (fun c_3 => ?_) (fun c_3 => ?_)
      · have ic_3 := zz_ge rfl (show Int32.toInt 1 = 1 from by decide) c_3
        replace hF := hF.trans (if_pos c_3)
        have hkk : v4_1.toInt = 1 := by omega
        have hcq : zCq f_a g_a_2 1 p2.toInt p3.toInt 1 := by have h9 := ex_1; rw [hkk] at h9; exact h9
        have hF : RR = g_a_2 := hF
        exact W.vret hx hb hr (fun t ht hW => by rw [← hQe]; exact ⟨⟨(), rfl, trivial, ⟨g_a_2, b_g_a_2, (by first | omega | assumption), (by rw [← hRR, hF]), z_ret hP hK hD ht hW [0] [] rfl (by decide) rfl⟩⟩, hS.F ht⟩) hS.2.2 dX10_copyRow_31
      · have ic_3 := zz_nge rfl (show Int32.toInt 1 = 1 from by decide) c_3
        replace hF := hF.trans (if_neg c_3)
        refine lv_aload_n hx hb dX10_copyRow_9 rfl (lv_at hl 0 rfl) ?_
        refine lv_iload_n hx hb dX10_copyRow_10 rfl (lv_at hl 1 rfl) ?_
        refine lv_iload_n hx hb dX10_copyRow_11 rfl (lv_at hl 3 rfl) ?_
        refine lv_imul hx hb dX10_copyRow_12 ?_
        refine lv_topi (fun x_4 ex_4 => ?_)
        replace hF := hF.trans (zL_eq ex_4)
        have b_x_4 : x_4.toInt = 1 * p3.toInt := by rw [ex_4]; exact zi_mul (show Int32.toInt 1 = 1 from by decide) rfl (z_rmc b_p3 (by decide))
        refine lv_iload hx hb dX10_copyRow_13 (lv_at hl 4 rfl) ?_
        refine lv_iadd hx hb dX10_copyRow_15 ?_
        refine lv_topi (fun x_5 ex_5 => ?_)
        replace hF := hF.trans (zL_eq ex_5)
        have b_x_5 : x_5.toInt = x_4.toInt + v4_1.toInt := by rw [ex_5]; exact zi_add rfl rfl (z_raa (z_emc (c := 1) b_x_4 b_p3) b_v4_1 (by decide))
        refine lv_aload_n hx hb dX10_copyRow_16 rfl (lv_at hl 0 rfl) ?_
        refine lv_iload_n hx hb dX10_copyRow_17 rfl (lv_at hl 1 rfl) ?_
        refine lv_iload_n hx hb dX10_copyRow_18 rfl (lv_at hl 2 rfl) ?_
        refine lv_imul hx hb dX10_copyRow_19 ?_
        refine lv_topi (fun x_6 ex_6 => ?_)
        replace hF := hF.trans (zL_eq ex_6)
        have b_x_6 : x_6.toInt = 1 * p2.toInt := by rw [ex_6]; exact zi_mul (show Int32.toInt 1 = 1 from by decide) rfl (z_rmc b_p2 (by decide))
        refine lv_iload hx hb dX10_copyRow_20 (lv_at hl 4 rfl) ?_
        refine lv_iadd hx hb dX10_copyRow_22 ?_
        refine lv_topi (fun x_7 ex_7 => ?_)
        replace hF := hF.trans (zL_eq ex_7)
        have b_x_7 : x_7.toInt = x_6.toInt + v4_1.toInt := by rw [ex_7]; exact zi_add rfl rfl (z_raa (z_emc (c := 1) b_x_6 b_p2) b_v4_1 (by decide))
        refine va_iald hx hb hK hP 0 0 rfl rfl (zi_in rfl (by first | exact z_rin (z_ead b_x_7 (z_emc (c := 1) b_x_6 b_p2) b_v4_1) (by decide) | omega)) dX10_copyRow_23 ?_
        refine lv_topi (fun x_8 ex_8 => ?_)
        replace hF := hF.trans (zL_eq ex_8)
        have b_x_8 : 0 ≤ x_8.toInt ∧ x_8.toInt ≤ 10 := by rw [ex_8]; exact b_g_a_2 _
        refine va_iast hx hb hK hP hD hS 0 0 rfl rfl (zi_in rfl (by first | exact z_rin (z_ead b_x_5 (z_emc (c := 1) b_x_4 b_p3) b_v4_1) (by decide) | omega)) dX10_copyRow_24 (fun H locs hP hD hS => ?_)
        obtain ⟨f_9, ef_9⟩ : ∃ g : Nat → Int32, g = upd g_a_2 (Int32.toNatClampNeg x_5) x_8 := ⟨_, rfl⟩
        replace hF := hF.trans (zL_eq ef_9)
        have b_f_9 : ∀ j : Nat, 0 ≤ (f_9 j).toInt ∧ (f_9 j).toInt ≤ 10 := by rw [ef_9]; exact zi_upd b_g_a_2 rfl (by first | with_reducible assumption | omega)
        have hP : va_P (dC, dI) vwCl [(a, .inl (cA_a, 5, .inl (upd g_a_2 (Int32.toNatClampNeg x_5) x_8)))] H := hP
        have hD : va_D A [(a, .inl (cA_a, 5, .inl (upd g_a_2 (Int32.toNatClampNeg x_5) x_8)))] := hD
        rw [← ef_9] at hP hD
        obtain ⟨x_10, ex_10⟩ : ∃ z : Int32, z = v4_1 + Int32.ofInt 1 := ⟨_, rfl⟩
        have b_x_10 : x_10.toInt = v4_1.toInt + 1 := by rw [ex_10]; exact zi_add rfl (show (Int32.ofInt 1).toInt = 1 from by decide) (z_rac b_v4_1 (by decide))
        refine lv_iinc (v := x_10) (lv' := [(4, .int x_10), (0, .ref a), (1, .int 1), (2, .int p2), (3, .int p3)]) hx hb dX10_copyRow_25 hl (k := 4) rfl ex_10.symm (by decide) rfl (fun ls hl => ?_)
        replace hF := hF.trans (zL_eq ex_10)
        refine lv_goto (tgt := 3) hx hb dX10_copyRow_28 (by decide) ?_
        have hbk : zCq f_a f_9 1 p2.toInt p3.toInt x_10.toInt := zCq.step ex_1 ef_9 ex_8 (i := x_5) (i2 := x_7) rfl rfl (by first | with_reducible assumption | omega) (by first | with_reducible assumption | omega) (by first | with_reducible assumption | omega) (by first | with_reducible assumption | omega) (by first | with_reducible assumption | omega)
        exact ih_1 x_10 f_9 (by first | with_reducible assumption | omega) b_f_9 (by first | assumption | decide | omega) _ _ _ (by first | with_reducible assumption | omega) hF (hP.sub (ws' := [(a, .inl (cA_a, 5, .inl f_9))]) [0] rfl) (hD.sub (ws' := [(a, .inl (cA_a, 5, .inl f_9))]) [0] (by decide) rfl) hS (lv_sub hl [1, 2, 3, 4, 0] rfl)
  have zb_0 : Int32.toInt 0 = 0 := by decide
  exact loop_1 3 (0) f_a (by decide) b_f_a (by first | assumption | decide | omega) _ _ _ (by decide) hF hP hD hS (lv_sub hl [1, 2, 3, 4, 0] rfl)
set_option maxHeartbeats 4000000 in
set_option maxRecDepth 100000 in
theorem kf_X10_copyRow_v3 (l : Launch) (sa : Nat → Nat) (dC : Nat → ClassId) (dI : Nat → Nat → Nat) (a : Nat) (p2 : Int32) (p3 : Int32) (cA_a : ClassId) (f_a : Nat → Int32) (b_p2 : 0 ≤ p2.toInt ∧ p2.toInt ≤ 4) (b_p3 : 0 ≤ p3.toInt ∧ p3.toInt ≤ 4) (b_f_a : ∀ j : Nat, ¬ j % 10 = 0 → (-1) ≤ (f_a j).toInt ∧ (f_a j).toInt < ((j % 10 : Nat) : Int)) (sz : Nat) : Met l yX10_copyRow (.code yX10_copyRow cX10_copyRow 5 none :: zT) ({ frames := 0, cells := 0, slots := 0, locals := 0 }) (va_Pc [.ref a, .int 10, .int p2, .int p3] (zB sa dC dI [(a, .inl (cA_a, 50, .inl f_a))] [(cA_a, .int)] sz)) (va_Qv (fun _ : Unit => True) (fun _ t => ∃ (n_a : Nat → Int32), (∀ j : Nat, ¬ j % 10 = 0 → (-1) ≤ (n_a j).toInt ∧ (n_a j).toInt < ((j % 10 : Nat) : Int)) ∧ (zCq f_a n_a 10 p2.toInt p3.toInt 10) ∧ (n_a = (F_X10_copyRow_v3 p2 p3 f_a)) ∧ zW dC dI [(a, .inl (cA_a, 50, .inl n_a))] [] (va_A [(a, .inl (cA_a, 50, .inl f_a))] sz) t) (va_A [(a, .inl (cA_a, 50, .inl f_a))] sz)) 0 0 (va_A [(a, .inl (cA_a, 50, .inl f_a))] sz) := by
  refine z_enter (by decide) (by exact (Nat.le_of_ble_eq_true rfl)) ?_
  intro p e s m args below meth c ls A R Qc hargs hsz hQe hAe hRe hx hb hml hr hts hown hlocks hin hl hP hK hD hN hXs hA hS
  rw [hAe] at hQe
  have hown : s.vm.findClass RX10 = some m.cls := hown
  have hl : lv_has ls 5 [(0, .ref a), (1, .int 10), (2, .int p2), (3, .int p3)] := hl
  obtain ⟨RR, hRR⟩ : ∃ z : (Nat → Int32), z = (F_X10_copyRow_v3 p2 p3 f_a) := ⟨_, rfl⟩
  have hF : RR = (F_X10_copyRow_v3 p2 p3 f_a) := hRR
  refine lv_iconst (v := 0) hx hb dX10_copyRow_0 (by decide) ?_
  refine lv_istore (lv' := [(4, .int 0), (0, .ref a), (1, .int 10), (2, .int p2), (3, .int p3)]) hx hb dX10_copyRow_1 hl (by decide) rfl (fun ls hl => ?_)
  have hbe : zCq f_a f_a 10 p2.toInt p3.toInt (Int32.toInt 0) := zCq.zero (by decide)
  have loop_1 : ∀ (t_1 : Nat) (v4_1 : Int32) (g_a_2 : Nat → Int32) (b_v4_1 : 0 ≤ v4_1.toInt ∧ v4_1.toInt ≤ 10) (b_g_a_2 : ∀ j : Nat, ¬ j % 10 = 0 → (-1) ≤ (g_a_2 j).toInt ∧ (g_a_2 j).toInt < ((j % 10 : Nat) : Int)) (ex_1 : zCq f_a g_a_2 10 p2.toInt p3.toInt v4_1.toInt) (H : Heap) (locs : List Loc) (ls : Array Slot), 10 - v4_1.toInt < (t_1 : Int) → RR = L_X10_copyRow_1_v3 p3 p2 K_X10_copyRow_1_0_v3 t_1 v4_1 g_a_2 → va_P (dC, dI) vwCl [(a, .inl (cA_a, 50, .inl g_a_2))] H → va_D A [(a, .inl (cA_a, 50, .inl g_a_2))] → va_S A s.heap H locs → lv_has ls 5 [(0, .ref a), (1, .int 10), (2, .int p2), (3, .int p3), (4, .int v4_1)] → W p l e R s m args below meth c H locs 0 0 (MQ below Qc args s 0 0 A) (F0 m 3 ls []) := by
    intro t_1
    induction t_1 with
    | zero => intro v4_1 g_a_2 b_v4_1 b_g_a_2 ex_1 H locs ls hmu _ _ _ _ _; exact absurd hmu (by first | with_reducible assumption | omega)
    | succ t_1 ih_1 =>
      intro v4_1 g_a_2 b_v4_1 b_g_a_2 ex_1 H locs ls hmu hF hP hD hS hl
      replace hF := hF.trans L_X10_copyRow_1_v3_s
      refine lv_iload hx hb dX10_copyRow_3 (lv_at hl 4 rfl) ?_
      refine lv_iload_n hx hb dX10_copyRow_5 rfl (lv_at hl 1 rfl) ?_
      refine lv_icmp_ge (tgt := 31) hx hb dX10_copyRow_6 (by decide) (fun c_3 => ?_) (fun c_3 => ?_)
      · have ic_3 := zz_ge rfl (show Int32.toInt 10 = 10 from by decide) c_3
        replace hF := hF.trans (if_pos c_3)
        have hkk : v4_1.toInt = 10 := by omega
        have hcq : zCq f_a g_a_2 10 p2.toInt p3.toInt 10 := by have h9 := ex_1; rw [hkk] at h9; exact h9
        have hF : RR = g_a_2 := hF
        exact W.vret hx hb hr (fun t ht hW => by rw [← hQe]; exact ⟨⟨(), rfl, trivial, ⟨g_a_2, b_g_a_2, (by first | omega | assumption), (by rw [← hRR, hF]), z_ret hP hK hD ht hW [0] [] rfl (by decide) rfl⟩⟩, hS.F ht⟩) hS.2.2 dX10_copyRow_31
      · have ic_3 := zz_nge rfl (show Int32.toInt 10 = 10 from by decide) c_3
        replace hF := hF.trans (if_neg c_3)
        refine lv_aload_n hx hb dX10_copyRow_9 rfl (lv_at hl 0 rfl) ?_
        refine lv_iload_n hx hb dX10_copyRow_10 rfl (lv_at hl 1 rfl) ?_
        refine lv_iload_n hx hb dX10_copyRow_11 rfl (lv_at hl 3 rfl) ?_
        refine lv_imul hx hb dX10_copyRow_12 ?_
        refine lv_topi (fun x_4 ex_4 => ?_)
        replace hF := hF.trans (zL_eq ex_4)
        have b_x_4 : x_4.toInt = 10 * p3.toInt := by rw [ex_4]; exact zi_mul (show Int32.toInt 10 = 10 from by decide) rfl (z_rmc b_p3 (by decide))
        refine lv_iload hx hb dX10_copyRow_13 (lv_at hl 4 rfl) ?_
        refine lv_iadd hx hb dX10_copyRow_15 ?_
        refine lv_topi (fun x_5 ex_5 => ?_)
        replace hF := hF.trans (zL_eq ex_5)
        have b_x_5 : x_5.toInt = x_4.toInt + v4_1.toInt := by rw [ex_5]; exact zi_add rfl rfl (z_raa (z_emc (c := 10) b_x_4 b_p3) b_v4_1 (by decide))
        refine lv_aload_n hx hb dX10_copyRow_16 rfl (lv_at hl 0 rfl) ?_
        refine lv_iload_n hx hb dX10_copyRow_17 rfl (lv_at hl 1 rfl) ?_
        refine lv_iload_n hx hb dX10_copyRow_18 rfl (lv_at hl 2 rfl) ?_
        refine lv_imul hx hb dX10_copyRow_19 ?_
        refine lv_topi (fun x_6 ex_6 => ?_)
        replace hF := hF.trans (zL_eq ex_6)
        have b_x_6 : x_6.toInt = 10 * p2.toInt := by rw [ex_6]; exact zi_mul (show Int32.toInt 10 = 10 from by decide) rfl (z_rmc b_p2 (by decide))
        refine lv_iload hx hb dX10_copyRow_20 (lv_at hl 4 rfl) ?_
        refine lv_iadd hx hb dX10_copyRow_22 ?_
        refine lv_topi (fun x_7 ex_7 => ?_)
        replace hF := hF.trans (zL_eq ex_7)
        have b_x_7 : x_7.toInt = x_6.toInt + v4_1.toInt := by rw [ex_7]; exact zi_add rfl rfl (z_raa (z_emc (c := 10) b_x_6 b_p2) b_v4_1 (by decide))
        refine va_iald hx hb hK hP 0 0 rfl rfl (zi_in rfl (by first | exact z_rin (z_ead b_x_7 (z_emc (c := 10) b_x_6 b_p2) b_v4_1) (by decide) | omega)) dX10_copyRow_23 ?_
        refine lv_topi (fun x_8 ex_8 => ?_)
        replace hF := hF.trans (zL_eq ex_8)
        have b_x_8 := b_g_a_2 (Int32.toNatClampNeg x_7)
        rw [← ex_8] at b_x_8
        have kx_x_8 := zi_clamp (x := x_7) rfl (z_r0 (z_ead b_x_7 (z_emc (c := 10) b_x_6 b_p2) b_v4_1) (by decide))
        refine va_iast hx hb hK hP hD hS 0 0 rfl rfl (zi_in rfl (by first | exact z_rin (z_ead b_x_5 (z_emc (c := 10) b_x_4 b_p3) b_v4_1) (by decide) | omega)) dX10_copyRow_24 (fun H locs hP hD hS => ?_)
        obtain ⟨f_9, ef_9⟩ : ∃ g : Nat → Int32, g = upd g_a_2 (Int32.toNatClampNeg x_5) x_8 := ⟨_, rfl⟩
        replace hF := hF.trans (zL_eq ef_9)
        have kx_f_9 := zi_clamp (x := x_5) rfl (z_r0 (z_ead b_x_5 (z_emc (c := 10) b_x_4 b_p3) b_v4_1) (by decide))
        have b_f_9 : ∀ j : Nat, ¬ j % 10 = 0 → (-1) ≤ (f_9 j).toInt ∧ (f_9 j).toInt < ((j % 10 : Nat) : Int) := by rw [ef_9]; exact zi_updK b_g_a_2 rfl (by first | with_reducible assumption | omega)
        have hP : va_P (dC, dI) vwCl [(a, .inl (cA_a, 50, .inl (upd g_a_2 (Int32.toNatClampNeg x_5) x_8)))] H := hP
        have hD : va_D A [(a, .inl (cA_a, 50, .inl (upd g_a_2 (Int32.toNatClampNeg x_5) x_8)))] := hD
        rw [← ef_9] at hP hD
        obtain ⟨x_10, ex_10⟩ : ∃ z : Int32, z = v4_1 + Int32.ofInt 1 := ⟨_, rfl⟩
        have b_x_10 : x_10.toInt = v4_1.toInt + 1 := by rw [ex_10]; exact zi_add rfl (show (Int32.ofInt 1).toInt = 1 from by decide) (z_rac b_v4_1 (by decide))
        refine lv_iinc (v := x_10) (lv' := [(4, .int x_10), (0, .ref a), (1, .int 10), (2, .int p2), (3, .int p3)]) hx hb dX10_copyRow_25 hl (k := 4) rfl ex_10.symm (by decide) rfl (fun ls hl => ?_)
        replace hF := hF.trans (zL_eq ex_10)
        refine lv_goto (tgt := 3) hx hb dX10_copyRow_28 (by decide) ?_
        have hbk : zCq f_a f_9 10 p2.toInt p3.toInt x_10.toInt := zCq.step ex_1 ef_9 ex_8 (i := x_5) (i2 := x_7) rfl rfl (by first | with_reducible assumption | omega) (by first | with_reducible assumption | omega) (by first | with_reducible assumption | omega) (by first | with_reducible assumption | omega) (by first | with_reducible assumption | omega)
        exact ih_1 x_10 f_9 (by first | with_reducible assumption | omega) b_f_9 (by first | assumption | decide | omega) _ _ _ (by first | with_reducible assumption | omega) hF (hP.sub (ws' := [(a, .inl (cA_a, 50, .inl f_9))]) [0] rfl) (hD.sub (ws' := [(a, .inl (cA_a, 50, .inl f_9))]) [0] (by decide) rfl) hS (lv_sub hl [1, 2, 3, 4, 0] rfl)
  have zb_0 : Int32.toInt 0 = 0 := by decide
  exact loop_1 12 (0) f_a (by decide) b_f_a (by first | assumption | decide | omega) _ _ _ (by decide) hF hP hD hS (lv_sub hl [1, 2, 3, 4, 0] rfl)
set_option maxHeartbeats 4000000 in
set_option maxRecDepth 100000 in
theorem kf_X10_copyRow_v4 (l : Launch) (sa : Nat → Nat) (dC : Nat → ClassId) (dI : Nat → Nat → Nat) (a : Nat) (p2 : Int32) (p3 : Int32) (cA_a : ClassId) (f_a : Nat → Int32) (b_p2 : 0 ≤ p2.toInt ∧ p2.toInt ≤ 4) (b_p3 : 0 ≤ p3.toInt ∧ p3.toInt ≤ 4) (b_f_a : ∀ j : Nat, 0 ≤ (f_a j).toInt ∧ (f_a j).toInt ≤ 16) (sz : Nat) : Met l yX10_copyRow (.code yX10_copyRow cX10_copyRow 5 none :: zT) ({ frames := 0, cells := 0, slots := 0, locals := 0 }) (va_Pc [.ref a, .int 1, .int p2, .int p3] (zB sa dC dI [(a, .inl (cA_a, 5, .inl f_a))] [(cA_a, .int)] sz)) (va_Qv (fun _ : Unit => True) (fun _ t => ∃ (n_a : Nat → Int32), (∀ j : Nat, 0 ≤ (n_a j).toInt ∧ (n_a j).toInt ≤ 16) ∧ (zCq f_a n_a 1 p2.toInt p3.toInt 1) ∧ (n_a = (F_X10_copyRow_v4 p2 p3 f_a)) ∧ zW dC dI [(a, .inl (cA_a, 5, .inl n_a))] [] (va_A [(a, .inl (cA_a, 5, .inl f_a))] sz) t) (va_A [(a, .inl (cA_a, 5, .inl f_a))] sz)) 0 0 (va_A [(a, .inl (cA_a, 5, .inl f_a))] sz) := by
  refine z_enter (by decide) (by exact (Nat.le_of_ble_eq_true rfl)) ?_
  intro p e s m args below meth c ls A R Qc hargs hsz hQe hAe hRe hx hb hml hr hts hown hlocks hin hl hP hK hD hN hXs hA hS
  rw [hAe] at hQe
  have hown : s.vm.findClass RX10 = some m.cls := hown
  have hl : lv_has ls 5 [(0, .ref a), (1, .int 1), (2, .int p2), (3, .int p3)] := hl
  obtain ⟨RR, hRR⟩ : ∃ z : (Nat → Int32), z = (F_X10_copyRow_v4 p2 p3 f_a) := ⟨_, rfl⟩
  have hF : RR = (F_X10_copyRow_v4 p2 p3 f_a) := hRR
  refine lv_iconst (v := 0) hx hb dX10_copyRow_0 (by decide) ?_
  refine lv_istore (lv' := [(4, .int 0), (0, .ref a), (1, .int 1), (2, .int p2), (3, .int p3)]) hx hb dX10_copyRow_1 hl (by decide) rfl (fun ls hl => ?_)
  have hbe : zCq f_a f_a 1 p2.toInt p3.toInt (Int32.toInt 0) := zCq.zero (by decide)
  have loop_1 : ∀ (t_1 : Nat) (v4_1 : Int32) (g_a_2 : Nat → Int32) (b_v4_1 : 0 ≤ v4_1.toInt ∧ v4_1.toInt ≤ 1) (b_g_a_2 : ∀ j : Nat, 0 ≤ (g_a_2 j).toInt ∧ (g_a_2 j).toInt ≤ 16) (ex_1 : zCq f_a g_a_2 1 p2.toInt p3.toInt v4_1.toInt) (H : Heap) (locs : List Loc) (ls : Array Slot), 1 - v4_1.toInt < (t_1 : Int) → RR = L_X10_copyRow_1_v4 p3 p2 K_X10_copyRow_1_0_v4 t_1 v4_1 g_a_2 → va_P (dC, dI) vwCl [(a, .inl (cA_a, 5, .inl g_a_2))] H → va_D A [(a, .inl (cA_a, 5, .inl g_a_2))] → va_S A s.heap H locs → lv_has ls 5 [(0, .ref a), (1, .int 1), (2, .int p2), (3, .int p3), (4, .int v4_1)] → W p l e R s m args below meth c H locs 0 0 (MQ below Qc args s 0 0 A) (F0 m 3 ls []) := by
    intro t_1
    induction t_1 with
    | zero => intro v4_1 g_a_2 b_v4_1 b_g_a_2 ex_1 H locs ls hmu _ _ _ _ _; exact absurd hmu (by first | with_reducible assumption | omega)
    | succ t_1 ih_1 =>
      intro v4_1 g_a_2 b_v4_1 b_g_a_2 ex_1 H locs ls hmu hF hP hD hS hl
      replace hF := hF.trans L_X10_copyRow_1_v4_s
      refine lv_iload hx hb dX10_copyRow_3 (lv_at hl 4 rfl) ?_
      refine lv_iload_n hx hb dX10_copyRow_5 rfl (lv_at hl 1 rfl) ?_
      refine lv_icmp_ge (tgt := 31) hx hb dX10_copyRow_6 (by decide) (fun c_3 => ?_) (fun c_3 => ?_)
      · have ic_3 := zz_ge rfl (show Int32.toInt 1 = 1 from by decide) c_3
        replace hF := hF.trans (if_pos c_3)
        have hkk : v4_1.toInt = 1 := by omega
        have hcq : zCq f_a g_a_2 1 p2.toInt p3.toInt 1 := by have h9 := ex_1; rw [hkk] at h9; exact h9
        have hF : RR = g_a_2 := hF
        exact W.vret hx hb hr (fun t ht hW => by rw [← hQe]; exact ⟨⟨(), rfl, trivial, ⟨g_a_2, b_g_a_2, (by first | omega | assumption), (by rw [← hRR, hF]), z_ret hP hK hD ht hW [0] [] rfl (by decide) rfl⟩⟩, hS.F ht⟩) hS.2.2 dX10_copyRow_31
      · have ic_3 := zz_nge rfl (show Int32.toInt 1 = 1 from by decide) c_3
        replace hF := hF.trans (if_neg c_3)
        refine lv_aload_n hx hb dX10_copyRow_9 rfl (lv_at hl 0 rfl) ?_
        refine lv_iload_n hx hb dX10_copyRow_10 rfl (lv_at hl 1 rfl) ?_
        refine lv_iload_n hx hb dX10_copyRow_11 rfl (lv_at hl 3 rfl) ?_
        refine lv_imul hx hb dX10_copyRow_12 ?_
        refine lv_topi (fun x_4 ex_4 => ?_)
        replace hF := hF.trans (zL_eq ex_4)
        have b_x_4 : x_4.toInt = 1 * p3.toInt := by rw [ex_4]; exact zi_mul (show Int32.toInt 1 = 1 from by decide) rfl (z_rmc b_p3 (by decide))
        refine lv_iload hx hb dX10_copyRow_13 (lv_at hl 4 rfl) ?_
        refine lv_iadd hx hb dX10_copyRow_15 ?_
        refine lv_topi (fun x_5 ex_5 => ?_)
        replace hF := hF.trans (zL_eq ex_5)
        have b_x_5 : x_5.toInt = x_4.toInt + v4_1.toInt := by rw [ex_5]; exact zi_add rfl rfl (z_raa (z_emc (c := 1) b_x_4 b_p3) b_v4_1 (by decide))
        refine lv_aload_n hx hb dX10_copyRow_16 rfl (lv_at hl 0 rfl) ?_
        refine lv_iload_n hx hb dX10_copyRow_17 rfl (lv_at hl 1 rfl) ?_
        refine lv_iload_n hx hb dX10_copyRow_18 rfl (lv_at hl 2 rfl) ?_
        refine lv_imul hx hb dX10_copyRow_19 ?_
        refine lv_topi (fun x_6 ex_6 => ?_)
        replace hF := hF.trans (zL_eq ex_6)
        have b_x_6 : x_6.toInt = 1 * p2.toInt := by rw [ex_6]; exact zi_mul (show Int32.toInt 1 = 1 from by decide) rfl (z_rmc b_p2 (by decide))
        refine lv_iload hx hb dX10_copyRow_20 (lv_at hl 4 rfl) ?_
        refine lv_iadd hx hb dX10_copyRow_22 ?_
        refine lv_topi (fun x_7 ex_7 => ?_)
        replace hF := hF.trans (zL_eq ex_7)
        have b_x_7 : x_7.toInt = x_6.toInt + v4_1.toInt := by rw [ex_7]; exact zi_add rfl rfl (z_raa (z_emc (c := 1) b_x_6 b_p2) b_v4_1 (by decide))
        refine va_iald hx hb hK hP 0 0 rfl rfl (zi_in rfl (by first | exact z_rin (z_ead b_x_7 (z_emc (c := 1) b_x_6 b_p2) b_v4_1) (by decide) | omega)) dX10_copyRow_23 ?_
        refine lv_topi (fun x_8 ex_8 => ?_)
        replace hF := hF.trans (zL_eq ex_8)
        have b_x_8 : 0 ≤ x_8.toInt ∧ x_8.toInt ≤ 16 := by rw [ex_8]; exact b_g_a_2 _
        refine va_iast hx hb hK hP hD hS 0 0 rfl rfl (zi_in rfl (by first | exact z_rin (z_ead b_x_5 (z_emc (c := 1) b_x_4 b_p3) b_v4_1) (by decide) | omega)) dX10_copyRow_24 (fun H locs hP hD hS => ?_)
        obtain ⟨f_9, ef_9⟩ : ∃ g : Nat → Int32, g = upd g_a_2 (Int32.toNatClampNeg x_5) x_8 := ⟨_, rfl⟩
        replace hF := hF.trans (zL_eq ef_9)
        have b_f_9 : ∀ j : Nat, 0 ≤ (f_9 j).toInt ∧ (f_9 j).toInt ≤ 16 := by rw [ef_9]; exact zi_upd b_g_a_2 rfl (by first | with_reducible assumption | omega)
        have hP : va_P (dC, dI) vwCl [(a, .inl (cA_a, 5, .inl (upd g_a_2 (Int32.toNatClampNeg x_5) x_8)))] H := hP
        have hD : va_D A [(a, .inl (cA_a, 5, .inl (upd g_a_2 (Int32.toNatClampNeg x_5) x_8)))] := hD
        rw [← ef_9] at hP hD
        obtain ⟨x_10, ex_10⟩ : ∃ z : Int32, z = v4_1 + Int32.ofInt 1 := ⟨_, rfl⟩
        have b_x_10 : x_10.toInt = v4_1.toInt + 1 := by rw [ex_10]; exact zi_add rfl (show (Int32.ofInt 1).toInt = 1 from by decide) (z_rac b_v4_1 (by decide))
        refine lv_iinc (v := x_10) (lv' := [(4, .int x_10), (0, .ref a), (1, .int 1), (2, .int p2), (3, .int p3)]) hx hb dX10_copyRow_25 hl (k := 4) rfl ex_10.symm (by decide) rfl (fun ls hl => ?_)
        replace hF := hF.trans (zL_eq ex_10)
        refine lv_goto (tgt := 3) hx hb dX10_copyRow_28 (by decide) ?_
        have hbk : zCq f_a f_9 1 p2.toInt p3.toInt x_10.toInt := zCq.step ex_1 ef_9 ex_8 (i := x_5) (i2 := x_7) rfl rfl (by first | with_reducible assumption | omega) (by first | with_reducible assumption | omega) (by first | with_reducible assumption | omega) (by first | with_reducible assumption | omega) (by first | with_reducible assumption | omega)
        exact ih_1 x_10 f_9 (by first | with_reducible assumption | omega) b_f_9 (by first | assumption | decide | omega) _ _ _ (by first | with_reducible assumption | omega) hF (hP.sub (ws' := [(a, .inl (cA_a, 5, .inl f_9))]) [0] rfl) (hD.sub (ws' := [(a, .inl (cA_a, 5, .inl f_9))]) [0] (by decide) rfl) hS (lv_sub hl [1, 2, 3, 4, 0] rfl)
  have zb_0 : Int32.toInt 0 = 0 := by decide
  exact loop_1 3 (0) f_a (by decide) b_f_a (by first | assumption | decide | omega) _ _ _ (by decide) hF hP hD hS (lv_sub hl [1, 2, 3, 4, 0] rfl)
set_option maxHeartbeats 4000000 in
set_option maxRecDepth 100000 in
theorem kf_X10_copyRow_v5 (l : Launch) (sa : Nat → Nat) (dC : Nat → ClassId) (dI : Nat → Nat → Nat) (a : Nat) (p2 : Int32) (p3 : Int32) (cA_a : ClassId) (f_a : Nat → Int32) (b_p2 : 0 ≤ p2.toInt ∧ p2.toInt ≤ 4) (b_p3 : 0 ≤ p3.toInt ∧ p3.toInt ≤ 4) (b_f_a : ∀ j : Nat, 0 ≤ (f_a j).toInt ∧ (f_a j).toInt ≤ 9) (sz : Nat) : Met l yX10_copyRow (.code yX10_copyRow cX10_copyRow 5 none :: zT) ({ frames := 0, cells := 0, slots := 0, locals := 0 }) (va_Pc [.ref a, .int 32, .int p2, .int p3] (zB sa dC dI [(a, .inl (cA_a, 160, .inl f_a))] [(cA_a, .int)] sz)) (va_Qv (fun _ : Unit => True) (fun _ t => ∃ (n_a : Nat → Int32), (∀ j : Nat, 0 ≤ (n_a j).toInt ∧ (n_a j).toInt ≤ 9) ∧ (zCq f_a n_a 32 p2.toInt p3.toInt 32) ∧ (n_a = (F_X10_copyRow_v5 p2 p3 f_a)) ∧ zW dC dI [(a, .inl (cA_a, 160, .inl n_a))] [] (va_A [(a, .inl (cA_a, 160, .inl f_a))] sz) t) (va_A [(a, .inl (cA_a, 160, .inl f_a))] sz)) 0 0 (va_A [(a, .inl (cA_a, 160, .inl f_a))] sz) := by
  refine z_enter (by decide) (by exact (Nat.le_of_ble_eq_true rfl)) ?_
  intro p e s m args below meth c ls A R Qc hargs hsz hQe hAe hRe hx hb hml hr hts hown hlocks hin hl hP hK hD hN hXs hA hS
  rw [hAe] at hQe
  have hown : s.vm.findClass RX10 = some m.cls := hown
  have hl : lv_has ls 5 [(0, .ref a), (1, .int 32), (2, .int p2), (3, .int p3)] := hl
  obtain ⟨RR, hRR⟩ : ∃ z : (Nat → Int32), z = (F_X10_copyRow_v5 p2 p3 f_a) := ⟨_, rfl⟩
  have hF : RR = (F_X10_copyRow_v5 p2 p3 f_a) := hRR
  refine lv_iconst (v := 0) hx hb dX10_copyRow_0 (by decide) ?_
  refine lv_istore (lv' := [(4, .int 0), (0, .ref a), (1, .int 32), (2, .int p2), (3, .int p3)]) hx hb dX10_copyRow_1 hl (by decide) rfl (fun ls hl => ?_)
  have hbe : zCq f_a f_a 32 p2.toInt p3.toInt (Int32.toInt 0) := zCq.zero (by decide)
  have loop_1 : ∀ (t_1 : Nat) (v4_1 : Int32) (g_a_2 : Nat → Int32) (b_v4_1 : 0 ≤ v4_1.toInt ∧ v4_1.toInt ≤ 32) (b_g_a_2 : ∀ j : Nat, 0 ≤ (g_a_2 j).toInt ∧ (g_a_2 j).toInt ≤ 9) (ex_1 : zCq f_a g_a_2 32 p2.toInt p3.toInt v4_1.toInt) (H : Heap) (locs : List Loc) (ls : Array Slot), 32 - v4_1.toInt < (t_1 : Int) → RR = L_X10_copyRow_1_v5 p3 p2 K_X10_copyRow_1_0_v5 t_1 v4_1 g_a_2 → va_P (dC, dI) vwCl [(a, .inl (cA_a, 160, .inl g_a_2))] H → va_D A [(a, .inl (cA_a, 160, .inl g_a_2))] → va_S A s.heap H locs → lv_has ls 5 [(0, .ref a), (1, .int 32), (2, .int p2), (3, .int p3), (4, .int v4_1)] → W p l e R s m args below meth c H locs 0 0 (MQ below Qc args s 0 0 A) (F0 m 3 ls []) := by
    intro t_1
    induction t_1 with
    | zero => intro v4_1 g_a_2 b_v4_1 b_g_a_2 ex_1 H locs ls hmu _ _ _ _ _; exact absurd hmu (by first | with_reducible assumption | omega)
    | succ t_1 ih_1 =>
      intro v4_1 g_a_2 b_v4_1 b_g_a_2 ex_1 H locs ls hmu hF hP hD hS hl
      replace hF := hF.trans L_X10_copyRow_1_v5_s
      refine lv_iload hx hb dX10_copyRow_3 (lv_at hl 4 rfl) ?_
      refine lv_iload_n hx hb dX10_copyRow_5 rfl (lv_at hl 1 rfl) ?_
      refine lv_icmp_ge (tgt := 31) hx hb dX10_copyRow_6 (by decide) (fun c_3 => ?_) (fun c_3 => ?_)
      · have ic_3 := zz_ge rfl (show Int32.toInt 32 = 32 from by decide) c_3
        replace hF := hF.trans (if_pos c_3)
        have hkk : v4_1.toInt = 32 := by omega
        have hcq : zCq f_a g_a_2 32 p2.toInt p3.toInt 32 := by have h9 := ex_1; rw [hkk] at h9; exact h9
        have hF : RR = g_a_2 := hF
        exact W.vret hx hb hr (fun t ht hW => by rw [← hQe]; exact ⟨⟨(), rfl, trivial, ⟨g_a_2, b_g_a_2, (by first | omega | assumption), (by rw [← hRR, hF]), z_ret hP hK hD ht hW [0] [] rfl (by decide) rfl⟩⟩, hS.F ht⟩) hS.2.2 dX10_copyRow_31
      · have ic_3 := zz_nge rfl (show Int32.toInt 32 = 32 from by decide) c_3
        replace hF := hF.trans (if_neg c_3)
        refine lv_aload_n hx hb dX10_copyRow_9 rfl (lv_at hl 0 rfl) ?_
        refine lv_iload_n hx hb dX10_copyRow_10 rfl (lv_at hl 1 rfl) ?_
        refine lv_iload_n hx hb dX10_copyRow_11 rfl (lv_at hl 3 rfl) ?_
        refine lv_imul hx hb dX10_copyRow_12 ?_
        refine lv_topi (fun x_4 ex_4 => ?_)
        replace hF := hF.trans (zL_eq ex_4)
        have b_x_4 : x_4.toInt = 32 * p3.toInt := by rw [ex_4]; exact zi_mul (show Int32.toInt 32 = 32 from by decide) rfl (z_rmc b_p3 (by decide))
        refine lv_iload hx hb dX10_copyRow_13 (lv_at hl 4 rfl) ?_
        refine lv_iadd hx hb dX10_copyRow_15 ?_
        refine lv_topi (fun x_5 ex_5 => ?_)
        replace hF := hF.trans (zL_eq ex_5)
        have b_x_5 : x_5.toInt = x_4.toInt + v4_1.toInt := by rw [ex_5]; exact zi_add rfl rfl (z_raa (z_emc (c := 32) b_x_4 b_p3) b_v4_1 (by decide))
        refine lv_aload_n hx hb dX10_copyRow_16 rfl (lv_at hl 0 rfl) ?_
        refine lv_iload_n hx hb dX10_copyRow_17 rfl (lv_at hl 1 rfl) ?_
        refine lv_iload_n hx hb dX10_copyRow_18 rfl (lv_at hl 2 rfl) ?_
        refine lv_imul hx hb dX10_copyRow_19 ?_
        refine lv_topi (fun x_6 ex_6 => ?_)
        replace hF := hF.trans (zL_eq ex_6)
        have b_x_6 : x_6.toInt = 32 * p2.toInt := by rw [ex_6]; exact zi_mul (show Int32.toInt 32 = 32 from by decide) rfl (z_rmc b_p2 (by decide))
        refine lv_iload hx hb dX10_copyRow_20 (lv_at hl 4 rfl) ?_
        refine lv_iadd hx hb dX10_copyRow_22 ?_
        refine lv_topi (fun x_7 ex_7 => ?_)
        replace hF := hF.trans (zL_eq ex_7)
        have b_x_7 : x_7.toInt = x_6.toInt + v4_1.toInt := by rw [ex_7]; exact zi_add rfl rfl (z_raa (z_emc (c := 32) b_x_6 b_p2) b_v4_1 (by decide))
        refine va_iald hx hb hK hP 0 0 rfl rfl (zi_in rfl (by first | exact z_rin (z_ead b_x_7 (z_emc (c := 32) b_x_6 b_p2) b_v4_1) (by decide) | omega)) dX10_copyRow_23 ?_
        refine lv_topi (fun x_8 ex_8 => ?_)
        replace hF := hF.trans (zL_eq ex_8)
        have b_x_8 : 0 ≤ x_8.toInt ∧ x_8.toInt ≤ 9 := by rw [ex_8]; exact b_g_a_2 _
        refine va_iast hx hb hK hP hD hS 0 0 rfl rfl (zi_in rfl (by first | exact z_rin (z_ead b_x_5 (z_emc (c := 32) b_x_4 b_p3) b_v4_1) (by decide) | omega)) dX10_copyRow_24 (fun H locs hP hD hS => ?_)
        obtain ⟨f_9, ef_9⟩ : ∃ g : Nat → Int32, g = upd g_a_2 (Int32.toNatClampNeg x_5) x_8 := ⟨_, rfl⟩
        replace hF := hF.trans (zL_eq ef_9)
        have b_f_9 : ∀ j : Nat, 0 ≤ (f_9 j).toInt ∧ (f_9 j).toInt ≤ 9 := by rw [ef_9]; exact zi_upd b_g_a_2 rfl (by first | with_reducible assumption | omega)
        have hP : va_P (dC, dI) vwCl [(a, .inl (cA_a, 160, .inl (upd g_a_2 (Int32.toNatClampNeg x_5) x_8)))] H := hP
        have hD : va_D A [(a, .inl (cA_a, 160, .inl (upd g_a_2 (Int32.toNatClampNeg x_5) x_8)))] := hD
        rw [← ef_9] at hP hD
        obtain ⟨x_10, ex_10⟩ : ∃ z : Int32, z = v4_1 + Int32.ofInt 1 := ⟨_, rfl⟩
        have b_x_10 : x_10.toInt = v4_1.toInt + 1 := by rw [ex_10]; exact zi_add rfl (show (Int32.ofInt 1).toInt = 1 from by decide) (z_rac b_v4_1 (by decide))
        refine lv_iinc (v := x_10) (lv' := [(4, .int x_10), (0, .ref a), (1, .int 32), (2, .int p2), (3, .int p3)]) hx hb dX10_copyRow_25 hl (k := 4) rfl ex_10.symm (by decide) rfl (fun ls hl => ?_)
        replace hF := hF.trans (zL_eq ex_10)
        refine lv_goto (tgt := 3) hx hb dX10_copyRow_28 (by decide) ?_
        have hbk : zCq f_a f_9 32 p2.toInt p3.toInt x_10.toInt := zCq.step ex_1 ef_9 ex_8 (i := x_5) (i2 := x_7) rfl rfl (by first | with_reducible assumption | omega) (by first | with_reducible assumption | omega) (by first | with_reducible assumption | omega) (by first | with_reducible assumption | omega) (by first | with_reducible assumption | omega)
        exact ih_1 x_10 f_9 (by first | with_reducible assumption | omega) b_f_9 (by first | assumption | decide | omega) _ _ _ (by first | with_reducible assumption | omega) hF (hP.sub (ws' := [(a, .inl (cA_a, 160, .inl f_9))]) [0] rfl) (hD.sub (ws' := [(a, .inl (cA_a, 160, .inl f_9))]) [0] (by decide) rfl) hS (lv_sub hl [1, 2, 3, 4, 0] rfl)
  have zb_0 : Int32.toInt 0 = 0 := by decide
  exact loop_1 34 (0) f_a (by decide) b_f_a (by first | assumption | decide | omega) _ _ _ (by decide) hF hP hD hS (lv_sub hl [1, 2, 3, 4, 0] rfl)
set_option maxHeartbeats 4000000 in
set_option maxRecDepth 100000 in
theorem kf_X10_copyRow_v6 (l : Launch) (sa : Nat → Nat) (dC : Nat → ClassId) (dI : Nat → Nat → Nat) (a : Nat) (p2 : Int32) (p3 : Int32) (cA_a : ClassId) (f_a : Nat → Int32) (b_p2 : 0 ≤ p2.toInt ∧ p2.toInt ≤ 4) (b_p3 : 0 ≤ p3.toInt ∧ p3.toInt ≤ 4) (b_f_a : ∀ j : Nat, 0 ≤ (f_a j).toInt ∧ (f_a j).toInt ≤ 9) (sz : Nat) : Met l yX10_copyRow (.code yX10_copyRow cX10_copyRow 5 none :: zT) ({ frames := 0, cells := 0, slots := 0, locals := 0 }) (va_Pc [.ref a, .int 480, .int p2, .int p3] (zB sa dC dI [(a, .inl (cA_a, 2400, .inl f_a))] [(cA_a, .int)] sz)) (va_Qv (fun _ : Unit => True) (fun _ t => ∃ (n_a : Nat → Int32), (∀ j : Nat, 0 ≤ (n_a j).toInt ∧ (n_a j).toInt ≤ 9) ∧ (zCq f_a n_a 480 p2.toInt p3.toInt 480) ∧ (n_a = (F_X10_copyRow_v6 p2 p3 f_a)) ∧ zW dC dI [(a, .inl (cA_a, 2400, .inl n_a))] [] (va_A [(a, .inl (cA_a, 2400, .inl f_a))] sz) t) (va_A [(a, .inl (cA_a, 2400, .inl f_a))] sz)) 0 0 (va_A [(a, .inl (cA_a, 2400, .inl f_a))] sz) := by
  refine z_enter (by decide) (by exact (Nat.le_of_ble_eq_true rfl)) ?_
  intro p e s m args below meth c ls A R Qc hargs hsz hQe hAe hRe hx hb hml hr hts hown hlocks hin hl hP hK hD hN hXs hA hS
  rw [hAe] at hQe
  have hown : s.vm.findClass RX10 = some m.cls := hown
  have hl : lv_has ls 5 [(0, .ref a), (1, .int 480), (2, .int p2), (3, .int p3)] := hl
  obtain ⟨RR, hRR⟩ : ∃ z : (Nat → Int32), z = (F_X10_copyRow_v6 p2 p3 f_a) := ⟨_, rfl⟩
  have hF : RR = (F_X10_copyRow_v6 p2 p3 f_a) := hRR
  refine lv_iconst (v := 0) hx hb dX10_copyRow_0 (by decide) ?_
  refine lv_istore (lv' := [(4, .int 0), (0, .ref a), (1, .int 480), (2, .int p2), (3, .int p3)]) hx hb dX10_copyRow_1 hl (by decide) rfl (fun ls hl => ?_)
  have hbe : zCq f_a f_a 480 p2.toInt p3.toInt (Int32.toInt 0) := zCq.zero (by decide)
  have loop_1 : ∀ (t_1 : Nat) (v4_1 : Int32) (g_a_2 : Nat → Int32) (b_v4_1 : 0 ≤ v4_1.toInt ∧ v4_1.toInt ≤ 480) (b_g_a_2 : ∀ j : Nat, 0 ≤ (g_a_2 j).toInt ∧ (g_a_2 j).toInt ≤ 9) (ex_1 : zCq f_a g_a_2 480 p2.toInt p3.toInt v4_1.toInt) (H : Heap) (locs : List Loc) (ls : Array Slot), 480 - v4_1.toInt < (t_1 : Int) → RR = L_X10_copyRow_1_v6 p3 p2 K_X10_copyRow_1_0_v6 t_1 v4_1 g_a_2 → va_P (dC, dI) vwCl [(a, .inl (cA_a, 2400, .inl g_a_2))] H → va_D A [(a, .inl (cA_a, 2400, .inl g_a_2))] → va_S A s.heap H locs → lv_has ls 5 [(0, .ref a), (1, .int 480), (2, .int p2), (3, .int p3), (4, .int v4_1)] → W p l e R s m args below meth c H locs 0 0 (MQ below Qc args s 0 0 A) (F0 m 3 ls []) := by
    intro t_1
    induction t_1 with
    | zero => intro v4_1 g_a_2 b_v4_1 b_g_a_2 ex_1 H locs ls hmu _ _ _ _ _; exact absurd hmu (by first | with_reducible assumption | omega)
    | succ t_1 ih_1 =>
      intro v4_1 g_a_2 b_v4_1 b_g_a_2 ex_1 H locs ls hmu hF hP hD hS hl
      replace hF := hF.trans L_X10_copyRow_1_v6_s
      refine lv_iload hx hb dX10_copyRow_3 (lv_at hl 4 rfl) ?_
      refine lv_iload_n hx hb dX10_copyRow_5 rfl (lv_at hl 1 rfl) ?_
      refine lv_icmp_ge (tgt := 31) hx hb dX10_copyRow_6 (by decide) (fun c_3 => ?_) (fun c_3 => ?_)
      · have ic_3 := zz_ge rfl (show Int32.toInt 480 = 480 from by decide) c_3
        replace hF := hF.trans (if_pos c_3)
        have hkk : v4_1.toInt = 480 := by omega
        have hcq : zCq f_a g_a_2 480 p2.toInt p3.toInt 480 := by have h9 := ex_1; rw [hkk] at h9; exact h9
        have hF : RR = g_a_2 := hF
        exact W.vret hx hb hr (fun t ht hW => by rw [← hQe]; exact ⟨⟨(), rfl, trivial, ⟨g_a_2, b_g_a_2, (by first | omega | assumption), (by rw [← hRR, hF]), z_ret hP hK hD ht hW [0] [] rfl (by decide) rfl⟩⟩, hS.F ht⟩) hS.2.2 dX10_copyRow_31
      · have ic_3 := zz_nge rfl (show Int32.toInt 480 = 480 from by decide) c_3
        replace hF := hF.trans (if_neg c_3)
        refine lv_aload_n hx hb dX10_copyRow_9 rfl (lv_at hl 0 rfl) ?_
        refine lv_iload_n hx hb dX10_copyRow_10 rfl (lv_at hl 1 rfl) ?_
        refine lv_iload_n hx hb dX10_copyRow_11 rfl (lv_at hl 3 rfl) ?_
        refine lv_imul hx hb dX10_copyRow_12 ?_
        refine lv_topi (fun x_4 ex_4 => ?_)
        replace hF := hF.trans (zL_eq ex_4)
        have b_x_4 : x_4.toInt = 480 * p3.toInt := by rw [ex_4]; exact zi_mul (show Int32.toInt 480 = 480 from by decide) rfl (z_rmc b_p3 (by decide))
        refine lv_iload hx hb dX10_copyRow_13 (lv_at hl 4 rfl) ?_
        refine lv_iadd hx hb dX10_copyRow_15 ?_
        refine lv_topi (fun x_5 ex_5 => ?_)
        replace hF := hF.trans (zL_eq ex_5)
        have b_x_5 : x_5.toInt = x_4.toInt + v4_1.toInt := by rw [ex_5]; exact zi_add rfl rfl (z_raa (z_emc (c := 480) b_x_4 b_p3) b_v4_1 (by decide))
        refine lv_aload_n hx hb dX10_copyRow_16 rfl (lv_at hl 0 rfl) ?_
        refine lv_iload_n hx hb dX10_copyRow_17 rfl (lv_at hl 1 rfl) ?_
        refine lv_iload_n hx hb dX10_copyRow_18 rfl (lv_at hl 2 rfl) ?_
        refine lv_imul hx hb dX10_copyRow_19 ?_
        refine lv_topi (fun x_6 ex_6 => ?_)
        replace hF := hF.trans (zL_eq ex_6)
        have b_x_6 : x_6.toInt = 480 * p2.toInt := by rw [ex_6]; exact zi_mul (show Int32.toInt 480 = 480 from by decide) rfl (z_rmc b_p2 (by decide))
        refine lv_iload hx hb dX10_copyRow_20 (lv_at hl 4 rfl) ?_
        refine lv_iadd hx hb dX10_copyRow_22 ?_
        refine lv_topi (fun x_7 ex_7 => ?_)
        replace hF := hF.trans (zL_eq ex_7)
        have b_x_7 : x_7.toInt = x_6.toInt + v4_1.toInt := by rw [ex_7]; exact zi_add rfl rfl (z_raa (z_emc (c := 480) b_x_6 b_p2) b_v4_1 (by decide))
        refine va_iald hx hb hK hP 0 0 rfl rfl (zi_in rfl (by first | exact z_rin (z_ead b_x_7 (z_emc (c := 480) b_x_6 b_p2) b_v4_1) (by decide) | omega)) dX10_copyRow_23 ?_
        refine lv_topi (fun x_8 ex_8 => ?_)
        replace hF := hF.trans (zL_eq ex_8)
        have b_x_8 : 0 ≤ x_8.toInt ∧ x_8.toInt ≤ 9 := by rw [ex_8]; exact b_g_a_2 _
        refine va_iast hx hb hK hP hD hS 0 0 rfl rfl (zi_in rfl (by first | exact z_rin (z_ead b_x_5 (z_emc (c := 480) b_x_4 b_p3) b_v4_1) (by decide) | omega)) dX10_copyRow_24 (fun H locs hP hD hS => ?_)
        obtain ⟨f_9, ef_9⟩ : ∃ g : Nat → Int32, g = upd g_a_2 (Int32.toNatClampNeg x_5) x_8 := ⟨_, rfl⟩
        replace hF := hF.trans (zL_eq ef_9)
        have b_f_9 : ∀ j : Nat, 0 ≤ (f_9 j).toInt ∧ (f_9 j).toInt ≤ 9 := by rw [ef_9]; exact zi_upd b_g_a_2 rfl (by first | with_reducible assumption | omega)
        have hP : va_P (dC, dI) vwCl [(a, .inl (cA_a, 2400, .inl (upd g_a_2 (Int32.toNatClampNeg x_5) x_8)))] H := hP
        have hD : va_D A [(a, .inl (cA_a, 2400, .inl (upd g_a_2 (Int32.toNatClampNeg x_5) x_8)))] := hD
        rw [← ef_9] at hP hD
        obtain ⟨x_10, ex_10⟩ : ∃ z : Int32, z = v4_1 + Int32.ofInt 1 := ⟨_, rfl⟩
        have b_x_10 : x_10.toInt = v4_1.toInt + 1 := by rw [ex_10]; exact zi_add rfl (show (Int32.ofInt 1).toInt = 1 from by decide) (z_rac b_v4_1 (by decide))
        refine lv_iinc (v := x_10) (lv' := [(4, .int x_10), (0, .ref a), (1, .int 480), (2, .int p2), (3, .int p3)]) hx hb dX10_copyRow_25 hl (k := 4) rfl ex_10.symm (by decide) rfl (fun ls hl => ?_)
        replace hF := hF.trans (zL_eq ex_10)
        refine lv_goto (tgt := 3) hx hb dX10_copyRow_28 (by decide) ?_
        have hbk : zCq f_a f_9 480 p2.toInt p3.toInt x_10.toInt := zCq.step ex_1 ef_9 ex_8 (i := x_5) (i2 := x_7) rfl rfl (by first | with_reducible assumption | omega) (by first | with_reducible assumption | omega) (by first | with_reducible assumption | omega) (by first | with_reducible assumption | omega) (by first | with_reducible assumption | omega)
        exact ih_1 x_10 f_9 (by first | with_reducible assumption | omega) b_f_9 (by first | assumption | decide | omega) _ _ _ (by first | with_reducible assumption | omega) hF (hP.sub (ws' := [(a, .inl (cA_a, 2400, .inl f_9))]) [0] rfl) (hD.sub (ws' := [(a, .inl (cA_a, 2400, .inl f_9))]) [0] (by decide) rfl) hS (lv_sub hl [1, 2, 3, 4, 0] rfl)
  have zb_0 : Int32.toInt 0 = 0 := by decide
  exact loop_1 482 (0) f_a (by decide) b_f_a (by first | assumption | decide | omega) _ _ _ (by decide) hF hP hD hS (lv_sub hl [1, 2, 3, 4, 0] rfl)
set_option maxHeartbeats 4000000 in
set_option maxRecDepth 100000 in
theorem kf_X10_copyRow_v7 (l : Launch) (sa : Nat → Nat) (dC : Nat → ClassId) (dI : Nat → Nat → Nat) (a : Nat) (p2 : Int32) (p3 : Int32) (cA_a : ClassId) (f_a : Nat → Int32) (b_p2 : 0 ≤ p2.toInt ∧ p2.toInt ≤ 4) (b_p3 : 0 ≤ p3.toInt ∧ p3.toInt ≤ 4) (b_f_a : ∀ j : Nat, 0 ≤ (f_a j).toInt ∧ (f_a j).toInt ≤ 99 ∧ (j % 2 = 1 → (f_a j).toInt ≤ 9)) (sz : Nat) : Met l yX10_copyRow (.code yX10_copyRow cX10_copyRow 5 none :: zT) ({ frames := 0, cells := 0, slots := 0, locals := 0 }) (va_Pc [.ref a, .int 20, .int p2, .int p3] (zB sa dC dI [(a, .inl (cA_a, 100, .inl f_a))] [(cA_a, .int)] sz)) (va_Qv (fun _ : Unit => True) (fun _ t => ∃ (n_a : Nat → Int32), (∀ j : Nat, 0 ≤ (n_a j).toInt ∧ (n_a j).toInt ≤ 99 ∧ (j % 2 = 1 → (n_a j).toInt ≤ 9)) ∧ (zCq f_a n_a 20 p2.toInt p3.toInt 20) ∧ (n_a = (F_X10_copyRow_v7 p2 p3 f_a)) ∧ zW dC dI [(a, .inl (cA_a, 100, .inl n_a))] [] (va_A [(a, .inl (cA_a, 100, .inl f_a))] sz) t) (va_A [(a, .inl (cA_a, 100, .inl f_a))] sz)) 0 0 (va_A [(a, .inl (cA_a, 100, .inl f_a))] sz) := by
  refine z_enter (by decide) (by exact (Nat.le_of_ble_eq_true rfl)) ?_
  intro p e s m args below meth c ls A R Qc hargs hsz hQe hAe hRe hx hb hml hr hts hown hlocks hin hl hP hK hD hN hXs hA hS
  rw [hAe] at hQe
  have hown : s.vm.findClass RX10 = some m.cls := hown
  have hl : lv_has ls 5 [(0, .ref a), (1, .int 20), (2, .int p2), (3, .int p3)] := hl
  obtain ⟨RR, hRR⟩ : ∃ z : (Nat → Int32), z = (F_X10_copyRow_v7 p2 p3 f_a) := ⟨_, rfl⟩
  have hF : RR = (F_X10_copyRow_v7 p2 p3 f_a) := hRR
  refine lv_iconst (v := 0) hx hb dX10_copyRow_0 (by decide) ?_
  refine lv_istore (lv' := [(4, .int 0), (0, .ref a), (1, .int 20), (2, .int p2), (3, .int p3)]) hx hb dX10_copyRow_1 hl (by decide) rfl (fun ls hl => ?_)
  have hbe : zCq f_a f_a 20 p2.toInt p3.toInt (Int32.toInt 0) := zCq.zero (by decide)
  have loop_1 : ∀ (t_1 : Nat) (v4_1 : Int32) (g_a_2 : Nat → Int32) (b_v4_1 : 0 ≤ v4_1.toInt ∧ v4_1.toInt ≤ 20) (b_g_a_2 : ∀ j : Nat, 0 ≤ (g_a_2 j).toInt ∧ (g_a_2 j).toInt ≤ 99 ∧ (j % 2 = 1 → (g_a_2 j).toInt ≤ 9)) (ex_1 : zCq f_a g_a_2 20 p2.toInt p3.toInt v4_1.toInt) (H : Heap) (locs : List Loc) (ls : Array Slot), 20 - v4_1.toInt < (t_1 : Int) → RR = L_X10_copyRow_1_v7 p3 p2 K_X10_copyRow_1_0_v7 t_1 v4_1 g_a_2 → va_P (dC, dI) vwCl [(a, .inl (cA_a, 100, .inl g_a_2))] H → va_D A [(a, .inl (cA_a, 100, .inl g_a_2))] → va_S A s.heap H locs → lv_has ls 5 [(0, .ref a), (1, .int 20), (2, .int p2), (3, .int p3), (4, .int v4_1)] → W p l e R s m args below meth c H locs 0 0 (MQ below Qc args s 0 0 A) (F0 m 3 ls []) := by
    intro t_1
    induction t_1 with
    | zero => intro v4_1 g_a_2 b_v4_1 b_g_a_2 ex_1 H locs ls hmu _ _ _ _ _; exact absurd hmu (by first | with_reducible assumption | omega)
    | succ t_1 ih_1 =>
      intro v4_1 g_a_2 b_v4_1 b_g_a_2 ex_1 H locs ls hmu hF hP hD hS hl
      replace hF := hF.trans L_X10_copyRow_1_v7_s
      refine lv_iload hx hb dX10_copyRow_3 (lv_at hl 4 rfl) ?_
      refine lv_iload_n hx hb dX10_copyRow_5 rfl (lv_at hl 1 rfl) ?_
      refine lv_icmp_ge (tgt := 31) hx hb dX10_copyRow_6 (by decide) (fun c_3 => ?_) (fun c_3 => ?_)
      · have ic_3 := zz_ge rfl (show Int32.toInt 20 = 20 from by decide) c_3
        replace hF := hF.trans (if_pos c_3)
        have hkk : v4_1.toInt = 20 := by omega
        have hcq : zCq f_a g_a_2 20 p2.toInt p3.toInt 20 := by have h9 := ex_1; rw [hkk] at h9; exact h9
        have hF : RR = g_a_2 := hF
        exact W.vret hx hb hr (fun t ht hW => by rw [← hQe]; exact ⟨⟨(), rfl, trivial, ⟨g_a_2, b_g_a_2, (by first | omega | assumption), (by rw [← hRR, hF]), z_ret hP hK hD ht hW [0] [] rfl (by decide) rfl⟩⟩, hS.F ht⟩) hS.2.2 dX10_copyRow_31
      · have ic_3 := zz_nge rfl (show Int32.toInt 20 = 20 from by decide) c_3
        replace hF := hF.trans (if_neg c_3)
        refine lv_aload_n hx hb dX10_copyRow_9 rfl (lv_at hl 0 rfl) ?_
        refine lv_iload_n hx hb dX10_copyRow_10 rfl (lv_at hl 1 rfl) ?_
        refine lv_iload_n hx hb dX10_copyRow_11 rfl (lv_at hl 3 rfl) ?_
        refine lv_imul hx hb dX10_copyRow_12 ?_
        refine lv_topi (fun x_4 ex_4 => ?_)
        replace hF := hF.trans (zL_eq ex_4)
        have b_x_4 : x_4.toInt = 20 * p3.toInt := by rw [ex_4]; exact zi_mul (show Int32.toInt 20 = 20 from by decide) rfl (z_rmc b_p3 (by decide))
        refine lv_iload hx hb dX10_copyRow_13 (lv_at hl 4 rfl) ?_
        refine lv_iadd hx hb dX10_copyRow_15 ?_
        refine lv_topi (fun x_5 ex_5 => ?_)
        replace hF := hF.trans (zL_eq ex_5)
        have b_x_5 : x_5.toInt = x_4.toInt + v4_1.toInt := by rw [ex_5]; exact zi_add rfl rfl (z_raa (z_emc (c := 20) b_x_4 b_p3) b_v4_1 (by decide))
        refine lv_aload_n hx hb dX10_copyRow_16 rfl (lv_at hl 0 rfl) ?_
        refine lv_iload_n hx hb dX10_copyRow_17 rfl (lv_at hl 1 rfl) ?_
        refine lv_iload_n hx hb dX10_copyRow_18 rfl (lv_at hl 2 rfl) ?_
        refine lv_imul hx hb dX10_copyRow_19 ?_
        refine lv_topi (fun x_6 ex_6 => ?_)
        replace hF := hF.trans (zL_eq ex_6)
        have b_x_6 : x_6.toInt = 20 * p2.toInt := by rw [ex_6]; exact zi_mul (show Int32.toInt 20 = 20 from by decide) rfl (z_rmc b_p2 (by decide))
        refine lv_iload hx hb dX10_copyRow_20 (lv_at hl 4 rfl) ?_
        refine lv_iadd hx hb dX10_copyRow_22 ?_
        refine lv_topi (fun x_7 ex_7 => ?_)
        replace hF := hF.trans (zL_eq ex_7)
        have b_x_7 : x_7.toInt = x_6.toInt + v4_1.toInt := by rw [ex_7]; exact zi_add rfl rfl (z_raa (z_emc (c := 20) b_x_6 b_p2) b_v4_1 (by decide))
        refine va_iald hx hb hK hP 0 0 rfl rfl (zi_in rfl (by first | exact z_rin (z_ead b_x_7 (z_emc (c := 20) b_x_6 b_p2) b_v4_1) (by decide) | omega)) dX10_copyRow_23 ?_
        refine lv_topi (fun x_8 ex_8 => ?_)
        replace hF := hF.trans (zL_eq ex_8)
        have b_x_8 := b_g_a_2 (Int32.toNatClampNeg x_7)
        rw [← ex_8] at b_x_8
        have kx_x_8 := zi_clamp (x := x_7) rfl (z_r0 (z_ead b_x_7 (z_emc (c := 20) b_x_6 b_p2) b_v4_1) (by decide))
        refine va_iast hx hb hK hP hD hS 0 0 rfl rfl (zi_in rfl (by first | exact z_rin (z_ead b_x_5 (z_emc (c := 20) b_x_4 b_p3) b_v4_1) (by decide) | omega)) dX10_copyRow_24 (fun H locs hP hD hS => ?_)
        obtain ⟨f_9, ef_9⟩ : ∃ g : Nat → Int32, g = upd g_a_2 (Int32.toNatClampNeg x_5) x_8 := ⟨_, rfl⟩
        replace hF := hF.trans (zL_eq ef_9)
        have kx_f_9 := zi_clamp (x := x_5) rfl (z_r0 (z_ead b_x_5 (z_emc (c := 20) b_x_4 b_p3) b_v4_1) (by decide))
        have b_f_9 : ∀ j : Nat, 0 ≤ (f_9 j).toInt ∧ (f_9 j).toInt ≤ 99 ∧ (j % 2 = 1 → (f_9 j).toInt ≤ 9) := by rw [ef_9]; exact zi_updP b_g_a_2 rfl (by first | with_reducible assumption | omega)
        have hP : va_P (dC, dI) vwCl [(a, .inl (cA_a, 100, .inl (upd g_a_2 (Int32.toNatClampNeg x_5) x_8)))] H := hP
        have hD : va_D A [(a, .inl (cA_a, 100, .inl (upd g_a_2 (Int32.toNatClampNeg x_5) x_8)))] := hD
        rw [← ef_9] at hP hD
        obtain ⟨x_10, ex_10⟩ : ∃ z : Int32, z = v4_1 + Int32.ofInt 1 := ⟨_, rfl⟩
        have b_x_10 : x_10.toInt = v4_1.toInt + 1 := by rw [ex_10]; exact zi_add rfl (show (Int32.ofInt 1).toInt = 1 from by decide) (z_rac b_v4_1 (by decide))
        refine lv_iinc (v := x_10) (lv' := [(4, .int x_10), (0, .ref a), (1, .int 20), (2, .int p2), (3, .int p3)]) hx hb dX10_copyRow_25 hl (k := 4) rfl ex_10.symm (by decide) rfl (fun ls hl => ?_)
        replace hF := hF.trans (zL_eq ex_10)
        refine lv_goto (tgt := 3) hx hb dX10_copyRow_28 (by decide) ?_
        have hbk : zCq f_a f_9 20 p2.toInt p3.toInt x_10.toInt := zCq.step ex_1 ef_9 ex_8 (i := x_5) (i2 := x_7) rfl rfl (by first | with_reducible assumption | omega) (by first | with_reducible assumption | omega) (by first | with_reducible assumption | omega) (by first | with_reducible assumption | omega) (by first | with_reducible assumption | omega)
        exact ih_1 x_10 f_9 (by first | with_reducible assumption | omega) b_f_9 (by first | assumption | decide | omega) _ _ _ (by first | with_reducible assumption | omega) hF (hP.sub (ws' := [(a, .inl (cA_a, 100, .inl f_9))]) [0] rfl) (hD.sub (ws' := [(a, .inl (cA_a, 100, .inl f_9))]) [0] (by decide) rfl) hS (lv_sub hl [1, 2, 3, 4, 0] rfl)
  have zb_0 : Int32.toInt 0 = 0 := by decide
  exact loop_1 22 (0) f_a (by decide) b_f_a (by first | assumption | decide | omega) _ _ _ (by decide) hF hP hD hS (lv_sub hl [1, 2, 3, 4, 0] rfl)
set_option maxHeartbeats 4000000 in
set_option maxRecDepth 100000 in
theorem kf_X10_copyRow_v8 (l : Launch) (sa : Nat → Nat) (dC : Nat → ClassId) (dI : Nat → Nat → Nat) (a : Nat) (p2 : Int32) (p3 : Int32) (cA_a : ClassId) (f_a : Nat → Int32) (b_p2 : 0 ≤ p2.toInt ∧ p2.toInt ≤ 4) (b_p3 : 0 ≤ p3.toInt ∧ p3.toInt ≤ 4) (b_f_a : ∀ j : Nat, 0 ≤ (f_a j).toInt ∧ (f_a j).toInt ≤ 9) (sz : Nat) : Met l yX10_copyRow (.code yX10_copyRow cX10_copyRow 5 none :: zT) ({ frames := 0, cells := 0, slots := 0, locals := 0 }) (va_Pc [.ref a, .int 2, .int p2, .int p3] (zB sa dC dI [(a, .inl (cA_a, 10, .inl f_a))] [(cA_a, .int)] sz)) (va_Qv (fun _ : Unit => True) (fun _ t => ∃ (n_a : Nat → Int32), (∀ j : Nat, 0 ≤ (n_a j).toInt ∧ (n_a j).toInt ≤ 9) ∧ (zCq f_a n_a 2 p2.toInt p3.toInt 2) ∧ (n_a = (F_X10_copyRow_v8 p2 p3 f_a)) ∧ zW dC dI [(a, .inl (cA_a, 10, .inl n_a))] [] (va_A [(a, .inl (cA_a, 10, .inl f_a))] sz) t) (va_A [(a, .inl (cA_a, 10, .inl f_a))] sz)) 0 0 (va_A [(a, .inl (cA_a, 10, .inl f_a))] sz) := by
  refine z_enter (by decide) (by exact (Nat.le_of_ble_eq_true rfl)) ?_
  intro p e s m args below meth c ls A R Qc hargs hsz hQe hAe hRe hx hb hml hr hts hown hlocks hin hl hP hK hD hN hXs hA hS
  rw [hAe] at hQe
  have hown : s.vm.findClass RX10 = some m.cls := hown
  have hl : lv_has ls 5 [(0, .ref a), (1, .int 2), (2, .int p2), (3, .int p3)] := hl
  obtain ⟨RR, hRR⟩ : ∃ z : (Nat → Int32), z = (F_X10_copyRow_v8 p2 p3 f_a) := ⟨_, rfl⟩
  have hF : RR = (F_X10_copyRow_v8 p2 p3 f_a) := hRR
  refine lv_iconst (v := 0) hx hb dX10_copyRow_0 (by decide) ?_
  refine lv_istore (lv' := [(4, .int 0), (0, .ref a), (1, .int 2), (2, .int p2), (3, .int p3)]) hx hb dX10_copyRow_1 hl (by decide) rfl (fun ls hl => ?_)
  have hbe : zCq f_a f_a 2 p2.toInt p3.toInt (Int32.toInt 0) := zCq.zero (by decide)
  have loop_1 : ∀ (t_1 : Nat) (v4_1 : Int32) (g_a_2 : Nat → Int32) (b_v4_1 : 0 ≤ v4_1.toInt ∧ v4_1.toInt ≤ 2) (b_g_a_2 : ∀ j : Nat, 0 ≤ (g_a_2 j).toInt ∧ (g_a_2 j).toInt ≤ 9) (ex_1 : zCq f_a g_a_2 2 p2.toInt p3.toInt v4_1.toInt) (H : Heap) (locs : List Loc) (ls : Array Slot), 2 - v4_1.toInt < (t_1 : Int) → RR = L_X10_copyRow_1_v8 p3 p2 K_X10_copyRow_1_0_v8 t_1 v4_1 g_a_2 → va_P (dC, dI) vwCl [(a, .inl (cA_a, 10, .inl g_a_2))] H → va_D A [(a, .inl (cA_a, 10, .inl g_a_2))] → va_S A s.heap H locs → lv_has ls 5 [(0, .ref a), (1, .int 2), (2, .int p2), (3, .int p3), (4, .int v4_1)] → W p l e R s m args below meth c H locs 0 0 (MQ below Qc args s 0 0 A) (F0 m 3 ls []) := by
    intro t_1
    induction t_1 with
    | zero => intro v4_1 g_a_2 b_v4_1 b_g_a_2 ex_1 H locs ls hmu _ _ _ _ _; exact absurd hmu (by first | with_reducible assumption | omega)
    | succ t_1 ih_1 =>
      intro v4_1 g_a_2 b_v4_1 b_g_a_2 ex_1 H locs ls hmu hF hP hD hS hl
      replace hF := hF.trans L_X10_copyRow_1_v8_s
      refine lv_iload hx hb dX10_copyRow_3 (lv_at hl 4 rfl) ?_
      refine lv_iload_n hx hb dX10_copyRow_5 rfl (lv_at hl 1 rfl) ?_
      refine lv_icmp_ge (tgt := 31) hx hb dX10_copyRow_6 (by decide) (fun c_3 => ?_) (fun c_3 => ?_)
      · have ic_3 := zz_ge rfl (show Int32.toInt 2 = 2 from by decide) c_3
        replace hF := hF.trans (if_pos c_3)
        have hkk : v4_1.toInt = 2 := by omega
        have hcq : zCq f_a g_a_2 2 p2.toInt p3.toInt 2 := by have h9 := ex_1; rw [hkk] at h9; exact h9
        have hF : RR = g_a_2 := hF
        exact W.vret hx hb hr (fun t ht hW => by rw [← hQe]; exact ⟨⟨(), rfl, trivial, ⟨g_a_2, b_g_a_2, (by first | omega | assumption), (by rw [← hRR, hF]), z_ret hP hK hD ht hW [0] [] rfl (by decide) rfl⟩⟩, hS.F ht⟩) hS.2.2 dX10_copyRow_31
      · have ic_3 := zz_nge rfl (show Int32.toInt 2 = 2 from by decide) c_3
        replace hF := hF.trans (if_neg c_3)
        refine lv_aload_n hx hb dX10_copyRow_9 rfl (lv_at hl 0 rfl) ?_
        refine lv_iload_n hx hb dX10_copyRow_10 rfl (lv_at hl 1 rfl) ?_
        refine lv_iload_n hx hb dX10_copyRow_11 rfl (lv_at hl 3 rfl) ?_
        refine lv_imul hx hb dX10_copyRow_12 ?_
        refine lv_topi (fun x_4 ex_4 => ?_)
        replace hF := hF.trans (zL_eq ex_4)
        have b_x_4 : x_4.toInt = 2 * p3.toInt := by rw [ex_4]; exact zi_mul (show Int32.toInt 2 = 2 from by decide) rfl (z_rmc b_p3 (by decide))
        refine lv_iload hx hb dX10_copyRow_13 (lv_at hl 4 rfl) ?_
        refine lv_iadd hx hb dX10_copyRow_15 ?_
        refine lv_topi (fun x_5 ex_5 => ?_)
        replace hF := hF.trans (zL_eq ex_5)
        have b_x_5 : x_5.toInt = x_4.toInt + v4_1.toInt := by rw [ex_5]; exact zi_add rfl rfl (z_raa (z_emc (c := 2) b_x_4 b_p3) b_v4_1 (by decide))
        refine lv_aload_n hx hb dX10_copyRow_16 rfl (lv_at hl 0 rfl) ?_
        refine lv_iload_n hx hb dX10_copyRow_17 rfl (lv_at hl 1 rfl) ?_
        refine lv_iload_n hx hb dX10_copyRow_18 rfl (lv_at hl 2 rfl) ?_
        refine lv_imul hx hb dX10_copyRow_19 ?_
        refine lv_topi (fun x_6 ex_6 => ?_)
        replace hF := hF.trans (zL_eq ex_6)
        have b_x_6 : x_6.toInt = 2 * p2.toInt := by rw [ex_6]; exact zi_mul (show Int32.toInt 2 = 2 from by decide) rfl (z_rmc b_p2 (by decide))
        refine lv_iload hx hb dX10_copyRow_20 (lv_at hl 4 rfl) ?_
        refine lv_iadd hx hb dX10_copyRow_22 ?_
        refine lv_topi (fun x_7 ex_7 => ?_)
        replace hF := hF.trans (zL_eq ex_7)
        have b_x_7 : x_7.toInt = x_6.toInt + v4_1.toInt := by rw [ex_7]; exact zi_add rfl rfl (z_raa (z_emc (c := 2) b_x_6 b_p2) b_v4_1 (by decide))
        refine va_iald hx hb hK hP 0 0 rfl rfl (zi_in rfl (by first | exact z_rin (z_ead b_x_7 (z_emc (c := 2) b_x_6 b_p2) b_v4_1) (by decide) | omega)) dX10_copyRow_23 ?_
        refine lv_topi (fun x_8 ex_8 => ?_)
        replace hF := hF.trans (zL_eq ex_8)
        have b_x_8 : 0 ≤ x_8.toInt ∧ x_8.toInt ≤ 9 := by rw [ex_8]; exact b_g_a_2 _
        refine va_iast hx hb hK hP hD hS 0 0 rfl rfl (zi_in rfl (by first | exact z_rin (z_ead b_x_5 (z_emc (c := 2) b_x_4 b_p3) b_v4_1) (by decide) | omega)) dX10_copyRow_24 (fun H locs hP hD hS => ?_)
        obtain ⟨f_9, ef_9⟩ : ∃ g : Nat → Int32, g = upd g_a_2 (Int32.toNatClampNeg x_5) x_8 := ⟨_, rfl⟩
        replace hF := hF.trans (zL_eq ef_9)
        have b_f_9 : ∀ j : Nat, 0 ≤ (f_9 j).toInt ∧ (f_9 j).toInt ≤ 9 := by rw [ef_9]; exact zi_upd b_g_a_2 rfl (by first | with_reducible assumption | omega)
        have hP : va_P (dC, dI) vwCl [(a, .inl (cA_a, 10, .inl (upd g_a_2 (Int32.toNatClampNeg x_5) x_8)))] H := hP
        have hD : va_D A [(a, .inl (cA_a, 10, .inl (upd g_a_2 (Int32.toNatClampNeg x_5) x_8)))] := hD
        rw [← ef_9] at hP hD
        obtain ⟨x_10, ex_10⟩ : ∃ z : Int32, z = v4_1 + Int32.ofInt 1 := ⟨_, rfl⟩
        have b_x_10 : x_10.toInt = v4_1.toInt + 1 := by rw [ex_10]; exact zi_add rfl (show (Int32.ofInt 1).toInt = 1 from by decide) (z_rac b_v4_1 (by decide))
        refine lv_iinc (v := x_10) (lv' := [(4, .int x_10), (0, .ref a), (1, .int 2), (2, .int p2), (3, .int p3)]) hx hb dX10_copyRow_25 hl (k := 4) rfl ex_10.symm (by decide) rfl (fun ls hl => ?_)
        replace hF := hF.trans (zL_eq ex_10)
        refine lv_goto (tgt := 3) hx hb dX10_copyRow_28 (by decide) ?_
        have hbk : zCq f_a f_9 2 p2.toInt p3.toInt x_10.toInt := zCq.step ex_1 ef_9 ex_8 (i := x_5) (i2 := x_7) rfl rfl (by first | with_reducible assumption | omega) (by first | with_reducible assumption | omega) (by first | with_reducible assumption | omega) (by first | with_reducible assumption | omega) (by first | with_reducible assumption | omega)
        exact ih_1 x_10 f_9 (by first | with_reducible assumption | omega) b_f_9 (by first | assumption | decide | omega) _ _ _ (by first | with_reducible assumption | omega) hF (hP.sub (ws' := [(a, .inl (cA_a, 10, .inl f_9))]) [0] rfl) (hD.sub (ws' := [(a, .inl (cA_a, 10, .inl f_9))]) [0] (by decide) rfl) hS (lv_sub hl [1, 2, 3, 4, 0] rfl)
  have zb_0 : Int32.toInt 0 = 0 := by decide
  exact loop_1 4 (0) f_a (by decide) b_f_a (by first | assumption | decide | omega) _ _ _ (by decide) hF hP hD hS (lv_sub hl [1, 2, 3, 4, 0] rfl)
set_option maxHeartbeats 4000000 in
set_option maxRecDepth 100000 in
theorem kf_X10_copyRow_v9 (l : Launch) (sa : Nat → Nat) (dC : Nat → ClassId) (dI : Nat → Nat → Nat) (a : Nat) (p2 : Int32) (p3 : Int32) (cA_a : ClassId) (f_a : Nat → Int32) (b_p2 : 0 ≤ p2.toInt ∧ p2.toInt ≤ 4) (b_p3 : 0 ≤ p3.toInt ∧ p3.toInt ≤ 4) (sz : Nat) : Met l yX10_copyRow (.code yX10_copyRow cX10_copyRow 5 none :: zT) ({ frames := 0, cells := 0, slots := 0, locals := 0 }) (va_Pc [.ref a, .int 2, .int p2, .int p3] (zB sa dC dI [(a, .inl (cA_a, 10, .inl f_a))] [(cA_a, .int)] sz)) (va_Qv (fun _ : Unit => True) (fun _ t => ∃ (n_a : Nat → Int32), (zCq f_a n_a 2 p2.toInt p3.toInt 2) ∧ (n_a = (F_X10_copyRow_v9 p2 p3 f_a)) ∧ zW dC dI [(a, .inl (cA_a, 10, .inl n_a))] [] (va_A [(a, .inl (cA_a, 10, .inl f_a))] sz) t) (va_A [(a, .inl (cA_a, 10, .inl f_a))] sz)) 0 0 (va_A [(a, .inl (cA_a, 10, .inl f_a))] sz) := by
  refine z_enter (by decide) (by exact (Nat.le_of_ble_eq_true rfl)) ?_
  intro p e s m args below meth c ls A R Qc hargs hsz hQe hAe hRe hx hb hml hr hts hown hlocks hin hl hP hK hD hN hXs hA hS
  rw [hAe] at hQe
  have hown : s.vm.findClass RX10 = some m.cls := hown
  have hl : lv_has ls 5 [(0, .ref a), (1, .int 2), (2, .int p2), (3, .int p3)] := hl
  obtain ⟨RR, hRR⟩ : ∃ z : (Nat → Int32), z = (F_X10_copyRow_v9 p2 p3 f_a) := ⟨_, rfl⟩
  have hF : RR = (F_X10_copyRow_v9 p2 p3 f_a) := hRR
  refine lv_iconst (v := 0) hx hb dX10_copyRow_0 (by decide) ?_
  refine lv_istore (lv' := [(4, .int 0), (0, .ref a), (1, .int 2), (2, .int p2), (3, .int p3)]) hx hb dX10_copyRow_1 hl (by decide) rfl (fun ls hl => ?_)
  have hbe : zCq f_a f_a 2 p2.toInt p3.toInt (Int32.toInt 0) := zCq.zero (by decide)
  have loop_1 : ∀ (t_1 : Nat) (v4_1 : Int32) (g_a_2 : Nat → Int32) (b_v4_1 : 0 ≤ v4_1.toInt ∧ v4_1.toInt ≤ 2) (ex_1 : zCq f_a g_a_2 2 p2.toInt p3.toInt v4_1.toInt) (H : Heap) (locs : List Loc) (ls : Array Slot), 2 - v4_1.toInt < (t_1 : Int) → RR = L_X10_copyRow_1_v9 p3 p2 K_X10_copyRow_1_0_v9 t_1 v4_1 g_a_2 → va_P (dC, dI) vwCl [(a, .inl (cA_a, 10, .inl g_a_2))] H → va_D A [(a, .inl (cA_a, 10, .inl g_a_2))] → va_S A s.heap H locs → lv_has ls 5 [(0, .ref a), (1, .int 2), (2, .int p2), (3, .int p3), (4, .int v4_1)] → W p l e R s m args below meth c H locs 0 0 (MQ below Qc args s 0 0 A) (F0 m 3 ls []) := by
    intro t_1
    induction t_1 with
    | zero => intro v4_1 g_a_2 b_v4_1 ex_1 H locs ls hmu _ _ _ _ _; exact absurd hmu (by first | with_reducible assumption | omega)
    | succ t_1 ih_1 =>
      intro v4_1 g_a_2 b_v4_1 ex_1 H locs ls hmu hF hP hD hS hl
      replace hF := hF.trans L_X10_copyRow_1_v9_s
      refine lv_iload hx hb dX10_copyRow_3 (lv_at hl 4 rfl) ?_
      refine lv_iload_n hx hb dX10_copyRow_5 rfl (lv_at hl 1 rfl) ?_
      refine lv_icmp_ge (tgt := 31) hx hb dX10_copyRow_6 (by decide) (fun c_3 => ?_) (fun c_3 => ?_)
      · have ic_3 := zz_ge rfl (show Int32.toInt 2 = 2 from by decide) c_3
        replace hF := hF.trans (if_pos c_3)
        have hkk : v4_1.toInt = 2 := by omega
        have hcq : zCq f_a g_a_2 2 p2.toInt p3.toInt 2 := by have h9 := ex_1; rw [hkk] at h9; exact h9
        have hF : RR = g_a_2 := hF
        exact W.vret hx hb hr (fun t ht hW => by rw [← hQe]; exact ⟨⟨(), rfl, trivial, ⟨g_a_2, (by first | omega | assumption), (by rw [← hRR, hF]), z_ret hP hK hD ht hW [0] [] rfl (by decide) rfl⟩⟩, hS.F ht⟩) hS.2.2 dX10_copyRow_31
      · have ic_3 := zz_nge rfl (show Int32.toInt 2 = 2 from by decide) c_3
        replace hF := hF.trans (if_neg c_3)
        refine lv_aload_n hx hb dX10_copyRow_9 rfl (lv_at hl 0 rfl) ?_
        refine lv_iload_n hx hb dX10_copyRow_10 rfl (lv_at hl 1 rfl) ?_
        refine lv_iload_n hx hb dX10_copyRow_11 rfl (lv_at hl 3 rfl) ?_
        refine lv_imul hx hb dX10_copyRow_12 ?_
        refine lv_topi (fun x_4 ex_4 => ?_)
        replace hF := hF.trans (zL_eq ex_4)
        have b_x_4 : x_4.toInt = 2 * p3.toInt := by rw [ex_4]; exact zi_mul (show Int32.toInt 2 = 2 from by decide) rfl (z_rmc b_p3 (by decide))
        refine lv_iload hx hb dX10_copyRow_13 (lv_at hl 4 rfl) ?_
        refine lv_iadd hx hb dX10_copyRow_15 ?_
        refine lv_topi (fun x_5 ex_5 => ?_)
        replace hF := hF.trans (zL_eq ex_5)
        have b_x_5 : x_5.toInt = x_4.toInt + v4_1.toInt := by rw [ex_5]; exact zi_add rfl rfl (z_raa (z_emc (c := 2) b_x_4 b_p3) b_v4_1 (by decide))
        refine lv_aload_n hx hb dX10_copyRow_16 rfl (lv_at hl 0 rfl) ?_
        refine lv_iload_n hx hb dX10_copyRow_17 rfl (lv_at hl 1 rfl) ?_
        refine lv_iload_n hx hb dX10_copyRow_18 rfl (lv_at hl 2 rfl) ?_
        refine lv_imul hx hb dX10_copyRow_19 ?_
        refine lv_topi (fun x_6 ex_6 => ?_)
        replace hF := hF.trans (zL_eq ex_6)
        have b_x_6 : x_6.toInt = 2 * p2.toInt := by rw [ex_6]; exact zi_mul (show Int32.toInt 2 = 2 from by decide) rfl (z_rmc b_p2 (by decide))
        refine lv_iload hx hb dX10_copyRow_20 (lv_at hl 4 rfl) ?_
        refine lv_iadd hx hb dX10_copyRow_22 ?_
        refine lv_topi (fun x_7 ex_7 => ?_)
        replace hF := hF.trans (zL_eq ex_7)
        have b_x_7 : x_7.toInt = x_6.toInt + v4_1.toInt := by rw [ex_7]; exact zi_add rfl rfl (z_raa (z_emc (c := 2) b_x_6 b_p2) b_v4_1 (by decide))
        refine va_iald hx hb hK hP 0 0 rfl rfl (zi_in rfl (by first | exact z_rin (z_ead b_x_7 (z_emc (c := 2) b_x_6 b_p2) b_v4_1) (by decide) | omega)) dX10_copyRow_23 ?_
        refine lv_topi (fun x_8 ex_8 => ?_)
        replace hF := hF.trans (zL_eq ex_8)
        refine va_iast hx hb hK hP hD hS 0 0 rfl rfl (zi_in rfl (by first | exact z_rin (z_ead b_x_5 (z_emc (c := 2) b_x_4 b_p3) b_v4_1) (by decide) | omega)) dX10_copyRow_24 (fun H locs hP hD hS => ?_)
        obtain ⟨f_9, ef_9⟩ : ∃ g : Nat → Int32, g = upd g_a_2 (Int32.toNatClampNeg x_5) x_8 := ⟨_, rfl⟩
        replace hF := hF.trans (zL_eq ef_9)
        have hP : va_P (dC, dI) vwCl [(a, .inl (cA_a, 10, .inl (upd g_a_2 (Int32.toNatClampNeg x_5) x_8)))] H := hP
        have hD : va_D A [(a, .inl (cA_a, 10, .inl (upd g_a_2 (Int32.toNatClampNeg x_5) x_8)))] := hD
        rw [← ef_9] at hP hD
        obtain ⟨x_10, ex_10⟩ : ∃ z : Int32, z = v4_1 + Int32.ofInt 1 := ⟨_, rfl⟩
        have b_x_10 : x_10.toInt = v4_1.toInt + 1 := by rw [ex_10]; exact zi_add rfl (show (Int32.ofInt 1).toInt = 1 from by decide) (z_rac b_v4_1 (by decide))
        refine lv_iinc (v := x_10) (lv' := [(4, .int x_10), (0, .ref a), (1, .int 2), (2, .int p2), (3, .int p3)]) hx hb dX10_copyRow_25 hl (k := 4) rfl ex_10.symm (by decide) rfl (fun ls hl => ?_)
        replace hF := hF.trans (zL_eq ex_10)
        refine lv_goto (tgt := 3) hx hb dX10_copyRow_28 (by decide) ?_
        have hbk : zCq f_a f_9 2 p2.toInt p3.toInt x_10.toInt := zCq.step ex_1 ef_9 ex_8 (i := x_5) (i2 := x_7) rfl rfl (by first | with_reducible assumption | omega) (by first | with_reducible assumption | omega) (by first | with_reducible assumption | omega) (by first | with_reducible assumption | omega) (by first | with_reducible assumption | omega)
        exact ih_1 x_10 f_9 (by first | with_reducible assumption | omega) (by first | assumption | decide | omega) _ _ _ (by first | with_reducible assumption | omega) hF (hP.sub (ws' := [(a, .inl (cA_a, 10, .inl f_9))]) [0] rfl) (hD.sub (ws' := [(a, .inl (cA_a, 10, .inl f_9))]) [0] (by decide) rfl) hS (lv_sub hl [1, 2, 3, 4, 0] rfl)
  have zb_0 : Int32.toInt 0 = 0 := by decide
  exact loop_1 4 (0) f_a (by decide) (by first | assumption | decide | omega) _ _ _ (by decide) hF hP hD hS (lv_sub hl [1, 2, 3, 4, 0] rfl)
set_option maxHeartbeats 4000000 in
set_option maxRecDepth 100000 in
theorem kf_X10_copyRow_v10 (l : Launch) (sa : Nat → Nat) (dC : Nat → ClassId) (dI : Nat → Nat → Nat) (a : Nat) (p2 : Int32) (p3 : Int32) (cA_a : ClassId) (f_a : Nat → Int32) (b_p2 : 0 ≤ p2.toInt ∧ p2.toInt ≤ 4) (b_p3 : 0 ≤ p3.toInt ∧ p3.toInt ≤ 4) (b_f_a : ∀ j : Nat, 0 ≤ (f_a j).toInt ∧ (f_a j).toInt ≤ 2) (sz : Nat) : Met l yX10_copyRow (.code yX10_copyRow cX10_copyRow 5 none :: zT) ({ frames := 0, cells := 0, slots := 0, locals := 0 }) (va_Pc [.ref a, .int 10, .int p2, .int p3] (zB sa dC dI [(a, .inl (cA_a, 50, .inl f_a))] [(cA_a, .int)] sz)) (va_Qv (fun _ : Unit => True) (fun _ t => ∃ (n_a : Nat → Int32), (∀ j : Nat, 0 ≤ (n_a j).toInt ∧ (n_a j).toInt ≤ 2) ∧ (zCq f_a n_a 10 p2.toInt p3.toInt 10) ∧ (n_a = (F_X10_copyRow_v10 p2 p3 f_a)) ∧ zW dC dI [(a, .inl (cA_a, 50, .inl n_a))] [] (va_A [(a, .inl (cA_a, 50, .inl f_a))] sz) t) (va_A [(a, .inl (cA_a, 50, .inl f_a))] sz)) 0 0 (va_A [(a, .inl (cA_a, 50, .inl f_a))] sz) := by
  refine z_enter (by decide) (by exact (Nat.le_of_ble_eq_true rfl)) ?_
  intro p e s m args below meth c ls A R Qc hargs hsz hQe hAe hRe hx hb hml hr hts hown hlocks hin hl hP hK hD hN hXs hA hS
  rw [hAe] at hQe
  have hown : s.vm.findClass RX10 = some m.cls := hown
  have hl : lv_has ls 5 [(0, .ref a), (1, .int 10), (2, .int p2), (3, .int p3)] := hl
  obtain ⟨RR, hRR⟩ : ∃ z : (Nat → Int32), z = (F_X10_copyRow_v10 p2 p3 f_a) := ⟨_, rfl⟩
  have hF : RR = (F_X10_copyRow_v10 p2 p3 f_a) := hRR
  refine lv_iconst (v := 0) hx hb dX10_copyRow_0 (by decide) ?_
  refine lv_istore (lv' := [(4, .int 0), (0, .ref a), (1, .int 10), (2, .int p2), (3, .int p3)]) hx hb dX10_copyRow_1 hl (by decide) rfl (fun ls hl => ?_)
  have hbe : zCq f_a f_a 10 p2.toInt p3.toInt (Int32.toInt 0) := zCq.zero (by decide)
  have loop_1 : ∀ (t_1 : Nat) (v4_1 : Int32) (g_a_2 : Nat → Int32) (b_v4_1 : 0 ≤ v4_1.toInt ∧ v4_1.toInt ≤ 10) (b_g_a_2 : ∀ j : Nat, 0 ≤ (g_a_2 j).toInt ∧ (g_a_2 j).toInt ≤ 2) (ex_1 : zCq f_a g_a_2 10 p2.toInt p3.toInt v4_1.toInt) (H : Heap) (locs : List Loc) (ls : Array Slot), 10 - v4_1.toInt < (t_1 : Int) → RR = L_X10_copyRow_1_v10 p3 p2 K_X10_copyRow_1_0_v10 t_1 v4_1 g_a_2 → va_P (dC, dI) vwCl [(a, .inl (cA_a, 50, .inl g_a_2))] H → va_D A [(a, .inl (cA_a, 50, .inl g_a_2))] → va_S A s.heap H locs → lv_has ls 5 [(0, .ref a), (1, .int 10), (2, .int p2), (3, .int p3), (4, .int v4_1)] → W p l e R s m args below meth c H locs 0 0 (MQ below Qc args s 0 0 A) (F0 m 3 ls []) := by
    intro t_1
    induction t_1 with
    | zero => intro v4_1 g_a_2 b_v4_1 b_g_a_2 ex_1 H locs ls hmu _ _ _ _ _; exact absurd hmu (by first | with_reducible assumption | omega)
    | succ t_1 ih_1 =>
      intro v4_1 g_a_2 b_v4_1 b_g_a_2 ex_1 H locs ls hmu hF hP hD hS hl
      replace hF := hF.trans L_X10_copyRow_1_v10_s
      refine lv_iload hx hb dX10_copyRow_3 (lv_at hl 4 rfl) ?_
      refine lv_iload_n hx hb dX10_copyRow_5 rfl (lv_at hl 1 rfl) ?_
      refine lv_icmp_ge (tgt := 31) hx hb dX10_copyRow_6 (by decide) (fun c_3 => ?_) (fun c_3 => ?_)
      · have ic_3 := zz_ge rfl (show Int32.toInt 10 = 10 from by decide) c_3
        replace hF := hF.trans (if_pos c_3)
        have hkk : v4_1.toInt = 10 := by omega
        have hcq : zCq f_a g_a_2 10 p2.toInt p3.toInt 10 := by have h9 := ex_1; rw [hkk] at h9; exact h9
        have hF : RR = g_a_2 := hF
        exact W.vret hx hb hr (fun t ht hW => by rw [← hQe]; exact ⟨⟨(), rfl, trivial, ⟨g_a_2, b_g_a_2, (by first | omega | assumption), (by rw [← hRR, hF]), z_ret hP hK hD ht hW [0] [] rfl (by decide) rfl⟩⟩, hS.F ht⟩) hS.2.2 dX10_copyRow_31
      · have ic_3 := zz_nge rfl (show Int32.toInt 10 = 10 from by decide) c_3
        replace hF := hF.trans (if_neg c_3)
        refine lv_aload_n hx hb dX10_copyRow_9 rfl (lv_at hl 0 rfl) ?_
        refine lv_iload_n hx hb dX10_copyRow_10 rfl (lv_at hl 1 rfl) ?_
        refine lv_iload_n hx hb dX10_copyRow_11 rfl (lv_at hl 3 rfl) ?_
        refine lv_imul hx hb dX10_copyRow_12 ?_
        refine lv_topi (fun x_4 ex_4 => ?_)
        replace hF := hF.trans (zL_eq ex_4)
        have b_x_4 : x_4.toInt = 10 * p3.toInt := by rw [ex_4]; exact zi_mul (show Int32.toInt 10 = 10 from by decide) rfl (z_rmc b_p3 (by decide))
        refine lv_iload hx hb dX10_copyRow_13 (lv_at hl 4 rfl) ?_
        refine lv_iadd hx hb dX10_copyRow_15 ?_
        refine lv_topi (fun x_5 ex_5 => ?_)
        replace hF := hF.trans (zL_eq ex_5)
        have b_x_5 : x_5.toInt = x_4.toInt + v4_1.toInt := by rw [ex_5]; exact zi_add rfl rfl (z_raa (z_emc (c := 10) b_x_4 b_p3) b_v4_1 (by decide))
        refine lv_aload_n hx hb dX10_copyRow_16 rfl (lv_at hl 0 rfl) ?_
        refine lv_iload_n hx hb dX10_copyRow_17 rfl (lv_at hl 1 rfl) ?_
        refine lv_iload_n hx hb dX10_copyRow_18 rfl (lv_at hl 2 rfl) ?_
        refine lv_imul hx hb dX10_copyRow_19 ?_
        refine lv_topi (fun x_6 ex_6 => ?_)
        replace hF := hF.trans (zL_eq ex_6)
        have b_x_6 : x_6.toInt = 10 * p2.toInt := by rw [ex_6]; exact zi_mul (show Int32.toInt 10 = 10 from by decide) rfl (z_rmc b_p2 (by decide))
        refine lv_iload hx hb dX10_copyRow_20 (lv_at hl 4 rfl) ?_
        refine lv_iadd hx hb dX10_copyRow_22 ?_
        refine lv_topi (fun x_7 ex_7 => ?_)
        replace hF := hF.trans (zL_eq ex_7)
        have b_x_7 : x_7.toInt = x_6.toInt + v4_1.toInt := by rw [ex_7]; exact zi_add rfl rfl (z_raa (z_emc (c := 10) b_x_6 b_p2) b_v4_1 (by decide))
        refine va_iald hx hb hK hP 0 0 rfl rfl (zi_in rfl (by first | exact z_rin (z_ead b_x_7 (z_emc (c := 10) b_x_6 b_p2) b_v4_1) (by decide) | omega)) dX10_copyRow_23 ?_
        refine lv_topi (fun x_8 ex_8 => ?_)
        replace hF := hF.trans (zL_eq ex_8)
        have b_x_8 : 0 ≤ x_8.toInt ∧ x_8.toInt ≤ 2 := by rw [ex_8]; exact b_g_a_2 _
        refine va_iast hx hb hK hP hD hS 0 0 rfl rfl (zi_in rfl (by first | exact z_rin (z_ead b_x_5 (z_emc (c := 10) b_x_4 b_p3) b_v4_1) (by decide) | omega)) dX10_copyRow_24 (fun H locs hP hD hS => ?_)
        obtain ⟨f_9, ef_9⟩ : ∃ g : Nat → Int32, g = upd g_a_2 (Int32.toNatClampNeg x_5) x_8 := ⟨_, rfl⟩
        replace hF := hF.trans (zL_eq ef_9)
        have b_f_9 : ∀ j : Nat, 0 ≤ (f_9 j).toInt ∧ (f_9 j).toInt ≤ 2 := by rw [ef_9]; exact zi_upd b_g_a_2 rfl (by first | with_reducible assumption | omega)
        have hP : va_P (dC, dI) vwCl [(a, .inl (cA_a, 50, .inl (upd g_a_2 (Int32.toNatClampNeg x_5) x_8)))] H := hP
        have hD : va_D A [(a, .inl (cA_a, 50, .inl (upd g_a_2 (Int32.toNatClampNeg x_5) x_8)))] := hD
        rw [← ef_9] at hP hD
        obtain ⟨x_10, ex_10⟩ : ∃ z : Int32, z = v4_1 + Int32.ofInt 1 := ⟨_, rfl⟩
        have b_x_10 : x_10.toInt = v4_1.toInt + 1 := by rw [ex_10]; exact zi_add rfl (show (Int32.ofInt 1).toInt = 1 from by decide) (z_rac b_v4_1 (by decide))
        refine lv_iinc (v := x_10) (lv' := [(4, .int x_10), (0, .ref a), (1, .int 10), (2, .int p2), (3, .int p3)]) hx hb dX10_copyRow_25 hl (k := 4) rfl ex_10.symm (by decide) rfl (fun ls hl => ?_)
        replace hF := hF.trans (zL_eq ex_10)
        refine lv_goto (tgt := 3) hx hb dX10_copyRow_28 (by decide) ?_
        have hbk : zCq f_a f_9 10 p2.toInt p3.toInt x_10.toInt := zCq.step ex_1 ef_9 ex_8 (i := x_5) (i2 := x_7) rfl rfl (by first | with_reducible assumption | omega) (by first | with_reducible assumption | omega) (by first | with_reducible assumption | omega) (by first | with_reducible assumption | omega) (by first | with_reducible assumption | omega)
        exact ih_1 x_10 f_9 (by first | with_reducible assumption | omega) b_f_9 (by first | assumption | decide | omega) _ _ _ (by first | with_reducible assumption | omega) hF (hP.sub (ws' := [(a, .inl (cA_a, 50, .inl f_9))]) [0] rfl) (hD.sub (ws' := [(a, .inl (cA_a, 50, .inl f_9))]) [0] (by decide) rfl) hS (lv_sub hl [1, 2, 3, 4, 0] rfl)
  have zb_0 : Int32.toInt 0 = 0 := by decide
  exact loop_1 12 (0) f_a (by decide) b_f_a (by first | assumption | decide | omega) _ _ _ (by decide) hF hP hD hS (lv_sub hl [1, 2, 3, 4, 0] rfl)
set_option maxHeartbeats 4000000 in
set_option maxRecDepth 100000 in
theorem kf_X10_copyTown (l : Launch) (sa : Nat → Nat) (dC : Nat → ClassId) (dI : Nat → Nat → Nat) (m0 : Nat) (p1 : Int32) (p2 : Int32) (m0_thrown : Int32) (m0_width : Nat) (m0_many : Nat) (m0_cells : Nat) (m0_moved : Nat) (m0_tape : Nat) (m0_taped : Int32) (m0_at : Int32) (m0_token : Int32) (m0_place : Int32) (m0_value : Int32) (m0_word : Int64) (m0_bad : Int32) (m0_badPlace : Int32) (m0_fault : Int32) (m0_faultPlace : Int32) (m0_lines : Nat) (m0_hours : Nat) (m0_courts : Nat) (m0_in : Nat) (m0_gates : Nat) (m0_gate : Nat) (m0_people : Nat) (m0_at0 : Nat) (m0_stray : Nat) (m0_set : Nat) (m0_once : Nat) (m0_truth : Nat) (m0_known : Nat) (m0_isKept : Nat) (m0_strays : Int32) (m0_hostPerson : Int32) (m0_hostCourt : Int32) (m0_outside : Int32) (m0_inside : Nat) (m0_can : Nat) (m0_fewest : Nat) (m0_waysTo : Nat) (m0_then : Nat) (m0_two : Nat) (m0_nextTwo : Nat) (m0_three : Nat) (m0_nextThree : Nat) (m0_shut : Int32) (m0_worth : Nat) (m0_digit : Nat) (m0_codes : Int32) (m0_most : Int64) (m0_bestTry : Int32) (m0_dayCourt : Int32) (m0_dayHour : Int32) (m0_dayNo : Int32) (m0_x : Int64) (cA_m0_lines : ClassId) (f_m0_lines : Nat → Int32) (cA_m0_hours : ClassId) (f_m0_hours : Nat → Int32) (cA_m0_courts : ClassId) (f_m0_courts : Nat → Int32) (cA_m0_in : ClassId) (f_m0_in : Nat → Int32) (cA_m0_gates : ClassId) (f_m0_gates : Nat → Int32) (cA_m0_gate : ClassId) (f_m0_gate : Nat → Int32) (cA_m0_people : ClassId) (f_m0_people : Nat → Int32) (cA_m0_at0 : ClassId) (f_m0_at0 : Nat → Int32) (cA_m0_stray : ClassId) (f_m0_stray : Nat → Int32) (cA_m0_set : ClassId) (f_m0_set : Nat → Int32) (cA_m0_truth : ClassId) (f_m0_truth : Nat → Int32) (cA_m0_known : ClassId) (f_m0_known : Nat → Int32) (b_p1 : 0 ≤ p1.toInt ∧ p1.toInt ≤ 4) (b_p2 : 0 ≤ p2.toInt ∧ p2.toInt ≤ 4) (b_m0_taped : 0 ≤ m0_taped.toInt ∧ m0_taped.toInt ≤ 1600) (b_m0_at : 0 ≤ m0_at.toInt ∧ m0_at.toInt ≤ 1600) (b_m0_token : 0 ≤ m0_token.toInt ∧ m0_token.toInt ≤ 4) (b_m0_value : 0 ≤ m0_value.toInt ∧ m0_value.toInt ≤ 1000009) (b_m0_bad : 0 ≤ m0_bad.toInt ∧ m0_bad.toInt ≤ 3) (b_m0_strays : 0 ≤ m0_strays.toInt ∧ m0_strays.toInt ≤ 5) (b_m0_hostCourt : 0 ≤ m0_hostCourt.toInt ∧ m0_hostCourt.toInt ≤ 9) (b_m0_dayCourt : 0 ≤ m0_dayCourt.toInt ∧ m0_dayCourt.toInt ≤ 9) (b_m0_dayHour : 0 ≤ m0_dayHour.toInt ∧ m0_dayHour.toInt ≤ 48) (b_f_m0_hours : ∀ j : Nat, 0 ≤ (f_m0_hours j).toInt ∧ (f_m0_hours j).toInt ≤ 48) (b_f_m0_courts : ∀ j : Nat, 0 ≤ (f_m0_courts j).toInt ∧ (f_m0_courts j).toInt ≤ 10) (b_f_m0_in : ∀ j : Nat, ¬ j % 10 = 0 → (-1) ≤ (f_m0_in j).toInt ∧ (f_m0_in j).toInt < ((j % 10 : Nat) : Int)) (b_f_m0_gates : ∀ j : Nat, 0 ≤ (f_m0_gates j).toInt ∧ (f_m0_gates j).toInt ≤ 16) (b_f_m0_gate : ∀ j : Nat, 0 ≤ (f_m0_gate j).toInt ∧ (f_m0_gate j).toInt ≤ 9) (b_f_m0_people : ∀ j : Nat, 0 ≤ (f_m0_people j).toInt ∧ (f_m0_people j).toInt ≤ 10) (b_f_m0_at0 : ∀ j : Nat, 0 ≤ (f_m0_at0 j).toInt ∧ (f_m0_at0 j).toInt ≤ 9) (b_f_m0_stray : ∀ j : Nat, 0 ≤ (f_m0_stray j).toInt ∧ (f_m0_stray j).toInt ≤ 99 ∧ (j % 2 = 1 → (f_m0_stray j).toInt ≤ 9)) (b_f_m0_set : ∀ j : Nat, 0 ≤ (f_m0_set j).toInt ∧ (f_m0_set j).toInt ≤ 9) (b_f_m0_known : ∀ j : Nat, 0 ≤ (f_m0_known j).toInt ∧ (f_m0_known j).toInt ≤ 2) (sz : Nat) : Met l yX10_copyTown (.code yX10_copyTown cX10_copyTown 3 none :: zT) ({ frames := 1, cells := 0, slots := 0, locals := 24 }) (va_Pc [.ref m0, .int p1, .int p2] (zB sa dC dI (zV259 m0 m0_thrown m0_width m0_many m0_cells m0_moved m0_tape m0_taped m0_at m0_token m0_place m0_value m0_word m0_bad m0_badPlace m0_fault m0_faultPlace m0_lines m0_hours m0_courts m0_in m0_gates m0_gate m0_people m0_at0 m0_stray m0_set m0_once m0_truth m0_known m0_isKept m0_strays m0_hostPerson m0_hostCourt m0_outside m0_inside m0_can m0_fewest m0_waysTo m0_then m0_two m0_nextTwo m0_three m0_nextThree m0_shut m0_worth m0_digit m0_codes m0_most m0_bestTry m0_dayCourt m0_dayHour m0_dayNo m0_x m0_lines cA_m0_lines f_m0_lines m0_hours cA_m0_hours f_m0_hours m0_courts cA_m0_courts f_m0_courts m0_in cA_m0_in f_m0_in m0_gates cA_m0_gates f_m0_gates m0_gate cA_m0_gate f_m0_gate m0_people cA_m0_people f_m0_people m0_at0 cA_m0_at0 f_m0_at0 m0_stray cA_m0_stray f_m0_stray m0_set cA_m0_set f_m0_set m0_truth cA_m0_truth f_m0_truth m0_known cA_m0_known f_m0_known) [(cA_m0_lines, .int), (cA_m0_hours, .int), (cA_m0_courts, .int), (cA_m0_in, .int), (cA_m0_gates, .int), (cA_m0_gate, .int), (cA_m0_people, .int), (cA_m0_at0, .int), (cA_m0_stray, .int), (cA_m0_set, .int), (cA_m0_truth, .int), (cA_m0_known, .int)] sz)) (va_Qv (fun _ : Unit => True) (fun _ t => ∃ (n_m0_lines : Nat → Int32) (n_m0_hours : Nat → Int32) (n_m0_courts : Nat → Int32) (n_m0_in : Nat → Int32) (n_m0_gates : Nat → Int32) (n_m0_gate : Nat → Int32) (n_m0_people : Nat → Int32) (n_m0_at0 : Nat → Int32) (n_m0_stray : Nat → Int32) (n_m0_set : Nat → Int32) (n_m0_truth : Nat → Int32) (n_m0_known : Nat → Int32), (∀ j : Nat, 0 ≤ (n_m0_hours j).toInt ∧ (n_m0_hours j).toInt ≤ 48) ∧ (∀ j : Nat, 0 ≤ (n_m0_courts j).toInt ∧ (n_m0_courts j).toInt ≤ 10) ∧ (∀ j : Nat, ¬ j % 10 = 0 → (-1) ≤ (n_m0_in j).toInt ∧ (n_m0_in j).toInt < ((j % 10 : Nat) : Int)) ∧ (∀ j : Nat, 0 ≤ (n_m0_gates j).toInt ∧ (n_m0_gates j).toInt ≤ 16) ∧ (∀ j : Nat, 0 ≤ (n_m0_gate j).toInt ∧ (n_m0_gate j).toInt ≤ 9) ∧ (∀ j : Nat, 0 ≤ (n_m0_people j).toInt ∧ (n_m0_people j).toInt ≤ 10) ∧ (∀ j : Nat, 0 ≤ (n_m0_at0 j).toInt ∧ (n_m0_at0 j).toInt ≤ 9) ∧ (∀ j : Nat, 0 ≤ (n_m0_stray j).toInt ∧ (n_m0_stray j).toInt ≤ 99 ∧ (j % 2 = 1 → (n_m0_stray j).toInt ≤ 9)) ∧ (∀ j : Nat, 0 ≤ (n_m0_set j).toInt ∧ (n_m0_set j).toInt ≤ 9) ∧ (∀ j : Nat, 0 ≤ (n_m0_known j).toInt ∧ (n_m0_known j).toInt ≤ 2) ∧ (zCq f_m0_in n_m0_in 10 p1.toInt p2.toInt 10) ∧ (zCq f_m0_courts n_m0_courts 1 p1.toInt p2.toInt 1) ∧ (zCq f_m0_hours n_m0_hours 1 p1.toInt p2.toInt 1) ∧ (zCq f_m0_people n_m0_people 1 p1.toInt p2.toInt 1) ∧ (zCq f_m0_stray n_m0_stray 20 p1.toInt p2.toInt 20) ∧ (n_m0_lines = (F_X10_copyTown p1 p2 f_m0_lines f_m0_hours f_m0_courts f_m0_in f_m0_gates f_m0_gate f_m0_people f_m0_at0 f_m0_stray f_m0_set f_m0_truth f_m0_known).1) ∧ (n_m0_hours = (F_X10_copyTown p1 p2 f_m0_lines f_m0_hours f_m0_courts f_m0_in f_m0_gates f_m0_gate f_m0_people f_m0_at0 f_m0_stray f_m0_set f_m0_truth f_m0_known).2.1) ∧ (n_m0_courts = (F_X10_copyTown p1 p2 f_m0_lines f_m0_hours f_m0_courts f_m0_in f_m0_gates f_m0_gate f_m0_people f_m0_at0 f_m0_stray f_m0_set f_m0_truth f_m0_known).2.2.1) ∧ (n_m0_in = (F_X10_copyTown p1 p2 f_m0_lines f_m0_hours f_m0_courts f_m0_in f_m0_gates f_m0_gate f_m0_people f_m0_at0 f_m0_stray f_m0_set f_m0_truth f_m0_known).2.2.2.1) ∧ (n_m0_gates = (F_X10_copyTown p1 p2 f_m0_lines f_m0_hours f_m0_courts f_m0_in f_m0_gates f_m0_gate f_m0_people f_m0_at0 f_m0_stray f_m0_set f_m0_truth f_m0_known).2.2.2.2.1) ∧ (n_m0_gate = (F_X10_copyTown p1 p2 f_m0_lines f_m0_hours f_m0_courts f_m0_in f_m0_gates f_m0_gate f_m0_people f_m0_at0 f_m0_stray f_m0_set f_m0_truth f_m0_known).2.2.2.2.2.1) ∧ (n_m0_people = (F_X10_copyTown p1 p2 f_m0_lines f_m0_hours f_m0_courts f_m0_in f_m0_gates f_m0_gate f_m0_people f_m0_at0 f_m0_stray f_m0_set f_m0_truth f_m0_known).2.2.2.2.2.2.1) ∧ (n_m0_at0 = (F_X10_copyTown p1 p2 f_m0_lines f_m0_hours f_m0_courts f_m0_in f_m0_gates f_m0_gate f_m0_people f_m0_at0 f_m0_stray f_m0_set f_m0_truth f_m0_known).2.2.2.2.2.2.2.1) ∧ (n_m0_stray = (F_X10_copyTown p1 p2 f_m0_lines f_m0_hours f_m0_courts f_m0_in f_m0_gates f_m0_gate f_m0_people f_m0_at0 f_m0_stray f_m0_set f_m0_truth f_m0_known).2.2.2.2.2.2.2.2.1) ∧ (n_m0_set = (F_X10_copyTown p1 p2 f_m0_lines f_m0_hours f_m0_courts f_m0_in f_m0_gates f_m0_gate f_m0_people f_m0_at0 f_m0_stray f_m0_set f_m0_truth f_m0_known).2.2.2.2.2.2.2.2.2.1) ∧ (n_m0_truth = (F_X10_copyTown p1 p2 f_m0_lines f_m0_hours f_m0_courts f_m0_in f_m0_gates f_m0_gate f_m0_people f_m0_at0 f_m0_stray f_m0_set f_m0_truth f_m0_known).2.2.2.2.2.2.2.2.2.2.1) ∧ (n_m0_known = (F_X10_copyTown p1 p2 f_m0_lines f_m0_hours f_m0_courts f_m0_in f_m0_gates f_m0_gate f_m0_people f_m0_at0 f_m0_stray f_m0_set f_m0_truth f_m0_known).2.2.2.2.2.2.2.2.2.2.2) ∧ zW dC dI (zV259 m0 m0_thrown m0_width m0_many m0_cells m0_moved m0_tape m0_taped m0_at m0_token m0_place m0_value m0_word m0_bad m0_badPlace m0_fault m0_faultPlace m0_lines m0_hours m0_courts m0_in m0_gates m0_gate m0_people m0_at0 m0_stray m0_set m0_once m0_truth m0_known m0_isKept m0_strays m0_hostPerson m0_hostCourt m0_outside m0_inside m0_can m0_fewest m0_waysTo m0_then m0_two m0_nextTwo m0_three m0_nextThree m0_shut m0_worth m0_digit m0_codes m0_most m0_bestTry m0_dayCourt m0_dayHour m0_dayNo m0_x m0_lines cA_m0_lines n_m0_lines m0_hours cA_m0_hours n_m0_hours m0_courts cA_m0_courts n_m0_courts m0_in cA_m0_in n_m0_in m0_gates cA_m0_gates n_m0_gates m0_gate cA_m0_gate n_m0_gate m0_people cA_m0_people n_m0_people m0_at0 cA_m0_at0 n_m0_at0 m0_stray cA_m0_stray n_m0_stray m0_set cA_m0_set n_m0_set m0_truth cA_m0_truth n_m0_truth m0_known cA_m0_known n_m0_known) [] (va_A (zV259 m0 m0_thrown m0_width m0_many m0_cells m0_moved m0_tape m0_taped m0_at m0_token m0_place m0_value m0_word m0_bad m0_badPlace m0_fault m0_faultPlace m0_lines m0_hours m0_courts m0_in m0_gates m0_gate m0_people m0_at0 m0_stray m0_set m0_once m0_truth m0_known m0_isKept m0_strays m0_hostPerson m0_hostCourt m0_outside m0_inside m0_can m0_fewest m0_waysTo m0_then m0_two m0_nextTwo m0_three m0_nextThree m0_shut m0_worth m0_digit m0_codes m0_most m0_bestTry m0_dayCourt m0_dayHour m0_dayNo m0_x m0_lines cA_m0_lines f_m0_lines m0_hours cA_m0_hours f_m0_hours m0_courts cA_m0_courts f_m0_courts m0_in cA_m0_in f_m0_in m0_gates cA_m0_gates f_m0_gates m0_gate cA_m0_gate f_m0_gate m0_people cA_m0_people f_m0_people m0_at0 cA_m0_at0 f_m0_at0 m0_stray cA_m0_stray f_m0_stray m0_set cA_m0_set f_m0_set m0_truth cA_m0_truth f_m0_truth m0_known cA_m0_known f_m0_known) sz) t) (va_A (zV259 m0 m0_thrown m0_width m0_many m0_cells m0_moved m0_tape m0_taped m0_at m0_token m0_place m0_value m0_word m0_bad m0_badPlace m0_fault m0_faultPlace m0_lines m0_hours m0_courts m0_in m0_gates m0_gate m0_people m0_at0 m0_stray m0_set m0_once m0_truth m0_known m0_isKept m0_strays m0_hostPerson m0_hostCourt m0_outside m0_inside m0_can m0_fewest m0_waysTo m0_then m0_two m0_nextTwo m0_three m0_nextThree m0_shut m0_worth m0_digit m0_codes m0_most m0_bestTry m0_dayCourt m0_dayHour m0_dayNo m0_x m0_lines cA_m0_lines f_m0_lines m0_hours cA_m0_hours f_m0_hours m0_courts cA_m0_courts f_m0_courts m0_in cA_m0_in f_m0_in m0_gates cA_m0_gates f_m0_gates m0_gate cA_m0_gate f_m0_gate m0_people cA_m0_people f_m0_people m0_at0 cA_m0_at0 f_m0_at0 m0_stray cA_m0_stray f_m0_stray m0_set cA_m0_set f_m0_set m0_truth cA_m0_truth f_m0_truth m0_known cA_m0_known f_m0_known) sz)) 0 0 (va_A (zV259 m0 m0_thrown m0_width m0_many m0_cells m0_moved m0_tape m0_taped m0_at m0_token m0_place m0_value m0_word m0_bad m0_badPlace m0_fault m0_faultPlace m0_lines m0_hours m0_courts m0_in m0_gates m0_gate m0_people m0_at0 m0_stray m0_set m0_once m0_truth m0_known m0_isKept m0_strays m0_hostPerson m0_hostCourt m0_outside m0_inside m0_can m0_fewest m0_waysTo m0_then m0_two m0_nextTwo m0_three m0_nextThree m0_shut m0_worth m0_digit m0_codes m0_most m0_bestTry m0_dayCourt m0_dayHour m0_dayNo m0_x m0_lines cA_m0_lines f_m0_lines m0_hours cA_m0_hours f_m0_hours m0_courts cA_m0_courts f_m0_courts m0_in cA_m0_in f_m0_in m0_gates cA_m0_gates f_m0_gates m0_gate cA_m0_gate f_m0_gate m0_people cA_m0_people f_m0_people m0_at0 cA_m0_at0 f_m0_at0 m0_stray cA_m0_stray f_m0_stray m0_set cA_m0_set f_m0_set m0_truth cA_m0_truth f_m0_truth m0_known cA_m0_known f_m0_known) sz) := by
  refine z_enter (by decide) (by exact (Nat.le_of_ble_eq_true rfl)) ?_
  intro p e s m args below meth c ls A R Qc hargs hsz hQe hAe hRe hx hb hml hr hts hown hlocks hin hl hP hK hD hN hXs hA hS
  rw [hAe] at hQe
  have hown : s.vm.findClass RX10 = some m.cls := hown
  have hl : lv_has ls 3 [(0, .ref m0), (1, .int p1), (2, .int p2)] := hl
  obtain ⟨RR, hRR⟩ : ∃ z : (Nat → Int32) × (Nat → Int32) × (Nat → Int32) × (Nat → Int32) × (Nat → Int32) × (Nat → Int32) × (Nat → Int32) × (Nat → Int32) × (Nat → Int32) × (Nat → Int32) × (Nat → Int32) × (Nat → Int32), z = (F_X10_copyTown p1 p2 f_m0_lines f_m0_hours f_m0_courts f_m0_in f_m0_gates f_m0_gate f_m0_people f_m0_at0 f_m0_stray f_m0_set f_m0_truth f_m0_known) := ⟨_, rfl⟩
  have hF : RR = (F_X10_copyTown p1 p2 f_m0_lines f_m0_hours f_m0_courts f_m0_in f_m0_gates f_m0_gate f_m0_people f_m0_at0 f_m0_stray f_m0_set f_m0_truth f_m0_known) := hRR
  refine lv_aload_n hx hb dX10_copyTown_0 rfl (lv_at hl 0 rfl) ?_
  refine va_get (D := (dC, dI)) (ci := 10) (v := .ref m0_lines) (C := RX10) (T := TX10) (N := 53) hx hb hts zl_X10 hown hK hP 0 rfl rfl 16 (by decide) (hts _ zw_t6_116) (fun _ h9 => h9) rfl dX10_copyTown_1 ?_
  refine lv_iconst (v := 1) hx hb dX10_copyTown_4 (by decide) ?_
  refine lv_iload_n hx hb dX10_copyTown_5 rfl (lv_at hl 1 rfl) ?_
  refine lv_iload_n hx hb dX10_copyTown_6 rfl (lv_at hl 2 rfl) ?_
  obtain ⟨hPc, hDc, hFc⟩ := z_cut (wc := [(m0_lines, .inl (cA_m0_lines, 5, .inl f_m0_lines))]) hP hD hS hA [1] rfl (by decide +kernel)
  have hKc := hK.sub (tys' := [(cA_m0_lines, .int)]) [0] rfl
  refine va_callv (va_runS (As := [.ref m0_lines, .int 1, .int p1, .int p2]) (rest := []) ⟨hx, hb, hml, hown, hts⟩ (kf_X10_copyRow l sa dC dI m0_lines p1 p2 cA_m0_lines f_m0_lines b_p1 b_p2 s.heap.size) (va_cwS 4 hts (z_gS zw_t7_154 zw_t7_155 zw_t1_11 zw_t7_156) rfl rfl rfl (by decide +kernel) (by rw [← hRe]; exact ⟨(Nat.le_of_ble_eq_true rfl), (Nat.le_of_ble_eq_true rfl)⟩)) (z_preS hPc hKc hDc hN hXs hS hFc) rfl rfl hl.1 rfl (lv_room (Nat.le_of_ble_eq_true rfl)) dX10_copyTown_7 (by rw [← hRe]; exact ⟨(Nat.le_of_ble_eq_true rfl), (Nat.le_of_ble_eq_true rfl)⟩)) hS (fun q _ h => hFc q h) hFc (fun u t H1 locs ht hvm hw hB hz1 hk1 hS => ?_)
  obtain ⟨n_a_2, hf_3, hf_4, hB⟩ := hB
  obtain ⟨hP, hD, hK⟩ := z_after3 (wn := [(m0, .inr (10, [.int m0_thrown, .ref m0_width, .ref m0_many, .ref m0_cells, .ref m0_moved, .ref m0_tape, .int m0_taped, .int m0_at, .int m0_token, .int m0_place, .int m0_value, .long m0_word, .int m0_bad, .int m0_badPlace, .int m0_fault, .int m0_faultPlace, .ref m0_lines, .ref m0_hours, .ref m0_courts, .ref m0_in, .ref m0_gates, .ref m0_gate, .ref m0_people, .ref m0_at0, .ref m0_stray, .ref m0_set, .ref m0_once, .ref m0_truth, .ref m0_known, .ref m0_isKept, .int m0_strays, .int m0_hostPerson, .int m0_hostCourt, .int m0_outside, .ref m0_inside, .ref m0_can, .ref m0_fewest, .ref m0_waysTo, .ref m0_then, .ref m0_two, .ref m0_nextTwo, .ref m0_three, .ref m0_nextThree, .int m0_shut, .ref m0_worth, .ref m0_digit, .int m0_codes, .long m0_most, .int m0_bestTry, .int m0_dayCourt, .int m0_dayHour, .int m0_dayNo, .long m0_x])), (m0_hours, .inl (cA_m0_hours, 5, .inl f_m0_hours)), (m0_courts, .inl (cA_m0_courts, 5, .inl f_m0_courts)), (m0_in, .inl (cA_m0_in, 50, .inl f_m0_in)), (m0_gates, .inl (cA_m0_gates, 5, .inl f_m0_gates)), (m0_gate, .inl (cA_m0_gate, 160, .inl f_m0_gate)), (m0_people, .inl (cA_m0_people, 5, .inl f_m0_people)), (m0_at0, .inl (cA_m0_at0, 2400, .inl f_m0_at0)), (m0_stray, .inl (cA_m0_stray, 100, .inl f_m0_stray)), (m0_set, .inl (cA_m0_set, 10, .inl f_m0_set)), (m0_truth, .inl (cA_m0_truth, 10, .inl f_m0_truth)), (m0_known, .inl (cA_m0_known, 50, .inl f_m0_known)), (m0_lines, .inl (cA_m0_lines, 5, .inl n_a_2))]) hB ht hvm hP hD hK [1] [0, 2, 3, 4, 5, 6, 7, 8, 9, 10, 11, 12] rfl 13 rfl (by decide +kernel) rfl (by decide +kernel) hk1 hFc
  generalize H1 = H at hP hS ⊢
  have hK : va_K (dC, dI) vwCl [(cA_m0_lines, .int), (cA_m0_hours, .int), (cA_m0_courts, .int), (cA_m0_in, .int), (cA_m0_gates, .int), (cA_m0_gate, .int), (cA_m0_people, .int), (cA_m0_at0, .int), (cA_m0_stray, .int), (cA_m0_set, .int), (cA_m0_truth, .int), (cA_m0_known, .int)] s := hK
  replace hF := hF.trans (zL_eq hf_4)
  refine lv_aload_n hx hb dX10_copyTown_10 rfl (lv_at hl 0 rfl) ?_
  refine va_get (D := (dC, dI)) (ci := 10) (v := .ref m0_hours) (C := RX10) (T := TX10) (N := 53) hx hb hts zl_X10 hown hK hP 0 rfl rfl 17 (by decide) (hts _ zw_t6_117) (fun _ h9 => h9) rfl dX10_copyTown_11 ?_
  refine lv_iconst (v := 1) hx hb dX10_copyTown_14 (by decide) ?_
  refine lv_iload_n hx hb dX10_copyTown_15 rfl (lv_at hl 1 rfl) ?_
  refine lv_iload_n hx hb dX10_copyTown_16 rfl (lv_at hl 2 rfl) ?_
  obtain ⟨hPc, hDc, hFc⟩ := z_cut (wc := [(m0_hours, .inl (cA_m0_hours, 5, .inl f_m0_hours))]) hP hD hS hA [1] rfl (by decide +kernel)
  have hKc := hK.sub (tys' := [(cA_m0_hours, .int)]) [1] rfl
  refine va_callv (va_runS (As := [.ref m0_hours, .int 1, .int p1, .int p2]) (rest := []) ⟨hx, hb, hml, hown, hts⟩ (kf_X10_copyRow_v1 l sa dC dI m0_hours p1 p2 cA_m0_hours f_m0_hours b_p1 b_p2 b_f_m0_hours H.size) (va_cwS 4 hts (z_gS zw_t7_154 zw_t7_155 zw_t1_11 zw_t7_156) rfl rfl rfl (by decide +kernel) (by rw [← hRe]; exact ⟨(Nat.le_of_ble_eq_true rfl), (Nat.le_of_ble_eq_true rfl)⟩)) (z_preS hPc hKc hDc hN hXs hS hFc) rfl rfl hl.1 rfl (lv_room (Nat.le_of_ble_eq_true rfl)) dX10_copyTown_17 (by rw [← hRe]; exact ⟨(Nat.le_of_ble_eq_true rfl), (Nat.le_of_ble_eq_true rfl)⟩)) hS (fun q _ h => hFc q h) hFc (fun u t H1 locs ht hvm hw hB hz1 hk1 hS => ?_)
  obtain ⟨n_a_6, b_n_a_6, hf_7, hf_8, hB⟩ := hB
  obtain ⟨hP, hD, hK⟩ := z_after3 (wn := [(m0, .inr (10, [.int m0_thrown, .ref m0_width, .ref m0_many, .ref m0_cells, .ref m0_moved, .ref m0_tape, .int m0_taped, .int m0_at, .int m0_token, .int m0_place, .int m0_value, .long m0_word, .int m0_bad, .int m0_badPlace, .int m0_fault, .int m0_faultPlace, .ref m0_lines, .ref m0_hours, .ref m0_courts, .ref m0_in, .ref m0_gates, .ref m0_gate, .ref m0_people, .ref m0_at0, .ref m0_stray, .ref m0_set, .ref m0_once, .ref m0_truth, .ref m0_known, .ref m0_isKept, .int m0_strays, .int m0_hostPerson, .int m0_hostCourt, .int m0_outside, .ref m0_inside, .ref m0_can, .ref m0_fewest, .ref m0_waysTo, .ref m0_then, .ref m0_two, .ref m0_nextTwo, .ref m0_three, .ref m0_nextThree, .int m0_shut, .ref m0_worth, .ref m0_digit, .int m0_codes, .long m0_most, .int m0_bestTry, .int m0_dayCourt, .int m0_dayHour, .int m0_dayNo, .long m0_x])), (m0_courts, .inl (cA_m0_courts, 5, .inl f_m0_courts)), (m0_in, .inl (cA_m0_in, 50, .inl f_m0_in)), (m0_gates, .inl (cA_m0_gates, 5, .inl f_m0_gates)), (m0_gate, .inl (cA_m0_gate, 160, .inl f_m0_gate)), (m0_people, .inl (cA_m0_people, 5, .inl f_m0_people)), (m0_at0, .inl (cA_m0_at0, 2400, .inl f_m0_at0)), (m0_stray, .inl (cA_m0_stray, 100, .inl f_m0_stray)), (m0_set, .inl (cA_m0_set, 10, .inl f_m0_set)), (m0_truth, .inl (cA_m0_truth, 10, .inl f_m0_truth)), (m0_known, .inl (cA_m0_known, 50, .inl f_m0_known)), (m0_lines, .inl (cA_m0_lines, 5, .inl n_a_2)), (m0_hours, .inl (cA_m0_hours, 5, .inl n_a_6))]) hB ht hvm hP hD hK [1] [0, 2, 3, 4, 5, 6, 7, 8, 9, 10, 11, 12] rfl 13 rfl (by decide +kernel) rfl (by decide +kernel) hk1 hFc
  generalize H1 = H at hP hS ⊢
  have hK : va_K (dC, dI) vwCl [(cA_m0_lines, .int), (cA_m0_hours, .int), (cA_m0_courts, .int), (cA_m0_in, .int), (cA_m0_gates, .int), (cA_m0_gate, .int), (cA_m0_people, .int), (cA_m0_at0, .int), (cA_m0_stray, .int), (cA_m0_set, .int), (cA_m0_truth, .int), (cA_m0_known, .int)] s := hK
  replace hF := hF.trans (zL_eq hf_8)
  refine lv_aload_n hx hb dX10_copyTown_20 rfl (lv_at hl 0 rfl) ?_
  refine va_get (D := (dC, dI)) (ci := 10) (v := .ref m0_courts) (C := RX10) (T := TX10) (N := 53) hx hb hts zl_X10 hown hK hP 0 rfl rfl 18 (by decide) (hts _ zw_t6_118) (fun _ h9 => h9) rfl dX10_copyTown_21 ?_
  refine lv_iconst (v := 1) hx hb dX10_copyTown_24 (by decide) ?_
  refine lv_iload_n hx hb dX10_copyTown_25 rfl (lv_at hl 1 rfl) ?_
  refine lv_iload_n hx hb dX10_copyTown_26 rfl (lv_at hl 2 rfl) ?_
  obtain ⟨hPc, hDc, hFc⟩ := z_cut (wc := [(m0_courts, .inl (cA_m0_courts, 5, .inl f_m0_courts))]) hP hD hS hA [1] rfl (by decide +kernel)
  have hKc := hK.sub (tys' := [(cA_m0_courts, .int)]) [2] rfl
  refine va_callv (va_runS (As := [.ref m0_courts, .int 1, .int p1, .int p2]) (rest := []) ⟨hx, hb, hml, hown, hts⟩ (kf_X10_copyRow_v2 l sa dC dI m0_courts p1 p2 cA_m0_courts f_m0_courts b_p1 b_p2 b_f_m0_courts H.size) (va_cwS 4 hts (z_gS zw_t7_154 zw_t7_155 zw_t1_11 zw_t7_156) rfl rfl rfl (by decide +kernel) (by rw [← hRe]; exact ⟨(Nat.le_of_ble_eq_true rfl), (Nat.le_of_ble_eq_true rfl)⟩)) (z_preS hPc hKc hDc hN hXs hS hFc) rfl rfl hl.1 rfl (lv_room (Nat.le_of_ble_eq_true rfl)) dX10_copyTown_27 (by rw [← hRe]; exact ⟨(Nat.le_of_ble_eq_true rfl), (Nat.le_of_ble_eq_true rfl)⟩)) hS (fun q _ h => hFc q h) hFc (fun u t H1 locs ht hvm hw hB hz1 hk1 hS => ?_)
  obtain ⟨n_a_10, b_n_a_10, hf_11, hf_12, hB⟩ := hB
  obtain ⟨hP, hD, hK⟩ := z_after3 (wn := [(m0, .inr (10, [.int m0_thrown, .ref m0_width, .ref m0_many, .ref m0_cells, .ref m0_moved, .ref m0_tape, .int m0_taped, .int m0_at, .int m0_token, .int m0_place, .int m0_value, .long m0_word, .int m0_bad, .int m0_badPlace, .int m0_fault, .int m0_faultPlace, .ref m0_lines, .ref m0_hours, .ref m0_courts, .ref m0_in, .ref m0_gates, .ref m0_gate, .ref m0_people, .ref m0_at0, .ref m0_stray, .ref m0_set, .ref m0_once, .ref m0_truth, .ref m0_known, .ref m0_isKept, .int m0_strays, .int m0_hostPerson, .int m0_hostCourt, .int m0_outside, .ref m0_inside, .ref m0_can, .ref m0_fewest, .ref m0_waysTo, .ref m0_then, .ref m0_two, .ref m0_nextTwo, .ref m0_three, .ref m0_nextThree, .int m0_shut, .ref m0_worth, .ref m0_digit, .int m0_codes, .long m0_most, .int m0_bestTry, .int m0_dayCourt, .int m0_dayHour, .int m0_dayNo, .long m0_x])), (m0_in, .inl (cA_m0_in, 50, .inl f_m0_in)), (m0_gates, .inl (cA_m0_gates, 5, .inl f_m0_gates)), (m0_gate, .inl (cA_m0_gate, 160, .inl f_m0_gate)), (m0_people, .inl (cA_m0_people, 5, .inl f_m0_people)), (m0_at0, .inl (cA_m0_at0, 2400, .inl f_m0_at0)), (m0_stray, .inl (cA_m0_stray, 100, .inl f_m0_stray)), (m0_set, .inl (cA_m0_set, 10, .inl f_m0_set)), (m0_truth, .inl (cA_m0_truth, 10, .inl f_m0_truth)), (m0_known, .inl (cA_m0_known, 50, .inl f_m0_known)), (m0_lines, .inl (cA_m0_lines, 5, .inl n_a_2)), (m0_hours, .inl (cA_m0_hours, 5, .inl n_a_6)), (m0_courts, .inl (cA_m0_courts, 5, .inl n_a_10))]) hB ht hvm hP hD hK [1] [0, 2, 3, 4, 5, 6, 7, 8, 9, 10, 11, 12] rfl 13 rfl (by decide +kernel) rfl (by decide +kernel) hk1 hFc
  generalize H1 = H at hP hS ⊢
  have hK : va_K (dC, dI) vwCl [(cA_m0_lines, .int), (cA_m0_hours, .int), (cA_m0_courts, .int), (cA_m0_in, .int), (cA_m0_gates, .int), (cA_m0_gate, .int), (cA_m0_people, .int), (cA_m0_at0, .int), (cA_m0_stray, .int), (cA_m0_set, .int), (cA_m0_truth, .int), (cA_m0_known, .int)] s := hK
  replace hF := hF.trans (zL_eq hf_12)
  refine lv_aload_n hx hb dX10_copyTown_30 rfl (lv_at hl 0 rfl) ?_
  refine va_get (D := (dC, dI)) (ci := 10) (v := .ref m0_in) (C := RX10) (T := TX10) (N := 53) hx hb hts zl_X10 hown hK hP 0 rfl rfl 19 (by decide) (hts _ zw_t6_119) (fun _ h9 => h9) rfl dX10_copyTown_31 ?_
  refine lv_bipush (v := 10) hx hb dX10_copyTown_34 (by decide) ?_
  refine lv_iload_n hx hb dX10_copyTown_36 rfl (lv_at hl 1 rfl) ?_
  refine lv_iload_n hx hb dX10_copyTown_37 rfl (lv_at hl 2 rfl) ?_
  obtain ⟨hPc, hDc, hFc⟩ := z_cut (wc := [(m0_in, .inl (cA_m0_in, 50, .inl f_m0_in))]) hP hD hS hA [1] rfl (by decide +kernel)
  have hKc := hK.sub (tys' := [(cA_m0_in, .int)]) [3] rfl
  refine va_callv (va_runS (As := [.ref m0_in, .int 10, .int p1, .int p2]) (rest := []) ⟨hx, hb, hml, hown, hts⟩ (kf_X10_copyRow_v3 l sa dC dI m0_in p1 p2 cA_m0_in f_m0_in b_p1 b_p2 b_f_m0_in H.size) (va_cwS 4 hts (z_gS zw_t7_154 zw_t7_155 zw_t1_11 zw_t7_156) rfl rfl rfl (by decide +kernel) (by rw [← hRe]; exact ⟨(Nat.le_of_ble_eq_true rfl), (Nat.le_of_ble_eq_true rfl)⟩)) (z_preS hPc hKc hDc hN hXs hS hFc) rfl rfl hl.1 rfl (lv_room (Nat.le_of_ble_eq_true rfl)) dX10_copyTown_38 (by rw [← hRe]; exact ⟨(Nat.le_of_ble_eq_true rfl), (Nat.le_of_ble_eq_true rfl)⟩)) hS (fun q _ h => hFc q h) hFc (fun u t H1 locs ht hvm hw hB hz1 hk1 hS => ?_)
  obtain ⟨n_a_14, b_n_a_14, hf_15, hf_16, hB⟩ := hB
  obtain ⟨hP, hD, hK⟩ := z_after3 (wn := [(m0, .inr (10, [.int m0_thrown, .ref m0_width, .ref m0_many, .ref m0_cells, .ref m0_moved, .ref m0_tape, .int m0_taped, .int m0_at, .int m0_token, .int m0_place, .int m0_value, .long m0_word, .int m0_bad, .int m0_badPlace, .int m0_fault, .int m0_faultPlace, .ref m0_lines, .ref m0_hours, .ref m0_courts, .ref m0_in, .ref m0_gates, .ref m0_gate, .ref m0_people, .ref m0_at0, .ref m0_stray, .ref m0_set, .ref m0_once, .ref m0_truth, .ref m0_known, .ref m0_isKept, .int m0_strays, .int m0_hostPerson, .int m0_hostCourt, .int m0_outside, .ref m0_inside, .ref m0_can, .ref m0_fewest, .ref m0_waysTo, .ref m0_then, .ref m0_two, .ref m0_nextTwo, .ref m0_three, .ref m0_nextThree, .int m0_shut, .ref m0_worth, .ref m0_digit, .int m0_codes, .long m0_most, .int m0_bestTry, .int m0_dayCourt, .int m0_dayHour, .int m0_dayNo, .long m0_x])), (m0_gates, .inl (cA_m0_gates, 5, .inl f_m0_gates)), (m0_gate, .inl (cA_m0_gate, 160, .inl f_m0_gate)), (m0_people, .inl (cA_m0_people, 5, .inl f_m0_people)), (m0_at0, .inl (cA_m0_at0, 2400, .inl f_m0_at0)), (m0_stray, .inl (cA_m0_stray, 100, .inl f_m0_stray)), (m0_set, .inl (cA_m0_set, 10, .inl f_m0_set)), (m0_truth, .inl (cA_m0_truth, 10, .inl f_m0_truth)), (m0_known, .inl (cA_m0_known, 50, .inl f_m0_known)), (m0_lines, .inl (cA_m0_lines, 5, .inl n_a_2)), (m0_hours, .inl (cA_m0_hours, 5, .inl n_a_6)), (m0_courts, .inl (cA_m0_courts, 5, .inl n_a_10)), (m0_in, .inl (cA_m0_in, 50, .inl n_a_14))]) hB ht hvm hP hD hK [1] [0, 2, 3, 4, 5, 6, 7, 8, 9, 10, 11, 12] rfl 13 rfl (by decide +kernel) rfl (by decide +kernel) hk1 hFc
  generalize H1 = H at hP hS ⊢
  have hK : va_K (dC, dI) vwCl [(cA_m0_lines, .int), (cA_m0_hours, .int), (cA_m0_courts, .int), (cA_m0_in, .int), (cA_m0_gates, .int), (cA_m0_gate, .int), (cA_m0_people, .int), (cA_m0_at0, .int), (cA_m0_stray, .int), (cA_m0_set, .int), (cA_m0_truth, .int), (cA_m0_known, .int)] s := hK
  replace hF := hF.trans (zL_eq hf_16)
  refine lv_aload_n hx hb dX10_copyTown_41 rfl (lv_at hl 0 rfl) ?_
  refine va_get (D := (dC, dI)) (ci := 10) (v := .ref m0_gates) (C := RX10) (T := TX10) (N := 53) hx hb hts zl_X10 hown hK hP 0 rfl rfl 20 (by decide) (hts _ zw_t6_120) (fun _ h9 => h9) rfl dX10_copyTown_42 ?_
  refine lv_iconst (v := 1) hx hb dX10_copyTown_45 (by decide) ?_
  refine lv_iload_n hx hb dX10_copyTown_46 rfl (lv_at hl 1 rfl) ?_
  refine lv_iload_n hx hb dX10_copyTown_47 rfl (lv_at hl 2 rfl) ?_
  obtain ⟨hPc, hDc, hFc⟩ := z_cut (wc := [(m0_gates, .inl (cA_m0_gates, 5, .inl f_m0_gates))]) hP hD hS hA [1] rfl (by decide +kernel)
  have hKc := hK.sub (tys' := [(cA_m0_gates, .int)]) [4] rfl
  refine va_callv (va_runS (As := [.ref m0_gates, .int 1, .int p1, .int p2]) (rest := []) ⟨hx, hb, hml, hown, hts⟩ (kf_X10_copyRow_v4 l sa dC dI m0_gates p1 p2 cA_m0_gates f_m0_gates b_p1 b_p2 b_f_m0_gates H.size) (va_cwS 4 hts (z_gS zw_t7_154 zw_t7_155 zw_t1_11 zw_t7_156) rfl rfl rfl (by decide +kernel) (by rw [← hRe]; exact ⟨(Nat.le_of_ble_eq_true rfl), (Nat.le_of_ble_eq_true rfl)⟩)) (z_preS hPc hKc hDc hN hXs hS hFc) rfl rfl hl.1 rfl (lv_room (Nat.le_of_ble_eq_true rfl)) dX10_copyTown_48 (by rw [← hRe]; exact ⟨(Nat.le_of_ble_eq_true rfl), (Nat.le_of_ble_eq_true rfl)⟩)) hS (fun q _ h => hFc q h) hFc (fun u t H1 locs ht hvm hw hB hz1 hk1 hS => ?_)
  obtain ⟨n_a_18, b_n_a_18, hf_19, hf_20, hB⟩ := hB
  obtain ⟨hP, hD, hK⟩ := z_after3 (wn := [(m0, .inr (10, [.int m0_thrown, .ref m0_width, .ref m0_many, .ref m0_cells, .ref m0_moved, .ref m0_tape, .int m0_taped, .int m0_at, .int m0_token, .int m0_place, .int m0_value, .long m0_word, .int m0_bad, .int m0_badPlace, .int m0_fault, .int m0_faultPlace, .ref m0_lines, .ref m0_hours, .ref m0_courts, .ref m0_in, .ref m0_gates, .ref m0_gate, .ref m0_people, .ref m0_at0, .ref m0_stray, .ref m0_set, .ref m0_once, .ref m0_truth, .ref m0_known, .ref m0_isKept, .int m0_strays, .int m0_hostPerson, .int m0_hostCourt, .int m0_outside, .ref m0_inside, .ref m0_can, .ref m0_fewest, .ref m0_waysTo, .ref m0_then, .ref m0_two, .ref m0_nextTwo, .ref m0_three, .ref m0_nextThree, .int m0_shut, .ref m0_worth, .ref m0_digit, .int m0_codes, .long m0_most, .int m0_bestTry, .int m0_dayCourt, .int m0_dayHour, .int m0_dayNo, .long m0_x])), (m0_gate, .inl (cA_m0_gate, 160, .inl f_m0_gate)), (m0_people, .inl (cA_m0_people, 5, .inl f_m0_people)), (m0_at0, .inl (cA_m0_at0, 2400, .inl f_m0_at0)), (m0_stray, .inl (cA_m0_stray, 100, .inl f_m0_stray)), (m0_set, .inl (cA_m0_set, 10, .inl f_m0_set)), (m0_truth, .inl (cA_m0_truth, 10, .inl f_m0_truth)), (m0_known, .inl (cA_m0_known, 50, .inl f_m0_known)), (m0_lines, .inl (cA_m0_lines, 5, .inl n_a_2)), (m0_hours, .inl (cA_m0_hours, 5, .inl n_a_6)), (m0_courts, .inl (cA_m0_courts, 5, .inl n_a_10)), (m0_in, .inl (cA_m0_in, 50, .inl n_a_14)), (m0_gates, .inl (cA_m0_gates, 5, .inl n_a_18))]) hB ht hvm hP hD hK [1] [0, 2, 3, 4, 5, 6, 7, 8, 9, 10, 11, 12] rfl 13 rfl (by decide +kernel) rfl (by decide +kernel) hk1 hFc
  generalize H1 = H at hP hS ⊢
  have hK : va_K (dC, dI) vwCl [(cA_m0_lines, .int), (cA_m0_hours, .int), (cA_m0_courts, .int), (cA_m0_in, .int), (cA_m0_gates, .int), (cA_m0_gate, .int), (cA_m0_people, .int), (cA_m0_at0, .int), (cA_m0_stray, .int), (cA_m0_set, .int), (cA_m0_truth, .int), (cA_m0_known, .int)] s := hK
  replace hF := hF.trans (zL_eq hf_20)
  refine lv_aload_n hx hb dX10_copyTown_51 rfl (lv_at hl 0 rfl) ?_
  refine va_get (D := (dC, dI)) (ci := 10) (v := .ref m0_gate) (C := RX10) (T := TX10) (N := 53) hx hb hts zl_X10 hown hK hP 0 rfl rfl 21 (by decide) (hts _ zw_t6_121) (fun _ h9 => h9) rfl dX10_copyTown_52 ?_
  refine lv_bipush (v := 32) hx hb dX10_copyTown_55 (by decide) ?_
  refine lv_iload_n hx hb dX10_copyTown_57 rfl (lv_at hl 1 rfl) ?_
  refine lv_iload_n hx hb dX10_copyTown_58 rfl (lv_at hl 2 rfl) ?_
  obtain ⟨hPc, hDc, hFc⟩ := z_cut (wc := [(m0_gate, .inl (cA_m0_gate, 160, .inl f_m0_gate))]) hP hD hS hA [1] rfl (by decide +kernel)
  have hKc := hK.sub (tys' := [(cA_m0_gate, .int)]) [5] rfl
  refine va_callv (va_runS (As := [.ref m0_gate, .int 32, .int p1, .int p2]) (rest := []) ⟨hx, hb, hml, hown, hts⟩ (kf_X10_copyRow_v5 l sa dC dI m0_gate p1 p2 cA_m0_gate f_m0_gate b_p1 b_p2 b_f_m0_gate H.size) (va_cwS 4 hts (z_gS zw_t7_154 zw_t7_155 zw_t1_11 zw_t7_156) rfl rfl rfl (by decide +kernel) (by rw [← hRe]; exact ⟨(Nat.le_of_ble_eq_true rfl), (Nat.le_of_ble_eq_true rfl)⟩)) (z_preS hPc hKc hDc hN hXs hS hFc) rfl rfl hl.1 rfl (lv_room (Nat.le_of_ble_eq_true rfl)) dX10_copyTown_59 (by rw [← hRe]; exact ⟨(Nat.le_of_ble_eq_true rfl), (Nat.le_of_ble_eq_true rfl)⟩)) hS (fun q _ h => hFc q h) hFc (fun u t H1 locs ht hvm hw hB hz1 hk1 hS => ?_)
  obtain ⟨n_a_22, b_n_a_22, hf_23, hf_24, hB⟩ := hB
  obtain ⟨hP, hD, hK⟩ := z_after3 (wn := [(m0, .inr (10, [.int m0_thrown, .ref m0_width, .ref m0_many, .ref m0_cells, .ref m0_moved, .ref m0_tape, .int m0_taped, .int m0_at, .int m0_token, .int m0_place, .int m0_value, .long m0_word, .int m0_bad, .int m0_badPlace, .int m0_fault, .int m0_faultPlace, .ref m0_lines, .ref m0_hours, .ref m0_courts, .ref m0_in, .ref m0_gates, .ref m0_gate, .ref m0_people, .ref m0_at0, .ref m0_stray, .ref m0_set, .ref m0_once, .ref m0_truth, .ref m0_known, .ref m0_isKept, .int m0_strays, .int m0_hostPerson, .int m0_hostCourt, .int m0_outside, .ref m0_inside, .ref m0_can, .ref m0_fewest, .ref m0_waysTo, .ref m0_then, .ref m0_two, .ref m0_nextTwo, .ref m0_three, .ref m0_nextThree, .int m0_shut, .ref m0_worth, .ref m0_digit, .int m0_codes, .long m0_most, .int m0_bestTry, .int m0_dayCourt, .int m0_dayHour, .int m0_dayNo, .long m0_x])), (m0_people, .inl (cA_m0_people, 5, .inl f_m0_people)), (m0_at0, .inl (cA_m0_at0, 2400, .inl f_m0_at0)), (m0_stray, .inl (cA_m0_stray, 100, .inl f_m0_stray)), (m0_set, .inl (cA_m0_set, 10, .inl f_m0_set)), (m0_truth, .inl (cA_m0_truth, 10, .inl f_m0_truth)), (m0_known, .inl (cA_m0_known, 50, .inl f_m0_known)), (m0_lines, .inl (cA_m0_lines, 5, .inl n_a_2)), (m0_hours, .inl (cA_m0_hours, 5, .inl n_a_6)), (m0_courts, .inl (cA_m0_courts, 5, .inl n_a_10)), (m0_in, .inl (cA_m0_in, 50, .inl n_a_14)), (m0_gates, .inl (cA_m0_gates, 5, .inl n_a_18)), (m0_gate, .inl (cA_m0_gate, 160, .inl n_a_22))]) hB ht hvm hP hD hK [1] [0, 2, 3, 4, 5, 6, 7, 8, 9, 10, 11, 12] rfl 13 rfl (by decide +kernel) rfl (by decide +kernel) hk1 hFc
  generalize H1 = H at hP hS ⊢
  have hK : va_K (dC, dI) vwCl [(cA_m0_lines, .int), (cA_m0_hours, .int), (cA_m0_courts, .int), (cA_m0_in, .int), (cA_m0_gates, .int), (cA_m0_gate, .int), (cA_m0_people, .int), (cA_m0_at0, .int), (cA_m0_stray, .int), (cA_m0_set, .int), (cA_m0_truth, .int), (cA_m0_known, .int)] s := hK
  replace hF := hF.trans (zL_eq hf_24)
  refine lv_aload_n hx hb dX10_copyTown_62 rfl (lv_at hl 0 rfl) ?_
  refine va_get (D := (dC, dI)) (ci := 10) (v := .ref m0_people) (C := RX10) (T := TX10) (N := 53) hx hb hts zl_X10 hown hK hP 0 rfl rfl 22 (by decide) (hts _ zw_t6_122) (fun _ h9 => h9) rfl dX10_copyTown_63 ?_
  refine lv_iconst (v := 1) hx hb dX10_copyTown_66 (by decide) ?_
  refine lv_iload_n hx hb dX10_copyTown_67 rfl (lv_at hl 1 rfl) ?_
  refine lv_iload_n hx hb dX10_copyTown_68 rfl (lv_at hl 2 rfl) ?_
  obtain ⟨hPc, hDc, hFc⟩ := z_cut (wc := [(m0_people, .inl (cA_m0_people, 5, .inl f_m0_people))]) hP hD hS hA [1] rfl (by decide +kernel)
  have hKc := hK.sub (tys' := [(cA_m0_people, .int)]) [6] rfl
  refine va_callv (va_runS (As := [.ref m0_people, .int 1, .int p1, .int p2]) (rest := []) ⟨hx, hb, hml, hown, hts⟩ (kf_X10_copyRow_v2 l sa dC dI m0_people p1 p2 cA_m0_people f_m0_people b_p1 b_p2 b_f_m0_people H.size) (va_cwS 4 hts (z_gS zw_t7_154 zw_t7_155 zw_t1_11 zw_t7_156) rfl rfl rfl (by decide +kernel) (by rw [← hRe]; exact ⟨(Nat.le_of_ble_eq_true rfl), (Nat.le_of_ble_eq_true rfl)⟩)) (z_preS hPc hKc hDc hN hXs hS hFc) rfl rfl hl.1 rfl (lv_room (Nat.le_of_ble_eq_true rfl)) dX10_copyTown_69 (by rw [← hRe]; exact ⟨(Nat.le_of_ble_eq_true rfl), (Nat.le_of_ble_eq_true rfl)⟩)) hS (fun q _ h => hFc q h) hFc (fun u t H1 locs ht hvm hw hB hz1 hk1 hS => ?_)
  obtain ⟨n_a_26, b_n_a_26, hf_27, hf_28, hB⟩ := hB
  obtain ⟨hP, hD, hK⟩ := z_after3 (wn := [(m0, .inr (10, [.int m0_thrown, .ref m0_width, .ref m0_many, .ref m0_cells, .ref m0_moved, .ref m0_tape, .int m0_taped, .int m0_at, .int m0_token, .int m0_place, .int m0_value, .long m0_word, .int m0_bad, .int m0_badPlace, .int m0_fault, .int m0_faultPlace, .ref m0_lines, .ref m0_hours, .ref m0_courts, .ref m0_in, .ref m0_gates, .ref m0_gate, .ref m0_people, .ref m0_at0, .ref m0_stray, .ref m0_set, .ref m0_once, .ref m0_truth, .ref m0_known, .ref m0_isKept, .int m0_strays, .int m0_hostPerson, .int m0_hostCourt, .int m0_outside, .ref m0_inside, .ref m0_can, .ref m0_fewest, .ref m0_waysTo, .ref m0_then, .ref m0_two, .ref m0_nextTwo, .ref m0_three, .ref m0_nextThree, .int m0_shut, .ref m0_worth, .ref m0_digit, .int m0_codes, .long m0_most, .int m0_bestTry, .int m0_dayCourt, .int m0_dayHour, .int m0_dayNo, .long m0_x])), (m0_at0, .inl (cA_m0_at0, 2400, .inl f_m0_at0)), (m0_stray, .inl (cA_m0_stray, 100, .inl f_m0_stray)), (m0_set, .inl (cA_m0_set, 10, .inl f_m0_set)), (m0_truth, .inl (cA_m0_truth, 10, .inl f_m0_truth)), (m0_known, .inl (cA_m0_known, 50, .inl f_m0_known)), (m0_lines, .inl (cA_m0_lines, 5, .inl n_a_2)), (m0_hours, .inl (cA_m0_hours, 5, .inl n_a_6)), (m0_courts, .inl (cA_m0_courts, 5, .inl n_a_10)), (m0_in, .inl (cA_m0_in, 50, .inl n_a_14)), (m0_gates, .inl (cA_m0_gates, 5, .inl n_a_18)), (m0_gate, .inl (cA_m0_gate, 160, .inl n_a_22)), (m0_people, .inl (cA_m0_people, 5, .inl n_a_26))]) hB ht hvm hP hD hK [1] [0, 2, 3, 4, 5, 6, 7, 8, 9, 10, 11, 12] rfl 13 rfl (by decide +kernel) rfl (by decide +kernel) hk1 hFc
  generalize H1 = H at hP hS ⊢
  have hK : va_K (dC, dI) vwCl [(cA_m0_lines, .int), (cA_m0_hours, .int), (cA_m0_courts, .int), (cA_m0_in, .int), (cA_m0_gates, .int), (cA_m0_gate, .int), (cA_m0_people, .int), (cA_m0_at0, .int), (cA_m0_stray, .int), (cA_m0_set, .int), (cA_m0_truth, .int), (cA_m0_known, .int)] s := hK
  replace hF := hF.trans (zL_eq hf_28)
  refine lv_aload_n hx hb dX10_copyTown_72 rfl (lv_at hl 0 rfl) ?_
  refine va_get (D := (dC, dI)) (ci := 10) (v := .ref m0_at0) (C := RX10) (T := TX10) (N := 53) hx hb hts zl_X10 hown hK hP 0 rfl rfl 23 (by decide) (hts _ zw_t6_123) (fun _ h9 => h9) rfl dX10_copyTown_73 ?_
  refine lv_sipush (v := 480) hx hb dX10_copyTown_76 (by decide) ?_
  refine lv_iload_n hx hb dX10_copyTown_79 rfl (lv_at hl 1 rfl) ?_
  refine lv_iload_n hx hb dX10_copyTown_80 rfl (lv_at hl 2 rfl) ?_
  obtain ⟨hPc, hDc, hFc⟩ := z_cut (wc := [(m0_at0, .inl (cA_m0_at0, 2400, .inl f_m0_at0))]) hP hD hS hA [1] rfl (by decide +kernel)
  have hKc := hK.sub (tys' := [(cA_m0_at0, .int)]) [7] rfl
  refine va_callv (va_runS (As := [.ref m0_at0, .int 480, .int p1, .int p2]) (rest := []) ⟨hx, hb, hml, hown, hts⟩ (kf_X10_copyRow_v6 l sa dC dI m0_at0 p1 p2 cA_m0_at0 f_m0_at0 b_p1 b_p2 b_f_m0_at0 H.size) (va_cwS 4 hts (z_gS zw_t7_154 zw_t7_155 zw_t1_11 zw_t7_156) rfl rfl rfl (by decide +kernel) (by rw [← hRe]; exact ⟨(Nat.le_of_ble_eq_true rfl), (Nat.le_of_ble_eq_true rfl)⟩)) (z_preS hPc hKc hDc hN hXs hS hFc) rfl rfl hl.1 rfl (lv_room (Nat.le_of_ble_eq_true rfl)) dX10_copyTown_81 (by rw [← hRe]; exact ⟨(Nat.le_of_ble_eq_true rfl), (Nat.le_of_ble_eq_true rfl)⟩)) hS (fun q _ h => hFc q h) hFc (fun u t H1 locs ht hvm hw hB hz1 hk1 hS => ?_)
  obtain ⟨n_a_30, b_n_a_30, hf_31, hf_32, hB⟩ := hB
  obtain ⟨hP, hD, hK⟩ := z_after3 (wn := [(m0, .inr (10, [.int m0_thrown, .ref m0_width, .ref m0_many, .ref m0_cells, .ref m0_moved, .ref m0_tape, .int m0_taped, .int m0_at, .int m0_token, .int m0_place, .int m0_value, .long m0_word, .int m0_bad, .int m0_badPlace, .int m0_fault, .int m0_faultPlace, .ref m0_lines, .ref m0_hours, .ref m0_courts, .ref m0_in, .ref m0_gates, .ref m0_gate, .ref m0_people, .ref m0_at0, .ref m0_stray, .ref m0_set, .ref m0_once, .ref m0_truth, .ref m0_known, .ref m0_isKept, .int m0_strays, .int m0_hostPerson, .int m0_hostCourt, .int m0_outside, .ref m0_inside, .ref m0_can, .ref m0_fewest, .ref m0_waysTo, .ref m0_then, .ref m0_two, .ref m0_nextTwo, .ref m0_three, .ref m0_nextThree, .int m0_shut, .ref m0_worth, .ref m0_digit, .int m0_codes, .long m0_most, .int m0_bestTry, .int m0_dayCourt, .int m0_dayHour, .int m0_dayNo, .long m0_x])), (m0_stray, .inl (cA_m0_stray, 100, .inl f_m0_stray)), (m0_set, .inl (cA_m0_set, 10, .inl f_m0_set)), (m0_truth, .inl (cA_m0_truth, 10, .inl f_m0_truth)), (m0_known, .inl (cA_m0_known, 50, .inl f_m0_known)), (m0_lines, .inl (cA_m0_lines, 5, .inl n_a_2)), (m0_hours, .inl (cA_m0_hours, 5, .inl n_a_6)), (m0_courts, .inl (cA_m0_courts, 5, .inl n_a_10)), (m0_in, .inl (cA_m0_in, 50, .inl n_a_14)), (m0_gates, .inl (cA_m0_gates, 5, .inl n_a_18)), (m0_gate, .inl (cA_m0_gate, 160, .inl n_a_22)), (m0_people, .inl (cA_m0_people, 5, .inl n_a_26)), (m0_at0, .inl (cA_m0_at0, 2400, .inl n_a_30))]) hB ht hvm hP hD hK [1] [0, 2, 3, 4, 5, 6, 7, 8, 9, 10, 11, 12] rfl 13 rfl (by decide +kernel) rfl (by decide +kernel) hk1 hFc
  generalize H1 = H at hP hS ⊢
  have hK : va_K (dC, dI) vwCl [(cA_m0_lines, .int), (cA_m0_hours, .int), (cA_m0_courts, .int), (cA_m0_in, .int), (cA_m0_gates, .int), (cA_m0_gate, .int), (cA_m0_people, .int), (cA_m0_at0, .int), (cA_m0_stray, .int), (cA_m0_set, .int), (cA_m0_truth, .int), (cA_m0_known, .int)] s := hK
  replace hF := hF.trans (zL_eq hf_32)
  refine lv_aload_n hx hb dX10_copyTown_84 rfl (lv_at hl 0 rfl) ?_
  refine va_get (D := (dC, dI)) (ci := 10) (v := .ref m0_stray) (C := RX10) (T := TX10) (N := 53) hx hb hts zl_X10 hown hK hP 0 rfl rfl 24 (by decide) (hts _ zw_t6_124) (fun _ h9 => h9) rfl dX10_copyTown_85 ?_
  refine lv_bipush (v := 20) hx hb dX10_copyTown_88 (by decide) ?_
  refine lv_iload_n hx hb dX10_copyTown_90 rfl (lv_at hl 1 rfl) ?_
  refine lv_iload_n hx hb dX10_copyTown_91 rfl (lv_at hl 2 rfl) ?_
  obtain ⟨hPc, hDc, hFc⟩ := z_cut (wc := [(m0_stray, .inl (cA_m0_stray, 100, .inl f_m0_stray))]) hP hD hS hA [1] rfl (by decide +kernel)
  have hKc := hK.sub (tys' := [(cA_m0_stray, .int)]) [8] rfl
  refine va_callv (va_runS (As := [.ref m0_stray, .int 20, .int p1, .int p2]) (rest := []) ⟨hx, hb, hml, hown, hts⟩ (kf_X10_copyRow_v7 l sa dC dI m0_stray p1 p2 cA_m0_stray f_m0_stray b_p1 b_p2 b_f_m0_stray H.size) (va_cwS 4 hts (z_gS zw_t7_154 zw_t7_155 zw_t1_11 zw_t7_156) rfl rfl rfl (by decide +kernel) (by rw [← hRe]; exact ⟨(Nat.le_of_ble_eq_true rfl), (Nat.le_of_ble_eq_true rfl)⟩)) (z_preS hPc hKc hDc hN hXs hS hFc) rfl rfl hl.1 rfl (lv_room (Nat.le_of_ble_eq_true rfl)) dX10_copyTown_92 (by rw [← hRe]; exact ⟨(Nat.le_of_ble_eq_true rfl), (Nat.le_of_ble_eq_true rfl)⟩)) hS (fun q _ h => hFc q h) hFc (fun u t H1 locs ht hvm hw hB hz1 hk1 hS => ?_)
  obtain ⟨n_a_34, b_n_a_34, hf_35, hf_36, hB⟩ := hB
  obtain ⟨hP, hD, hK⟩ := z_after3 (wn := [(m0, .inr (10, [.int m0_thrown, .ref m0_width, .ref m0_many, .ref m0_cells, .ref m0_moved, .ref m0_tape, .int m0_taped, .int m0_at, .int m0_token, .int m0_place, .int m0_value, .long m0_word, .int m0_bad, .int m0_badPlace, .int m0_fault, .int m0_faultPlace, .ref m0_lines, .ref m0_hours, .ref m0_courts, .ref m0_in, .ref m0_gates, .ref m0_gate, .ref m0_people, .ref m0_at0, .ref m0_stray, .ref m0_set, .ref m0_once, .ref m0_truth, .ref m0_known, .ref m0_isKept, .int m0_strays, .int m0_hostPerson, .int m0_hostCourt, .int m0_outside, .ref m0_inside, .ref m0_can, .ref m0_fewest, .ref m0_waysTo, .ref m0_then, .ref m0_two, .ref m0_nextTwo, .ref m0_three, .ref m0_nextThree, .int m0_shut, .ref m0_worth, .ref m0_digit, .int m0_codes, .long m0_most, .int m0_bestTry, .int m0_dayCourt, .int m0_dayHour, .int m0_dayNo, .long m0_x])), (m0_set, .inl (cA_m0_set, 10, .inl f_m0_set)), (m0_truth, .inl (cA_m0_truth, 10, .inl f_m0_truth)), (m0_known, .inl (cA_m0_known, 50, .inl f_m0_known)), (m0_lines, .inl (cA_m0_lines, 5, .inl n_a_2)), (m0_hours, .inl (cA_m0_hours, 5, .inl n_a_6)), (m0_courts, .inl (cA_m0_courts, 5, .inl n_a_10)), (m0_in, .inl (cA_m0_in, 50, .inl n_a_14)), (m0_gates, .inl (cA_m0_gates, 5, .inl n_a_18)), (m0_gate, .inl (cA_m0_gate, 160, .inl n_a_22)), (m0_people, .inl (cA_m0_people, 5, .inl n_a_26)), (m0_at0, .inl (cA_m0_at0, 2400, .inl n_a_30)), (m0_stray, .inl (cA_m0_stray, 100, .inl n_a_34))]) hB ht hvm hP hD hK [1] [0, 2, 3, 4, 5, 6, 7, 8, 9, 10, 11, 12] rfl 13 rfl (by decide +kernel) rfl (by decide +kernel) hk1 hFc
  generalize H1 = H at hP hS ⊢
  have hK : va_K (dC, dI) vwCl [(cA_m0_lines, .int), (cA_m0_hours, .int), (cA_m0_courts, .int), (cA_m0_in, .int), (cA_m0_gates, .int), (cA_m0_gate, .int), (cA_m0_people, .int), (cA_m0_at0, .int), (cA_m0_stray, .int), (cA_m0_set, .int), (cA_m0_truth, .int), (cA_m0_known, .int)] s := hK
  replace hF := hF.trans (zL_eq hf_36)
  refine lv_aload_n hx hb dX10_copyTown_95 rfl (lv_at hl 0 rfl) ?_
  refine va_get (D := (dC, dI)) (ci := 10) (v := .ref m0_set) (C := RX10) (T := TX10) (N := 53) hx hb hts zl_X10 hown hK hP 0 rfl rfl 25 (by decide) (hts _ zw_t6_125) (fun _ h9 => h9) rfl dX10_copyTown_96 ?_
  refine lv_iconst (v := 2) hx hb dX10_copyTown_99 (by decide) ?_
  refine lv_iload_n hx hb dX10_copyTown_100 rfl (lv_at hl 1 rfl) ?_
  refine lv_iload_n hx hb dX10_copyTown_101 rfl (lv_at hl 2 rfl) ?_
  obtain ⟨hPc, hDc, hFc⟩ := z_cut (wc := [(m0_set, .inl (cA_m0_set, 10, .inl f_m0_set))]) hP hD hS hA [1] rfl (by decide +kernel)
  have hKc := hK.sub (tys' := [(cA_m0_set, .int)]) [9] rfl
  refine va_callv (va_runS (As := [.ref m0_set, .int 2, .int p1, .int p2]) (rest := []) ⟨hx, hb, hml, hown, hts⟩ (kf_X10_copyRow_v8 l sa dC dI m0_set p1 p2 cA_m0_set f_m0_set b_p1 b_p2 b_f_m0_set H.size) (va_cwS 4 hts (z_gS zw_t7_154 zw_t7_155 zw_t1_11 zw_t7_156) rfl rfl rfl (by decide +kernel) (by rw [← hRe]; exact ⟨(Nat.le_of_ble_eq_true rfl), (Nat.le_of_ble_eq_true rfl)⟩)) (z_preS hPc hKc hDc hN hXs hS hFc) rfl rfl hl.1 rfl (lv_room (Nat.le_of_ble_eq_true rfl)) dX10_copyTown_102 (by rw [← hRe]; exact ⟨(Nat.le_of_ble_eq_true rfl), (Nat.le_of_ble_eq_true rfl)⟩)) hS (fun q _ h => hFc q h) hFc (fun u t H1 locs ht hvm hw hB hz1 hk1 hS => ?_)
  obtain ⟨n_a_38, b_n_a_38, hf_39, hf_40, hB⟩ := hB
  obtain ⟨hP, hD, hK⟩ := z_after3 (wn := [(m0, .inr (10, [.int m0_thrown, .ref m0_width, .ref m0_many, .ref m0_cells, .ref m0_moved, .ref m0_tape, .int m0_taped, .int m0_at, .int m0_token, .int m0_place, .int m0_value, .long m0_word, .int m0_bad, .int m0_badPlace, .int m0_fault, .int m0_faultPlace, .ref m0_lines, .ref m0_hours, .ref m0_courts, .ref m0_in, .ref m0_gates, .ref m0_gate, .ref m0_people, .ref m0_at0, .ref m0_stray, .ref m0_set, .ref m0_once, .ref m0_truth, .ref m0_known, .ref m0_isKept, .int m0_strays, .int m0_hostPerson, .int m0_hostCourt, .int m0_outside, .ref m0_inside, .ref m0_can, .ref m0_fewest, .ref m0_waysTo, .ref m0_then, .ref m0_two, .ref m0_nextTwo, .ref m0_three, .ref m0_nextThree, .int m0_shut, .ref m0_worth, .ref m0_digit, .int m0_codes, .long m0_most, .int m0_bestTry, .int m0_dayCourt, .int m0_dayHour, .int m0_dayNo, .long m0_x])), (m0_truth, .inl (cA_m0_truth, 10, .inl f_m0_truth)), (m0_known, .inl (cA_m0_known, 50, .inl f_m0_known)), (m0_lines, .inl (cA_m0_lines, 5, .inl n_a_2)), (m0_hours, .inl (cA_m0_hours, 5, .inl n_a_6)), (m0_courts, .inl (cA_m0_courts, 5, .inl n_a_10)), (m0_in, .inl (cA_m0_in, 50, .inl n_a_14)), (m0_gates, .inl (cA_m0_gates, 5, .inl n_a_18)), (m0_gate, .inl (cA_m0_gate, 160, .inl n_a_22)), (m0_people, .inl (cA_m0_people, 5, .inl n_a_26)), (m0_at0, .inl (cA_m0_at0, 2400, .inl n_a_30)), (m0_stray, .inl (cA_m0_stray, 100, .inl n_a_34)), (m0_set, .inl (cA_m0_set, 10, .inl n_a_38))]) hB ht hvm hP hD hK [1] [0, 2, 3, 4, 5, 6, 7, 8, 9, 10, 11, 12] rfl 13 rfl (by decide +kernel) rfl (by decide +kernel) hk1 hFc
  generalize H1 = H at hP hS ⊢
  have hK : va_K (dC, dI) vwCl [(cA_m0_lines, .int), (cA_m0_hours, .int), (cA_m0_courts, .int), (cA_m0_in, .int), (cA_m0_gates, .int), (cA_m0_gate, .int), (cA_m0_people, .int), (cA_m0_at0, .int), (cA_m0_stray, .int), (cA_m0_set, .int), (cA_m0_truth, .int), (cA_m0_known, .int)] s := hK
  replace hF := hF.trans (zL_eq hf_40)
  refine lv_aload_n hx hb dX10_copyTown_105 rfl (lv_at hl 0 rfl) ?_
  refine va_get (D := (dC, dI)) (ci := 10) (v := .ref m0_truth) (C := RX10) (T := TX10) (N := 53) hx hb hts zl_X10 hown hK hP 0 rfl rfl 27 (by decide) (hts _ zw_t6_127) (fun _ h9 => h9) rfl dX10_copyTown_106 ?_
  refine lv_iconst (v := 2) hx hb dX10_copyTown_109 (by decide) ?_
  refine lv_iload_n hx hb dX10_copyTown_110 rfl (lv_at hl 1 rfl) ?_
  refine lv_iload_n hx hb dX10_copyTown_111 rfl (lv_at hl 2 rfl) ?_
  obtain ⟨hPc, hDc, hFc⟩ := z_cut (wc := [(m0_truth, .inl (cA_m0_truth, 10, .inl f_m0_truth))]) hP hD hS hA [1] rfl (by decide +kernel)
  have hKc := hK.sub (tys' := [(cA_m0_truth, .int)]) [10] rfl
  refine va_callv (va_runS (As := [.ref m0_truth, .int 2, .int p1, .int p2]) (rest := []) ⟨hx, hb, hml, hown, hts⟩ (kf_X10_copyRow_v9 l sa dC dI m0_truth p1 p2 cA_m0_truth f_m0_truth b_p1 b_p2 H.size) (va_cwS 4 hts (z_gS zw_t7_154 zw_t7_155 zw_t1_11 zw_t7_156) rfl rfl rfl (by decide +kernel) (by rw [← hRe]; exact ⟨(Nat.le_of_ble_eq_true rfl), (Nat.le_of_ble_eq_true rfl)⟩)) (z_preS hPc hKc hDc hN hXs hS hFc) rfl rfl hl.1 rfl (lv_room (Nat.le_of_ble_eq_true rfl)) dX10_copyTown_112 (by rw [← hRe]; exact ⟨(Nat.le_of_ble_eq_true rfl), (Nat.le_of_ble_eq_true rfl)⟩)) hS (fun q _ h => hFc q h) hFc (fun u t H1 locs ht hvm hw hB hz1 hk1 hS => ?_)
  obtain ⟨n_a_42, hf_43, hf_44, hB⟩ := hB
  obtain ⟨hP, hD, hK⟩ := z_after3 (wn := [(m0, .inr (10, [.int m0_thrown, .ref m0_width, .ref m0_many, .ref m0_cells, .ref m0_moved, .ref m0_tape, .int m0_taped, .int m0_at, .int m0_token, .int m0_place, .int m0_value, .long m0_word, .int m0_bad, .int m0_badPlace, .int m0_fault, .int m0_faultPlace, .ref m0_lines, .ref m0_hours, .ref m0_courts, .ref m0_in, .ref m0_gates, .ref m0_gate, .ref m0_people, .ref m0_at0, .ref m0_stray, .ref m0_set, .ref m0_once, .ref m0_truth, .ref m0_known, .ref m0_isKept, .int m0_strays, .int m0_hostPerson, .int m0_hostCourt, .int m0_outside, .ref m0_inside, .ref m0_can, .ref m0_fewest, .ref m0_waysTo, .ref m0_then, .ref m0_two, .ref m0_nextTwo, .ref m0_three, .ref m0_nextThree, .int m0_shut, .ref m0_worth, .ref m0_digit, .int m0_codes, .long m0_most, .int m0_bestTry, .int m0_dayCourt, .int m0_dayHour, .int m0_dayNo, .long m0_x])), (m0_known, .inl (cA_m0_known, 50, .inl f_m0_known)), (m0_lines, .inl (cA_m0_lines, 5, .inl n_a_2)), (m0_hours, .inl (cA_m0_hours, 5, .inl n_a_6)), (m0_courts, .inl (cA_m0_courts, 5, .inl n_a_10)), (m0_in, .inl (cA_m0_in, 50, .inl n_a_14)), (m0_gates, .inl (cA_m0_gates, 5, .inl n_a_18)), (m0_gate, .inl (cA_m0_gate, 160, .inl n_a_22)), (m0_people, .inl (cA_m0_people, 5, .inl n_a_26)), (m0_at0, .inl (cA_m0_at0, 2400, .inl n_a_30)), (m0_stray, .inl (cA_m0_stray, 100, .inl n_a_34)), (m0_set, .inl (cA_m0_set, 10, .inl n_a_38)), (m0_truth, .inl (cA_m0_truth, 10, .inl n_a_42))]) hB ht hvm hP hD hK [1] [0, 2, 3, 4, 5, 6, 7, 8, 9, 10, 11, 12] rfl 13 rfl (by decide +kernel) rfl (by decide +kernel) hk1 hFc
  generalize H1 = H at hP hS ⊢
  have hK : va_K (dC, dI) vwCl [(cA_m0_lines, .int), (cA_m0_hours, .int), (cA_m0_courts, .int), (cA_m0_in, .int), (cA_m0_gates, .int), (cA_m0_gate, .int), (cA_m0_people, .int), (cA_m0_at0, .int), (cA_m0_stray, .int), (cA_m0_set, .int), (cA_m0_truth, .int), (cA_m0_known, .int)] s := hK
  replace hF := hF.trans (zL_eq hf_44)
  refine lv_aload_n hx hb dX10_copyTown_115 rfl (lv_at hl 0 rfl) ?_
  refine va_get (D := (dC, dI)) (ci := 10) (v := .ref m0_known) (C := RX10) (T := TX10) (N := 53) hx hb hts zl_X10 hown hK hP 0 rfl rfl 28 (by decide) (hts _ zw_t6_128) (fun _ h9 => h9) rfl dX10_copyTown_116 ?_
  refine lv_bipush (v := 10) hx hb dX10_copyTown_119 (by decide) ?_
  refine lv_iload_n hx hb dX10_copyTown_121 rfl (lv_at hl 1 rfl) ?_
  refine lv_iload_n hx hb dX10_copyTown_122 rfl (lv_at hl 2 rfl) ?_
  obtain ⟨hPc, hDc, hFc⟩ := z_cut (wc := [(m0_known, .inl (cA_m0_known, 50, .inl f_m0_known))]) hP hD hS hA [1] rfl (by decide +kernel)
  have hKc := hK.sub (tys' := [(cA_m0_known, .int)]) [11] rfl
  refine va_callv (va_runS (As := [.ref m0_known, .int 10, .int p1, .int p2]) (rest := []) ⟨hx, hb, hml, hown, hts⟩ (kf_X10_copyRow_v10 l sa dC dI m0_known p1 p2 cA_m0_known f_m0_known b_p1 b_p2 b_f_m0_known H.size) (va_cwS 4 hts (z_gS zw_t7_154 zw_t7_155 zw_t1_11 zw_t7_156) rfl rfl rfl (by decide +kernel) (by rw [← hRe]; exact ⟨(Nat.le_of_ble_eq_true rfl), (Nat.le_of_ble_eq_true rfl)⟩)) (z_preS hPc hKc hDc hN hXs hS hFc) rfl rfl hl.1 rfl (lv_room (Nat.le_of_ble_eq_true rfl)) dX10_copyTown_123 (by rw [← hRe]; exact ⟨(Nat.le_of_ble_eq_true rfl), (Nat.le_of_ble_eq_true rfl)⟩)) hS (fun q _ h => hFc q h) hFc (fun u t H1 locs ht hvm hw hB hz1 hk1 hS => ?_)
  obtain ⟨n_a_46, b_n_a_46, hf_47, hf_48, hB⟩ := hB
  obtain ⟨hP, hD, hK⟩ := z_after3 (wn := (zV259 m0 m0_thrown m0_width m0_many m0_cells m0_moved m0_tape m0_taped m0_at m0_token m0_place m0_value m0_word m0_bad m0_badPlace m0_fault m0_faultPlace m0_lines m0_hours m0_courts m0_in m0_gates m0_gate m0_people m0_at0 m0_stray m0_set m0_once m0_truth m0_known m0_isKept m0_strays m0_hostPerson m0_hostCourt m0_outside m0_inside m0_can m0_fewest m0_waysTo m0_then m0_two m0_nextTwo m0_three m0_nextThree m0_shut m0_worth m0_digit m0_codes m0_most m0_bestTry m0_dayCourt m0_dayHour m0_dayNo m0_x m0_lines cA_m0_lines n_a_2 m0_hours cA_m0_hours n_a_6 m0_courts cA_m0_courts n_a_10 m0_in cA_m0_in n_a_14 m0_gates cA_m0_gates n_a_18 m0_gate cA_m0_gate n_a_22 m0_people cA_m0_people n_a_26 m0_at0 cA_m0_at0 n_a_30 m0_stray cA_m0_stray n_a_34 m0_set cA_m0_set n_a_38 m0_truth cA_m0_truth n_a_42 m0_known cA_m0_known n_a_46)) hB ht hvm hP hD hK [1] [0, 2, 3, 4, 5, 6, 7, 8, 9, 10, 11, 12] rfl 13 rfl (by decide +kernel) rfl (by decide +kernel) hk1 hFc
  generalize H1 = H at hP hS ⊢
  have hK : va_K (dC, dI) vwCl [(cA_m0_lines, .int), (cA_m0_hours, .int), (cA_m0_courts, .int), (cA_m0_in, .int), (cA_m0_gates, .int), (cA_m0_gate, .int), (cA_m0_people, .int), (cA_m0_at0, .int), (cA_m0_stray, .int), (cA_m0_set, .int), (cA_m0_truth, .int), (cA_m0_known, .int)] s := hK
  replace hF := hF.trans (zL_eq hf_48)
  have hF : RR = (n_a_2, n_a_6, n_a_10, n_a_14, n_a_18, n_a_22, n_a_26, n_a_30, n_a_34, n_a_38, n_a_42, n_a_46) := hF
  exact W.vret hx hb hr (fun t ht hW => by rw [← hQe]; exact ⟨⟨(), rfl, trivial, ⟨n_a_2, n_a_6, n_a_10, n_a_14, n_a_18, n_a_22, n_a_26, n_a_30, n_a_34, n_a_38, n_a_42, n_a_46, b_n_a_6, b_n_a_10, b_n_a_14, b_n_a_18, b_n_a_22, b_n_a_26, b_n_a_30, b_n_a_34, b_n_a_38, b_n_a_46, (by first | omega | assumption), (by first | omega | assumption), (by first | omega | assumption), (by first | omega | assumption), (by first | omega | assumption), (by rw [← hRR, hF]), (by rw [← hRR, hF]), (by rw [← hRR, hF]), (by rw [← hRR, hF]), (by rw [← hRR, hF]), (by rw [← hRR, hF]), (by rw [← hRR, hF]), (by rw [← hRR, hF]), (by rw [← hRR, hF]), (by rw [← hRR, hF]), (by rw [← hRR, hF]), (by rw [← hRR, hF]), z_ret hP hK hD ht hW [0, 1, 2, 3, 4, 5, 6, 7, 8, 9, 10, 11, 12] [] rfl (by decide) rfl⟩⟩, hS.F ht⟩) hS.2.2 dX10_copyTown_126
