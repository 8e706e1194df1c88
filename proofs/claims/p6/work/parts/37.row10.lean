set_option linter.all false
set_option maxHeartbeats 4000000 in
set_option maxRecDepth 100000 in
theorem k_X10_in_v1 (l : Launch) (sa : Nat → Nat) (dC : Nat → ClassId) (dI : Nat → Nat → Nat) (p0 : Int64) (p1 : Int64) (p2 : Int64)  (sz : Nat) : Met l yX10_in (.code yX10_in cX10_in 6 (some .boolean) :: zT) ({ frames := 0, cells := 0, slots := 0, locals := 0 }) (va_Pc [.long p0, .long p1, .long p2] (zB sa dC dI [] [] sz)) (va_Qi (fun (r : Int32) (_ : Unit) => (0 ≤ r.toInt ∧ r.toInt ≤ 1) ∧ ((r.toInt = 0 ∧ (p0.toInt < p1.toInt ∨ p2.toInt < p0.toInt)) ∨ (r.toInt = 1 ∧ p1.toInt ≤ p0.toInt ∧ p0.toInt ≤ p2.toInt))) (fun _ t => zW dC dI [] [] (va_A [] sz) t) (va_A [] sz)) 0 0 (va_A [] sz) := by
  refine z_enter (by decide) (by exact (Nat.le_of_ble_eq_true rfl)) ?_
  intro p e s m args below meth c ls A R Qc hargs hsz hQe hAe hRe hx hb hml hr hts hown hlocks hin hl hP hK hD hN hXs hA hS
  rw [hAe] at hQe
  have hown : s.vm.findClass RX10 = some m.cls := hown
  have hl : lv_has ls 6 [(0, .long p0), (2, .long p1), (4, .long p2)] := hl
  refine lv_lload_n hx hb dX10_in_0 rfl (lv_at hl 0 rfl) ?_
  refine lv_lload_n hx hb dX10_in_1 rfl (lv_at hl 1 rfl) ?_
  refine W.lcmp hx hb dX10_in_2 ?_
  refine lv_if_lt (tgt := 17) hx hb dX10_in_3 (by decide) (fun c_1 => ?_) (fun c_1 => ?_)
  · have ic_1 := zl_lt rfl rfl c_1
    refine lv_iconst (v := 0) hx hb dX10_in_17 (by decide) ?_
    have zc : Int32.toInt 0 = 0 := by decide
    exact W.zret (v := 0) hx hb hr (by decide) (fun t ht hW => by rw [← hQe]; exact ⟨⟨0, (), rfl, (by first | decide | omega), z_ret hP hK hD ht hW [] [] rfl (by decide) rfl⟩, hS.F ht⟩) hS.2.2 dX10_in_18
  · have ic_1 := zl_nlt rfl rfl c_1
    refine lv_lload_n hx hb dX10_in_6 rfl (lv_at hl 0 rfl) ?_
    refine lv_lload hx hb dX10_in_7 (lv_at hl 2 rfl) ?_
    refine W.lcmp hx hb dX10_in_9 ?_
    refine lv_if_gt (tgt := 17) hx hb dX10_in_10 (by decide) (fun c_2 => ?_) (fun c_2 => ?_)
    · have ic_2 := zl_gt rfl rfl c_2
      refine lv_iconst (v := 0) hx hb dX10_in_17 (by decide) ?_
      have zc : Int32.toInt 0 = 0 := by decide
      exact W.zret (v := 0) hx hb hr (by decide) (fun t ht hW => by rw [← hQe]; exact ⟨⟨0, (), rfl, (by first | decide | omega), z_ret hP hK hD ht hW [] [] rfl (by decide) rfl⟩, hS.F ht⟩) hS.2.2 dX10_in_18
    · have ic_2 := zl_ngt rfl rfl c_2
      refine lv_iconst (v := 1) hx hb dX10_in_13 (by decide) ?_
      refine lv_goto (tgt := 18) hx hb dX10_in_14 (by decide) ?_
      have zc : Int32.toInt 1 = 1 := by decide
      exact W.zret (v := 1) hx hb hr (by decide) (fun t ht hW => by rw [← hQe]; exact ⟨⟨1, (), rfl, (by first | decide | omega), z_ret hP hK hD ht hW [] [] rfl (by decide) rfl⟩, hS.F ht⟩) hS.2.2 dX10_in_18
set_option maxHeartbeats 4000000 in
set_option maxRecDepth 100000 in
theorem k_X10_isSlot_v1 (l : Launch) (sa : Nat → Nat) (dC : Nat → ClassId) (dI : Nat → Nat → Nat) (p0 : Int32)  (sz : Nat) : Met l yX10_isSlot (.code yX10_isSlot cX10_isSlot 1 (some .boolean) :: zT) ({ frames := 1, cells := 0, slots := 0, locals := 25 }) (va_Pc [.int p0] (zB sa dC dI [] [] sz)) (va_Qi (fun (r : Int32) (_ : Unit) => (0 ≤ r.toInt ∧ r.toInt ≤ 1) ∧ ((r.toInt = 0 ∧ (p0.toInt < 0 ∨ 3 < p0.toInt)) ∨ (r.toInt = 1 ∧ 0 ≤ p0.toInt ∧ p0.toInt ≤ 3))) (fun _ t => zW dC dI [] [] (va_A [] sz) t) (va_A [] sz)) 0 0 (va_A [] sz) := by
  refine z_enter (by decide) (by exact (Nat.le_of_ble_eq_true rfl)) ?_
  intro p e s m args below meth c ls A R Qc hargs hsz hQe hAe hRe hx hb hml hr hts hown hlocks hin hl hP hK hD hN hXs hA hS
  rw [hAe] at hQe
  have hown : s.vm.findClass RX10 = some m.cls := hown
  have hl : lv_has ls 1 [(0, .int p0)] := hl
  refine lv_iload_n hx hb dX10_isSlot_0 rfl (lv_at hl 0 rfl) ?_
  refine lv_i2l (v := _) hx hb dX10_isSlot_1 rfl ?_
  refine lv_topl (fun x_1 ex_1 => ?_)
  have b_x_1 : x_1.toInt = p0.toInt := by rw [ex_1]; exact z_l64 _
  refine lv_lconst (v := 0) hx hb dX10_isSlot_2 (by decide) ?_
  refine lv_ldc2 (v := 3) hx hb hown (hts _ zw_t7_28) dX10_isSlot_3 ?_
  obtain ⟨hPc, hDc, hFc⟩ := z_cut (wc := []) hP hD hS hA [] rfl (by decide +kernel)
  have hKc := hK.sub (tys' := []) [] rfl
  refine va_calli (va_runS (As := [.long x_1, .long 0, .long 3]) (rest := []) ⟨hx, hb, hml, hown, hts⟩ (k_X10_in_v1 l sa dC dI x_1 (0) (3) s.heap.size) (va_cwS 3 hts (z_gS zw_t7_29 zw_t7_30 zw_t1_11 zw_t7_31) rfl rfl rfl (by decide +kernel) (by rw [← hRe]; exact ⟨(Nat.le_of_ble_eq_true rfl), (Nat.le_of_ble_eq_true rfl)⟩)) (z_preS hPc hKc hDc hN hXs hS hFc) rfl rfl hl.1 rfl (lv_room (Nat.le_of_ble_eq_true rfl)) dX10_isSlot_6 (by rw [← hRe]; exact ⟨(Nat.le_of_ble_eq_true rfl), (Nat.le_of_ble_eq_true rfl)⟩)) hS (fun q _ h => hFc q h) hFc (fun r_2 u t H1 locs ht hvm hw hB hz1 hk1 hS => ?_)
  obtain ⟨hP, hD, hK⟩ := z_after3 (wn := []) hB ht hvm hP hD hK [] [] rfl 0 rfl (by decide +kernel) rfl (by decide +kernel) hk1 hFc
  generalize H1 = H at hP hS ⊢
  have hK : va_K (dC, dI) vwCl [] s := hK
  have b_r_2 : 0 ≤ r_2.toInt ∧ r_2.toInt ≤ 1 := hw.1
  have s_r_2 := hw.2
  have zal_0 : Int64.toInt 0 = 0 := by decide
  have zal_3 : Int64.toInt 3 = 3 := by decide
  exact W.zret (v := r_2) hx hb hr (zi_bool (by first | with_reducible assumption | omega)) (fun t ht hW => by rw [← hQe]; exact ⟨⟨r_2, (), rfl, (by first | decide | omega), z_ret hP hK hD ht hW [] [] rfl (by decide) rfl⟩, hS.F ht⟩) hS.2.2 dX10_isSlot_9
set_option maxHeartbeats 4000000 in
set_option maxRecDepth 100000 in
theorem k_X10_row_v1 (l : Launch) (sa : Nat → Nat) (dC : Nat → ClassId) (dI : Nat → Nat → Nat) (m0 : Nat) (p1 : Int32) (p2 : Int32) (p3 : Int32) (m0_thrown : Int32) (m0_width : Nat) (m0_many : Nat) (m0_cells : Nat) (m0_moved : Nat) (m0_tape : Nat) (m0_taped : Int32) (m0_at : Int32) (m0_token : Int32) (m0_place : Int32) (m0_value : Int32) (m0_word : Int64) (m0_bad : Int32) (m0_badPlace : Int32) (m0_fault : Int32) (m0_faultPlace : Int32) (m0_lines : Nat) (m0_hours : Nat) (m0_courts : Nat) (m0_in : Nat) (m0_gates : Nat) (m0_gate : Nat) (m0_people : Nat) (m0_at0 : Nat) (m0_stray : Nat) (m0_set : Nat) (m0_once : Nat) (m0_truth : Nat) (m0_known : Nat) (m0_isKept : Nat) (m0_strays : Int32) (m0_hostPerson : Int32) (m0_hostCourt : Int32) (m0_outside : Int32) (m0_inside : Nat) (m0_can : Nat) (m0_fewest : Nat) (m0_waysTo : Nat) (m0_then : Nat) (m0_two : Nat) (m0_nextTwo : Nat) (m0_three : Nat) (m0_nextThree : Nat) (m0_shut : Int32) (m0_worth : Nat) (m0_digit : Nat) (m0_codes : Int32) (m0_most : Int64) (m0_bestTry : Int32) (m0_dayCourt : Int32) (m0_dayHour : Int32) (m0_dayNo : Int32) (m0_x : Int64) (cA_m0_width : ClassId) (f_m0_width : Nat → Int32) (cA_m0_many : ClassId) (f_m0_many : Nat → Int32) (cA_m0_cells : ClassId) (f_m0_cells : Nat → Int64) (b_m0_taped : 0 ≤ m0_taped.toInt ∧ m0_taped.toInt ≤ 1600) (b_m0_at : 0 ≤ m0_at.toInt ∧ m0_at.toInt ≤ 1600) (b_m0_token : 0 ≤ m0_token.toInt ∧ m0_token.toInt ≤ 4) (b_m0_value : 0 ≤ m0_value.toInt ∧ m0_value.toInt ≤ 1000009) (b_m0_bad : 0 ≤ m0_bad.toInt ∧ m0_bad.toInt ≤ 3) (b_m0_strays : 0 ≤ m0_strays.toInt ∧ m0_strays.toInt ≤ 5) (b_m0_hostCourt : 0 ≤ m0_hostCourt.toInt ∧ m0_hostCourt.toInt ≤ 9) (b_m0_dayCourt : 0 ≤ m0_dayCourt.toInt ∧ m0_dayCourt.toInt ≤ 9) (b_m0_dayHour : 0 ≤ m0_dayHour.toInt ∧ m0_dayHour.toInt ≤ 48) (b_f_m0_width : ∀ j : Nat, (-1) ≤ (f_m0_width j).toInt ∧ (f_m0_width j).toInt ≤ 3) (b_f_m0_many : ∀ j : Nat, 0 ≤ (f_m0_many j).toInt ∧ (f_m0_many j).toInt ≤ 60) (sz : Nat) : Met l yX10_row (.code yX10_row cX10_row 5 (some .int) :: zT) ({ frames := 2, cells := 0, slots := 0, locals := 45 }) (va_Pc [.ref m0, .int p1, .int p2, .int p3] (zB sa dC dI (zV124 m0 m0_thrown m0_width m0_many m0_cells m0_moved m0_tape m0_taped m0_at m0_token m0_place m0_value m0_word m0_bad m0_badPlace m0_fault m0_faultPlace m0_lines m0_hours m0_courts m0_in m0_gates m0_gate m0_people m0_at0 m0_stray m0_set m0_once m0_truth m0_known m0_isKept m0_strays m0_hostPerson m0_hostCourt m0_outside m0_inside m0_can m0_fewest m0_waysTo m0_then m0_two m0_nextTwo m0_three m0_nextThree m0_shut m0_worth m0_digit m0_codes m0_most m0_bestTry m0_dayCourt m0_dayHour m0_dayNo m0_x m0_width cA_m0_width f_m0_width m0_many cA_m0_many f_m0_many m0_cells cA_m0_cells f_m0_cells) [(cA_m0_width, .int), (cA_m0_many, .int), (cA_m0_cells, .long)] sz)) (va_Qi (fun (r : Int32) (_ : Unit) => ((-3) ≤ r.toInt ∧ r.toInt ≤ 0) ∧ ((r.toInt = -2 ∧ (p1.toInt < 0 ∨ 3 < p1.toInt ∨ p2.toInt < 0 ∨ 3 < p2.toInt ∨ 60 < p3.toInt)) ∨ (r.toInt = -3 ∧ 0 ≤ p1.toInt ∧ p1.toInt ≤ 3 ∧ 0 ≤ p2.toInt ∧ p2.toInt ≤ 3 ∧ p3.toInt < 0) ∨ (r.toInt = 0 ∧ 0 ≤ p1.toInt ∧ p1.toInt ≤ 3 ∧ 0 ≤ p2.toInt ∧ p2.toInt ≤ 3 ∧ 0 ≤ p3.toInt ∧ p3.toInt ≤ 60))) (fun _ t => ∃ (n_m0_0 : Int32) (n_m0_width : Nat → Int32) (n_m0_many : Nat → Int32) (n_m0_cells : Nat → Int64), (∀ j : Nat, (-1) ≤ (n_m0_width j).toInt ∧ (n_m0_width j).toInt ≤ 3) ∧ (∀ j : Nat, 0 ≤ (n_m0_many j).toInt ∧ (n_m0_many j).toInt ≤ 60) ∧ zW dC dI (zV124 m0 n_m0_0 m0_width m0_many m0_cells m0_moved m0_tape m0_taped m0_at m0_token m0_place m0_value m0_word m0_bad m0_badPlace m0_fault m0_faultPlace m0_lines m0_hours m0_courts m0_in m0_gates m0_gate m0_people m0_at0 m0_stray m0_set m0_once m0_truth m0_known m0_isKept m0_strays m0_hostPerson m0_hostCourt m0_outside m0_inside m0_can m0_fewest m0_waysTo m0_then m0_two m0_nextTwo m0_three m0_nextThree m0_shut m0_worth m0_digit m0_codes m0_most m0_bestTry m0_dayCourt m0_dayHour m0_dayNo m0_x m0_width cA_m0_width n_m0_width m0_many cA_m0_many n_m0_many m0_cells cA_m0_cells n_m0_cells) [] (va_A (zV124 m0 m0_thrown m0_width m0_many m0_cells m0_moved m0_tape m0_taped m0_at m0_token m0_place m0_value m0_word m0_bad m0_badPlace m0_fault m0_faultPlace m0_lines m0_hours m0_courts m0_in m0_gates m0_gate m0_people m0_at0 m0_stray m0_set m0_once m0_truth m0_known m0_isKept m0_strays m0_hostPerson m0_hostCourt m0_outside m0_inside m0_can m0_fewest m0_waysTo m0_then m0_two m0_nextTwo m0_three m0_nextThree m0_shut m0_worth m0_digit m0_codes m0_most m0_bestTry m0_dayCourt m0_dayHour m0_dayNo m0_x m0_width cA_m0_width f_m0_width m0_many cA_m0_many f_m0_many m0_cells cA_m0_cells f_m0_cells) sz) t) (va_A (zV124 m0 m0_thrown m0_width m0_many m0_cells m0_moved m0_tape m0_taped m0_at m0_token m0_place m0_value m0_word m0_bad m0_badPlace m0_fault m0_faultPlace m0_lines m0_hours m0_courts m0_in m0_gates m0_gate m0_people m0_at0 m0_stray m0_set m0_once m0_truth m0_known m0_isKept m0_strays m0_hostPerson m0_hostCourt m0_outside m0_inside m0_can m0_fewest m0_waysTo m0_then m0_two m0_nextTwo m0_three m0_nextThree m0_shut m0_worth m0_digit m0_codes m0_most m0_bestTry m0_dayCourt m0_dayHour m0_dayNo m0_x m0_width cA_m0_width f_m0_width m0_many cA_m0_many f_m0_many m0_cells cA_m0_cells f_m0_cells) sz)) 0 0 (va_A (zV124 m0 m0_thrown m0_width m0_many m0_cells m0_moved m0_tape m0_taped m0_at m0_token m0_place m0_value m0_word m0_bad m0_badPlace m0_fault m0_faultPlace m0_lines m0_hours m0_courts m0_in m0_gates m0_gate m0_people m0_at0 m0_stray m0_set m0_once m0_truth m0_known m0_isKept m0_strays m0_hostPerson m0_hostCourt m0_outside m0_inside m0_can m0_fewest m0_waysTo m0_then m0_two m0_nextTwo m0_three m0_nextThree m0_shut m0_worth m0_digit m0_codes m0_most m0_bestTry m0_dayCourt m0_dayHour m0_dayNo m0_x m0_width cA_m0_width f_m0_width m0_many cA_m0_many f_m0_many m0_cells cA_m0_cells f_m0_cells) sz) := by
  refine z_enter (by decide) (by exact (Nat.le_of_ble_eq_true rfl)) ?_
  intro p e s m args below meth c ls A R Qc hargs hsz hQe hAe hRe hx hb hml hr hts hown hlocks hin hl hP hK hD hN hXs hA hS
  rw [hAe] at hQe
  have hown : s.vm.findClass RX10 = some m.cls := hown
  have hl : lv_has ls 5 [(0, .ref m0), (1, .int p1), (2, .int p2), (3, .int p3)] := hl
  refine lv_aload_n hx hb dX10_row_0 rfl (lv_at hl 0 rfl) ?_
  refine lv_iconst (v := 0) hx hb dX10_row_1 (by decide) ?_
  refine va_put (D := (dC, dI)) (ci := 10) (v := .int 0) (ty := .int) (C := RX10) (T := TX10) (N := 53) hx hb hts zl_X10 tyX10 tyX10_ok nmX10 hown hK hP hD hS 0 rfl rfl 0 (by decide) (hts _ zw_t6_100) (fun _ h9 => h9) rfl (by decide +kernel) rfl rfl (Nat.le_of_ble_eq_true rfl) dX10_row_2 (fun H locs hP hD hS => ?_)
  have hP : va_P (dC, dI) vwCl (zV125 m0 m0_width m0_many m0_cells m0_moved m0_tape m0_taped m0_at m0_token m0_place m0_value m0_word m0_bad m0_badPlace m0_fault m0_faultPlace m0_lines m0_hours m0_courts m0_in m0_gates m0_gate m0_people m0_at0 m0_stray m0_set m0_once m0_truth m0_known m0_isKept m0_strays m0_hostPerson m0_hostCourt m0_outside m0_inside m0_can m0_fewest m0_waysTo m0_then m0_two m0_nextTwo m0_three m0_nextThree m0_shut m0_worth m0_digit m0_codes m0_most m0_bestTry m0_dayCourt m0_dayHour m0_dayNo m0_x m0_width cA_m0_width f_m0_width m0_many cA_m0_many f_m0_many m0_cells cA_m0_cells f_m0_cells) H := hP
  have hD : va_D A (zV125 m0 m0_width m0_many m0_cells m0_moved m0_tape m0_taped m0_at m0_token m0_place m0_value m0_word m0_bad m0_badPlace m0_fault m0_faultPlace m0_lines m0_hours m0_courts m0_in m0_gates m0_gate m0_people m0_at0 m0_stray m0_set m0_once m0_truth m0_known m0_isKept m0_strays m0_hostPerson m0_hostCourt m0_outside m0_inside m0_can m0_fewest m0_waysTo m0_then m0_two m0_nextTwo m0_three m0_nextThree m0_shut m0_worth m0_digit m0_codes m0_most m0_bestTry m0_dayCourt m0_dayHour m0_dayNo m0_x m0_width cA_m0_width f_m0_width m0_many cA_m0_many f_m0_many m0_cells cA_m0_cells f_m0_cells) := hD
  refine lv_iload_n hx hb dX10_row_5 rfl (lv_at hl 1 rfl) ?_
  obtain ⟨hPc, hDc, hFc⟩ := z_cut (wc := []) hP hD hS hA [] rfl (by decide +kernel)
  have hKc := hK.sub (tys' := []) [] rfl
  refine va_calli (va_runS (As := [.int p1]) (rest := []) ⟨hx, hb, hml, hown, hts⟩ (k_X10_isSlot_v1 l sa dC dI p1 H.size) (va_cwS 1 hts (z_gS zw_t7_25 zw_t7_26 zw_t1_11 zw_t7_27) rfl rfl rfl (by decide +kernel) (by rw [← hRe]; exact ⟨(Nat.le_of_ble_eq_true rfl), (Nat.le_of_ble_eq_true rfl)⟩)) (z_preS hPc hKc hDc hN hXs hS hFc) rfl rfl hl.1 rfl (lv_room (Nat.le_of_ble_eq_true rfl)) dX10_row_6 (by rw [← hRe]; exact ⟨(Nat.le_of_ble_eq_true rfl), (Nat.le_of_ble_eq_true rfl)⟩)) hS (fun q _ h => hFc q h) hFc (fun r_1 u t H1 locs ht hvm hw hB hz1 hk1 hS => ?_)
  obtain ⟨hP, hD, hK⟩ := z_after3 (wn := (zV125 m0 m0_width m0_many m0_cells m0_moved m0_tape m0_taped m0_at m0_token m0_place m0_value m0_word m0_bad m0_badPlace m0_fault m0_faultPlace m0_lines m0_hours m0_courts m0_in m0_gates m0_gate m0_people m0_at0 m0_stray m0_set m0_once m0_truth m0_known m0_isKept m0_strays m0_hostPerson m0_hostCourt m0_outside m0_inside m0_can m0_fewest m0_waysTo m0_then m0_two m0_nextTwo m0_three m0_nextThree m0_shut m0_worth m0_digit m0_codes m0_most m0_bestTry m0_dayCourt m0_dayHour m0_dayNo m0_x m0_width cA_m0_width f_m0_width m0_many cA_m0_many f_m0_many m0_cells cA_m0_cells f_m0_cells)) hB ht hvm hP hD hK [] [0, 1, 2, 3] rfl 4 rfl (by decide +kernel) rfl (by decide +kernel) hk1 hFc
  generalize H1 = H at hP hS ⊢
  have hK : va_K (dC, dI) vwCl [(cA_m0_width, .int), (cA_m0_many, .int), (cA_m0_cells, .long)] s := hK
  have b_r_1 : 0 ≤ r_1.toInt ∧ r_1.toInt ≤ 1 := hw.1
  have s_r_1 := hw.2
  refine lv_if_eq (tgt := 30) hx hb dX10_row_9 (by decide) (fun c_2 => ?_) (fun c_2 => ?_)
  · have ic_2 := zz_eq rfl (show Int32.toInt 0 = 0 from by decide) c_2
    refine lv_bipush (v := (-2)) hx hb dX10_row_30 (by decide) ?_
    have zc : Int32.toInt (-2) = (-2) := by decide
    exact W.iret (v := (-2)) hx hb hr (fun t ht hW => by rw [← hQe]; exact ⟨⟨(-2), (), rfl, (by first | with_reducible assumption | omega), ⟨(0), f_m0_width, f_m0_many, f_m0_cells, b_f_m0_width, b_f_m0_many, z_ret hP hK hD ht hW [0, 1, 2, 3] [] rfl (by decide) rfl⟩⟩, hS.F ht⟩) hS.2.2 dX10_row_32
  · have ic_2 := zz_neq rfl (show Int32.toInt 0 = 0 from by decide) c_2
    refine lv_iload_n hx hb dX10_row_12 rfl (lv_at hl 2 rfl) ?_
    refine lv_i2l (v := _) hx hb dX10_row_13 rfl ?_
    refine lv_topl (fun x_3 ex_3 => ?_)
    have b_x_3 : x_3.toInt = p2.toInt := by rw [ex_3]; exact z_l64 _
    refine lv_lconst (v := 0) hx hb dX10_row_14 (by decide) ?_
    refine lv_ldc2 (v := 3) hx hb hown (hts _ zw_t7_28) dX10_row_15 ?_
    obtain ⟨hPc, hDc, hFc⟩ := z_cut (wc := []) hP hD hS hA [] rfl (by decide +kernel)
    have hKc := hK.sub (tys' := []) [] rfl
    refine va_calli (va_runS (As := [.long x_3, .long 0, .long 3]) (rest := []) ⟨hx, hb, hml, hown, hts⟩ (k_X10_in_v1 l sa dC dI x_3 (0) (3) H.size) (va_cwS 3 hts (z_gS zw_t7_29 zw_t7_30 zw_t1_11 zw_t7_31) rfl rfl rfl (by decide +kernel) (by rw [← hRe]; exact ⟨(Nat.le_of_ble_eq_true rfl), (Nat.le_of_ble_eq_true rfl)⟩)) (z_preS hPc hKc hDc hN hXs hS hFc) rfl rfl hl.1 rfl (lv_room (Nat.le_of_ble_eq_true rfl)) dX10_row_18 (by rw [← hRe]; exact ⟨(Nat.le_of_ble_eq_true rfl), (Nat.le_of_ble_eq_true rfl)⟩)) hS (fun q _ h => hFc q h) hFc (fun r_4 u t H1 locs ht hvm hw hB hz1 hk1 hS => ?_)
    obtain ⟨hP, hD, hK⟩ := z_after3 (wn := (zV125 m0 m0_width m0_many m0_cells m0_moved m0_tape m0_taped m0_at m0_token m0_place m0_value m0_word m0_bad m0_badPlace m0_fault m0_faultPlace m0_lines m0_hours m0_courts m0_in m0_gates m0_gate m0_people m0_at0 m0_stray m0_set m0_once m0_truth m0_known m0_isKept m0_strays m0_hostPerson m0_hostCourt m0_outside m0_inside m0_can m0_fewest m0_waysTo m0_then m0_two m0_nextTwo m0_three m0_nextThree m0_shut m0_worth m0_digit m0_codes m0_most m0_bestTry m0_dayCourt m0_dayHour m0_dayNo m0_x m0_width cA_m0_width f_m0_width m0_many cA_m0_many f_m0_many m0_cells cA_m0_cells f_m0_cells)) hB ht hvm hP hD hK [] [0, 1, 2, 3] rfl 4 rfl (by decide +kernel) rfl (by decide +kernel) hk1 hFc
    generalize H1 = H at hP hS ⊢
    have hK : va_K (dC, dI) vwCl [(cA_m0_width, .int), (cA_m0_many, .int), (cA_m0_cells, .long)] s := hK
    have b_r_4 : 0 ≤ r_4.toInt ∧ r_4.toInt ≤ 1 := hw.1
    have s_r_4 := hw.2
    have zal_0 : Int64.toInt 0 = 0 := by decide
    have zal_3 : Int64.toInt 3 = 3 := by decide
    refine lv_if_eq (tgt := 30) hx hb dX10_row_21 (by decide) (fun c_5 => ?_) (fun c_5 => ?_)
    · have ic_5 := zz_eq rfl (show Int32.toInt 0 = 0 from by decide) c_5
      refine lv_bipush (v := (-2)) hx hb dX10_row_30 (by decide) ?_
      have zc : Int32.toInt (-2) = (-2) := by decide
      exact W.iret (v := (-2)) hx hb hr (fun t ht hW => by rw [← hQe]; exact ⟨⟨(-2), (), rfl, (by first | with_reducible assumption | omega), ⟨(0), f_m0_width, f_m0_many, f_m0_cells, b_f_m0_width, b_f_m0_many, z_ret hP hK hD ht hW [0, 1, 2, 3] [] rfl (by decide) rfl⟩⟩, hS.F ht⟩) hS.2.2 dX10_row_32
    · have ic_5 := zz_neq rfl (show Int32.toInt 0 = 0 from by decide) c_5
      refine lv_iload_n hx hb dX10_row_24 rfl (lv_at hl 3 rfl) ?_
      refine lv_bipush (v := 60) hx hb dX10_row_25 (by decide) ?_
      have nb_p3 := zi_nb p3
      refine lv_icmp_le (tgt := 33) hx hb dX10_row_27 (by decide) (fun c_6 => ?_) (fun c_6 => ?_)
      · have ic_6 := zz_le rfl (show Int32.toInt 60 = 60 from by decide) c_6
        refine lv_iload_n hx hb dX10_row_33 rfl (lv_at hl 3 rfl) ?_
        refine lv_if_ge (tgt := 40) hx hb dX10_row_34 (by decide) (fun c_7 => ?_) (fun c_7 => ?_)
        · have ic_7 := zz_ge rfl (show Int32.toInt 0 = 0 from by decide) c_7
          refine lv_aload_n hx hb dX10_row_40 rfl (lv_at hl 0 rfl) ?_
          refine va_get (D := (dC, dI)) (ci := 10) (v := .ref m0_width) (C := RX10) (T := TX10) (N := 53) hx hb hts zl_X10 hown hK hP 0 rfl rfl 1 (by decide) (hts _ zw_t6_101) (fun _ h9 => h9) rfl dX10_row_41 ?_
          refine lv_iload_n hx hb dX10_row_44 rfl (lv_at hl 1 rfl) ?_
          refine lv_iload_n hx hb dX10_row_45 rfl (lv_at hl 2 rfl) ?_
          refine va_iast hx hb hK hP hD hS 1 0 rfl rfl (zi_in rfl (by first | with_reducible assumption | omega)) dX10_row_46 (fun H locs hP hD hS => ?_)
          obtain ⟨f_8, ef_8⟩ : ∃ g : Nat → Int32, g = upd f_m0_width (Int32.toNatClampNeg p1) p2 := ⟨_, rfl⟩
          have b_f_8 : ∀ j : Nat, (-1) ≤ (f_8 j).toInt ∧ (f_8 j).toInt ≤ 3 := by rw [ef_8]; exact zi_upd b_f_m0_width rfl (by first | with_reducible assumption | omega)
          have hP : va_P (dC, dI) vwCl (zV125 m0 m0_width m0_many m0_cells m0_moved m0_tape m0_taped m0_at m0_token m0_place m0_value m0_word m0_bad m0_badPlace m0_fault m0_faultPlace m0_lines m0_hours m0_courts m0_in m0_gates m0_gate m0_people m0_at0 m0_stray m0_set m0_once m0_truth m0_known m0_isKept m0_strays m0_hostPerson m0_hostCourt m0_outside m0_inside m0_can m0_fewest m0_waysTo m0_then m0_two m0_nextTwo m0_three m0_nextThree m0_shut m0_worth m0_digit m0_codes m0_most m0_bestTry m0_dayCourt m0_dayHour m0_dayNo m0_x m0_width cA_m0_width (upd f_m0_width (Int32.toNatClampNeg p1) p2) m0_many cA_m0_many f_m0_many m0_cells cA_m0_cells f_m0_cells) H := hP
          have hD : va_D A (zV125 m0 m0_width m0_many m0_cells m0_moved m0_tape m0_taped m0_at m0_token m0_place m0_value m0_word m0_bad m0_badPlace m0_fault m0_faultPlace m0_lines m0_hours m0_courts m0_in m0_gates m0_gate m0_people m0_at0 m0_stray m0_set m0_once m0_truth m0_known m0_isKept m0_strays m0_hostPerson m0_hostCourt m0_outside m0_inside m0_can m0_fewest m0_waysTo m0_then m0_two m0_nextTwo m0_three m0_nextThree m0_shut m0_worth m0_digit m0_codes m0_most m0_bestTry m0_dayCourt m0_dayHour m0_dayNo m0_x m0_width cA_m0_width (upd f_m0_width (Int32.toNatClampNeg p1) p2) m0_many cA_m0_many f_m0_many m0_cells cA_m0_cells f_m0_cells) := hD
          rw [← ef_8] at hP hD
          refine lv_aload_n hx hb dX10_row_47 rfl (lv_at hl 0 rfl) ?_
          refine va_get (D := (dC, dI)) (ci := 10) (v := .ref m0_many) (C := RX10) (T := TX10) (N := 53) hx hb hts zl_X10 hown hK hP 0 rfl rfl 2 (by decide) (hts _ zw_t6_102) (fun _ h9 => h9) rfl dX10_row_48 ?_
          refine lv_iload_n hx hb dX10_row_51 rfl (lv_at hl 1 rfl) ?_
          refine lv_iload_n hx hb dX10_row_52 rfl (lv_at hl 3 rfl) ?_
          refine va_iast hx hb hK hP hD hS 2 1 rfl rfl (zi_in rfl (by first | with_reducible assumption | omega)) dX10_row_53 (fun H locs hP hD hS => ?_)
          obtain ⟨f_9, ef_9⟩ : ∃ g : Nat → Int32, g = upd f_m0_many (Int32.toNatClampNeg p1) p3 := ⟨_, rfl⟩
          have b_f_9 : ∀ j : Nat, 0 ≤ (f_9 j).toInt ∧ (f_9 j).toInt ≤ 60 := by rw [ef_9]; exact zi_upd b_f_m0_many rfl (by first | with_reducible assumption | omega)
          have hP : va_P (dC, dI) vwCl (zV125 m0 m0_width m0_many m0_cells m0_moved m0_tape m0_taped m0_at m0_token m0_place m0_value m0_word m0_bad m0_badPlace m0_fault m0_faultPlace m0_lines m0_hours m0_courts m0_in m0_gates m0_gate m0_people m0_at0 m0_stray m0_set m0_once m0_truth m0_known m0_isKept m0_strays m0_hostPerson m0_hostCourt m0_outside m0_inside m0_can m0_fewest m0_waysTo m0_then m0_two m0_nextTwo m0_three m0_nextThree m0_shut m0_worth m0_digit m0_codes m0_most m0_bestTry m0_dayCourt m0_dayHour m0_dayNo m0_x m0_width cA_m0_width f_8 m0_many cA_m0_many (upd f_m0_many (Int32.toNatClampNeg p1) p3) m0_cells cA_m0_cells f_m0_cells) H := hP
          have hD : va_D A (zV125 m0 m0_width m0_many m0_cells m0_moved m0_tape m0_taped m0_at m0_token m0_place m0_value m0_word m0_bad m0_badPlace m0_fault m0_faultPlace m0_lines m0_hours m0_courts m0_in m0_gates m0_gate m0_people m0_at0 m0_stray m0_set m0_once m0_truth m0_known m0_isKept m0_strays m0_hostPerson m0_hostCourt m0_outside m0_inside m0_can m0_fewest m0_waysTo m0_then m0_two m0_nextTwo m0_three m0_nextThree m0_shut m0_worth m0_digit m0_codes m0_most m0_bestTry m0_dayCourt m0_dayHour m0_dayNo m0_x m0_width cA_m0_width f_8 m0_many cA_m0_many (upd f_m0_many (Int32.toNatClampNeg p1) p3) m0_cells cA_m0_cells f_m0_cells) := hD
          rw [← ef_9] at hP hD
          refine lv_iconst (v := 0) hx hb dX10_row_54 (by decide) ?_
          refine lv_istore (lv' := [(4, .int 0), (0, .ref m0), (1, .int p1), (2, .int p2), (3, .int p3)]) hx hb dX10_row_55 hl (by decide) rfl (fun ls hl => ?_)
          have loop_1 : ∀ (t : Nat) (v4_10 : Int32) (g_m0_cells_11 : Nat → Int64) (b_v4_10 : 0 ≤ v4_10.toInt ∧ v4_10.toInt ≤ 60) (H : Heap) (locs : List Loc) (ls : Array Slot), 60 - v4_10.toInt < (t : Int) → va_P (dC, dI) vwCl (zV125 m0 m0_width m0_many m0_cells m0_moved m0_tape m0_taped m0_at m0_token m0_place m0_value m0_word m0_bad m0_badPlace m0_fault m0_faultPlace m0_lines m0_hours m0_courts m0_in m0_gates m0_gate m0_people m0_at0 m0_stray m0_set m0_once m0_truth m0_known m0_isKept m0_strays m0_hostPerson m0_hostCourt m0_outside m0_inside m0_can m0_fewest m0_waysTo m0_then m0_two m0_nextTwo m0_three m0_nextThree m0_shut m0_worth m0_digit m0_codes m0_most m0_bestTry m0_dayCourt m0_dayHour m0_dayNo m0_x m0_width cA_m0_width f_8 m0_many cA_m0_many f_9 m0_cells cA_m0_cells g_m0_cells_11) H → va_D A (zV125 m0 m0_width m0_many m0_cells m0_moved m0_tape m0_taped m0_at m0_token m0_place m0_value m0_word m0_bad m0_badPlace m0_fault m0_faultPlace m0_lines m0_hours m0_courts m0_in m0_gates m0_gate m0_people m0_at0 m0_stray m0_set m0_once m0_truth m0_known m0_isKept m0_strays m0_hostPerson m0_hostCourt m0_outside m0_inside m0_can m0_fewest m0_waysTo m0_then m0_two m0_nextTwo m0_three m0_nextThree m0_shut m0_worth m0_digit m0_codes m0_most m0_bestTry m0_dayCourt m0_dayHour m0_dayNo m0_x m0_width cA_m0_width f_8 m0_many cA_m0_many f_9 m0_cells cA_m0_cells g_m0_cells_11) → va_S A s.heap H locs → lv_has ls 5 [(0, .ref m0), (1, .int p1), (2, .int p2), (3, .int p3), (4, .int v4_10)] → W p l e R s m args below meth c H locs 0 0 (MQ below Qc args s 0 0 A) (F0 m 57 ls []) := by
            intro t
            induction t with
            | zero => intro v4_10 g_m0_cells_11 b_v4_10 H locs ls hmu _ _ _ _; exact absurd hmu (by first | with_reducible assumption | omega)
            | succ t ih_1 =>
              intro v4_10 g_m0_cells_11 b_v4_10 H locs ls hmu hP hD hS hl
              refine lv_iload hx hb dX10_row_57 (lv_at hl 4 rfl) ?_
              refine lv_iload_n hx hb dX10_row_59 rfl (lv_at hl 3 rfl) ?_
              refine lv_icmp_ge (tgt := 82) hx hb dX10_row_60 (by decide) (fun c_12 => ?_) (fun c_12 => ?_)
              · have ic_12 := zz_ge rfl rfl c_12
                refine lv_iconst (v := 0) hx hb dX10_row_82 (by decide) ?_
                have zc : Int32.toInt 0 = 0 := by decide
                exact W.iret (v := 0) hx hb hr (fun t ht hW => by rw [← hQe]; exact ⟨⟨0, (), rfl, (by first | with_reducible assumption | omega), ⟨(0), f_8, f_9, g_m0_cells_11, b_f_8, b_f_9, z_ret hP hK hD ht hW [0, 1, 2, 3] [] rfl (by decide) rfl⟩⟩, hS.F ht⟩) hS.2.2 dX10_row_83
              · have ic_12 := zz_nge rfl rfl c_12
                refine lv_aload_n hx hb dX10_row_63 rfl (lv_at hl 0 rfl) ?_
                refine va_get (D := (dC, dI)) (ci := 10) (v := .ref m0_cells) (C := RX10) (T := TX10) (N := 53) hx hb hts zl_X10 hown hK hP 0 rfl rfl 3 (by decide) (hts _ zw_t6_103) (fun _ h9 => h9) rfl dX10_row_64 ?_
                refine lv_bipush (v := 60) hx hb dX10_row_67 (by decide) ?_
                refine lv_iload_n hx hb dX10_row_69 rfl (lv_at hl 1 rfl) ?_
                refine lv_imul hx hb dX10_row_70 ?_
                refine lv_topi (fun x_13 ex_13 => ?_)
                have b_x_13 : x_13.toInt = 60 * p1.toInt := by rw [ex_13]; exact zi_mul (show Int32.toInt 60 = 60 from by decide) rfl (by first | with_reducible assumption | omega)
                refine lv_iload hx hb dX10_row_71 (lv_at hl 4 rfl) ?_
                refine lv_iadd hx hb dX10_row_73 ?_
                refine lv_topi (fun x_14 ex_14 => ?_)
                have b_x_14 : x_14.toInt = x_13.toInt + v4_10.toInt := by rw [ex_14]; exact zi_add rfl rfl (by first | with_reducible assumption | omega)
                refine lv_lconst (v := 0) hx hb dX10_row_74 (by decide) ?_
                refine va_last hx hb hK hP hD hS 3 2 rfl rfl (zi_in rfl (by first | with_reducible assumption | omega)) dX10_row_75 (fun H locs hP hD hS => ?_)
                obtain ⟨f_15, ef_15⟩ : ∃ g : Nat → Int64, g = vp_updL g_m0_cells_11 (Int32.toNatClampNeg x_14) 0 := ⟨_, rfl⟩
                have hP : va_P (dC, dI) vwCl (zV125 m0 m0_width m0_many m0_cells m0_moved m0_tape m0_taped m0_at m0_token m0_place m0_value m0_word m0_bad m0_badPlace m0_fault m0_faultPlace m0_lines m0_hours m0_courts m0_in m0_gates m0_gate m0_people m0_at0 m0_stray m0_set m0_once m0_truth m0_known m0_isKept m0_strays m0_hostPerson m0_hostCourt m0_outside m0_inside m0_can m0_fewest m0_waysTo m0_then m0_two m0_nextTwo m0_three m0_nextThree m0_shut m0_worth m0_digit m0_codes m0_most m0_bestTry m0_dayCourt m0_dayHour m0_dayNo m0_x m0_width cA_m0_width f_8 m0_many cA_m0_many f_9 m0_cells cA_m0_cells (vp_updL g_m0_cells_11 (Int32.toNatClampNeg x_14) 0)) H := hP
                have hD : va_D A (zV125 m0 m0_width m0_many m0_cells m0_moved m0_tape m0_taped m0_at m0_token m0_place m0_value m0_word m0_bad m0_badPlace m0_fault m0_faultPlace m0_lines m0_hours m0_courts m0_in m0_gates m0_gate m0_people m0_at0 m0_stray m0_set m0_once m0_truth m0_known m0_isKept m0_strays m0_hostPerson m0_hostCourt m0_outside m0_inside m0_can m0_fewest m0_waysTo m0_then m0_two m0_nextTwo m0_three m0_nextThree m0_shut m0_worth m0_digit m0_codes m0_most m0_bestTry m0_dayCourt m0_dayHour m0_dayNo m0_x m0_width cA_m0_width f_8 m0_many cA_m0_many f_9 m0_cells cA_m0_cells (vp_updL g_m0_cells_11 (Int32.toNatClampNeg x_14) 0)) := hD
                rw [← ef_15] at hP hD
                obtain ⟨x_16, ex_16⟩ : ∃ z : Int32, z = v4_10 + Int32.ofInt 1 := ⟨_, rfl⟩
                have b_x_16 : x_16.toInt = v4_10.toInt + 1 := by rw [ex_16]; exact zi_add rfl (show (Int32.ofInt 1).toInt = 1 from by decide) (z_rac b_v4_10 (by decide))
                refine lv_iinc (v := x_16) (lv' := [(4, .int x_16), (0, .ref m0), (1, .int p1), (2, .int p2), (3, .int p3)]) hx hb dX10_row_76 hl (k := 4) rfl ex_16.symm (by decide) rfl (fun ls hl => ?_)
                refine lv_goto (tgt := 57) hx hb dX10_row_79 (by decide) ?_
                exact ih_1 x_16 f_15 (by first | with_reducible assumption | omega) _ _ _ (by first | with_reducible assumption | omega) (hP.sub (ws' := (zV125 m0 m0_width m0_many m0_cells m0_moved m0_tape m0_taped m0_at m0_token m0_place m0_value m0_word m0_bad m0_badPlace m0_fault m0_faultPlace m0_lines m0_hours m0_courts m0_in m0_gates m0_gate m0_people m0_at0 m0_stray m0_set m0_once m0_truth m0_known m0_isKept m0_strays m0_hostPerson m0_hostCourt m0_outside m0_inside m0_can m0_fewest m0_waysTo m0_then m0_two m0_nextTwo m0_three m0_nextThree m0_shut m0_worth m0_digit m0_codes m0_most m0_bestTry m0_dayCourt m0_dayHour m0_dayNo m0_x m0_width cA_m0_width f_8 m0_many cA_m0_many f_9 m0_cells cA_m0_cells f_15)) [0, 1, 2, 3] rfl) (hD.sub (ws' := (zV125 m0 m0_width m0_many m0_cells m0_moved m0_tape m0_taped m0_at m0_token m0_place m0_value m0_word m0_bad m0_badPlace m0_fault m0_faultPlace m0_lines m0_hours m0_courts m0_in m0_gates m0_gate m0_people m0_at0 m0_stray m0_set m0_once m0_truth m0_known m0_isKept m0_strays m0_hostPerson m0_hostCourt m0_outside m0_inside m0_can m0_fewest m0_waysTo m0_then m0_two m0_nextTwo m0_three m0_nextThree m0_shut m0_worth m0_digit m0_codes m0_most m0_bestTry m0_dayCourt m0_dayHour m0_dayNo m0_x m0_width cA_m0_width f_8 m0_many cA_m0_many f_9 m0_cells cA_m0_cells f_15)) [0, 1, 2, 3] (by decide) rfl) hS (lv_sub hl [1, 2, 3, 4, 0] rfl)
          exact loop_1 62 (0) f_m0_cells (by decide) _ _ _ (by decide) hP hD hS (lv_sub hl [1, 2, 3, 4, 0] rfl)
        · have ic_7 := zz_nge rfl (show Int32.toInt 0 = 0 from by decide) c_7
          refine lv_bipush (v := (-3)) hx hb dX10_row_37 (by decide) ?_
          have zc : Int32.toInt (-3) = (-3) := by decide
          exact W.iret (v := (-3)) hx hb hr (fun t ht hW => by rw [← hQe]; exact ⟨⟨(-3), (), rfl, (by first | with_reducible assumption | omega), ⟨(0), f_m0_width, f_m0_many, f_m0_cells, b_f_m0_width, b_f_m0_many, z_ret hP hK hD ht hW [0, 1, 2, 3] [] rfl (by decide) rfl⟩⟩, hS.F ht⟩) hS.2.2 dX10_row_39
      · have ic_6 := zz_nle rfl (show Int32.toInt 60 = 60 from by decide) c_6
        refine lv_bipush (v := (-2)) hx hb dX10_row_30 (by decide) ?_
        have zc : Int32.toInt (-2) = (-2) := by decide
        exact W.iret (v := (-2)) hx hb hr (fun t ht hW => by rw [← hQe]; exact ⟨⟨(-2), (), rfl, (by first | with_reducible assumption | omega), ⟨(0), f_m0_width, f_m0_many, f_m0_cells, b_f_m0_width, b_f_m0_many, z_ret hP hK hD ht hW [0, 1, 2, 3] [] rfl (by decide) rfl⟩⟩, hS.F ht⟩) hS.2.2 dX10_row_32
