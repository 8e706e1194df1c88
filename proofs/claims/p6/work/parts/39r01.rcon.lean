set_option linter.all false
set_option maxHeartbeats 4000000 in
set_option maxRecDepth 100000 in
theorem kf_X10_surely (l : Launch) (sa : Nat → Nat) (dC : Nat → ClassId) (dI : Nat → Nat → Nat) (m0 : Nat) (m0_thrown : Int32) (m0_width : Nat) (m0_many : Nat) (m0_cells : Nat) (m0_moved : Nat) (m0_tape : Nat) (m0_taped : Int32) (m0_at : Int32) (m0_token : Int32) (m0_place : Int32) (m0_value : Int32) (m0_word : Int64) (m0_bad : Int32) (m0_badPlace : Int32) (m0_fault : Int32) (m0_faultPlace : Int32) (m0_lines : Nat) (m0_hours : Nat) (m0_courts : Nat) (m0_in : Nat) (m0_gates : Nat) (m0_gate : Nat) (m0_people : Nat) (m0_at0 : Nat) (m0_stray : Nat) (m0_set : Nat) (m0_once : Nat) (m0_truth : Nat) (m0_known : Nat) (m0_isKept : Nat) (m0_strays : Int32) (m0_hostPerson : Int32) (m0_hostCourt : Int32) (m0_outside : Int32) (m0_inside : Nat) (m0_can : Nat) (m0_fewest : Nat) (m0_waysTo : Nat) (m0_then : Nat) (m0_two : Nat) (m0_nextTwo : Nat) (m0_three : Nat) (m0_nextThree : Nat) (m0_shut : Int32) (m0_worth : Nat) (m0_digit : Nat) (m0_codes : Int32) (m0_most : Int64) (m0_bestTry : Int32) (m0_dayCourt : Int32) (m0_dayHour : Int32) (m0_dayNo : Int32) (m0_x : Int64) (cA_m0_people : ClassId) (f_m0_people : Nat → Int32) (cA_m0_known : ClassId) (f_m0_known : Nat → Int32) (b_m0_taped : 0 ≤ m0_taped.toInt ∧ m0_taped.toInt ≤ 1600) (b_m0_at : 0 ≤ m0_at.toInt ∧ m0_at.toInt ≤ 1600) (b_m0_token : 0 ≤ m0_token.toInt ∧ m0_token.toInt ≤ 4) (b_m0_value : 0 ≤ m0_value.toInt ∧ m0_value.toInt ≤ 1000009) (b_m0_bad : 0 ≤ m0_bad.toInt ∧ m0_bad.toInt ≤ 3) (b_m0_strays : 0 ≤ m0_strays.toInt ∧ m0_strays.toInt ≤ 5) (b_m0_hostCourt : 0 ≤ m0_hostCourt.toInt ∧ m0_hostCourt.toInt ≤ 9) (b_m0_dayCourt : 0 ≤ m0_dayCourt.toInt ∧ m0_dayCourt.toInt ≤ 9) (b_m0_dayHour : 0 ≤ m0_dayHour.toInt ∧ m0_dayHour.toInt ≤ 48) (b_f_m0_people : ∀ j : Nat, 0 ≤ (f_m0_people j).toInt ∧ (f_m0_people j).toInt ≤ 10) (b_f_m0_known : ∀ j : Nat, 0 ≤ (f_m0_known j).toInt ∧ (f_m0_known j).toInt ≤ 2) (sz : Nat) : Met l yX10_surely (.code yX10_surely cX10_surely 3 (some .int) :: zT) ({ frames := 0, cells := 0, slots := 0, locals := 0 }) (va_Pc [.ref m0] (zB sa dC dI (zV258 m0 m0_thrown m0_width m0_many m0_cells m0_moved m0_tape m0_taped m0_at m0_token m0_place m0_value m0_word m0_bad m0_badPlace m0_fault m0_faultPlace m0_lines m0_hours m0_courts m0_in m0_gates m0_gate m0_people m0_at0 m0_stray m0_set m0_once m0_truth m0_known m0_isKept m0_strays m0_hostPerson m0_hostCourt m0_outside m0_inside m0_can m0_fewest m0_waysTo m0_then m0_two m0_nextTwo m0_three m0_nextThree m0_shut m0_worth m0_digit m0_codes m0_most m0_bestTry m0_dayCourt m0_dayHour m0_dayNo m0_x m0_people cA_m0_people f_m0_people m0_known cA_m0_known f_m0_known) [(cA_m0_people, .int), (cA_m0_known, .int)] sz)) (va_Qi (fun (r : Int32) (_ : Unit) => (0 ≤ r.toInt ∧ r.toInt ≤ 1023) ∧ r = (F_X10_surely f_m0_people f_m0_known)) (fun _ t => zW dC dI (zV258 m0 m0_thrown m0_width m0_many m0_cells m0_moved m0_tape m0_taped m0_at m0_token m0_place m0_value m0_word m0_bad m0_badPlace m0_fault m0_faultPlace m0_lines m0_hours m0_courts m0_in m0_gates m0_gate m0_people m0_at0 m0_stray m0_set m0_once m0_truth m0_known m0_isKept m0_strays m0_hostPerson m0_hostCourt m0_outside m0_inside m0_can m0_fewest m0_waysTo m0_then m0_two m0_nextTwo m0_three m0_nextThree m0_shut m0_worth m0_digit m0_codes m0_most m0_bestTry m0_dayCourt m0_dayHour m0_dayNo m0_x m0_people cA_m0_people f_m0_people m0_known cA_m0_known f_m0_known) [] (va_A (zV258 m0 m0_thrown m0_width m0_many m0_cells m0_moved m0_tape m0_taped m0_at m0_token m0_place m0_value m0_word m0_bad m0_badPlace m0_fault m0_faultPlace m0_lines m0_hours m0_courts m0_in m0_gates m0_gate m0_people m0_at0 m0_stray m0_set m0_once m0_truth m0_known m0_isKept m0_strays m0_hostPerson m0_hostCourt m0_outside m0_inside m0_can m0_fewest m0_waysTo m0_then m0_two m0_nextTwo m0_three m0_nextThree m0_shut m0_worth m0_digit m0_codes m0_most m0_bestTry m0_dayCourt m0_dayHour m0_dayNo m0_x m0_people cA_m0_people f_m0_people m0_known cA_m0_known f_m0_known) sz) t) (va_A (zV258 m0 m0_thrown m0_width m0_many m0_cells m0_moved m0_tape m0_taped m0_at m0_token m0_place m0_value m0_word m0_bad m0_badPlace m0_fault m0_faultPlace m0_lines m0_hours m0_courts m0_in m0_gates m0_gate m0_people m0_at0 m0_stray m0_set m0_once m0_truth m0_known m0_isKept m0_strays m0_hostPerson m0_hostCourt m0_outside m0_inside m0_can m0_fewest m0_waysTo m0_then m0_two m0_nextTwo m0_three m0_nextThree m0_shut m0_worth m0_digit m0_codes m0_most m0_bestTry m0_dayCourt m0_dayHour m0_dayNo m0_x m0_people cA_m0_people f_m0_people m0_known cA_m0_known f_m0_known) sz)) 0 0 (va_A (zV258 m0 m0_thrown m0_width m0_many m0_cells m0_moved m0_tape m0_taped m0_at m0_token m0_place m0_value m0_word m0_bad m0_badPlace m0_fault m0_faultPlace m0_lines m0_hours m0_courts m0_in m0_gates m0_gate m0_people m0_at0 m0_stray m0_set m0_once m0_truth m0_known m0_isKept m0_strays m0_hostPerson m0_hostCourt m0_outside m0_inside m0_can m0_fewest m0_waysTo m0_then m0_two m0_nextTwo m0_three m0_nextThree m0_shut m0_worth m0_digit m0_codes m0_most m0_bestTry m0_dayCourt m0_dayHour m0_dayNo m0_x m0_people cA_m0_people f_m0_people m0_known cA_m0_known f_m0_known) sz) := by
  refine z_enter (by decide) (by exact (Nat.le_of_ble_eq_true rfl)) ?_
  intro p e s m args below meth c ls A R Qc hargs hsz hQe hAe hRe hx hb hml hr hts hown hlocks hin hl hP hK hD hN hXs hA hS
  rw [hAe] at hQe
  have hown : s.vm.findClass RX10 = some m.cls := hown
  have hl : lv_has ls 3 [(0, .ref m0)] := hl
  obtain ⟨RR, hRR⟩ : ∃ z : Int32, z = (F_X10_surely f_m0_people f_m0_known) := ⟨_, rfl⟩
  have hF : RR = (F_X10_surely f_m0_people f_m0_known) := hRR
  refine lv_iconst (v := 0) hx hb dX10_surely_0 (by decide) ?_
  refine lv_istore_n (lv' := [(1, .int 0), (0, .ref m0)]) hx hb dX10_surely_1 rfl hl (by decide) rfl (fun ls hl => ?_)
  refine lv_iconst (v := 0) hx hb dX10_surely_2 (by decide) ?_
  refine lv_istore_n (lv' := [(2, .int 0), (1, .int 0), (0, .ref m0)]) hx hb dX10_surely_3 rfl hl (by decide) rfl (fun ls hl => ?_)
  have loop_1 : ∀ (t_1 : Nat) (v1_2 : Int32) (v2_1 : Int32) (b_v1_2 : 0 ≤ v1_2.toInt ∧ v1_2.toInt ≤ 1023) (b_v2_1 : 0 ≤ v2_1.toInt ∧ v2_1.toInt ≤ 10) (H : Heap) (locs : List Loc) (ls : Array Slot), 10 - v2_1.toInt < (t_1 : Int) → RR = L_X10_surely_1 f_m0_people f_m0_known K_X10_surely_1_0 t_1 v1_2 v2_1 → va_P (dC, dI) vwCl (zV258 m0 m0_thrown m0_width m0_many m0_cells m0_moved m0_tape m0_taped m0_at m0_token m0_place m0_value m0_word m0_bad m0_badPlace m0_fault m0_faultPlace m0_lines m0_hours m0_courts m0_in m0_gates m0_gate m0_people m0_at0 m0_stray m0_set m0_once m0_truth m0_known m0_isKept m0_strays m0_hostPerson m0_hostCourt m0_outside m0_inside m0_can m0_fewest m0_waysTo m0_then m0_two m0_nextTwo m0_three m0_nextThree m0_shut m0_worth m0_digit m0_codes m0_most m0_bestTry m0_dayCourt m0_dayHour m0_dayNo m0_x m0_people cA_m0_people f_m0_people m0_known cA_m0_known f_m0_known) H → va_D A (zV258 m0 m0_thrown m0_width m0_many m0_cells m0_moved m0_tape m0_taped m0_at m0_token m0_place m0_value m0_word m0_bad m0_badPlace m0_fault m0_faultPlace m0_lines m0_hours m0_courts m0_in m0_gates m0_gate m0_people m0_at0 m0_stray m0_set m0_once m0_truth m0_known m0_isKept m0_strays m0_hostPerson m0_hostCourt m0_outside m0_inside m0_can m0_fewest m0_waysTo m0_then m0_two m0_nextTwo m0_three m0_nextThree m0_shut m0_worth m0_digit m0_codes m0_most m0_bestTry m0_dayCourt m0_dayHour m0_dayNo m0_x m0_people cA_m0_people f_m0_people m0_known cA_m0_known f_m0_known) → va_S A s.heap H locs → lv_has ls 3 [(0, .ref m0), (1, .int v1_2), (2, .int v2_1)] → W p l e R s m args below meth c H locs 0 0 (MQ below Qc args s 0 0 A) (F0 m 4 ls []) := by
    intro t_1
    induction t_1 with
    | zero => intro v1_2 v2_1 b_v1_2 b_v2_1 H locs ls hmu _ _ _ _ _; exact absurd hmu (by first | with_reducible assumption | omega)
    | succ t_1 ih_1 =>
      intro v1_2 v2_1 b_v1_2 b_v2_1 H locs ls hmu hF hP hD hS hl
      replace hF := hF.trans L_X10_surely_1_s
      refine lv_iload_n hx hb dX10_surely_4 rfl (lv_at hl 2 rfl) ?_
      refine lv_aload_n hx hb dX10_surely_5 rfl (lv_at hl 0 rfl) ?_
      refine va_get (D := (dC, dI)) (ci := 10) (v := .ref m0_people) (C := RX10) (T := TX10) (N := 53) hx hb hts zl_X10 hown hK hP 0 rfl rfl 22 (by decide) (hts _ zw_t6_122) (fun _ h9 => h9) rfl dX10_surely_6 ?_
      refine lv_iconst (v := 0) hx hb dX10_surely_9 (by decide) ?_
      refine va_iald hx hb hK hP 1 0 rfl rfl (zi_in (show Int32.toInt 0 = 0 from by decide) (by decide)) dX10_surely_10 ?_
      refine lv_topi (fun x_3 ex_3 => ?_)
      replace hF := hF.trans (zL_eq ex_3)
      have b_x_3 : 0 ≤ x_3.toInt ∧ x_3.toInt ≤ 10 := by rw [ex_3]; exact b_f_m0_people _
      have t_x_3 : x_3.toInt = (f_m0_people (Int32.toNatClampNeg 0)).toInt := by rw [ex_3]
      refine lv_icmp_ge (tgt := 39) hx hb dX10_surely_11 (by decide) (fun c_4 => ?_) (fun c_4 => ?_)
      · have ic_4 := zz_ge rfl rfl c_4
        replace hF := hF.trans (if_pos c_4)
        refine lv_iload_n hx hb dX10_surely_39 rfl (lv_at hl 1 rfl) ?_
        have hF : RR = v1_2 := hF
        exact W.iret (v := v1_2) hx hb hr (fun t ht hW => by rw [← hQe]; exact ⟨⟨v1_2, (), rfl, ⟨by omega, (by rw [← hRR, hF])⟩, z_ret hP hK hD ht hW [0, 1, 2] [] rfl (by decide) rfl⟩, hS.F ht⟩) hS.2.2 dX10_surely_40
      · have ic_4 := zz_nge rfl rfl c_4
        replace hF := hF.trans (if_neg c_4)
        refine lv_iload_n hx hb dX10_surely_14 rfl (lv_at hl 1 rfl) ?_
        refine lv_aload_n hx hb dX10_surely_15 rfl (lv_at hl 0 rfl) ?_
        refine va_get (D := (dC, dI)) (ci := 10) (v := .ref m0_known) (C := RX10) (T := TX10) (N := 53) hx hb hts zl_X10 hown hK hP 0 rfl rfl 28 (by decide) (hts _ zw_t6_128) (fun _ h9 => h9) rfl dX10_surely_16 ?_
        refine lv_iload_n hx hb dX10_surely_19 rfl (lv_at hl 2 rfl) ?_
        refine va_iald hx hb hK hP 2 1 rfl rfl (zi_in rfl (by first | exact z_rin b_v2_1 (by decide) | omega)) dX10_surely_20 ?_
        refine lv_topi (fun x_5 ex_5 => ?_)
        replace hF := hF.trans (zL_eq ex_5)
        have b_x_5 : 0 ≤ x_5.toInt ∧ x_5.toInt ≤ 2 := by rw [ex_5]; exact b_f_m0_known _
        refine lv_if_eq (tgt := 30) hx hb dX10_surely_21 (by decide) (fun c_6 => ?_) (fun c_6 => ?_)
        · have ic_6 := zz_eq rfl (show Int32.toInt 0 = 0 from by decide) c_6
          replace hF := hF.trans (if_pos c_6)
          refine lv_iconst (v := 0) hx hb dX10_surely_30 (by decide) ?_
          refine lv_ior hx hb dX10_surely_31 ?_
          refine lv_topi (fun x_7 ex_7 => ?_)
          replace hF := hF.trans (zL_eq ex_7)
          have b_x_7 : 0 ≤ x_7.toInt ∧ x_7.toInt ≤ 1023 := by rw [ex_7]; exact zi_or 10 rfl (show Int32.toInt 0 = 0 from by decide) (by first | with_reducible assumption | omega) (by first | with_reducible assumption | omega) (by decide)
          refine lv_istore_n (lv' := [(1, .int x_7), (0, .ref m0), (2, .int v2_1)]) hx hb dX10_surely_32 rfl hl (by decide) rfl (fun ls hl => ?_)
          obtain ⟨x_8, ex_8⟩ : ∃ z : Int32, z = v2_1 + Int32.ofInt 1 := ⟨_, rfl⟩
          have b_x_8 : x_8.toInt = v2_1.toInt + 1 := by rw [ex_8]; exact zi_add rfl (show (Int32.ofInt 1).toInt = 1 from by decide) (z_rac b_v2_1 (by decide))
          refine lv_iinc (v := x_8) (lv' := [(2, .int x_8), (1, .int x_7), (0, .ref m0)]) hx hb dX10_surely_33 hl (k := 2) rfl ex_8.symm (by decide) rfl (fun ls hl => ?_)
          replace hF := hF.trans (zL_eq ex_8)
          refine lv_goto (tgt := 4) hx hb dX10_surely_36 (by decide) ?_
          exact ih_1 x_7 x_8 (by first | with_reducible assumption | omega) (by first | with_reducible assumption | omega) _ _ _ (by first | with_reducible assumption | omega) hF (hP.sub (ws' := (zV258 m0 m0_thrown m0_width m0_many m0_cells m0_moved m0_tape m0_taped m0_at m0_token m0_place m0_value m0_word m0_bad m0_badPlace m0_fault m0_faultPlace m0_lines m0_hours m0_courts m0_in m0_gates m0_gate m0_people m0_at0 m0_stray m0_set m0_once m0_truth m0_known m0_isKept m0_strays m0_hostPerson m0_hostCourt m0_outside m0_inside m0_can m0_fewest m0_waysTo m0_then m0_two m0_nextTwo m0_three m0_nextThree m0_shut m0_worth m0_digit m0_codes m0_most m0_bestTry m0_dayCourt m0_dayHour m0_dayNo m0_x m0_people cA_m0_people f_m0_people m0_known cA_m0_known f_m0_known)) [0, 1, 2] rfl) (hD.sub (ws' := (zV258 m0 m0_thrown m0_width m0_many m0_cells m0_moved m0_tape m0_taped m0_at m0_token m0_place m0_value m0_word m0_bad m0_badPlace m0_fault m0_faultPlace m0_lines m0_hours m0_courts m0_in m0_gates m0_gate m0_people m0_at0 m0_stray m0_set m0_once m0_truth m0_known m0_isKept m0_strays m0_hostPerson m0_hostCourt m0_outside m0_inside m0_can m0_fewest m0_waysTo m0_then m0_two m0_nextTwo m0_three m0_nextThree m0_shut m0_worth m0_digit m0_codes m0_most m0_bestTry m0_dayCourt m0_dayHour m0_dayNo m0_x m0_people cA_m0_people f_m0_people m0_known cA_m0_known f_m0_known)) [0, 1, 2] (by decide) rfl) hS (lv_sub hl [2, 1, 0] rfl)
        · have ic_6 := zz_neq rfl (show Int32.toInt 0 = 0 from by decide) c_6
          replace hF := hF.trans (if_neg c_6)
          refine lv_iconst (v := 1) hx hb dX10_surely_24 (by decide) ?_
          refine lv_iload_n hx hb dX10_surely_25 rfl (lv_at hl 2 rfl) ?_
          refine lv_ishl hx hb dX10_surely_26 ?_
          refine lv_topi (fun x_9 ex_9 => ?_)
          replace hF := hF.trans (zL_eq ex_9)
          have b_x_9 : 1 ≤ x_9.toInt ∧ x_9.toInt ≤ 512 := by rw [ex_9]; exact zi_shl9 rfl (by first | with_reducible assumption | omega)
          refine lv_goto (tgt := 31) hx hb dX10_surely_27 (by decide) ?_
          refine lv_ior hx hb dX10_surely_31 ?_
          refine lv_topi (fun x_10 ex_10 => ?_)
          replace hF := hF.trans (zL_eq ex_10)
          have b_x_10 : 0 ≤ x_10.toInt ∧ x_10.toInt ≤ 1023 := by rw [ex_10]; exact zi_or 10 rfl rfl (by first | with_reducible assumption | omega) (by first | with_reducible assumption | omega) (by decide)
          refine lv_istore_n (lv' := [(1, .int x_10), (0, .ref m0), (2, .int v2_1)]) hx hb dX10_surely_32 rfl hl (by decide) rfl (fun ls hl => ?_)
          obtain ⟨x_11, ex_11⟩ : ∃ z : Int32, z = v2_1 + Int32.ofInt 1 := ⟨_, rfl⟩
          have b_x_11 : x_11.toInt = v2_1.toInt + 1 := by rw [ex_11]; exact zi_add rfl (show (Int32.ofInt 1).toInt = 1 from by decide) (z_rac b_v2_1 (by decide))
          refine lv_iinc (v := x_11) (lv' := [(2, .int x_11), (1, .int x_10), (0, .ref m0)]) hx hb dX10_surely_33 hl (k := 2) rfl ex_11.symm (by decide) rfl (fun ls hl => ?_)
          replace hF := hF.trans (zL_eq ex_11)
          refine lv_goto (tgt := 4) hx hb dX10_surely_36 (by decide) ?_
          exact ih_1 x_10 x_11 (by first | with_reducible assumption | omega) (by first | with_reducible assumption | omega) _ _ _ (by first | with_reducible assumption | omega) hF (hP.sub (ws' := (zV258 m0 m0_thrown m0_width m0_many m0_cells m0_moved m0_tape m0_taped m0_at m0_token m0_place m0_value m0_word m0_bad m0_badPlace m0_fault m0_faultPlace m0_lines m0_hours m0_courts m0_in m0_gates m0_gate m0_people m0_at0 m0_stray m0_set m0_once m0_truth m0_known m0_isKept m0_strays m0_hostPerson m0_hostCourt m0_outside m0_inside m0_can m0_fewest m0_waysTo m0_then m0_two m0_nextTwo m0_three m0_nextThree m0_shut m0_worth m0_digit m0_codes m0_most m0_bestTry m0_dayCourt m0_dayHour m0_dayNo m0_x m0_people cA_m0_people f_m0_people m0_known cA_m0_known f_m0_known)) [0, 1, 2] rfl) (hD.sub (ws' := (zV258 m0 m0_thrown m0_width m0_many m0_cells m0_moved m0_tape m0_taped m0_at m0_token m0_place m0_value m0_word m0_bad m0_badPlace m0_fault m0_faultPlace m0_lines m0_hours m0_courts m0_in m0_gates m0_gate m0_people m0_at0 m0_stray m0_set m0_once m0_truth m0_known m0_isKept m0_strays m0_hostPerson m0_hostCourt m0_outside m0_inside m0_can m0_fewest m0_waysTo m0_then m0_two m0_nextTwo m0_three m0_nextThree m0_shut m0_worth m0_digit m0_codes m0_most m0_bestTry m0_dayCourt m0_dayHour m0_dayNo m0_x m0_people cA_m0_people f_m0_people m0_known cA_m0_known f_m0_known)) [0, 1, 2] (by decide) rfl) hS (lv_sub hl [2, 1, 0] rfl)
  exact loop_1 12 (0) (0) (by decide) (by decide) _ _ _ (by decide) hF hP hD hS (lv_sub hl [2, 1, 0] rfl)
set_option maxHeartbeats 4000000 in
set_option maxRecDepth 100000 in
theorem kf_X10_straysBy (l : Launch) (sa : Nat → Nat) (dC : Nat → ClassId) (dI : Nat → Nat → Nat) (m0 : Nat) (p1 : Int32) (p2 : Int32) (m0_thrown : Int32) (m0_width : Nat) (m0_many : Nat) (m0_cells : Nat) (m0_moved : Nat) (m0_tape : Nat) (m0_taped : Int32) (m0_at : Int32) (m0_token : Int32) (m0_place : Int32) (m0_value : Int32) (m0_word : Int64) (m0_bad : Int32) (m0_badPlace : Int32) (m0_fault : Int32) (m0_faultPlace : Int32) (m0_lines : Nat) (m0_hours : Nat) (m0_courts : Nat) (m0_in : Nat) (m0_gates : Nat) (m0_gate : Nat) (m0_people : Nat) (m0_at0 : Nat) (m0_stray : Nat) (m0_set : Nat) (m0_once : Nat) (m0_truth : Nat) (m0_known : Nat) (m0_isKept : Nat) (m0_strays : Int32) (m0_hostPerson : Int32) (m0_hostCourt : Int32) (m0_outside : Int32) (m0_inside : Nat) (m0_can : Nat) (m0_fewest : Nat) (m0_waysTo : Nat) (m0_then : Nat) (m0_two : Nat) (m0_nextTwo : Nat) (m0_three : Nat) (m0_nextThree : Nat) (m0_shut : Int32) (m0_worth : Nat) (m0_digit : Nat) (m0_codes : Int32) (m0_most : Int64) (m0_bestTry : Int32) (m0_dayCourt : Int32) (m0_dayHour : Int32) (m0_dayNo : Int32) (m0_x : Int64) (cA_m0_stray : ClassId) (f_m0_stray : Nat → Int32) (b_p1 : 0 ≤ p1.toInt ∧ p1.toInt ≤ 9) (b_m0_taped : 0 ≤ m0_taped.toInt ∧ m0_taped.toInt ≤ 1600) (b_m0_at : 0 ≤ m0_at.toInt ∧ m0_at.toInt ≤ 1600) (b_m0_token : 0 ≤ m0_token.toInt ∧ m0_token.toInt ≤ 4) (b_m0_value : 0 ≤ m0_value.toInt ∧ m0_value.toInt ≤ 1000009) (b_m0_bad : 0 ≤ m0_bad.toInt ∧ m0_bad.toInt ≤ 3) (b_m0_strays : 0 ≤ m0_strays.toInt ∧ m0_strays.toInt ≤ 5) (b_m0_hostCourt : 0 ≤ m0_hostCourt.toInt ∧ m0_hostCourt.toInt ≤ 9) (b_m0_dayCourt : 0 ≤ m0_dayCourt.toInt ∧ m0_dayCourt.toInt ≤ 9) (b_m0_dayHour : 0 ≤ m0_dayHour.toInt ∧ m0_dayHour.toInt ≤ 48) (b_f_m0_stray : ∀ j : Nat, 0 ≤ (f_m0_stray j).toInt ∧ (f_m0_stray j).toInt ≤ 99 ∧ (j % 2 = 1 → (f_m0_stray j).toInt ≤ 9)) (sz : Nat) : Met l yX10_straysBy (.code yX10_straysBy cX10_straysBy 3 (some .int) :: zT) ({ frames := 0, cells := 0, slots := 0, locals := 0 }) (va_Pc [.ref m0, .int p1, .int p2] (zB sa dC dI (zV83 m0 m0_thrown m0_width m0_many m0_cells m0_moved m0_tape m0_taped m0_at m0_token m0_place m0_value m0_word m0_bad m0_badPlace m0_fault m0_faultPlace m0_lines m0_hours m0_courts m0_in m0_gates m0_gate m0_people m0_at0 m0_stray m0_set m0_once m0_truth m0_known m0_isKept m0_strays m0_hostPerson m0_hostCourt m0_outside m0_inside m0_can m0_fewest m0_waysTo m0_then m0_two m0_nextTwo m0_three m0_nextThree m0_shut m0_worth m0_digit m0_codes m0_most m0_bestTry m0_dayCourt m0_dayHour m0_dayNo m0_x m0_stray cA_m0_stray f_m0_stray) [(cA_m0_stray, .int)] sz)) (va_Qi (fun (r : Int32) (_ : Unit) => (0 ≤ r.toInt ∧ r.toInt ≤ 100) ∧ r = (F_X10_straysBy p1 p2 f_m0_stray)) (fun _ t => zW dC dI (zV83 m0 m0_thrown m0_width m0_many m0_cells m0_moved m0_tape m0_taped m0_at m0_token m0_place m0_value m0_word m0_bad m0_badPlace m0_fault m0_faultPlace m0_lines m0_hours m0_courts m0_in m0_gates m0_gate m0_people m0_at0 m0_stray m0_set m0_once m0_truth m0_known m0_isKept m0_strays m0_hostPerson m0_hostCourt m0_outside m0_inside m0_can m0_fewest m0_waysTo m0_then m0_two m0_nextTwo m0_three m0_nextThree m0_shut m0_worth m0_digit m0_codes m0_most m0_bestTry m0_dayCourt m0_dayHour m0_dayNo m0_x m0_stray cA_m0_stray f_m0_stray) [] (va_A (zV83 m0 m0_thrown m0_width m0_many m0_cells m0_moved m0_tape m0_taped m0_at m0_token m0_place m0_value m0_word m0_bad m0_badPlace m0_fault m0_faultPlace m0_lines m0_hours m0_courts m0_in m0_gates m0_gate m0_people m0_at0 m0_stray m0_set m0_once m0_truth m0_known m0_isKept m0_strays m0_hostPerson m0_hostCourt m0_outside m0_inside m0_can m0_fewest m0_waysTo m0_then m0_two m0_nextTwo m0_three m0_nextThree m0_shut m0_worth m0_digit m0_codes m0_most m0_bestTry m0_dayCourt m0_dayHour m0_dayNo m0_x m0_stray cA_m0_stray f_m0_stray) sz) t) (va_A (zV83 m0 m0_thrown m0_width m0_many m0_cells m0_moved m0_tape m0_taped m0_at m0_token m0_place m0_value m0_word m0_bad m0_badPlace m0_fault m0_faultPlace m0_lines m0_hours m0_courts m0_in m0_gates m0_gate m0_people m0_at0 m0_stray m0_set m0_once m0_truth m0_known m0_isKept m0_strays m0_hostPerson m0_hostCourt m0_outside m0_inside m0_can m0_fewest m0_waysTo m0_then m0_two m0_nextTwo m0_three m0_nextThree m0_shut m0_worth m0_digit m0_codes m0_most m0_bestTry m0_dayCourt m0_dayHour m0_dayNo m0_x m0_stray cA_m0_stray f_m0_stray) sz)) 0 0 (va_A (zV83 m0 m0_thrown m0_width m0_many m0_cells m0_moved m0_tape m0_taped m0_at m0_token m0_place m0_value m0_word m0_bad m0_badPlace m0_fault m0_faultPlace m0_lines m0_hours m0_courts m0_in m0_gates m0_gate m0_people m0_at0 m0_stray m0_set m0_once m0_truth m0_known m0_isKept m0_strays m0_hostPerson m0_hostCourt m0_outside m0_inside m0_can m0_fewest m0_waysTo m0_then m0_two m0_nextTwo m0_three m0_nextThree m0_shut m0_worth m0_digit m0_codes m0_most m0_bestTry m0_dayCourt m0_dayHour m0_dayNo m0_x m0_stray cA_m0_stray f_m0_stray) sz) := by
  refine z_enter (by decide) (by exact (Nat.le_of_ble_eq_true rfl)) ?_
  intro p e s m args below meth c ls A R Qc hargs hsz hQe hAe hRe hx hb hml hr hts hown hlocks hin hl hP hK hD hN hXs hA hS
  rw [hAe] at hQe
  have hown : s.vm.findClass RX10 = some m.cls := hown
  have hl : lv_has ls 3 [(0, .ref m0), (1, .int p1), (2, .int p2)] := hl
  obtain ⟨RR, hRR⟩ : ∃ z : Int32, z = (F_X10_straysBy p1 p2 f_m0_stray) := ⟨_, rfl⟩
  have hF : RR = (F_X10_straysBy p1 p2 f_m0_stray) := hRR
  refine lv_iload_n hx hb dX10_straysBy_0 rfl (lv_at hl 2 rfl) ?_
  refine lv_iconst (v := 1) hx hb dX10_straysBy_1 (by decide) ?_
  have nb_p2 := zi_nb p2
  refine lv_icmp_ne (tgt := 9) hx hb dX10_straysBy_2 (by decide) (fun c_1 => ?_) (fun c_1 => ?_)
  · have ic_1 := zz_ne rfl (show Int32.toInt 1 = 1 from by decide) c_1
    replace hF := hF.trans (if_neg c_1)
    refine lv_iload_n hx hb dX10_straysBy_9 rfl (lv_at hl 2 rfl) ?_
    refine lv_iconst (v := 2) hx hb dX10_straysBy_10 (by decide) ?_
    refine lv_icmp_ne (tgt := 19) hx hb dX10_straysBy_11 (by decide) (fun c_2 => ?_) (fun c_2 => ?_)
    · have ic_2 := zz_ne rfl (show Int32.toInt 2 = 2 from by decide) c_2
      replace hF := hF.trans (if_neg c_2)
      refine lv_aload_n hx hb dX10_straysBy_19 rfl (lv_at hl 0 rfl) ?_
      refine va_get (D := (dC, dI)) (ci := 10) (v := .ref m0_stray) (C := RX10) (T := TX10) (N := 53) hx hb hts zl_X10 hown hK hP 0 rfl rfl 24 (by decide) (hts _ zw_t6_124) (fun _ h9 => h9) rfl dX10_straysBy_20 ?_
      refine lv_iconst (v := 2) hx hb dX10_straysBy_23 (by decide) ?_
      refine lv_iload_n hx hb dX10_straysBy_24 rfl (lv_at hl 1 rfl) ?_
      refine lv_imul hx hb dX10_straysBy_25 ?_
      refine lv_topi (fun x_3 ex_3 => ?_)
      replace hF := hF.trans (zL_eq ex_3)
      have b_x_3 : x_3.toInt = 2 * p1.toInt := by rw [ex_3]; exact zi_mul (show Int32.toInt 2 = 2 from by decide) rfl (z_rmc b_p1 (by decide))
      refine va_iald hx hb hK hP 1 0 rfl rfl (zi_in rfl (by first | exact z_rin (z_emc (c := 2) b_x_3 b_p1) (by decide) | omega)) dX10_straysBy_26 ?_
      refine lv_topi (fun x_4 ex_4 => ?_)
      replace hF := hF.trans (zL_eq ex_4)
      have b_x_4 := b_f_m0_stray (Int32.toNatClampNeg x_3)
      rw [← ex_4] at b_x_4
      have kx_x_4 := zi_clamp (x := x_3) rfl (z_r0 (z_emc (c := 2) b_x_3 b_p1) (by decide))
      have hF : RR = x_4 := hF
      exact W.iret (v := x_4) hx hb hr (fun t ht hW => by rw [← hQe]; exact ⟨⟨x_4, (), rfl, ⟨by omega, (by rw [← hRR, hF])⟩, z_ret hP hK hD ht hW [0, 1] [] rfl (by decide) rfl⟩, hS.F ht⟩) hS.2.2 dX10_straysBy_27
    · have ic_2 := zz_nne rfl (show Int32.toInt 2 = 2 from by decide) c_2
      replace hF := hF.trans (if_pos c_2)
      refine lv_bipush (v := 100) hx hb dX10_straysBy_14 (by decide) ?_
      refine lv_goto (tgt := 27) hx hb dX10_straysBy_16 (by decide) ?_
      have hF : RR = (100 : Int32) := hF
      have zc : Int32.toInt 100 = 100 := by decide
      exact W.iret (v := 100) hx hb hr (fun t ht hW => by rw [← hQe]; exact ⟨⟨100, (), rfl, ⟨by decide, (by rw [← hRR, hF])⟩, z_ret hP hK hD ht hW [0, 1] [] rfl (by decide) rfl⟩, hS.F ht⟩) hS.2.2 dX10_straysBy_27
  · have ic_1 := zz_nne rfl (show Int32.toInt 1 = 1 from by decide) c_1
    replace hF := hF.trans (if_pos c_1)
    refine lv_iconst (v := 0) hx hb dX10_straysBy_5 (by decide) ?_
    refine lv_goto (tgt := 27) hx hb dX10_straysBy_6 (by decide) ?_
    have hF : RR = (0 : Int32) := hF
    have zc : Int32.toInt 0 = 0 := by decide
    exact W.iret (v := 0) hx hb hr (fun t ht hW => by rw [← hQe]; exact ⟨⟨0, (), rfl, ⟨by decide, (by rw [← hRR, hF])⟩, z_ret hP hK hD ht hW [0, 1] [] rfl (by decide) rfl⟩, hS.F ht⟩) hS.2.2 dX10_straysBy_27
set_option maxHeartbeats 4000000 in
set_option maxRecDepth 100000 in
theorem kf_X10_drawn (l : Launch) (sa : Nat → Nat) (dC : Nat → ClassId) (dI : Nat → Nat → Nat) (m0 : Nat) (m0_thrown : Int32) (m0_width : Nat) (m0_many : Nat) (m0_cells : Nat) (m0_moved : Nat) (m0_tape : Nat) (m0_taped : Int32) (m0_at : Int32) (m0_token : Int32) (m0_place : Int32) (m0_value : Int32) (m0_word : Int64) (m0_bad : Int32) (m0_badPlace : Int32) (m0_fault : Int32) (m0_faultPlace : Int32) (m0_lines : Nat) (m0_hours : Nat) (m0_courts : Nat) (m0_in : Nat) (m0_gates : Nat) (m0_gate : Nat) (m0_people : Nat) (m0_at0 : Nat) (m0_stray : Nat) (m0_set : Nat) (m0_once : Nat) (m0_truth : Nat) (m0_known : Nat) (m0_isKept : Nat) (m0_strays : Int32) (m0_hostPerson : Int32) (m0_hostCourt : Int32) (m0_outside : Int32) (m0_inside : Nat) (m0_can : Nat) (m0_fewest : Nat) (m0_waysTo : Nat) (m0_then : Nat) (m0_two : Nat) (m0_nextTwo : Nat) (m0_three : Nat) (m0_nextThree : Nat) (m0_shut : Int32) (m0_worth : Nat) (m0_digit : Nat) (m0_codes : Int32) (m0_most : Int64) (m0_bestTry : Int32) (m0_dayCourt : Int32) (m0_dayHour : Int32) (m0_dayNo : Int32) (m0_x : Int64) (b_m0_taped : 0 ≤ m0_taped.toInt ∧ m0_taped.toInt ≤ 1600) (b_m0_at : 0 ≤ m0_at.toInt ∧ m0_at.toInt ≤ 1600) (b_m0_token : 0 ≤ m0_token.toInt ∧ m0_token.toInt ≤ 4) (b_m0_value : 0 ≤ m0_value.toInt ∧ m0_value.toInt ≤ 1000009) (b_m0_bad : 0 ≤ m0_bad.toInt ∧ m0_bad.toInt ≤ 3) (b_m0_strays : 0 ≤ m0_strays.toInt ∧ m0_strays.toInt ≤ 5) (b_m0_hostCourt : 0 ≤ m0_hostCourt.toInt ∧ m0_hostCourt.toInt ≤ 9) (b_m0_dayCourt : 0 ≤ m0_dayCourt.toInt ∧ m0_dayCourt.toInt ≤ 9) (b_m0_dayHour : 0 ≤ m0_dayHour.toInt ∧ m0_dayHour.toInt ≤ 48) (sz : Nat) : Met l yX10_drawn (.code yX10_drawn cX10_drawn 1 (some .int) :: zT) ({ frames := 0, cells := 0, slots := 0, locals := 0 }) (va_Pc [.ref m0] (zB sa dC dI (zV84 m0 m0_thrown m0_width m0_many m0_cells m0_moved m0_tape m0_taped m0_at m0_token m0_place m0_value m0_word m0_bad m0_badPlace m0_fault m0_faultPlace m0_lines m0_hours m0_courts m0_in m0_gates m0_gate m0_people m0_at0 m0_stray m0_set m0_once m0_truth m0_known m0_isKept m0_strays m0_hostPerson m0_hostCourt m0_outside m0_inside m0_can m0_fewest m0_waysTo m0_then m0_two m0_nextTwo m0_three m0_nextThree m0_shut m0_worth m0_digit m0_codes m0_most m0_bestTry m0_dayCourt m0_dayHour m0_dayNo m0_x) [] sz)) (va_Qi (fun (r : Int32) (_ : Unit) => r = (F_X10_drawn m0_x).1) (fun _ t => ∃ (n_m0_52 : Int64), (n_m0_52 = (F_X10_drawn m0_x).2) ∧ zW dC dI (zV84 m0 m0_thrown m0_width m0_many m0_cells m0_moved m0_tape m0_taped m0_at m0_token m0_place m0_value m0_word m0_bad m0_badPlace m0_fault m0_faultPlace m0_lines m0_hours m0_courts m0_in m0_gates m0_gate m0_people m0_at0 m0_stray m0_set m0_once m0_truth m0_known m0_isKept m0_strays m0_hostPerson m0_hostCourt m0_outside m0_inside m0_can m0_fewest m0_waysTo m0_then m0_two m0_nextTwo m0_three m0_nextThree m0_shut m0_worth m0_digit m0_codes m0_most m0_bestTry m0_dayCourt m0_dayHour m0_dayNo n_m0_52) [] (va_A (zV84 m0 m0_thrown m0_width m0_many m0_cells m0_moved m0_tape m0_taped m0_at m0_token m0_place m0_value m0_word m0_bad m0_badPlace m0_fault m0_faultPlace m0_lines m0_hours m0_courts m0_in m0_gates m0_gate m0_people m0_at0 m0_stray m0_set m0_once m0_truth m0_known m0_isKept m0_strays m0_hostPerson m0_hostCourt m0_outside m0_inside m0_can m0_fewest m0_waysTo m0_then m0_two m0_nextTwo m0_three m0_nextThree m0_shut m0_worth m0_digit m0_codes m0_most m0_bestTry m0_dayCourt m0_dayHour m0_dayNo m0_x) sz) t) (va_A (zV84 m0 m0_thrown m0_width m0_many m0_cells m0_moved m0_tape m0_taped m0_at m0_token m0_place m0_value m0_word m0_bad m0_badPlace m0_fault m0_faultPlace m0_lines m0_hours m0_courts m0_in m0_gates m0_gate m0_people m0_at0 m0_stray m0_set m0_once m0_truth m0_known m0_isKept m0_strays m0_hostPerson m0_hostCourt m0_outside m0_inside m0_can m0_fewest m0_waysTo m0_then m0_two m0_nextTwo m0_three m0_nextThree m0_shut m0_worth m0_digit m0_codes m0_most m0_bestTry m0_dayCourt m0_dayHour m0_dayNo m0_x) sz)) 0 0 (va_A (zV84 m0 m0_thrown m0_width m0_many m0_cells m0_moved m0_tape m0_taped m0_at m0_token m0_place m0_value m0_word m0_bad m0_badPlace m0_fault m0_faultPlace m0_lines m0_hours m0_courts m0_in m0_gates m0_gate m0_people m0_at0 m0_stray m0_set m0_once m0_truth m0_known m0_isKept m0_strays m0_hostPerson m0_hostCourt m0_outside m0_inside m0_can m0_fewest m0_waysTo m0_then m0_two m0_nextTwo m0_three m0_nextThree m0_shut m0_worth m0_digit m0_codes m0_most m0_bestTry m0_dayCourt m0_dayHour m0_dayNo m0_x) sz) := by
  refine z_enter (by decide) (by exact (Nat.le_of_ble_eq_true rfl)) ?_
  intro p e s m args below meth c ls A R Qc hargs hsz hQe hAe hRe hx hb hml hr hts hown hlocks hin hl hP hK hD hN hXs hA hS
  rw [hAe] at hQe
  have hown : s.vm.findClass RX10 = some m.cls := hown
  have hl : lv_has ls 1 [(0, .ref m0)] := hl
  obtain ⟨RR, hRR⟩ : ∃ z : Int32 × Int64, z = (F_X10_drawn m0_x) := ⟨_, rfl⟩
  have hF : RR = (F_X10_drawn m0_x) := hRR
  refine lv_aload_n hx hb dX10_drawn_0 rfl (lv_at hl 0 rfl) ?_
  refine lv_ldc2 (v := 1103515245) hx hb hown (hts _ zw_t9_64) dX10_drawn_1 ?_
  refine lv_aload_n hx hb dX10_drawn_4 rfl (lv_at hl 0 rfl) ?_
  refine va_get (D := (dC, dI)) (ci := 10) (v := .long m0_x) (C := RX10) (T := TX10) (N := 53) hx hb hts zl_X10 hown hK hP 0 rfl rfl 52 (by decide) (hts _ zw_t6_152) (fun _ h9 => h9) rfl dX10_drawn_5 ?_
  refine lv_lmul hx hb dX10_drawn_8 ?_
  refine lv_topl (fun x_1 ex_1 => ?_)
  replace hF := hF.trans (zL_eq ex_1)
  refine lv_ldc2 (v := 12345) hx hb hown (hts _ zw_t9_65) dX10_drawn_9 ?_
  refine lv_ladd hx hb dX10_drawn_12 ?_
  refine lv_topl (fun x_2 ex_2 => ?_)
  replace hF := hF.trans (zL_eq ex_2)
  refine lv_ldc2 (v := 2147483648) hx hb hown (hts _ zw_t9_66) dX10_drawn_13 ?_
  refine lv_lrem hx hb dX10_drawn_16 (by decide) ?_
  refine lv_topl (fun x_3 ex_3 => ?_)
  replace hF := hF.trans (zL_eq ex_3)
  refine va_put (D := (dC, dI)) (ci := 10) (v := .long x_3) (ty := .long) (C := RX10) (T := TX10) (N := 53) hx hb hts zl_X10 tyX10 tyX10_ok nmX10 hown hK hP hD hS 0 rfl rfl 52 (by decide) (hts _ zw_t6_152) (fun _ h9 => h9) rfl (by decide +kernel) rfl rfl (Nat.le_of_ble_eq_true rfl) dX10_drawn_17 (fun H locs hP hD hS => ?_)
  have hP : va_P (dC, dI) vwCl (zV84 m0 m0_thrown m0_width m0_many m0_cells m0_moved m0_tape m0_taped m0_at m0_token m0_place m0_value m0_word m0_bad m0_badPlace m0_fault m0_faultPlace m0_lines m0_hours m0_courts m0_in m0_gates m0_gate m0_people m0_at0 m0_stray m0_set m0_once m0_truth m0_known m0_isKept m0_strays m0_hostPerson m0_hostCourt m0_outside m0_inside m0_can m0_fewest m0_waysTo m0_then m0_two m0_nextTwo m0_three m0_nextThree m0_shut m0_worth m0_digit m0_codes m0_most m0_bestTry m0_dayCourt m0_dayHour m0_dayNo x_3) H := hP
  have hD : va_D A (zV84 m0 m0_thrown m0_width m0_many m0_cells m0_moved m0_tape m0_taped m0_at m0_token m0_place m0_value m0_word m0_bad m0_badPlace m0_fault m0_faultPlace m0_lines m0_hours m0_courts m0_in m0_gates m0_gate m0_people m0_at0 m0_stray m0_set m0_once m0_truth m0_known m0_isKept m0_strays m0_hostPerson m0_hostCourt m0_outside m0_inside m0_can m0_fewest m0_waysTo m0_then m0_two m0_nextTwo m0_three m0_nextThree m0_shut m0_worth m0_digit m0_codes m0_most m0_bestTry m0_dayCourt m0_dayHour m0_dayNo x_3) := hD
  refine lv_aload_n hx hb dX10_drawn_20 rfl (lv_at hl 0 rfl) ?_
  refine va_get (D := (dC, dI)) (ci := 10) (v := .long x_3) (C := RX10) (T := TX10) (N := 53) hx hb hts zl_X10 hown hK hP 0 rfl rfl 52 (by decide) (hts _ zw_t6_152) (fun _ h9 => h9) rfl dX10_drawn_21 ?_
  refine lv_ldc2 (v := 65536) hx hb hown (hts _ zw_t9_67) dX10_drawn_24 ?_
  refine lv_ldiv hx hb dX10_drawn_27 (by decide) ?_
  refine lv_topl (fun x_4 ex_4 => ?_)
  replace hF := hF.trans (zL_eq ex_4)
  refine lv_ldc2 (v := 100) hx hb hown (hts _ zw_t8_220) dX10_drawn_28 ?_
  refine lv_lrem hx hb dX10_drawn_31 (by decide) ?_
  refine lv_topl (fun x_5 ex_5 => ?_)
  replace hF := hF.trans (zL_eq ex_5)
  refine lv_l2i (v := _) hx hb dX10_drawn_32 rfl ?_
  refine lv_topi (fun x_6 ex_6 => ?_)
  replace hF := hF.trans (zL_eq ex_6)
  have hF : RR = (x_6, x_3) := hF
  exact W.iret (v := x_6) hx hb hr (fun t ht hW => by rw [← hQe]; exact ⟨⟨x_6, (), rfl, (by rw [← hRR, hF]), ⟨x_3, (by rw [← hRR, hF]), z_ret hP hK hD ht hW [0] [] rfl (by decide) rfl⟩⟩, hS.F ht⟩) hS.2.2 dX10_drawn_33
set_option maxHeartbeats 4000000 in
set_option maxRecDepth 100000 in
theorem kf_X10_end (l : Launch) (sa : Nat → Nat) (dC : Nat → ClassId) (dI : Nat → Nat → Nat) (m0 : Nat) (p1 : Int32) (m0_thrown : Int32) (m0_width : Nat) (m0_many : Nat) (m0_cells : Nat) (m0_moved : Nat) (m0_tape : Nat) (m0_taped : Int32) (m0_at : Int32) (m0_token : Int32) (m0_place : Int32) (m0_value : Int32) (m0_word : Int64) (m0_bad : Int32) (m0_badPlace : Int32) (m0_fault : Int32) (m0_faultPlace : Int32) (m0_lines : Nat) (m0_hours : Nat) (m0_courts : Nat) (m0_in : Nat) (m0_gates : Nat) (m0_gate : Nat) (m0_people : Nat) (m0_at0 : Nat) (m0_stray : Nat) (m0_set : Nat) (m0_once : Nat) (m0_truth : Nat) (m0_known : Nat) (m0_isKept : Nat) (m0_strays : Int32) (m0_hostPerson : Int32) (m0_hostCourt : Int32) (m0_outside : Int32) (m0_inside : Nat) (m0_can : Nat) (m0_fewest : Nat) (m0_waysTo : Nat) (m0_then : Nat) (m0_two : Nat) (m0_nextTwo : Nat) (m0_three : Nat) (m0_nextThree : Nat) (m0_shut : Int32) (m0_worth : Nat) (m0_digit : Nat) (m0_codes : Int32) (m0_most : Int64) (m0_bestTry : Int32) (m0_dayCourt : Int32) (m0_dayHour : Int32) (m0_dayNo : Int32) (m0_x : Int64) (b_m0_taped : 0 ≤ m0_taped.toInt ∧ m0_taped.toInt ≤ 1600) (b_m0_at : 0 ≤ m0_at.toInt ∧ m0_at.toInt ≤ 1600) (b_m0_token : 0 ≤ m0_token.toInt ∧ m0_token.toInt ≤ 4) (b_m0_value : 0 ≤ m0_value.toInt ∧ m0_value.toInt ≤ 1000009) (b_m0_bad : 0 ≤ m0_bad.toInt ∧ m0_bad.toInt ≤ 3) (b_m0_strays : 0 ≤ m0_strays.toInt ∧ m0_strays.toInt ≤ 5) (b_m0_hostCourt : 0 ≤ m0_hostCourt.toInt ∧ m0_hostCourt.toInt ≤ 9) (b_m0_dayCourt : 0 ≤ m0_dayCourt.toInt ∧ m0_dayCourt.toInt ≤ 9) (b_m0_dayHour : 0 ≤ m0_dayHour.toInt ∧ m0_dayHour.toInt ≤ 48) (sz : Nat) : Met l yX10_end (.code yX10_end cX10_end 2 (some .int) :: zT) ({ frames := 1, cells := 0, slots := 0, locals := 25 }) (va_Pc [.ref m0, .int p1] (zB sa dC dI (zV84 m0 m0_thrown m0_width m0_many m0_cells m0_moved m0_tape m0_taped m0_at m0_token m0_place m0_value m0_word m0_bad m0_badPlace m0_fault m0_faultPlace m0_lines m0_hours m0_courts m0_in m0_gates m0_gate m0_people m0_at0 m0_stray m0_set m0_once m0_truth m0_known m0_isKept m0_strays m0_hostPerson m0_hostCourt m0_outside m0_inside m0_can m0_fewest m0_waysTo m0_then m0_two m0_nextTwo m0_three m0_nextThree m0_shut m0_worth m0_digit m0_codes m0_most m0_bestTry m0_dayCourt m0_dayHour m0_dayNo m0_x) [] sz)) (va_Qi (fun (r : Int32) (_ : Unit) => ((-1) ≤ r.toInt ∧ r.toInt ≤ 1600) ∧ r = (F_X10_end p1 m0_taped).1) (fun _ t => ∃ (n_m0_0 : Int32) (n_m0_6 : Int32), (0 ≤ n_m0_6.toInt ∧ n_m0_6.toInt ≤ 1600) ∧ (n_m0_0 = (F_X10_end p1 m0_taped).2.1) ∧ (n_m0_6 = (F_X10_end p1 m0_taped).2.2) ∧ zW dC dI (zV84 m0 n_m0_0 m0_width m0_many m0_cells m0_moved m0_tape n_m0_6 m0_at m0_token m0_place m0_value m0_word m0_bad m0_badPlace m0_fault m0_faultPlace m0_lines m0_hours m0_courts m0_in m0_gates m0_gate m0_people m0_at0 m0_stray m0_set m0_once m0_truth m0_known m0_isKept m0_strays m0_hostPerson m0_hostCourt m0_outside m0_inside m0_can m0_fewest m0_waysTo m0_then m0_two m0_nextTwo m0_three m0_nextThree m0_shut m0_worth m0_digit m0_codes m0_most m0_bestTry m0_dayCourt m0_dayHour m0_dayNo m0_x) [] (va_A (zV84 m0 m0_thrown m0_width m0_many m0_cells m0_moved m0_tape m0_taped m0_at m0_token m0_place m0_value m0_word m0_bad m0_badPlace m0_fault m0_faultPlace m0_lines m0_hours m0_courts m0_in m0_gates m0_gate m0_people m0_at0 m0_stray m0_set m0_once m0_truth m0_known m0_isKept m0_strays m0_hostPerson m0_hostCourt m0_outside m0_inside m0_can m0_fewest m0_waysTo m0_then m0_two m0_nextTwo m0_three m0_nextThree m0_shut m0_worth m0_digit m0_codes m0_most m0_bestTry m0_dayCourt m0_dayHour m0_dayNo m0_x) sz) t) (va_A (zV84 m0 m0_thrown m0_width m0_many m0_cells m0_moved m0_tape m0_taped m0_at m0_token m0_place m0_value m0_word m0_bad m0_badPlace m0_fault m0_faultPlace m0_lines m0_hours m0_courts m0_in m0_gates m0_gate m0_people m0_at0 m0_stray m0_set m0_once m0_truth m0_known m0_isKept m0_strays m0_hostPerson m0_hostCourt m0_outside m0_inside m0_can m0_fewest m0_waysTo m0_then m0_two m0_nextTwo m0_three m0_nextThree m0_shut m0_worth m0_digit m0_codes m0_most m0_bestTry m0_dayCourt m0_dayHour m0_dayNo m0_x) sz)) 0 0 (va_A (zV84 m0 m0_thrown m0_width m0_many m0_cells m0_moved m0_tape m0_taped m0_at m0_token m0_place m0_value m0_word m0_bad m0_badPlace m0_fault m0_faultPlace m0_lines m0_hours m0_courts m0_in m0_gates m0_gate m0_people m0_at0 m0_stray m0_set m0_once m0_truth m0_known m0_isKept m0_strays m0_hostPerson m0_hostCourt m0_outside m0_inside m0_can m0_fewest m0_waysTo m0_then m0_two m0_nextTwo m0_three m0_nextThree m0_shut m0_worth m0_digit m0_codes m0_most m0_bestTry m0_dayCourt m0_dayHour m0_dayNo m0_x) sz) := by
  refine z_enter (by decide) (by exact (Nat.le_of_ble_eq_true rfl)) ?_
  intro p e s m args below meth c ls A R Qc hargs hsz hQe hAe hRe hx hb hml hr hts hown hlocks hin hl hP hK hD hN hXs hA hS
  rw [hAe] at hQe
  have hown : s.vm.findClass RX10 = some m.cls := hown
  have hl : lv_has ls 2 [(0, .ref m0), (1, .int p1)] := hl
  obtain ⟨RR, hRR⟩ : ∃ z : Int32 × Int32 × Int32, z = (F_X10_end p1 m0_taped) := ⟨_, rfl⟩
  have hF : RR = (F_X10_end p1 m0_taped) := hRR
  refine lv_aload_n hx hb dX10_end_0 rfl (lv_at hl 0 rfl) ?_
  refine lv_iconst (v := 0) hx hb dX10_end_1 (by decide) ?_
  refine va_put (D := (dC, dI)) (ci := 10) (v := .int 0) (ty := .int) (C := RX10) (T := TX10) (N := 53) hx hb hts zl_X10 tyX10 tyX10_ok nmX10 hown hK hP hD hS 0 rfl rfl 0 (by decide) (hts _ zw_t6_100) (fun _ h9 => h9) rfl (by decide +kernel) rfl rfl (Nat.le_of_ble_eq_true rfl) dX10_end_2 (fun H locs hP hD hS => ?_)
  have hP : va_P (dC, dI) vwCl (zV123 m0 m0_width m0_many m0_cells m0_moved m0_tape m0_taped m0_at m0_token m0_place m0_value m0_word m0_bad m0_badPlace m0_fault m0_faultPlace m0_lines m0_hours m0_courts m0_in m0_gates m0_gate m0_people m0_at0 m0_stray m0_set m0_once m0_truth m0_known m0_isKept m0_strays m0_hostPerson m0_hostCourt m0_outside m0_inside m0_can m0_fewest m0_waysTo m0_then m0_two m0_nextTwo m0_three m0_nextThree m0_shut m0_worth m0_digit m0_codes m0_most m0_bestTry m0_dayCourt m0_dayHour m0_dayNo m0_x) H := hP
  have hD : va_D A (zV123 m0 m0_width m0_many m0_cells m0_moved m0_tape m0_taped m0_at m0_token m0_place m0_value m0_word m0_bad m0_badPlace m0_fault m0_faultPlace m0_lines m0_hours m0_courts m0_in m0_gates m0_gate m0_people m0_at0 m0_stray m0_set m0_once m0_truth m0_known m0_isKept m0_strays m0_hostPerson m0_hostCourt m0_outside m0_inside m0_can m0_fewest m0_waysTo m0_then m0_two m0_nextTwo m0_three m0_nextThree m0_shut m0_worth m0_digit m0_codes m0_most m0_bestTry m0_dayCourt m0_dayHour m0_dayNo m0_x) := hD
  refine lv_iload_n hx hb dX10_end_5 rfl (lv_at hl 1 rfl) ?_
  refine lv_i2l (v := _) hx hb dX10_end_6 rfl ?_
  refine lv_topl (fun x_1 ex_1 => ?_)
  replace hF := hF.trans (zL_eq ex_1)
  have b_x_1 : x_1.toInt = p1.toInt := by rw [ex_1]; exact z_l64 _
  refine lv_lconst (v := 0) hx hb dX10_end_7 (by decide) ?_
  refine lv_aload_n hx hb dX10_end_8 rfl (lv_at hl 0 rfl) ?_
  refine va_get (D := (dC, dI)) (ci := 10) (v := .int m0_taped) (C := RX10) (T := TX10) (N := 53) hx hb hts zl_X10 hown hK hP 0 rfl rfl 6 (by decide) (hts _ zw_t6_106) (fun _ h9 => h9) rfl dX10_end_9 ?_
  refine lv_i2l (v := _) hx hb dX10_end_12 rfl ?_
  refine lv_topl (fun x_2 ex_2 => ?_)
  replace hF := hF.trans (zL_eq ex_2)
  have b_x_2 : x_2.toInt = m0_taped.toInt := by rw [ex_2]; exact z_l64 _
  obtain ⟨hPc, hDc, hFc⟩ := z_cut (wc := []) hP hD hS hA [] rfl (by decide +kernel)
  have hKc := hK.sub (tys' := []) [] rfl
  refine va_calli (va_runS (As := [.long x_1, .long 0, .long x_2]) (rest := []) ⟨hx, hb, hml, hown, hts⟩ (kf_X10_in l sa dC dI x_1 (0) x_2 H.size) (va_cwS 3 hts (z_gS zw_t7_29 zw_t7_30 zw_t1_11 zw_t7_31) rfl rfl rfl (by decide +kernel) (by rw [← hRe]; exact ⟨(Nat.le_of_ble_eq_true rfl), (Nat.le_of_ble_eq_true rfl)⟩)) (z_preS hPc hKc hDc hN hXs hS hFc) rfl rfl hl.1 rfl (lv_room (Nat.le_of_ble_eq_true rfl)) dX10_end_13 (by rw [← hRe]; exact ⟨(Nat.le_of_ble_eq_true rfl), (Nat.le_of_ble_eq_true rfl)⟩)) hS (fun q _ h => hFc q h) hFc (fun r_3 u t H1 locs ht hvm hw hB hz1 hk1 hS => ?_)
  obtain ⟨hP, hD, hK⟩ := z_after3 (wn := (zV123 m0 m0_width m0_many m0_cells m0_moved m0_tape m0_taped m0_at m0_token m0_place m0_value m0_word m0_bad m0_badPlace m0_fault m0_faultPlace m0_lines m0_hours m0_courts m0_in m0_gates m0_gate m0_people m0_at0 m0_stray m0_set m0_once m0_truth m0_known m0_isKept m0_strays m0_hostPerson m0_hostCourt m0_outside m0_inside m0_can m0_fewest m0_waysTo m0_then m0_two m0_nextTwo m0_three m0_nextThree m0_shut m0_worth m0_digit m0_codes m0_most m0_bestTry m0_dayCourt m0_dayHour m0_dayNo m0_x)) hB ht hvm hP hD hK [] [0] rfl 1 rfl (by decide +kernel) rfl (by decide +kernel) hk1 hFc
  generalize H1 = H at hP hS ⊢
  have hK : va_K (dC, dI) vwCl [] s := hK
  have b_r_3 : 0 ≤ r_3.toInt ∧ r_3.toInt ≤ 1 := hw.1
  have s_r_3 := hw.2.1
  have sf_r_3 := hw.2.2
  have zal_0 : Int64.toInt 0 = 0 := by decide
  replace hF := hF.trans (zL_eq sf_r_3)
  refine lv_if_ne (tgt := 21) hx hb dX10_end_16 (by decide) (fun c_4 => ?_) (fun c_4 => ?_)
  · have ic_4 := zz_ne rfl (show Int32.toInt 0 = 0 from by decide) c_4
    replace hF := hF.trans (if_neg c_4)
    refine lv_aload_n hx hb dX10_end_21 rfl (lv_at hl 0 rfl) ?_
    refine lv_iload_n hx hb dX10_end_22 rfl (lv_at hl 1 rfl) ?_
    refine va_put (D := (dC, dI)) (ci := 10) (v := .int p1) (ty := .int) (C := RX10) (T := TX10) (N := 53) hx hb hts zl_X10 tyX10 tyX10_ok nmX10 hown hK hP hD hS 0 rfl rfl 6 (by decide) (hts _ zw_t6_106) (fun _ h9 => h9) rfl (by decide +kernel) rfl rfl (Nat.le_of_ble_eq_true rfl) dX10_end_23 (fun H locs hP hD hS => ?_)
    have hP : va_P (dC, dI) vwCl (zV123 m0 m0_width m0_many m0_cells m0_moved m0_tape p1 m0_at m0_token m0_place m0_value m0_word m0_bad m0_badPlace m0_fault m0_faultPlace m0_lines m0_hours m0_courts m0_in m0_gates m0_gate m0_people m0_at0 m0_stray m0_set m0_once m0_truth m0_known m0_isKept m0_strays m0_hostPerson m0_hostCourt m0_outside m0_inside m0_can m0_fewest m0_waysTo m0_then m0_two m0_nextTwo m0_three m0_nextThree m0_shut m0_worth m0_digit m0_codes m0_most m0_bestTry m0_dayCourt m0_dayHour m0_dayNo m0_x) H := hP
    have hD : va_D A (zV123 m0 m0_width m0_many m0_cells m0_moved m0_tape p1 m0_at m0_token m0_place m0_value m0_word m0_bad m0_badPlace m0_fault m0_faultPlace m0_lines m0_hours m0_courts m0_in m0_gates m0_gate m0_people m0_at0 m0_stray m0_set m0_once m0_truth m0_known m0_isKept m0_strays m0_hostPerson m0_hostCourt m0_outside m0_inside m0_can m0_fewest m0_waysTo m0_then m0_two m0_nextTwo m0_three m0_nextThree m0_shut m0_worth m0_digit m0_codes m0_most m0_bestTry m0_dayCourt m0_dayHour m0_dayNo m0_x) := hD
    refine lv_iload_n hx hb dX10_end_26 rfl (lv_at hl 1 rfl) ?_
    have hF : RR = (p1, (0 : Int32), p1) := hF
    exact W.iret (v := p1) hx hb hr (fun t ht hW => by rw [← hQe]; exact ⟨⟨p1, (), rfl, ⟨by omega, (by rw [← hRR, hF])⟩, ⟨(0), p1, (by first | with_reducible assumption | omega), (by rw [← hRR, hF]), (by rw [← hRR, hF]), z_ret hP hK hD ht hW [0] [] rfl (by decide) rfl⟩⟩, hS.F ht⟩) hS.2.2 dX10_end_27
  · have ic_4 := zz_nne rfl (show Int32.toInt 0 = 0 from by decide) c_4
    replace hF := hF.trans (if_pos c_4)
    refine lv_iconst (v := (-1)) hx hb dX10_end_19 (by decide) ?_
    have hF : RR = ((-1 : Int32), (0 : Int32), m0_taped) := hF
    have zc : Int32.toInt (-1) = (-1) := by decide
    exact W.iret (v := (-1)) hx hb hr (fun t ht hW => by rw [← hQe]; exact ⟨⟨(-1), (), rfl, ⟨by decide, (by rw [← hRR, hF])⟩, ⟨(0), m0_taped, (by first | with_reducible assumption | omega), (by rw [← hRR, hF]), (by rw [← hRR, hF]), z_ret hP hK hD ht hW [0] [] rfl (by decide) rfl⟩⟩, hS.F ht⟩) hS.2.2 dX10_end_20
set_option maxHeartbeats 4000000 in
set_option maxRecDepth 100000 in
theorem kf_X10_fault (l : Launch) (sa : Nat → Nat) (dC : Nat → ClassId) (dI : Nat → Nat → Nat) (m0 : Nat) (p1 : Int32) (m0_thrown : Int32) (m0_width : Nat) (m0_many : Nat) (m0_cells : Nat) (m0_moved : Nat) (m0_tape : Nat) (m0_taped : Int32) (m0_at : Int32) (m0_token : Int32) (m0_place : Int32) (m0_value : Int32) (m0_word : Int64) (m0_bad : Int32) (m0_badPlace : Int32) (m0_fault : Int32) (m0_faultPlace : Int32) (m0_lines : Nat) (m0_hours : Nat) (m0_courts : Nat) (m0_in : Nat) (m0_gates : Nat) (m0_gate : Nat) (m0_people : Nat) (m0_at0 : Nat) (m0_stray : Nat) (m0_set : Nat) (m0_once : Nat) (m0_truth : Nat) (m0_known : Nat) (m0_isKept : Nat) (m0_strays : Int32) (m0_hostPerson : Int32) (m0_hostCourt : Int32) (m0_outside : Int32) (m0_inside : Nat) (m0_can : Nat) (m0_fewest : Nat) (m0_waysTo : Nat) (m0_then : Nat) (m0_two : Nat) (m0_nextTwo : Nat) (m0_three : Nat) (m0_nextThree : Nat) (m0_shut : Int32) (m0_worth : Nat) (m0_digit : Nat) (m0_codes : Int32) (m0_most : Int64) (m0_bestTry : Int32) (m0_dayCourt : Int32) (m0_dayHour : Int32) (m0_dayNo : Int32) (m0_x : Int64) (b_m0_taped : 0 ≤ m0_taped.toInt ∧ m0_taped.toInt ≤ 1600) (b_m0_at : 0 ≤ m0_at.toInt ∧ m0_at.toInt ≤ 1600) (b_m0_token : 0 ≤ m0_token.toInt ∧ m0_token.toInt ≤ 4) (b_m0_value : 0 ≤ m0_value.toInt ∧ m0_value.toInt ≤ 1000009) (b_m0_bad : 0 ≤ m0_bad.toInt ∧ m0_bad.toInt ≤ 3) (b_m0_strays : 0 ≤ m0_strays.toInt ∧ m0_strays.toInt ≤ 5) (b_m0_hostCourt : 0 ≤ m0_hostCourt.toInt ∧ m0_hostCourt.toInt ≤ 9) (b_m0_dayCourt : 0 ≤ m0_dayCourt.toInt ∧ m0_dayCourt.toInt ≤ 9) (b_m0_dayHour : 0 ≤ m0_dayHour.toInt ∧ m0_dayHour.toInt ≤ 48) (sz : Nat) : Met l yX10_fault (.code yX10_fault cX10_fault 2 (some .int) :: zT) ({ frames := 0, cells := 0, slots := 0, locals := 0 }) (va_Pc [.ref m0, .int p1] (zB sa dC dI (zV84 m0 m0_thrown m0_width m0_many m0_cells m0_moved m0_tape m0_taped m0_at m0_token m0_place m0_value m0_word m0_bad m0_badPlace m0_fault m0_faultPlace m0_lines m0_hours m0_courts m0_in m0_gates m0_gate m0_people m0_at0 m0_stray m0_set m0_once m0_truth m0_known m0_isKept m0_strays m0_hostPerson m0_hostCourt m0_outside m0_inside m0_can m0_fewest m0_waysTo m0_then m0_two m0_nextTwo m0_three m0_nextThree m0_shut m0_worth m0_digit m0_codes m0_most m0_bestTry m0_dayCourt m0_dayHour m0_dayNo m0_x) [] sz)) (va_Qi (fun (r : Int32) (_ : Unit) => r = (F_X10_fault p1 m0_fault m0_faultPlace).1) (fun _ t => ∃ (n_m0_0 : Int32), (n_m0_0 = (F_X10_fault p1 m0_fault m0_faultPlace).2) ∧ zW dC dI (zV84 m0 n_m0_0 m0_width m0_many m0_cells m0_moved m0_tape m0_taped m0_at m0_token m0_place m0_value m0_word m0_bad m0_badPlace m0_fault m0_faultPlace m0_lines m0_hours m0_courts m0_in m0_gates m0_gate m0_people m0_at0 m0_stray m0_set m0_once m0_truth m0_known m0_isKept m0_strays m0_hostPerson m0_hostCourt m0_outside m0_inside m0_can m0_fewest m0_waysTo m0_then m0_two m0_nextTwo m0_three m0_nextThree m0_shut m0_worth m0_digit m0_codes m0_most m0_bestTry m0_dayCourt m0_dayHour m0_dayNo m0_x) [] (va_A (zV84 m0 m0_thrown m0_width m0_many m0_cells m0_moved m0_tape m0_taped m0_at m0_token m0_place m0_value m0_word m0_bad m0_badPlace m0_fault m0_faultPlace m0_lines m0_hours m0_courts m0_in m0_gates m0_gate m0_people m0_at0 m0_stray m0_set m0_once m0_truth m0_known m0_isKept m0_strays m0_hostPerson m0_hostCourt m0_outside m0_inside m0_can m0_fewest m0_waysTo m0_then m0_two m0_nextTwo m0_three m0_nextThree m0_shut m0_worth m0_digit m0_codes m0_most m0_bestTry m0_dayCourt m0_dayHour m0_dayNo m0_x) sz) t) (va_A (zV84 m0 m0_thrown m0_width m0_many m0_cells m0_moved m0_tape m0_taped m0_at m0_token m0_place m0_value m0_word m0_bad m0_badPlace m0_fault m0_faultPlace m0_lines m0_hours m0_courts m0_in m0_gates m0_gate m0_people m0_at0 m0_stray m0_set m0_once m0_truth m0_known m0_isKept m0_strays m0_hostPerson m0_hostCourt m0_outside m0_inside m0_can m0_fewest m0_waysTo m0_then m0_two m0_nextTwo m0_three m0_nextThree m0_shut m0_worth m0_digit m0_codes m0_most m0_bestTry m0_dayCourt m0_dayHour m0_dayNo m0_x) sz)) 0 0 (va_A (zV84 m0 m0_thrown m0_width m0_many m0_cells m0_moved m0_tape m0_taped m0_at m0_token m0_place m0_value m0_word m0_bad m0_badPlace m0_fault m0_faultPlace m0_lines m0_hours m0_courts m0_in m0_gates m0_gate m0_people m0_at0 m0_stray m0_set m0_once m0_truth m0_known m0_isKept m0_strays m0_hostPerson m0_hostCourt m0_outside m0_inside m0_can m0_fewest m0_waysTo m0_then m0_two m0_nextTwo m0_three m0_nextThree m0_shut m0_worth m0_digit m0_codes m0_most m0_bestTry m0_dayCourt m0_dayHour m0_dayNo m0_x) sz) := by
  refine z_enter (by decide) (by exact (Nat.le_of_ble_eq_true rfl)) ?_
  intro p e s m args below meth c ls A R Qc hargs hsz hQe hAe hRe hx hb hml hr hts hown hlocks hin hl hP hK hD hN hXs hA hS
  rw [hAe] at hQe
  have hown : s.vm.findClass RX10 = some m.cls := hown
  have hl : lv_has ls 2 [(0, .ref m0), (1, .int p1)] := hl
  obtain ⟨RR, hRR⟩ : ∃ z : Int32 × Int32, z = (F_X10_fault p1 m0_fault m0_faultPlace) := ⟨_, rfl⟩
  have hF : RR = (F_X10_fault p1 m0_fault m0_faultPlace) := hRR
  refine lv_aload_n hx hb dX10_fault_0 rfl (lv_at hl 0 rfl) ?_
  refine lv_iconst (v := 0) hx hb dX10_fault_1 (by decide) ?_
  refine va_put (D := (dC, dI)) (ci := 10) (v := .int 0) (ty := .int) (C := RX10) (T := TX10) (N := 53) hx hb hts zl_X10 tyX10 tyX10_ok nmX10 hown hK hP hD hS 0 rfl rfl 0 (by decide) (hts _ zw_t6_100) (fun _ h9 => h9) rfl (by decide +kernel) rfl rfl (Nat.le_of_ble_eq_true rfl) dX10_fault_2 (fun H locs hP hD hS => ?_)
  have hP : va_P (dC, dI) vwCl (zV123 m0 m0_width m0_many m0_cells m0_moved m0_tape m0_taped m0_at m0_token m0_place m0_value m0_word m0_bad m0_badPlace m0_fault m0_faultPlace m0_lines m0_hours m0_courts m0_in m0_gates m0_gate m0_people m0_at0 m0_stray m0_set m0_once m0_truth m0_known m0_isKept m0_strays m0_hostPerson m0_hostCourt m0_outside m0_inside m0_can m0_fewest m0_waysTo m0_then m0_two m0_nextTwo m0_three m0_nextThree m0_shut m0_worth m0_digit m0_codes m0_most m0_bestTry m0_dayCourt m0_dayHour m0_dayNo m0_x) H := hP
  have hD : va_D A (zV123 m0 m0_width m0_many m0_cells m0_moved m0_tape m0_taped m0_at m0_token m0_place m0_value m0_word m0_bad m0_badPlace m0_fault m0_faultPlace m0_lines m0_hours m0_courts m0_in m0_gates m0_gate m0_people m0_at0 m0_stray m0_set m0_once m0_truth m0_known m0_isKept m0_strays m0_hostPerson m0_hostCourt m0_outside m0_inside m0_can m0_fewest m0_waysTo m0_then m0_two m0_nextTwo m0_three m0_nextThree m0_shut m0_worth m0_digit m0_codes m0_most m0_bestTry m0_dayCourt m0_dayHour m0_dayNo m0_x) := hD
  refine lv_iload_n hx hb dX10_fault_5 rfl (lv_at hl 1 rfl) ?_
  have nb_p1 := zi_nb p1
  refine lv_if_ne (tgt := 16) hx hb dX10_fault_6 (by decide) (fun c_1 => ?_) (fun c_1 => ?_)
  · have ic_1 := zz_ne rfl (show Int32.toInt 0 = 0 from by decide) c_1
    replace hF := hF.trans (if_neg c_1)
    refine lv_iload_n hx hb dX10_fault_16 rfl (lv_at hl 1 rfl) ?_
    refine lv_iconst (v := 1) hx hb dX10_fault_17 (by decide) ?_
    refine lv_icmp_ne (tgt := 28) hx hb dX10_fault_18 (by decide) (fun c_2 => ?_) (fun c_2 => ?_)
    · have ic_2 := zz_ne rfl (show Int32.toInt 1 = 1 from by decide) c_2
      replace hF := hF.trans (if_neg c_2)
      refine lv_iconst (v := (-1)) hx hb dX10_fault_28 (by decide) ?_
      have hF : RR = ((-1 : Int32), (0 : Int32)) := hF
      have zc : Int32.toInt (-1) = (-1) := by decide
      exact W.iret (v := (-1)) hx hb hr (fun t ht hW => by rw [← hQe]; exact ⟨⟨(-1), (), rfl, (by rw [← hRR, hF]), ⟨(0), (by rw [← hRR, hF]), z_ret hP hK hD ht hW [0] [] rfl (by decide) rfl⟩⟩, hS.F ht⟩) hS.2.2 dX10_fault_29
    · have ic_2 := zz_nne rfl (show Int32.toInt 1 = 1 from by decide) c_2
      replace hF := hF.trans (if_pos c_2)
      refine lv_aload_n hx hb dX10_fault_21 rfl (lv_at hl 0 rfl) ?_
      refine va_get (D := (dC, dI)) (ci := 10) (v := .int m0_faultPlace) (C := RX10) (T := TX10) (N := 53) hx hb hts zl_X10 hown hK hP 0 rfl rfl 15 (by decide) (hts _ zw_t6_115) (fun _ h9 => h9) rfl dX10_fault_22 ?_
      refine lv_goto (tgt := 29) hx hb dX10_fault_25 (by decide) ?_
      have hF : RR = (m0_faultPlace, (0 : Int32)) := hF
      exact W.iret (v := m0_faultPlace) hx hb hr (fun t ht hW => by rw [← hQe]; exact ⟨⟨m0_faultPlace, (), rfl, (by rw [← hRR, hF]), ⟨(0), (by rw [← hRR, hF]), z_ret hP hK hD ht hW [0] [] rfl (by decide) rfl⟩⟩, hS.F ht⟩) hS.2.2 dX10_fault_29
  · have ic_1 := zz_nne rfl (show Int32.toInt 0 = 0 from by decide) c_1
    replace hF := hF.trans (if_pos c_1)
    refine lv_aload_n hx hb dX10_fault_9 rfl (lv_at hl 0 rfl) ?_
    refine va_get (D := (dC, dI)) (ci := 10) (v := .int m0_fault) (C := RX10) (T := TX10) (N := 53) hx hb hts zl_X10 hown hK hP 0 rfl rfl 14 (by decide) (hts _ zw_t6_114) (fun _ h9 => h9) rfl dX10_fault_10 ?_
    refine lv_goto (tgt := 29) hx hb dX10_fault_13 (by decide) ?_
    have hF : RR = (m0_fault, (0 : Int32)) := hF
    exact W.iret (v := m0_fault) hx hb hr (fun t ht hW => by rw [← hQe]; exact ⟨⟨m0_fault, (), rfl, (by rw [← hRR, hF]), ⟨(0), (by rw [← hRR, hF]), z_ret hP hK hD ht hW [0] [] rfl (by decide) rfl⟩⟩, hS.F ht⟩) hS.2.2 dX10_fault_29
set_option maxHeartbeats 4000000 in
set_option maxRecDepth 100000 in
theorem kf_X10_placeOf (l : Launch) (sa : Nat → Nat) (dC : Nat → ClassId) (dI : Nat → Nat → Nat) (m0 : Nat) (p1 : Int32) (p2 : Int32) (p3 : Int32) (m0_thrown : Int32) (m0_width : Nat) (m0_many : Nat) (m0_cells : Nat) (m0_moved : Nat) (m0_tape : Nat) (m0_taped : Int32) (m0_at : Int32) (m0_token : Int32) (m0_place : Int32) (m0_value : Int32) (m0_word : Int64) (m0_bad : Int32) (m0_badPlace : Int32) (m0_fault : Int32) (m0_faultPlace : Int32) (m0_lines : Nat) (m0_hours : Nat) (m0_courts : Nat) (m0_in : Nat) (m0_gates : Nat) (m0_gate : Nat) (m0_people : Nat) (m0_at0 : Nat) (m0_stray : Nat) (m0_set : Nat) (m0_once : Nat) (m0_truth : Nat) (m0_known : Nat) (m0_isKept : Nat) (m0_strays : Int32) (m0_hostPerson : Int32) (m0_hostCourt : Int32) (m0_outside : Int32) (m0_inside : Nat) (m0_can : Nat) (m0_fewest : Nat) (m0_waysTo : Nat) (m0_then : Nat) (m0_two : Nat) (m0_nextTwo : Nat) (m0_three : Nat) (m0_nextThree : Nat) (m0_shut : Int32) (m0_worth : Nat) (m0_digit : Nat) (m0_codes : Int32) (m0_most : Int64) (m0_bestTry : Int32) (m0_dayCourt : Int32) (m0_dayHour : Int32) (m0_dayNo : Int32) (m0_x : Int64) (cA_m0_at0 : ClassId) (f_m0_at0 : Nat → Int32) (cA_m0_stray : ClassId) (f_m0_stray : Nat → Int32) (b_p1 : 0 ≤ p1.toInt ∧ p1.toInt ≤ 9) (b_p2 : 0 ≤ p2.toInt ∧ p2.toInt ≤ 1) (b_p3 : 0 ≤ p3.toInt ∧ p3.toInt ≤ 47) (b_m0_taped : 0 ≤ m0_taped.toInt ∧ m0_taped.toInt ≤ 1600) (b_m0_at : 0 ≤ m0_at.toInt ∧ m0_at.toInt ≤ 1600) (b_m0_token : 0 ≤ m0_token.toInt ∧ m0_token.toInt ≤ 4) (b_m0_value : 0 ≤ m0_value.toInt ∧ m0_value.toInt ≤ 1000009) (b_m0_bad : 0 ≤ m0_bad.toInt ∧ m0_bad.toInt ≤ 3) (b_m0_strays : 0 ≤ m0_strays.toInt ∧ m0_strays.toInt ≤ 5) (b_m0_hostCourt : 0 ≤ m0_hostCourt.toInt ∧ m0_hostCourt.toInt ≤ 9) (b_m0_dayCourt : 0 ≤ m0_dayCourt.toInt ∧ m0_dayCourt.toInt ≤ 9) (b_m0_dayHour : 0 ≤ m0_dayHour.toInt ∧ m0_dayHour.toInt ≤ 48) (b_f_m0_at0 : ∀ j : Nat, 0 ≤ (f_m0_at0 j).toInt ∧ (f_m0_at0 j).toInt ≤ 9) (b_f_m0_stray : ∀ j : Nat, 0 ≤ (f_m0_stray j).toInt ∧ (f_m0_stray j).toInt ≤ 99 ∧ (j % 2 = 1 → (f_m0_stray j).toInt ≤ 9)) (sz : Nat) : Met l yX10_placeOf (.code yX10_placeOf cX10_placeOf 4 (some .int) :: zT) ({ frames := 0, cells := 0, slots := 0, locals := 0 }) (va_Pc [.ref m0, .int p1, .int p2, .int p3] (zB sa dC dI (zV85 m0 m0_thrown m0_width m0_many m0_cells m0_moved m0_tape m0_taped m0_at m0_token m0_place m0_value m0_word m0_bad m0_badPlace m0_fault m0_faultPlace m0_lines m0_hours m0_courts m0_in m0_gates m0_gate m0_people m0_at0 m0_stray m0_set m0_once m0_truth m0_known m0_isKept m0_strays m0_hostPerson m0_hostCourt m0_outside m0_inside m0_can m0_fewest m0_waysTo m0_then m0_two m0_nextTwo m0_three m0_nextThree m0_shut m0_worth m0_digit m0_codes m0_most m0_bestTry m0_dayCourt m0_dayHour m0_dayNo m0_x m0_at0 cA_m0_at0 f_m0_at0 m0_stray cA_m0_stray f_m0_stray) [(cA_m0_at0, .int), (cA_m0_stray, .int)] sz)) (va_Qi (fun (r : Int32) (_ : Unit) => (0 ≤ r.toInt ∧ r.toInt ≤ 9) ∧ r = (F_X10_placeOf p1 p2 p3 m0_hostPerson m0_hostCourt f_m0_at0 f_m0_stray)) (fun _ t => zW dC dI (zV85 m0 m0_thrown m0_width m0_many m0_cells m0_moved m0_tape m0_taped m0_at m0_token m0_place m0_value m0_word m0_bad m0_badPlace m0_fault m0_faultPlace m0_lines m0_hours m0_courts m0_in m0_gates m0_gate m0_people m0_at0 m0_stray m0_set m0_once m0_truth m0_known m0_isKept m0_strays m0_hostPerson m0_hostCourt m0_outside m0_inside m0_can m0_fewest m0_waysTo m0_then m0_two m0_nextTwo m0_three m0_nextThree m0_shut m0_worth m0_digit m0_codes m0_most m0_bestTry m0_dayCourt m0_dayHour m0_dayNo m0_x m0_at0 cA_m0_at0 f_m0_at0 m0_stray cA_m0_stray f_m0_stray) [] (va_A (zV85 m0 m0_thrown m0_width m0_many m0_cells m0_moved m0_tape m0_taped m0_at m0_token m0_place m0_value m0_word m0_bad m0_badPlace m0_fault m0_faultPlace m0_lines m0_hours m0_courts m0_in m0_gates m0_gate m0_people m0_at0 m0_stray m0_set m0_once m0_truth m0_known m0_isKept m0_strays m0_hostPerson m0_hostCourt m0_outside m0_inside m0_can m0_fewest m0_waysTo m0_then m0_two m0_nextTwo m0_three m0_nextThree m0_shut m0_worth m0_digit m0_codes m0_most m0_bestTry m0_dayCourt m0_dayHour m0_dayNo m0_x m0_at0 cA_m0_at0 f_m0_at0 m0_stray cA_m0_stray f_m0_stray) sz) t) (va_A (zV85 m0 m0_thrown m0_width m0_many m0_cells m0_moved m0_tape m0_taped m0_at m0_token m0_place m0_value m0_word m0_bad m0_badPlace m0_fault m0_faultPlace m0_lines m0_hours m0_courts m0_in m0_gates m0_gate m0_people m0_at0 m0_stray m0_set m0_once m0_truth m0_known m0_isKept m0_strays m0_hostPerson m0_hostCourt m0_outside m0_inside m0_can m0_fewest m0_waysTo m0_then m0_two m0_nextTwo m0_three m0_nextThree m0_shut m0_worth m0_digit m0_codes m0_most m0_bestTry m0_dayCourt m0_dayHour m0_dayNo m0_x m0_at0 cA_m0_at0 f_m0_at0 m0_stray cA_m0_stray f_m0_stray) sz)) 0 0 (va_A (zV85 m0 m0_thrown m0_width m0_many m0_cells m0_moved m0_tape m0_taped m0_at m0_token m0_place m0_value m0_word m0_bad m0_badPlace m0_fault m0_faultPlace m0_lines m0_hours m0_courts m0_in m0_gates m0_gate m0_people m0_at0 m0_stray m0_set m0_once m0_truth m0_known m0_isKept m0_strays m0_hostPerson m0_hostCourt m0_outside m0_inside m0_can m0_fewest m0_waysTo m0_then m0_two m0_nextTwo m0_three m0_nextThree m0_shut m0_worth m0_digit m0_codes m0_most m0_bestTry m0_dayCourt m0_dayHour m0_dayNo m0_x m0_at0 cA_m0_at0 f_m0_at0 m0_stray cA_m0_stray f_m0_stray) sz) := by
  refine z_enter (by decide) (by exact (Nat.le_of_ble_eq_true rfl)) ?_
  intro p e s m args below meth c ls A R Qc hargs hsz hQe hAe hRe hx hb hml hr hts hown hlocks hin hl hP hK hD hN hXs hA hS
  rw [hAe] at hQe
  have hown : s.vm.findClass RX10 = some m.cls := hown
  have hl : lv_has ls 4 [(0, .ref m0), (1, .int p1), (2, .int p2), (3, .int p3)] := hl
  obtain ⟨RR, hRR⟩ : ∃ z : Int32, z = (F_X10_placeOf p1 p2 p3 m0_hostPerson m0_hostCourt f_m0_at0 f_m0_stray) := ⟨_, rfl⟩
  have hF : RR = (F_X10_placeOf p1 p2 p3 m0_hostPerson m0_hostCourt f_m0_at0 f_m0_stray) := hRR
  refine lv_iload_n hx hb dX10_placeOf_0 rfl (lv_at hl 1 rfl) ?_
  refine lv_aload_n hx hb dX10_placeOf_1 rfl (lv_at hl 0 rfl) ?_
  refine va_get (D := (dC, dI)) (ci := 10) (v := .int m0_hostPerson) (C := RX10) (T := TX10) (N := 53) hx hb hts zl_X10 hown hK hP 0 rfl rfl 31 (by decide) (hts _ zw_t6_131) (fun _ h9 => h9) rfl dX10_placeOf_2 ?_
  have nb_m0_hostPerson := zi_nb m0_hostPerson
  refine lv_icmp_ne (tgt := 15) hx hb dX10_placeOf_5 (by decide) (fun c_1 => ?_) (fun c_1 => ?_)
  · have ic_1 := zz_ne rfl rfl c_1
    replace hF := hF.trans (if_neg c_1)
    refine lv_iload_n hx hb dX10_placeOf_15 rfl (lv_at hl 2 rfl) ?_
    refine lv_if_eq (tgt := 32) hx hb dX10_placeOf_16 (by decide) (fun c_2 => ?_) (fun c_2 => ?_)
    · have ic_2 := zz_eq rfl (show Int32.toInt 0 = 0 from by decide) c_2
      replace hF := hF.trans (if_pos c_2)
      refine lv_aload_n hx hb dX10_placeOf_32 rfl (lv_at hl 0 rfl) ?_
      refine va_get (D := (dC, dI)) (ci := 10) (v := .ref m0_at0) (C := RX10) (T := TX10) (N := 53) hx hb hts zl_X10 hown hK hP 0 rfl rfl 23 (by decide) (hts _ zw_t6_123) (fun _ h9 => h9) rfl dX10_placeOf_33 ?_
      refine lv_bipush (v := 48) hx hb dX10_placeOf_36 (by decide) ?_
      refine lv_iload_n hx hb dX10_placeOf_38 rfl (lv_at hl 1 rfl) ?_
      refine lv_imul hx hb dX10_placeOf_39 ?_
      refine lv_topi (fun x_3 ex_3 => ?_)
      replace hF := hF.trans (zL_eq ex_3)
      have b_x_3 : x_3.toInt = 48 * p1.toInt := by rw [ex_3]; exact zi_mul (show Int32.toInt 48 = 48 from by decide) rfl (z_rmc b_p1 (by decide))
      refine lv_iload_n hx hb dX10_placeOf_40 rfl (lv_at hl 3 rfl) ?_
      refine lv_iadd hx hb dX10_placeOf_41 ?_
      refine lv_topi (fun x_4 ex_4 => ?_)
      replace hF := hF.trans (zL_eq ex_4)
      have b_x_4 : x_4.toInt = x_3.toInt + p3.toInt := by rw [ex_4]; exact zi_add rfl rfl (z_raa (z_emc (c := 48) b_x_3 b_p1) b_p3 (by decide))
      refine va_iald hx hb hK hP 1 0 rfl rfl (zi_in rfl (by first | exact z_rin (z_ead b_x_4 (z_emc (c := 48) b_x_3 b_p1) b_p3) (by decide) | omega)) dX10_placeOf_42 ?_
      refine lv_topi (fun x_5 ex_5 => ?_)
      replace hF := hF.trans (zL_eq ex_5)
      have b_x_5 : 0 ≤ x_5.toInt ∧ x_5.toInt ≤ 9 := by rw [ex_5]; exact b_f_m0_at0 _
      have hF : RR = x_5 := hF
      exact W.iret (v := x_5) hx hb hr (fun t ht hW => by rw [← hQe]; exact ⟨⟨x_5, (), rfl, ⟨by omega, (by rw [← hRR, hF])⟩, z_ret hP hK hD ht hW [0, 1, 2] [] rfl (by decide) rfl⟩, hS.F ht⟩) hS.2.2 dX10_placeOf_43
    · have ic_2 := zz_neq rfl (show Int32.toInt 0 = 0 from by decide) c_2
      replace hF := hF.trans (if_neg c_2)
      refine lv_aload_n hx hb dX10_placeOf_19 rfl (lv_at hl 0 rfl) ?_
      refine va_get (D := (dC, dI)) (ci := 10) (v := .ref m0_stray) (C := RX10) (T := TX10) (N := 53) hx hb hts zl_X10 hown hK hP 0 rfl rfl 24 (by decide) (hts _ zw_t6_124) (fun _ h9 => h9) rfl dX10_placeOf_20 ?_
      refine lv_iconst (v := 2) hx hb dX10_placeOf_23 (by decide) ?_
      refine lv_iload_n hx hb dX10_placeOf_24 rfl (lv_at hl 1 rfl) ?_
      refine lv_imul hx hb dX10_placeOf_25 ?_
      refine lv_topi (fun x_6 ex_6 => ?_)
      replace hF := hF.trans (zL_eq ex_6)
      have b_x_6 : x_6.toInt = 2 * p1.toInt := by rw [ex_6]; exact zi_mul (show Int32.toInt 2 = 2 from by decide) rfl (z_rmc b_p1 (by decide))
      refine lv_iconst (v := 1) hx hb dX10_placeOf_26 (by decide) ?_
      refine lv_iadd hx hb dX10_placeOf_27 ?_
      refine lv_topi (fun x_7 ex_7 => ?_)
      replace hF := hF.trans (zL_eq ex_7)
      have b_x_7 : x_7.toInt = x_6.toInt + 1 := by rw [ex_7]; exact zi_add rfl (show Int32.toInt 1 = 1 from by decide) (z_rac (z_emc (c := 2) b_x_6 b_p1) (by decide))
      refine va_iald hx hb hK hP 2 1 rfl rfl (zi_in rfl (by first | exact z_rin (z_eac b_x_7 (z_emc (c := 2) b_x_6 b_p1)) (by decide) | omega)) dX10_placeOf_28 ?_
      refine lv_topi (fun x_8 ex_8 => ?_)
      replace hF := hF.trans (zL_eq ex_8)
      have b_x_8 := b_f_m0_stray (Int32.toNatClampNeg x_7)
      rw [← ex_8] at b_x_8
      have kx_x_8 := zi_clamp (x := x_7) rfl (z_r0 (z_eac b_x_7 (z_emc (c := 2) b_x_6 b_p1)) (by decide))
      refine lv_goto (tgt := 43) hx hb dX10_placeOf_29 (by decide) ?_
      have hF : RR = x_8 := hF
      exact W.iret (v := x_8) hx hb hr (fun t ht hW => by rw [← hQe]; exact ⟨⟨x_8, (), rfl, ⟨by omega, (by rw [← hRR, hF])⟩, z_ret hP hK hD ht hW [0, 1, 2] [] rfl (by decide) rfl⟩, hS.F ht⟩) hS.2.2 dX10_placeOf_43
  · have ic_1 := zz_nne rfl rfl c_1
    replace hF := hF.trans (if_pos c_1)
    refine lv_aload_n hx hb dX10_placeOf_8 rfl (lv_at hl 0 rfl) ?_
    refine va_get (D := (dC, dI)) (ci := 10) (v := .int m0_hostCourt) (C := RX10) (T := TX10) (N := 53) hx hb hts zl_X10 hown hK hP 0 rfl rfl 32 (by decide) (hts _ zw_t6_132) (fun _ h9 => h9) rfl dX10_placeOf_9 ?_
    refine lv_goto (tgt := 43) hx hb dX10_placeOf_12 (by decide) ?_
    have hF : RR = m0_hostCourt := hF
    exact W.iret (v := m0_hostCourt) hx hb hr (fun t ht hW => by rw [← hQe]; exact ⟨⟨m0_hostCourt, (), rfl, ⟨by omega, (by rw [← hRR, hF])⟩, z_ret hP hK hD ht hW [0, 1, 2] [] rfl (by decide) rfl⟩, hS.F ht⟩) hS.2.2 dX10_placeOf_43
set_option maxHeartbeats 4000000 in
set_option maxRecDepth 100000 in
theorem kf_X10_isIn (l : Launch) (sa : Nat → Nat) (dC : Nat → ClassId) (dI : Nat → Nat → Nat) (m0 : Nat) (p1 : Int32) (p2 : Int32) (m0_thrown : Int32) (m0_width : Nat) (m0_many : Nat) (m0_cells : Nat) (m0_moved : Nat) (m0_tape : Nat) (m0_taped : Int32) (m0_at : Int32) (m0_token : Int32) (m0_place : Int32) (m0_value : Int32) (m0_word : Int64) (m0_bad : Int32) (m0_badPlace : Int32) (m0_fault : Int32) (m0_faultPlace : Int32) (m0_lines : Nat) (m0_hours : Nat) (m0_courts : Nat) (m0_in : Nat) (m0_gates : Nat) (m0_gate : Nat) (m0_people : Nat) (m0_at0 : Nat) (m0_stray : Nat) (m0_set : Nat) (m0_once : Nat) (m0_truth : Nat) (m0_known : Nat) (m0_isKept : Nat) (m0_strays : Int32) (m0_hostPerson : Int32) (m0_hostCourt : Int32) (m0_outside : Int32) (m0_inside : Nat) (m0_can : Nat) (m0_fewest : Nat) (m0_waysTo : Nat) (m0_then : Nat) (m0_two : Nat) (m0_nextTwo : Nat) (m0_three : Nat) (m0_nextThree : Nat) (m0_shut : Int32) (m0_worth : Nat) (m0_digit : Nat) (m0_codes : Int32) (m0_most : Int64) (m0_bestTry : Int32) (m0_dayCourt : Int32) (m0_dayHour : Int32) (m0_dayNo : Int32) (m0_x : Int64) (cA_m0_in : ClassId) (f_m0_in : Nat → Int32) (b_p1 : 0 ≤ p1.toInt ∧ p1.toInt ≤ 9) (b_m0_taped : 0 ≤ m0_taped.toInt ∧ m0_taped.toInt ≤ 1600) (b_m0_at : 0 ≤ m0_at.toInt ∧ m0_at.toInt ≤ 1600) (b_m0_token : 0 ≤ m0_token.toInt ∧ m0_token.toInt ≤ 4) (b_m0_value : 0 ≤ m0_value.toInt ∧ m0_value.toInt ≤ 1000009) (b_m0_bad : 0 ≤ m0_bad.toInt ∧ m0_bad.toInt ≤ 3) (b_m0_strays : 0 ≤ m0_strays.toInt ∧ m0_strays.toInt ≤ 5) (b_m0_hostCourt : 0 ≤ m0_hostCourt.toInt ∧ m0_hostCourt.toInt ≤ 9) (b_m0_dayCourt : 0 ≤ m0_dayCourt.toInt ∧ m0_dayCourt.toInt ≤ 9) (b_m0_dayHour : 0 ≤ m0_dayHour.toInt ∧ m0_dayHour.toInt ≤ 48) (b_f_m0_in : ∀ j : Nat, j < 10 → (-1) ≤ (f_m0_in j).toInt ∧ (f_m0_in j).toInt < (j : Int)) (sz : Nat) : Met l yX10_isIn (.code yX10_isIn cX10_isIn 4 (some .boolean) :: zT) ({ frames := 0, cells := 0, slots := 0, locals := 0 }) (va_Pc [.ref m0, .int p1, .int p2] (zB sa dC dI (zV86 m0 m0_thrown m0_width m0_many m0_cells m0_moved m0_tape m0_taped m0_at m0_token m0_place m0_value m0_word m0_bad m0_badPlace m0_fault m0_faultPlace m0_lines m0_hours m0_courts m0_in m0_gates m0_gate m0_people m0_at0 m0_stray m0_set m0_once m0_truth m0_known m0_isKept m0_strays m0_hostPerson m0_hostCourt m0_outside m0_inside m0_can m0_fewest m0_waysTo m0_then m0_two m0_nextTwo m0_three m0_nextThree m0_shut m0_worth m0_digit m0_codes m0_most m0_bestTry m0_dayCourt m0_dayHour m0_dayNo m0_x m0_in cA_m0_in f_m0_in) [(cA_m0_in, .int)] sz)) (va_Qi (fun (r : Int32) (_ : Unit) => (0 ≤ r.toInt ∧ r.toInt ≤ 1) ∧ r = (F_X10_isIn p1 p2 f_m0_in)) (fun _ t => zW dC dI (zV86 m0 m0_thrown m0_width m0_many m0_cells m0_moved m0_tape m0_taped m0_at m0_token m0_place m0_value m0_word m0_bad m0_badPlace m0_fault m0_faultPlace m0_lines m0_hours m0_courts m0_in m0_gates m0_gate m0_people m0_at0 m0_stray m0_set m0_once m0_truth m0_known m0_isKept m0_strays m0_hostPerson m0_hostCourt m0_outside m0_inside m0_can m0_fewest m0_waysTo m0_then m0_two m0_nextTwo m0_three m0_nextThree m0_shut m0_worth m0_digit m0_codes m0_most m0_bestTry m0_dayCourt m0_dayHour m0_dayNo m0_x m0_in cA_m0_in f_m0_in) [] (va_A (zV86 m0 m0_thrown m0_width m0_many m0_cells m0_moved m0_tape m0_taped m0_at m0_token m0_place m0_value m0_word m0_bad m0_badPlace m0_fault m0_faultPlace m0_lines m0_hours m0_courts m0_in m0_gates m0_gate m0_people m0_at0 m0_stray m0_set m0_once m0_truth m0_known m0_isKept m0_strays m0_hostPerson m0_hostCourt m0_outside m0_inside m0_can m0_fewest m0_waysTo m0_then m0_two m0_nextTwo m0_three m0_nextThree m0_shut m0_worth m0_digit m0_codes m0_most m0_bestTry m0_dayCourt m0_dayHour m0_dayNo m0_x m0_in cA_m0_in f_m0_in) sz) t) (va_A (zV86 m0 m0_thrown m0_width m0_many m0_cells m0_moved m0_tape m0_taped m0_at m0_token m0_place m0_value m0_word m0_bad m0_badPlace m0_fault m0_faultPlace m0_lines m0_hours m0_courts m0_in m0_gates m0_gate m0_people m0_at0 m0_stray m0_set m0_once m0_truth m0_known m0_isKept m0_strays m0_hostPerson m0_hostCourt m0_outside m0_inside m0_can m0_fewest m0_waysTo m0_then m0_two m0_nextTwo m0_three m0_nextThree m0_shut m0_worth m0_digit m0_codes m0_most m0_bestTry m0_dayCourt m0_dayHour m0_dayNo m0_x m0_in cA_m0_in f_m0_in) sz)) 0 0 (va_A (zV86 m0 m0_thrown m0_width m0_many m0_cells m0_moved m0_tape m0_taped m0_at m0_token m0_place m0_value m0_word m0_bad m0_badPlace m0_fault m0_faultPlace m0_lines m0_hours m0_courts m0_in m0_gates m0_gate m0_people m0_at0 m0_stray m0_set m0_once m0_truth m0_known m0_isKept m0_strays m0_hostPerson m0_hostCourt m0_outside m0_inside m0_can m0_fewest m0_waysTo m0_then m0_two m0_nextTwo m0_three m0_nextThree m0_shut m0_worth m0_digit m0_codes m0_most m0_bestTry m0_dayCourt m0_dayHour m0_dayNo m0_x m0_in cA_m0_in f_m0_in) sz) := by
  refine z_enter (by decide) (by exact (Nat.le_of_ble_eq_true rfl)) ?_
  intro p e s m args below meth c ls A R Qc hargs hsz hQe hAe hRe hx hb hml hr hts hown hlocks hin hl hP hK hD hN hXs hA hS
  rw [hAe] at hQe
  have hown : s.vm.findClass RX10 = some m.cls := hown
  have hl : lv_has ls 4 [(0, .ref m0), (1, .int p1), (2, .int p2)] := hl
  obtain ⟨RR, hRR⟩ : ∃ z : Int32, z = (F_X10_isIn p1 p2 f_m0_in) := ⟨_, rfl⟩
  have hF : RR = (F_X10_isIn p1 p2 f_m0_in) := hRR
  refine lv_aload_n hx hb dX10_isIn_0 rfl (lv_at hl 0 rfl) ?_
  refine va_get (D := (dC, dI)) (ci := 10) (v := .ref m0_in) (C := RX10) (T := TX10) (N := 53) hx hb hts zl_X10 hown hK hP 0 rfl rfl 19 (by decide) (hts _ zw_t6_119) (fun _ h9 => h9) rfl dX10_isIn_1 ?_
  refine lv_iload_n hx hb dX10_isIn_4 rfl (lv_at hl 1 rfl) ?_
  refine va_iald hx hb hK hP 1 0 rfl rfl (zi_in rfl (by first | exact z_rin b_p1 (by decide) | omega)) dX10_isIn_5 ?_
  refine lv_topi (fun x_1 ex_1 => ?_)
  replace hF := hF.trans (zL_eq ex_1)
  have kx_x_1 := zi_clamp (x := p1) rfl (z_r0 b_p1 (by decide))
  have b_x_1 := b_f_m0_in (Int32.toNatClampNeg p1) (by first | with_reducible assumption | omega)
  rw [← ex_1] at b_x_1
  have t_x_1 : x_1.toInt = (f_m0_in (Int32.toNatClampNeg p1)).toInt := by rw [ex_1]
  refine lv_istore_n (lv' := [(3, .int x_1), (0, .ref m0), (1, .int p1), (2, .int p2)]) hx hb dX10_isIn_6 rfl hl (by decide) rfl (fun ls hl => ?_)
  have loop_1 : ∀ (t_1 : Nat) (v3_2 : Int32) (b_v3_2 : (-1) ≤ v3_2.toInt ∧ v3_2.toInt ≤ 8) (H : Heap) (locs : List Loc) (ls : Array Slot), v3_2.toInt + 1 < (t_1 : Int) → RR = L_X10_isIn_1 p2 f_m0_in (K_X10_isIn_1_0 p2) (K_X10_isIn_1_1 p2) t_1 v3_2 → va_P (dC, dI) vwCl (zV86 m0 m0_thrown m0_width m0_many m0_cells m0_moved m0_tape m0_taped m0_at m0_token m0_place m0_value m0_word m0_bad m0_badPlace m0_fault m0_faultPlace m0_lines m0_hours m0_courts m0_in m0_gates m0_gate m0_people m0_at0 m0_stray m0_set m0_once m0_truth m0_known m0_isKept m0_strays m0_hostPerson m0_hostCourt m0_outside m0_inside m0_can m0_fewest m0_waysTo m0_then m0_two m0_nextTwo m0_three m0_nextThree m0_shut m0_worth m0_digit m0_codes m0_most m0_bestTry m0_dayCourt m0_dayHour m0_dayNo m0_x m0_in cA_m0_in f_m0_in) H → va_D A (zV86 m0 m0_thrown m0_width m0_many m0_cells m0_moved m0_tape m0_taped m0_at m0_token m0_place m0_value m0_word m0_bad m0_badPlace m0_fault m0_faultPlace m0_lines m0_hours m0_courts m0_in m0_gates m0_gate m0_people m0_at0 m0_stray m0_set m0_once m0_truth m0_known m0_isKept m0_strays m0_hostPerson m0_hostCourt m0_outside m0_inside m0_can m0_fewest m0_waysTo m0_then m0_two m0_nextTwo m0_three m0_nextThree m0_shut m0_worth m0_digit m0_codes m0_most m0_bestTry m0_dayCourt m0_dayHour m0_dayNo m0_x m0_in cA_m0_in f_m0_in) → va_S A s.heap H locs → lv_has ls 4 [(0, .ref m0), (1, .int p1), (2, .int p2), (3, .int v3_2)] → W p l e R s m args below meth c H locs 0 0 (MQ below Qc args s 0 0 A) (F0 m 7 ls []) := by
    intro t_1
    induction t_1 with
    | zero => intro v3_2 b_v3_2 H locs ls hmu _ _ _ _ _; exact absurd hmu (by first | with_reducible assumption | omega)
    | succ t_1 ih_1 =>
      intro v3_2 b_v3_2 H locs ls hmu hF hP hD hS hl
      replace hF := hF.trans L_X10_isIn_1_s
      refine lv_iload_n hx hb dX10_isIn_7 rfl (lv_at hl 3 rfl) ?_
      refine lv_iconst (v := (-1)) hx hb dX10_isIn_8 (by decide) ?_
      refine lv_icmp_eq (tgt := 27) hx hb dX10_isIn_9 (by decide) (fun c_3 => ?_) (fun c_3 => ?_)
      · have ic_3 := zz_eq rfl (show Int32.toInt (-1) = (-1) from by decide) c_3
        replace hF := hF.trans (if_pos c_3)
        refine lv_iload_n hx hb dX10_isIn_27 rfl (lv_at hl 3 rfl) ?_
        refine lv_iload_n hx hb dX10_isIn_28 rfl (lv_at hl 2 rfl) ?_
        have nb_p2 := zi_nb p2
        refine lv_icmp_ne (tgt := 36) hx hb dX10_isIn_29 (by decide) (fun c_4 => ?_) (fun c_4 => ?_)
        · have ic_4 := zz_ne rfl rfl c_4
          replace hF := hF.trans (if_neg c_4)
          refine lv_iconst (v := 0) hx hb dX10_isIn_36 (by decide) ?_
          have hF : RR = (0 : Int32) := hF
          have zc : Int32.toInt 0 = 0 := by decide
          exact W.zret (v := 0) hx hb hr (by decide) (fun t ht hW => by rw [← hQe]; exact ⟨⟨0, (), rfl, ⟨by decide, (by rw [← hRR, hF])⟩, z_ret hP hK hD ht hW [0, 1] [] rfl (by decide) rfl⟩, hS.F ht⟩) hS.2.2 dX10_isIn_37
        · have ic_4 := zz_nne rfl rfl c_4
          replace hF := hF.trans (if_pos c_4)
          refine lv_iconst (v := 1) hx hb dX10_isIn_32 (by decide) ?_
          refine lv_goto (tgt := 37) hx hb dX10_isIn_33 (by decide) ?_
          have hF : RR = (1 : Int32) := hF
          have zc : Int32.toInt 1 = 1 := by decide
          exact W.zret (v := 1) hx hb hr (by decide) (fun t ht hW => by rw [← hQe]; exact ⟨⟨1, (), rfl, ⟨by decide, (by rw [← hRR, hF])⟩, z_ret hP hK hD ht hW [0, 1] [] rfl (by decide) rfl⟩, hS.F ht⟩) hS.2.2 dX10_isIn_37
      · have ic_3 := zz_neq rfl (show Int32.toInt (-1) = (-1) from by decide) c_3
        replace hF := hF.trans (if_neg c_3)
        refine lv_iload_n hx hb dX10_isIn_12 rfl (lv_at hl 3 rfl) ?_
        refine lv_iload_n hx hb dX10_isIn_13 rfl (lv_at hl 2 rfl) ?_
        have nb_p2 := zi_nb p2
        refine lv_icmp_eq (tgt := 27) hx hb dX10_isIn_14 (by decide) (fun c_5 => ?_) (fun c_5 => ?_)
        · have ic_5 := zz_eq rfl rfl c_5
          replace hF := hF.trans (if_pos c_5)
          refine lv_iload_n hx hb dX10_isIn_27 rfl (lv_at hl 3 rfl) ?_
          refine lv_iload_n hx hb dX10_isIn_28 rfl (lv_at hl 2 rfl) ?_
          refine lv_icmp_ne (tgt := 36) hx hb dX10_isIn_29 (by decide) (fun c_6 => ?_) (fun c_6 => ?_)
          · have ic_6 := zz_ne rfl rfl c_6
            replace hF := hF.trans (if_neg c_6)
            refine lv_iconst (v := 0) hx hb dX10_isIn_36 (by decide) ?_
            have hF : RR = (0 : Int32) := hF
            have zc : Int32.toInt 0 = 0 := by decide
            exact W.zret (v := 0) hx hb hr (by decide) (fun t ht hW => by rw [← hQe]; exact ⟨⟨0, (), rfl, ⟨by decide, (by rw [← hRR, hF])⟩, z_ret hP hK hD ht hW [0, 1] [] rfl (by decide) rfl⟩, hS.F ht⟩) hS.2.2 dX10_isIn_37
          · have ic_6 := zz_nne rfl rfl c_6
            replace hF := hF.trans (if_pos c_6)
            refine lv_iconst (v := 1) hx hb dX10_isIn_32 (by decide) ?_
            refine lv_goto (tgt := 37) hx hb dX10_isIn_33 (by decide) ?_
            have hF : RR = (1 : Int32) := hF
            have zc : Int32.toInt 1 = 1 := by decide
            exact W.zret (v := 1) hx hb hr (by decide) (fun t ht hW => by rw [← hQe]; exact ⟨⟨1, (), rfl, ⟨by decide, (by rw [← hRR, hF])⟩, z_ret hP hK hD ht hW [0, 1] [] rfl (by decide) rfl⟩, hS.F ht⟩) hS.2.2 dX10_isIn_37
        · have ic_5 := zz_neq rfl rfl c_5
          replace hF := hF.trans (if_neg c_5)
          refine lv_aload_n hx hb dX10_isIn_17 rfl (lv_at hl 0 rfl) ?_
          refine va_get (D := (dC, dI)) (ci := 10) (v := .ref m0_in) (C := RX10) (T := TX10) (N := 53) hx hb hts zl_X10 hown hK hP 0 rfl rfl 19 (by decide) (hts _ zw_t6_119) (fun _ h9 => h9) rfl dX10_isIn_18 ?_
          refine lv_iload_n hx hb dX10_isIn_21 rfl (lv_at hl 3 rfl) ?_
          refine va_iald hx hb hK hP 1 0 rfl rfl (zi_in rfl (by first | with_reducible assumption | omega)) dX10_isIn_22 ?_
          refine lv_topi (fun x_7 ex_7 => ?_)
          replace hF := hF.trans (zL_eq ex_7)
          have kx_x_7 := zi_clamp (x := v3_2) rfl (by first | with_reducible assumption | omega)
          have b_x_7 := b_f_m0_in (Int32.toNatClampNeg v3_2) (by first | with_reducible assumption | omega)
          rw [← ex_7] at b_x_7
          have t_x_7 : x_7.toInt = (f_m0_in (Int32.toNatClampNeg v3_2)).toInt := by rw [ex_7]
          refine lv_istore_n (lv' := [(3, .int x_7), (0, .ref m0), (1, .int p1), (2, .int p2)]) hx hb dX10_isIn_23 rfl hl (by decide) rfl (fun ls hl => ?_)
          refine lv_goto (tgt := 7) hx hb dX10_isIn_24 (by decide) ?_
          exact ih_1 x_7 (by first | with_reducible assumption | omega) _ _ _ (by first | with_reducible assumption | omega) hF (hP.sub (ws' := (zV86 m0 m0_thrown m0_width m0_many m0_cells m0_moved m0_tape m0_taped m0_at m0_token m0_place m0_value m0_word m0_bad m0_badPlace m0_fault m0_faultPlace m0_lines m0_hours m0_courts m0_in m0_gates m0_gate m0_people m0_at0 m0_stray m0_set m0_once m0_truth m0_known m0_isKept m0_strays m0_hostPerson m0_hostCourt m0_outside m0_inside m0_can m0_fewest m0_waysTo m0_then m0_two m0_nextTwo m0_three m0_nextThree m0_shut m0_worth m0_digit m0_codes m0_most m0_bestTry m0_dayCourt m0_dayHour m0_dayNo m0_x m0_in cA_m0_in f_m0_in)) [0, 1] rfl) (hD.sub (ws' := (zV86 m0 m0_thrown m0_width m0_many m0_cells m0_moved m0_tape m0_taped m0_at m0_token m0_place m0_value m0_word m0_bad m0_badPlace m0_fault m0_faultPlace m0_lines m0_hours m0_courts m0_in m0_gates m0_gate m0_people m0_at0 m0_stray m0_set m0_once m0_truth m0_known m0_isKept m0_strays m0_hostPerson m0_hostCourt m0_outside m0_inside m0_can m0_fewest m0_waysTo m0_then m0_two m0_nextTwo m0_three m0_nextThree m0_shut m0_worth m0_digit m0_codes m0_most m0_bestTry m0_dayCourt m0_dayHour m0_dayNo m0_x m0_in cA_m0_in f_m0_in)) [0, 1] (by decide) rfl) hS (lv_sub hl [1, 2, 3, 0] rfl)
  exact loop_1 12 x_1 (by first | with_reducible assumption | omega) _ _ _ (by first | with_reducible assumption | omega) hF hP hD hS (lv_sub hl [1, 2, 3, 0] rfl)
set_option maxHeartbeats 4000000 in
set_option maxRecDepth 100000 in
theorem kf_X10_counts (l : Launch) (sa : Nat → Nat) (dC : Nat → ClassId) (dI : Nat → Nat → Nat) (m0 : Nat) (p1 : Int32) (p2 : Int32) (m0_thrown : Int32) (m0_width : Nat) (m0_many : Nat) (m0_cells : Nat) (m0_moved : Nat) (m0_tape : Nat) (m0_taped : Int32) (m0_at : Int32) (m0_token : Int32) (m0_place : Int32) (m0_value : Int32) (m0_word : Int64) (m0_bad : Int32) (m0_badPlace : Int32) (m0_fault : Int32) (m0_faultPlace : Int32) (m0_lines : Nat) (m0_hours : Nat) (m0_courts : Nat) (m0_in : Nat) (m0_gates : Nat) (m0_gate : Nat) (m0_people : Nat) (m0_at0 : Nat) (m0_stray : Nat) (m0_set : Nat) (m0_once : Nat) (m0_truth : Nat) (m0_known : Nat) (m0_isKept : Nat) (m0_strays : Int32) (m0_hostPerson : Int32) (m0_hostCourt : Int32) (m0_outside : Int32) (m0_inside : Nat) (m0_can : Nat) (m0_fewest : Nat) (m0_waysTo : Nat) (m0_then : Nat) (m0_two : Nat) (m0_nextTwo : Nat) (m0_three : Nat) (m0_nextThree : Nat) (m0_shut : Int32) (m0_worth : Nat) (m0_digit : Nat) (m0_codes : Int32) (m0_most : Int64) (m0_bestTry : Int32) (m0_dayCourt : Int32) (m0_dayHour : Int32) (m0_dayNo : Int32) (m0_x : Int64) (cA_m0_in : ClassId) (f_m0_in : Nat → Int32) (cA_m0_set : ClassId) (f_m0_set : Nat → Int32) (b_p1 : 0 ≤ p1.toInt ∧ p1.toInt ≤ 9) (b_m0_taped : 0 ≤ m0_taped.toInt ∧ m0_taped.toInt ≤ 1600) (b_m0_at : 0 ≤ m0_at.toInt ∧ m0_at.toInt ≤ 1600) (b_m0_token : 0 ≤ m0_token.toInt ∧ m0_token.toInt ≤ 4) (b_m0_value : 0 ≤ m0_value.toInt ∧ m0_value.toInt ≤ 1000009) (b_m0_bad : 0 ≤ m0_bad.toInt ∧ m0_bad.toInt ≤ 3) (b_m0_strays : 0 ≤ m0_strays.toInt ∧ m0_strays.toInt ≤ 5) (b_m0_hostCourt : 0 ≤ m0_hostCourt.toInt ∧ m0_hostCourt.toInt ≤ 9) (b_m0_dayCourt : 0 ≤ m0_dayCourt.toInt ∧ m0_dayCourt.toInt ≤ 9) (b_m0_dayHour : 0 ≤ m0_dayHour.toInt ∧ m0_dayHour.toInt ≤ 48) (b_f_m0_in : ∀ j : Nat, j < 10 → (-1) ≤ (f_m0_in j).toInt ∧ (f_m0_in j).toInt < (j : Int)) (b_f_m0_set : ∀ j : Nat, 0 ≤ (f_m0_set j).toInt ∧ (f_m0_set j).toInt ≤ 9) (sz : Nat) : Met l yX10_counts (.code yX10_counts cX10_counts 3 (some .boolean) :: zT) ({ frames := 1, cells := 0, slots := 0, locals := 23 }) (va_Pc [.ref m0, .int p1, .int p2] (zB sa dC dI (zV87 m0 m0_thrown m0_width m0_many m0_cells m0_moved m0_tape m0_taped m0_at m0_token m0_place m0_value m0_word m0_bad m0_badPlace m0_fault m0_faultPlace m0_lines m0_hours m0_courts m0_in m0_gates m0_gate m0_people m0_at0 m0_stray m0_set m0_once m0_truth m0_known m0_isKept m0_strays m0_hostPerson m0_hostCourt m0_outside m0_inside m0_can m0_fewest m0_waysTo m0_then m0_two m0_nextTwo m0_three m0_nextThree m0_shut m0_worth m0_digit m0_codes m0_most m0_bestTry m0_dayCourt m0_dayHour m0_dayNo m0_x m0_in cA_m0_in f_m0_in m0_set cA_m0_set f_m0_set) [(cA_m0_in, .int), (cA_m0_set, .int)] sz)) (va_Qi (fun (r : Int32) (_ : Unit) => (0 ≤ r.toInt ∧ r.toInt ≤ 1) ∧ r = (F_X10_counts p1 p2 f_m0_in f_m0_set)) (fun _ t => zW dC dI (zV87 m0 m0_thrown m0_width m0_many m0_cells m0_moved m0_tape m0_taped m0_at m0_token m0_place m0_value m0_word m0_bad m0_badPlace m0_fault m0_faultPlace m0_lines m0_hours m0_courts m0_in m0_gates m0_gate m0_people m0_at0 m0_stray m0_set m0_once m0_truth m0_known m0_isKept m0_strays m0_hostPerson m0_hostCourt m0_outside m0_inside m0_can m0_fewest m0_waysTo m0_then m0_two m0_nextTwo m0_three m0_nextThree m0_shut m0_worth m0_digit m0_codes m0_most m0_bestTry m0_dayCourt m0_dayHour m0_dayNo m0_x m0_in cA_m0_in f_m0_in m0_set cA_m0_set f_m0_set) [] (va_A (zV87 m0 m0_thrown m0_width m0_many m0_cells m0_moved m0_tape m0_taped m0_at m0_token m0_place m0_value m0_word m0_bad m0_badPlace m0_fault m0_faultPlace m0_lines m0_hours m0_courts m0_in m0_gates m0_gate m0_people m0_at0 m0_stray m0_set m0_once m0_truth m0_known m0_isKept m0_strays m0_hostPerson m0_hostCourt m0_outside m0_inside m0_can m0_fewest m0_waysTo m0_then m0_two m0_nextTwo m0_three m0_nextThree m0_shut m0_worth m0_digit m0_codes m0_most m0_bestTry m0_dayCourt m0_dayHour m0_dayNo m0_x m0_in cA_m0_in f_m0_in m0_set cA_m0_set f_m0_set) sz) t) (va_A (zV87 m0 m0_thrown m0_width m0_many m0_cells m0_moved m0_tape m0_taped m0_at m0_token m0_place m0_value m0_word m0_bad m0_badPlace m0_fault m0_faultPlace m0_lines m0_hours m0_courts m0_in m0_gates m0_gate m0_people m0_at0 m0_stray m0_set m0_once m0_truth m0_known m0_isKept m0_strays m0_hostPerson m0_hostCourt m0_outside m0_inside m0_can m0_fewest m0_waysTo m0_then m0_two m0_nextTwo m0_three m0_nextThree m0_shut m0_worth m0_digit m0_codes m0_most m0_bestTry m0_dayCourt m0_dayHour m0_dayNo m0_x m0_in cA_m0_in f_m0_in m0_set cA_m0_set f_m0_set) sz)) 0 0 (va_A (zV87 m0 m0_thrown m0_width m0_many m0_cells m0_moved m0_tape m0_taped m0_at m0_token m0_place m0_value m0_word m0_bad m0_badPlace m0_fault m0_faultPlace m0_lines m0_hours m0_courts m0_in m0_gates m0_gate m0_people m0_at0 m0_stray m0_set m0_once m0_truth m0_known m0_isKept m0_strays m0_hostPerson m0_hostCourt m0_outside m0_inside m0_can m0_fewest m0_waysTo m0_then m0_two m0_nextTwo m0_three m0_nextThree m0_shut m0_worth m0_digit m0_codes m0_most m0_bestTry m0_dayCourt m0_dayHour m0_dayNo m0_x m0_in cA_m0_in f_m0_in m0_set cA_m0_set f_m0_set) sz) := by
  refine z_enter (by decide) (by exact (Nat.le_of_ble_eq_true rfl)) ?_
  intro p e s m args below meth c ls A R Qc hargs hsz hQe hAe hRe hx hb hml hr hts hown hlocks hin hl hP hK hD hN hXs hA hS
  rw [hAe] at hQe
  have hown : s.vm.findClass RX10 = some m.cls := hown
  have hl : lv_has ls 3 [(0, .ref m0), (1, .int p1), (2, .int p2)] := hl
  obtain ⟨RR, hRR⟩ : ∃ z : Int32, z = (F_X10_counts p1 p2 f_m0_in f_m0_set) := ⟨_, rfl⟩
  have hF : RR = (F_X10_counts p1 p2 f_m0_in f_m0_set) := hRR
  refine lv_iload_n hx hb dX10_counts_0 rfl (lv_at hl 1 rfl) ?_
  refine lv_iload_n hx hb dX10_counts_1 rfl (lv_at hl 2 rfl) ?_
  have nb_p2 := zi_nb p2
  refine lv_icmp_eq (tgt := 24) hx hb dX10_counts_2 (by decide) (fun c_1 => ?_) (fun c_1 => ?_)
  · have ic_1 := zz_eq rfl rfl c_1
    replace hF := hF.trans (if_pos c_1)
    refine lv_iconst (v := 1) hx hb dX10_counts_24 (by decide) ?_
    refine lv_goto (tgt := 29) hx hb dX10_counts_25 (by decide) ?_
    have hF : RR = (1 : Int32) := hF
    have zc : Int32.toInt 1 = 1 := by decide
    exact W.zret (v := 1) hx hb hr (by decide) (fun t ht hW => by rw [← hQe]; exact ⟨⟨1, (), rfl, ⟨by decide, (by rw [← hRR, hF])⟩, z_ret hP hK hD ht hW [0, 1, 2] [] rfl (by decide) rfl⟩, hS.F ht⟩) hS.2.2 dX10_counts_29
  · have ic_1 := zz_neq rfl rfl c_1
    replace hF := hF.trans (if_neg c_1)
    refine lv_aload_n hx hb dX10_counts_5 rfl (lv_at hl 0 rfl) ?_
    refine va_get (D := (dC, dI)) (ci := 10) (v := .ref m0_set) (C := RX10) (T := TX10) (N := 53) hx hb hts zl_X10 hown hK hP 0 rfl rfl 25 (by decide) (hts _ zw_t6_125) (fun _ h9 => h9) rfl dX10_counts_6 ?_
    refine lv_iconst (v := 0) hx hb dX10_counts_9 (by decide) ?_
    refine va_iald hx hb hK hP 2 1 rfl rfl (zi_in (show Int32.toInt 0 = 0 from by decide) (by decide)) dX10_counts_10 ?_
    refine lv_topi (fun x_2 ex_2 => ?_)
    replace hF := hF.trans (zL_eq ex_2)
    have b_x_2 : 0 ≤ x_2.toInt ∧ x_2.toInt ≤ 9 := by rw [ex_2]; exact b_f_m0_set _
    refine lv_iconst (v := 1) hx hb dX10_counts_11 (by decide) ?_
    refine lv_icmp_ne (tgt := 28) hx hb dX10_counts_12 (by decide) (fun c_3 => ?_) (fun c_3 => ?_)
    · have ic_3 := zz_ne rfl (show Int32.toInt 1 = 1 from by decide) c_3
      replace hF := hF.trans (if_neg c_3)
      refine lv_iconst (v := 0) hx hb dX10_counts_28 (by decide) ?_
      have hF : RR = (0 : Int32) := hF
      have zc : Int32.toInt 0 = 0 := by decide
      exact W.zret (v := 0) hx hb hr (by decide) (fun t ht hW => by rw [← hQe]; exact ⟨⟨0, (), rfl, ⟨by decide, (by rw [← hRR, hF])⟩, z_ret hP hK hD ht hW [0, 1, 2] [] rfl (by decide) rfl⟩, hS.F ht⟩) hS.2.2 dX10_counts_29
    · have ic_3 := zz_nne rfl (show Int32.toInt 1 = 1 from by decide) c_3
      replace hF := hF.trans (if_pos c_3)
      refine lv_aload_n hx hb dX10_counts_15 rfl (lv_at hl 0 rfl) ?_
      refine lv_iload_n hx hb dX10_counts_16 rfl (lv_at hl 1 rfl) ?_
      refine lv_iload_n hx hb dX10_counts_17 rfl (lv_at hl 2 rfl) ?_
      obtain ⟨hPc, hDc, hFc⟩ := z_cut (wc := (zV86 m0 m0_thrown m0_width m0_many m0_cells m0_moved m0_tape m0_taped m0_at m0_token m0_place m0_value m0_word m0_bad m0_badPlace m0_fault m0_faultPlace m0_lines m0_hours m0_courts m0_in m0_gates m0_gate m0_people m0_at0 m0_stray m0_set m0_once m0_truth m0_known m0_isKept m0_strays m0_hostPerson m0_hostCourt m0_outside m0_inside m0_can m0_fewest m0_waysTo m0_then m0_two m0_nextTwo m0_three m0_nextThree m0_shut m0_worth m0_digit m0_codes m0_most m0_bestTry m0_dayCourt m0_dayHour m0_dayNo m0_x m0_in cA_m0_in f_m0_in)) hP hD hS hA [0, 1] rfl (by decide +kernel)
      have hKc := hK.sub (tys' := [(cA_m0_in, .int)]) [0] rfl
      refine va_calli (va_runV (As := [.int p1, .int p2]) (rest := []) ⟨hx, hb, hml, hown, hts⟩ (kf_X10_isIn l sa dC dI m0 p1 p2 m0_thrown m0_width m0_many m0_cells m0_moved m0_tape m0_taped m0_at m0_token m0_place m0_value m0_word m0_bad m0_badPlace m0_fault m0_faultPlace m0_lines m0_hours m0_courts m0_in m0_gates m0_gate m0_people m0_at0 m0_stray m0_set m0_once m0_truth m0_known m0_isKept m0_strays m0_hostPerson m0_hostCourt m0_outside m0_inside m0_can m0_fewest m0_waysTo m0_then m0_two m0_nextTwo m0_three m0_nextThree m0_shut m0_worth m0_digit m0_codes m0_most m0_bestTry m0_dayCourt m0_dayHour m0_dayNo m0_x cA_m0_in f_m0_in b_p1 b_m0_taped b_m0_at b_m0_token b_m0_value b_m0_bad b_m0_strays b_m0_hostCourt b_m0_dayCourt b_m0_dayHour b_f_m0_in s.heap.size) (cwV 2 hts (z_gV zw_t7_209 zw_t7_211 zw_s6_2 zw_t1_11 zw_t7_212) rfl rfl rfl (by decide +kernel) (by rw [← hRe]; exact ⟨(Nat.le_of_ble_eq_true rfl), (Nat.le_of_ble_eq_true rfl)⟩)) (z_preV hPc hKc hDc hN hXs hS hFc (q := (RX10, TX10, 53)) (ci := 10) (q0 := 0) rfl rfl) rfl rfl hl.1 rfl (lv_room (Nat.le_of_ble_eq_true rfl)) dX10_counts_18 (by rw [← hRe]; exact ⟨(Nat.le_of_ble_eq_true rfl), (Nat.le_of_ble_eq_true rfl)⟩)) hS (fun q _ h => hFc q h) hFc (fun r_4 u t H1 locs ht hvm hw hB hz1 hk1 hS => ?_)
      obtain ⟨hP, hD, hK⟩ := z_after3 (wn := [(m0_set, .inl (cA_m0_set, 10, .inl f_m0_set)), (m0, .inr (10, [.int m0_thrown, .ref m0_width, .ref m0_many, .ref m0_cells, .ref m0_moved, .ref m0_tape, .int m0_taped, .int m0_at, .int m0_token, .int m0_place, .int m0_value, .long m0_word, .int m0_bad, .int m0_badPlace, .int m0_fault, .int m0_faultPlace, .ref m0_lines, .ref m0_hours, .ref m0_courts, .ref m0_in, .ref m0_gates, .ref m0_gate, .ref m0_people, .ref m0_at0, .ref m0_stray, .ref m0_set, .ref m0_once, .ref m0_truth, .ref m0_known, .ref m0_isKept, .int m0_strays, .int m0_hostPerson, .int m0_hostCourt, .int m0_outside, .ref m0_inside, .ref m0_can, .ref m0_fewest, .ref m0_waysTo, .ref m0_then, .ref m0_two, .ref m0_nextTwo, .ref m0_three, .ref m0_nextThree, .int m0_shut, .ref m0_worth, .ref m0_digit, .int m0_codes, .long m0_most, .int m0_bestTry, .int m0_dayCourt, .int m0_dayHour, .int m0_dayNo, .long m0_x])), (m0_in, .inl (cA_m0_in, 50, .inl f_m0_in))]) hB ht hvm hP hD hK [0, 1] [2] rfl 3 rfl (by decide +kernel) rfl (by decide +kernel) hk1 hFc
      generalize H1 = H at hP hS ⊢
      have hK : va_K (dC, dI) vwCl [(cA_m0_in, .int), (cA_m0_set, .int)] s := hK
      have b_r_4 : 0 ≤ r_4.toInt ∧ r_4.toInt ≤ 1 := hw.1
      have sf_r_4 := hw.2
      replace hF := hF.trans (zL_eq sf_r_4)
      refine lv_if_eq (tgt := 28) hx hb dX10_counts_21 (by decide) (fun c_5 => ?_) (fun c_5 => ?_)
      · have ic_5 := zz_eq rfl (show Int32.toInt 0 = 0 from by decide) c_5
        replace hF := hF.trans (if_pos c_5)
        refine lv_iconst (v := 0) hx hb dX10_counts_28 (by decide) ?_
        have hF : RR = (0 : Int32) := hF
        have zc : Int32.toInt 0 = 0 := by decide
        exact W.zret (v := 0) hx hb hr (by decide) (fun t ht hW => by rw [← hQe]; exact ⟨⟨0, (), rfl, ⟨by decide, (by rw [← hRR, hF])⟩, z_ret hP hK hD ht hW [1, 2, 0] [] rfl (by decide) rfl⟩, hS.F ht⟩) hS.2.2 dX10_counts_29
      · have ic_5 := zz_neq rfl (show Int32.toInt 0 = 0 from by decide) c_5
        replace hF := hF.trans (if_neg c_5)
        refine lv_iconst (v := 1) hx hb dX10_counts_24 (by decide) ?_
        refine lv_goto (tgt := 29) hx hb dX10_counts_25 (by decide) ?_
        have hF : RR = (1 : Int32) := hF
        have zc : Int32.toInt 1 = 1 := by decide
        exact W.zret (v := 1) hx hb hr (by decide) (fun t ht hW => by rw [← hQe]; exact ⟨⟨1, (), rfl, ⟨by decide, (by rw [← hRR, hF])⟩, z_ret hP hK hD ht hW [1, 2, 0] [] rfl (by decide) rfl⟩, hS.F ht⟩) hS.2.2 dX10_counts_29
