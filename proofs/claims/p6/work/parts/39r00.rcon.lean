set_option linter.all false
set_option maxHeartbeats 4000000 in
set_option maxRecDepth 100000 in
theorem kf_X10_in (l : Launch) (sa : Nat → Nat) (dC : Nat → ClassId) (dI : Nat → Nat → Nat) (p0 : Int64) (p1 : Int64) (p2 : Int64)  (sz : Nat) : Met l yX10_in (.code yX10_in cX10_in 6 (some .boolean) :: zT) ({ frames := 0, cells := 0, slots := 0, locals := 0 }) (va_Pc [.long p0, .long p1, .long p2] (zB sa dC dI [] [] sz)) (va_Qi (fun (r : Int32) (_ : Unit) => (0 ≤ r.toInt ∧ r.toInt ≤ 1) ∧ (r.toInt = 0 ∨ (p1.toInt ≤ p0.toInt ∧ p0.toInt ≤ p2.toInt)) ∧ r = (F_X10_in p0 p1 p2)) (fun _ t => zW dC dI [] [] (va_A [] sz) t) (va_A [] sz)) 0 0 (va_A [] sz) := by
  refine z_enter (by decide) (by exact (Nat.le_of_ble_eq_true rfl)) ?_
  intro p e s m args below meth c ls A R Qc hargs hsz hQe hAe hRe hx hb hml hr hts hown hlocks hin hl hP hK hD hN hXs hA hS
  rw [hAe] at hQe
  have hown : s.vm.findClass RX10 = some m.cls := hown
  have hl : lv_has ls 6 [(0, .long p0), (2, .long p1), (4, .long p2)] := hl
  obtain ⟨RR, hRR⟩ : ∃ z : Int32, z = (F_X10_in p0 p1 p2) := ⟨_, rfl⟩
  have hF : RR = (F_X10_in p0 p1 p2) := hRR
  refine lv_lload_n hx hb dX10_in_0 rfl (lv_at hl 0 rfl) ?_
  refine lv_lload_n hx hb dX10_in_1 rfl (lv_at hl 1 rfl) ?_
  refine W.lcmp hx hb dX10_in_2 ?_
  refine lv_if_lt (tgt := 17) hx hb dX10_in_3 (by decide) (fun c_1 => ?_) (fun c_1 => ?_)
  · have ic_1 := zl_lt rfl rfl c_1
    replace hF := hF.trans (if_pos c_1)
    refine lv_iconst (v := 0) hx hb dX10_in_17 (by decide) ?_
    have hF : RR = (0 : Int32) := hF
    have zc : Int32.toInt 0 = 0 := by decide
    exact W.zret (v := 0) hx hb hr (by decide) (fun t ht hW => by rw [← hQe]; exact ⟨⟨0, (), rfl, ⟨by decide, ⟨by omega, (by rw [← hRR, hF])⟩⟩, z_ret hP hK hD ht hW [] [] rfl (by decide) rfl⟩, hS.F ht⟩) hS.2.2 dX10_in_18
  · have ic_1 := zl_nlt rfl rfl c_1
    replace hF := hF.trans (if_neg c_1)
    refine lv_lload_n hx hb dX10_in_6 rfl (lv_at hl 0 rfl) ?_
    refine lv_lload hx hb dX10_in_7 (lv_at hl 2 rfl) ?_
    refine W.lcmp hx hb dX10_in_9 ?_
    refine lv_if_gt (tgt := 17) hx hb dX10_in_10 (by decide) (fun c_2 => ?_) (fun c_2 => ?_)
    · have ic_2 := zl_gt rfl rfl c_2
      replace hF := hF.trans (if_pos c_2)
      refine lv_iconst (v := 0) hx hb dX10_in_17 (by decide) ?_
      have hF : RR = (0 : Int32) := hF
      have zc : Int32.toInt 0 = 0 := by decide
      exact W.zret (v := 0) hx hb hr (by decide) (fun t ht hW => by rw [← hQe]; exact ⟨⟨0, (), rfl, ⟨by decide, ⟨by omega, (by rw [← hRR, hF])⟩⟩, z_ret hP hK hD ht hW [] [] rfl (by decide) rfl⟩, hS.F ht⟩) hS.2.2 dX10_in_18
    · have ic_2 := zl_ngt rfl rfl c_2
      replace hF := hF.trans (if_neg c_2)
      refine lv_iconst (v := 1) hx hb dX10_in_13 (by decide) ?_
      refine lv_goto (tgt := 18) hx hb dX10_in_14 (by decide) ?_
      have hF : RR = (1 : Int32) := hF
      have zc : Int32.toInt 1 = 1 := by decide
      exact W.zret (v := 1) hx hb hr (by decide) (fun t ht hW => by rw [← hQe]; exact ⟨⟨1, (), rfl, ⟨by decide, ⟨by omega, (by rw [← hRR, hF])⟩⟩, z_ret hP hK hD ht hW [] [] rfl (by decide) rfl⟩, hS.F ht⟩) hS.2.2 dX10_in_18
set_option maxHeartbeats 4000000 in
set_option maxRecDepth 100000 in
theorem kf_X10_sizeOf (l : Launch) (sa : Nat → Nat) (dC : Nat → ClassId) (dI : Nat → Nat → Nat) (p0 : Int32) (b_p0 : 0 ≤ p0.toInt ∧ p0.toInt ≤ 1023) (sz : Nat) : Met l yX10_sizeOf (.code yX10_sizeOf cX10_sizeOf 3 (some .int) :: zT) ({ frames := 0, cells := 0, slots := 0, locals := 0 }) (va_Pc [.int p0] (zB sa dC dI [] [] sz)) (va_Qi (fun (r : Int32) (_ : Unit) => r = (F_X10_sizeOf p0)) (fun _ t => zW dC dI [] [] (va_A [] sz) t) (va_A [] sz)) 0 0 (va_A [] sz) := by
  refine z_enter (by decide) (by exact (Nat.le_of_ble_eq_true rfl)) ?_
  intro p e s m args below meth c ls A R Qc hargs hsz hQe hAe hRe hx hb hml hr hts hown hlocks hin hl hP hK hD hN hXs hA hS
  rw [hAe] at hQe
  have hown : s.vm.findClass RX10 = some m.cls := hown
  have hl : lv_has ls 3 [(0, .int p0)] := hl
  obtain ⟨RR, hRR⟩ : ∃ z : Int32, z = (F_X10_sizeOf p0) := ⟨_, rfl⟩
  have hF : RR = (F_X10_sizeOf p0) := hRR
  refine lv_iconst (v := 0) hx hb dX10_sizeOf_0 (by decide) ?_
  refine lv_istore_n (lv' := [(1, .int 0), (0, .int p0)]) hx hb dX10_sizeOf_1 rfl hl (by decide) rfl (fun ls hl => ?_)
  refine lv_iload_n hx hb dX10_sizeOf_2 rfl (lv_at hl 1 rfl) ?_
  refine lv_istore_n (lv' := [(2, .int p0), (1, .int 0), (0, .int p0)]) hx hb dX10_sizeOf_3 rfl hl (by decide) rfl (fun ls hl => ?_)
  have loop_1 : ∀ (t_1 : Nat) (v1_1 : Int32) (v2_2 : Int32) (b_v2_2 : 0 ≤ v2_2.toInt ∧ v2_2.toInt ≤ 1023) (H : Heap) (locs : List Loc) (ls : Array Slot), v2_2.toInt < (t_1 : Int) → RR = L_X10_sizeOf_1 K_X10_sizeOf_1_0 t_1 v1_1 v2_2 → va_P (dC, dI) vwCl [] H → va_D A [] → va_S A s.heap H locs → lv_has ls 3 [(0, .int p0), (1, .int v1_1), (2, .int v2_2)] → W p l e R s m args below meth c H locs 0 0 (MQ below Qc args s 0 0 A) (F0 m 4 ls []) := by
    intro t_1
    induction t_1 with
    | zero => intro v1_1 v2_2 b_v2_2 H locs ls hmu _ _ _ _ _; exact absurd hmu (by first | with_reducible assumption | omega)
    | succ t_1 ih_1 =>
      intro v1_1 v2_2 b_v2_2 H locs ls hmu hF hP hD hS hl
      replace hF := hF.trans L_X10_sizeOf_1_s
      refine lv_iload_n hx hb dX10_sizeOf_4 rfl (lv_at hl 2 rfl) ?_
      refine lv_if_eq (tgt := 20) hx hb dX10_sizeOf_5 (by decide) (fun c_3 => ?_) (fun c_3 => ?_)
      · have ic_3 := zz_eq rfl (show Int32.toInt 0 = 0 from by decide) c_3
        replace hF := hF.trans (if_pos c_3)
        refine lv_iload_n hx hb dX10_sizeOf_20 rfl (lv_at hl 1 rfl) ?_
        have hF : RR = v1_1 := hF
        exact W.iret (v := v1_1) hx hb hr (fun t ht hW => by rw [← hQe]; exact ⟨⟨v1_1, (), rfl, (by rw [← hRR, hF]), z_ret hP hK hD ht hW [] [] rfl (by decide) rfl⟩, hS.F ht⟩) hS.2.2 dX10_sizeOf_21
      · have ic_3 := zz_neq rfl (show Int32.toInt 0 = 0 from by decide) c_3
        replace hF := hF.trans (if_neg c_3)
        obtain ⟨x_4, ex_4⟩ : ∃ z : Int32, z = v1_1 + Int32.ofInt 1 := ⟨_, rfl⟩
        refine lv_iinc (v := x_4) (lv' := [(1, .int x_4), (0, .int p0), (2, .int v2_2)]) hx hb dX10_sizeOf_8 hl (k := 1) rfl ex_4.symm (by decide) rfl (fun ls hl => ?_)
        replace hF := hF.trans (zL_eq ex_4)
        refine lv_iload_n hx hb dX10_sizeOf_11 rfl (lv_at hl 2 rfl) ?_
        refine lv_iload_n hx hb dX10_sizeOf_12 rfl (lv_at hl 2 rfl) ?_
        refine lv_iconst (v := 1) hx hb dX10_sizeOf_13 (by decide) ?_
        refine lv_isub hx hb dX10_sizeOf_14 ?_
        refine lv_topi (fun x_5 ex_5 => ?_)
        replace hF := hF.trans (zL_eq ex_5)
        have b_x_5 : x_5.toInt = v2_2.toInt - 1 := by rw [ex_5]; exact zi_sub rfl (show Int32.toInt 1 = 1 from by decide) (z_rsc b_v2_2 (by decide))
        refine lv_iand hx hb dX10_sizeOf_15 ?_
        refine lv_topi (fun x_6 ex_6 => ?_)
        replace hF := hF.trans (zL_eq ex_6)
        have b_x_6 : 0 ≤ x_6.toInt ∧ x_6.toInt ≤ x_5.toInt := by rw [ex_6]; exact zi_andR rfl (by first | with_reducible assumption | omega) (by first | with_reducible assumption | omega)
        refine lv_istore_n (lv' := [(2, .int x_6), (1, .int x_4), (0, .int p0)]) hx hb dX10_sizeOf_16 rfl hl (by decide) rfl (fun ls hl => ?_)
        refine lv_goto (tgt := 4) hx hb dX10_sizeOf_17 (by decide) ?_
        exact ih_1 x_4 x_6 (by first | with_reducible assumption | omega) _ _ _ (by first | with_reducible assumption | omega) hF (hP.sub (ws' := []) [] rfl) (hD.sub (ws' := []) [] (by decide) rfl) hS (lv_sub hl [2, 1, 0] rfl)
  exact loop_1 1025 (0) p0 (by first | with_reducible assumption | omega) _ _ _ (by first | with_reducible assumption | omega) hF hP hD hS (lv_sub hl [2, 1, 0] rfl)
set_option maxHeartbeats 4000000 in
set_option maxRecDepth 100000 in
theorem kf_X10_isSeed (l : Launch) (sa : Nat → Nat) (dC : Nat → ClassId) (dI : Nat → Nat → Nat) (p0 : Int32)  (sz : Nat) : Met l yX10_isSeed (.code yX10_isSeed cX10_isSeed 1 (some .boolean) :: zT) ({ frames := 1, cells := 0, slots := 0, locals := 25 }) (va_Pc [.int p0] (zB sa dC dI [] [] sz)) (va_Qi (fun (r : Int32) (_ : Unit) => (0 ≤ r.toInt ∧ r.toInt ≤ 1) ∧ r = (F_X10_isSeed p0)) (fun _ t => zW dC dI [] [] (va_A [] sz) t) (va_A [] sz)) 0 0 (va_A [] sz) := by
  refine z_enter (by decide) (by exact (Nat.le_of_ble_eq_true rfl)) ?_
  intro p e s m args below meth c ls A R Qc hargs hsz hQe hAe hRe hx hb hml hr hts hown hlocks hin hl hP hK hD hN hXs hA hS
  rw [hAe] at hQe
  have hown : s.vm.findClass RX10 = some m.cls := hown
  have hl : lv_has ls 1 [(0, .int p0)] := hl
  obtain ⟨RR, hRR⟩ : ∃ z : Int32, z = (F_X10_isSeed p0) := ⟨_, rfl⟩
  have hF : RR = (F_X10_isSeed p0) := hRR
  refine lv_iload_n hx hb dX10_isSeed_0 rfl (lv_at hl 0 rfl) ?_
  refine lv_i2l (v := _) hx hb dX10_isSeed_1 rfl ?_
  refine lv_topl (fun x_1 ex_1 => ?_)
  replace hF := hF.trans (zL_eq ex_1)
  have b_x_1 : x_1.toInt = p0.toInt := by rw [ex_1]; exact z_l64 _
  refine lv_lconst (v := 0) hx hb dX10_isSeed_2 (by decide) ?_
  refine lv_ldc2 (v := 2000000000) hx hb hown (hts _ zw_t9_55) dX10_isSeed_3 ?_
  obtain ⟨hPc, hDc, hFc⟩ := z_cut (wc := []) hP hD hS hA [] rfl (by decide +kernel)
  have hKc := hK.sub (tys' := []) [] rfl
  refine va_calli (va_runS (As := [.long x_1, .long 0, .long 2000000000]) (rest := []) ⟨hx, hb, hml, hown, hts⟩ (kf_X10_in l sa dC dI x_1 (0) (2000000000) s.heap.size) (va_cwS 3 hts (z_gS zw_t7_29 zw_t7_30 zw_t1_11 zw_t7_31) rfl rfl rfl (by decide +kernel) (by rw [← hRe]; exact ⟨(Nat.le_of_ble_eq_true rfl), (Nat.le_of_ble_eq_true rfl)⟩)) (z_preS hPc hKc hDc hN hXs hS hFc) rfl rfl hl.1 rfl (lv_room (Nat.le_of_ble_eq_true rfl)) dX10_isSeed_6 (by rw [← hRe]; exact ⟨(Nat.le_of_ble_eq_true rfl), (Nat.le_of_ble_eq_true rfl)⟩)) hS (fun q _ h => hFc q h) hFc (fun r_2 u t H1 locs ht hvm hw hB hz1 hk1 hS => ?_)
  obtain ⟨hP, hD, hK⟩ := z_after3 (wn := []) hB ht hvm hP hD hK [] [] rfl 0 rfl (by decide +kernel) rfl (by decide +kernel) hk1 hFc
  generalize H1 = H at hP hS ⊢
  have hK : va_K (dC, dI) vwCl [] s := hK
  have b_r_2 : 0 ≤ r_2.toInt ∧ r_2.toInt ≤ 1 := hw.1
  have s_r_2 := hw.2.1
  have sf_r_2 := hw.2.2
  have zal_0 : Int64.toInt 0 = 0 := by decide
  have zal_2000000000 : Int64.toInt 2000000000 = 2000000000 := by decide
  replace hF := hF.trans (zL_eq sf_r_2)
  have hF : RR = r_2 := hF
  exact W.zret (v := r_2) hx hb hr (zi_bool (by first | with_reducible assumption | omega)) (fun t ht hW => by rw [← hQe]; exact ⟨⟨r_2, (), rfl, ⟨by omega, (by rw [← hRR, hF])⟩, z_ret hP hK hD ht hW [] [] rfl (by decide) rfl⟩, hS.F ht⟩) hS.2.2 dX10_isSeed_9
set_option maxHeartbeats 4000000 in
set_option maxRecDepth 100000 in
theorem kf_X10_isHour (l : Launch) (sa : Nat → Nat) (dC : Nat → ClassId) (dI : Nat → Nat → Nat) (m0 : Nat) (p1 : Int32) (m0_thrown : Int32) (m0_width : Nat) (m0_many : Nat) (m0_cells : Nat) (m0_moved : Nat) (m0_tape : Nat) (m0_taped : Int32) (m0_at : Int32) (m0_token : Int32) (m0_place : Int32) (m0_value : Int32) (m0_word : Int64) (m0_bad : Int32) (m0_badPlace : Int32) (m0_fault : Int32) (m0_faultPlace : Int32) (m0_lines : Nat) (m0_hours : Nat) (m0_courts : Nat) (m0_in : Nat) (m0_gates : Nat) (m0_gate : Nat) (m0_people : Nat) (m0_at0 : Nat) (m0_stray : Nat) (m0_set : Nat) (m0_once : Nat) (m0_truth : Nat) (m0_known : Nat) (m0_isKept : Nat) (m0_strays : Int32) (m0_hostPerson : Int32) (m0_hostCourt : Int32) (m0_outside : Int32) (m0_inside : Nat) (m0_can : Nat) (m0_fewest : Nat) (m0_waysTo : Nat) (m0_then : Nat) (m0_two : Nat) (m0_nextTwo : Nat) (m0_three : Nat) (m0_nextThree : Nat) (m0_shut : Int32) (m0_worth : Nat) (m0_digit : Nat) (m0_codes : Int32) (m0_most : Int64) (m0_bestTry : Int32) (m0_dayCourt : Int32) (m0_dayHour : Int32) (m0_dayNo : Int32) (m0_x : Int64) (cA_m0_hours : ClassId) (f_m0_hours : Nat → Int32) (b_m0_taped : 0 ≤ m0_taped.toInt ∧ m0_taped.toInt ≤ 1600) (b_m0_at : 0 ≤ m0_at.toInt ∧ m0_at.toInt ≤ 1600) (b_m0_token : 0 ≤ m0_token.toInt ∧ m0_token.toInt ≤ 4) (b_m0_value : 0 ≤ m0_value.toInt ∧ m0_value.toInt ≤ 1000009) (b_m0_bad : 0 ≤ m0_bad.toInt ∧ m0_bad.toInt ≤ 3) (b_m0_strays : 0 ≤ m0_strays.toInt ∧ m0_strays.toInt ≤ 5) (b_m0_hostCourt : 0 ≤ m0_hostCourt.toInt ∧ m0_hostCourt.toInt ≤ 9) (b_m0_dayCourt : 0 ≤ m0_dayCourt.toInt ∧ m0_dayCourt.toInt ≤ 9) (b_m0_dayHour : 0 ≤ m0_dayHour.toInt ∧ m0_dayHour.toInt ≤ 48) (b_f_m0_hours : ∀ j : Nat, 0 ≤ (f_m0_hours j).toInt ∧ (f_m0_hours j).toInt ≤ 48) (sz : Nat) : Met l yX10_isHour (.code yX10_isHour cX10_isHour 2 (some .boolean) :: zT) ({ frames := 1, cells := 0, slots := 0, locals := 25 }) (va_Pc [.ref m0, .int p1] (zB sa dC dI (zV78 m0 m0_thrown m0_width m0_many m0_cells m0_moved m0_tape m0_taped m0_at m0_token m0_place m0_value m0_word m0_bad m0_badPlace m0_fault m0_faultPlace m0_lines m0_hours m0_courts m0_in m0_gates m0_gate m0_people m0_at0 m0_stray m0_set m0_once m0_truth m0_known m0_isKept m0_strays m0_hostPerson m0_hostCourt m0_outside m0_inside m0_can m0_fewest m0_waysTo m0_then m0_two m0_nextTwo m0_three m0_nextThree m0_shut m0_worth m0_digit m0_codes m0_most m0_bestTry m0_dayCourt m0_dayHour m0_dayNo m0_x m0_hours cA_m0_hours f_m0_hours) [(cA_m0_hours, .int)] sz)) (va_Qi (fun (r : Int32) (_ : Unit) => (0 ≤ r.toInt ∧ r.toInt ≤ 1) ∧ (r.toInt = 0 ∨ (0 ≤ p1.toInt ∧ p1.toInt ≤ 47)) ∧ r = (F_X10_isHour p1 f_m0_hours)) (fun _ t => zW dC dI (zV78 m0 m0_thrown m0_width m0_many m0_cells m0_moved m0_tape m0_taped m0_at m0_token m0_place m0_value m0_word m0_bad m0_badPlace m0_fault m0_faultPlace m0_lines m0_hours m0_courts m0_in m0_gates m0_gate m0_people m0_at0 m0_stray m0_set m0_once m0_truth m0_known m0_isKept m0_strays m0_hostPerson m0_hostCourt m0_outside m0_inside m0_can m0_fewest m0_waysTo m0_then m0_two m0_nextTwo m0_three m0_nextThree m0_shut m0_worth m0_digit m0_codes m0_most m0_bestTry m0_dayCourt m0_dayHour m0_dayNo m0_x m0_hours cA_m0_hours f_m0_hours) [] (va_A (zV78 m0 m0_thrown m0_width m0_many m0_cells m0_moved m0_tape m0_taped m0_at m0_token m0_place m0_value m0_word m0_bad m0_badPlace m0_fault m0_faultPlace m0_lines m0_hours m0_courts m0_in m0_gates m0_gate m0_people m0_at0 m0_stray m0_set m0_once m0_truth m0_known m0_isKept m0_strays m0_hostPerson m0_hostCourt m0_outside m0_inside m0_can m0_fewest m0_waysTo m0_then m0_two m0_nextTwo m0_three m0_nextThree m0_shut m0_worth m0_digit m0_codes m0_most m0_bestTry m0_dayCourt m0_dayHour m0_dayNo m0_x m0_hours cA_m0_hours f_m0_hours) sz) t) (va_A (zV78 m0 m0_thrown m0_width m0_many m0_cells m0_moved m0_tape m0_taped m0_at m0_token m0_place m0_value m0_word m0_bad m0_badPlace m0_fault m0_faultPlace m0_lines m0_hours m0_courts m0_in m0_gates m0_gate m0_people m0_at0 m0_stray m0_set m0_once m0_truth m0_known m0_isKept m0_strays m0_hostPerson m0_hostCourt m0_outside m0_inside m0_can m0_fewest m0_waysTo m0_then m0_two m0_nextTwo m0_three m0_nextThree m0_shut m0_worth m0_digit m0_codes m0_most m0_bestTry m0_dayCourt m0_dayHour m0_dayNo m0_x m0_hours cA_m0_hours f_m0_hours) sz)) 0 0 (va_A (zV78 m0 m0_thrown m0_width m0_many m0_cells m0_moved m0_tape m0_taped m0_at m0_token m0_place m0_value m0_word m0_bad m0_badPlace m0_fault m0_faultPlace m0_lines m0_hours m0_courts m0_in m0_gates m0_gate m0_people m0_at0 m0_stray m0_set m0_once m0_truth m0_known m0_isKept m0_strays m0_hostPerson m0_hostCourt m0_outside m0_inside m0_can m0_fewest m0_waysTo m0_then m0_two m0_nextTwo m0_three m0_nextThree m0_shut m0_worth m0_digit m0_codes m0_most m0_bestTry m0_dayCourt m0_dayHour m0_dayNo m0_x m0_hours cA_m0_hours f_m0_hours) sz) := by
  refine z_enter (by decide) (by exact (Nat.le_of_ble_eq_true rfl)) ?_
  intro p e s m args below meth c ls A R Qc hargs hsz hQe hAe hRe hx hb hml hr hts hown hlocks hin hl hP hK hD hN hXs hA hS
  rw [hAe] at hQe
  have hown : s.vm.findClass RX10 = some m.cls := hown
  have hl : lv_has ls 2 [(0, .ref m0), (1, .int p1)] := hl
  obtain ⟨RR, hRR⟩ : ∃ z : Int32, z = (F_X10_isHour p1 f_m0_hours) := ⟨_, rfl⟩
  have hF : RR = (F_X10_isHour p1 f_m0_hours) := hRR
  refine lv_iload_n hx hb dX10_isHour_0 rfl (lv_at hl 1 rfl) ?_
  refine lv_i2l (v := _) hx hb dX10_isHour_1 rfl ?_
  refine lv_topl (fun x_1 ex_1 => ?_)
  replace hF := hF.trans (zL_eq ex_1)
  have b_x_1 : x_1.toInt = p1.toInt := by rw [ex_1]; exact z_l64 _
  refine lv_lconst (v := 0) hx hb dX10_isHour_2 (by decide) ?_
  refine lv_aload_n hx hb dX10_isHour_3 rfl (lv_at hl 0 rfl) ?_
  refine va_get (D := (dC, dI)) (ci := 10) (v := .ref m0_hours) (C := RX10) (T := TX10) (N := 53) hx hb hts zl_X10 hown hK hP 0 rfl rfl 17 (by decide) (hts _ zw_t6_117) (fun _ h9 => h9) rfl dX10_isHour_4 ?_
  refine lv_iconst (v := 0) hx hb dX10_isHour_7 (by decide) ?_
  refine va_iald hx hb hK hP 1 0 rfl rfl (zi_in (show Int32.toInt 0 = 0 from by decide) (by decide)) dX10_isHour_8 ?_
  refine lv_topi (fun x_2 ex_2 => ?_)
  replace hF := hF.trans (zL_eq ex_2)
  have b_x_2 : 0 ≤ x_2.toInt ∧ x_2.toInt ≤ 48 := by rw [ex_2]; exact b_f_m0_hours _
  have t_x_2 : x_2.toInt = (f_m0_hours (Int32.toNatClampNeg 0)).toInt := by rw [ex_2]
  refine lv_iconst (v := 1) hx hb dX10_isHour_9 (by decide) ?_
  refine lv_isub hx hb dX10_isHour_10 ?_
  refine lv_topi (fun x_3 ex_3 => ?_)
  replace hF := hF.trans (zL_eq ex_3)
  have b_x_3 : x_3.toInt = x_2.toInt - 1 := by rw [ex_3]; exact zi_sub rfl (show Int32.toInt 1 = 1 from by decide) (z_rsc b_x_2 (by decide))
  refine lv_i2l (v := _) hx hb dX10_isHour_11 rfl ?_
  refine lv_topl (fun x_4 ex_4 => ?_)
  replace hF := hF.trans (zL_eq ex_4)
  have b_x_4 : x_4.toInt = x_3.toInt := by rw [ex_4]; exact z_l64 _
  obtain ⟨hPc, hDc, hFc⟩ := z_cut (wc := []) hP hD hS hA [] rfl (by decide +kernel)
  have hKc := hK.sub (tys' := []) [] rfl
  refine va_calli (va_runS (As := [.long x_1, .long 0, .long x_4]) (rest := []) ⟨hx, hb, hml, hown, hts⟩ (kf_X10_in l sa dC dI x_1 (0) x_4 s.heap.size) (va_cwS 3 hts (z_gS zw_t7_29 zw_t7_30 zw_t1_11 zw_t7_31) rfl rfl rfl (by decide +kernel) (by rw [← hRe]; exact ⟨(Nat.le_of_ble_eq_true rfl), (Nat.le_of_ble_eq_true rfl)⟩)) (z_preS hPc hKc hDc hN hXs hS hFc) rfl rfl hl.1 rfl (lv_room (Nat.le_of_ble_eq_true rfl)) dX10_isHour_12 (by rw [← hRe]; exact ⟨(Nat.le_of_ble_eq_true rfl), (Nat.le_of_ble_eq_true rfl)⟩)) hS (fun q _ h => hFc q h) hFc (fun r_5 u t H1 locs ht hvm hw hB hz1 hk1 hS => ?_)
  obtain ⟨hP, hD, hK⟩ := z_after3 (wn := (zV78 m0 m0_thrown m0_width m0_many m0_cells m0_moved m0_tape m0_taped m0_at m0_token m0_place m0_value m0_word m0_bad m0_badPlace m0_fault m0_faultPlace m0_lines m0_hours m0_courts m0_in m0_gates m0_gate m0_people m0_at0 m0_stray m0_set m0_once m0_truth m0_known m0_isKept m0_strays m0_hostPerson m0_hostCourt m0_outside m0_inside m0_can m0_fewest m0_waysTo m0_then m0_two m0_nextTwo m0_three m0_nextThree m0_shut m0_worth m0_digit m0_codes m0_most m0_bestTry m0_dayCourt m0_dayHour m0_dayNo m0_x m0_hours cA_m0_hours f_m0_hours)) hB ht hvm hP hD hK [] [0, 1] rfl 2 rfl (by decide +kernel) rfl (by decide +kernel) hk1 hFc
  generalize H1 = H at hP hS ⊢
  have hK : va_K (dC, dI) vwCl [(cA_m0_hours, .int)] s := hK
  have b_r_5 : 0 ≤ r_5.toInt ∧ r_5.toInt ≤ 1 := hw.1
  have s_r_5 := hw.2.1
  have sf_r_5 := hw.2.2
  have zal_0 : Int64.toInt 0 = 0 := by decide
  replace hF := hF.trans (zL_eq sf_r_5)
  have hF : RR = r_5 := hF
  exact W.zret (v := r_5) hx hb hr (zi_bool (by first | with_reducible assumption | omega)) (fun t ht hW => by rw [← hQe]; exact ⟨⟨r_5, (), rfl, ⟨by omega, ⟨by omega, (by rw [← hRR, hF])⟩⟩, z_ret hP hK hD ht hW [0, 1] [] rfl (by decide) rfl⟩, hS.F ht⟩) hS.2.2 dX10_isHour_15
set_option maxHeartbeats 4000000 in
set_option maxRecDepth 100000 in
theorem kf_X10_isCourt (l : Launch) (sa : Nat → Nat) (dC : Nat → ClassId) (dI : Nat → Nat → Nat) (m0 : Nat) (p1 : Int32) (m0_thrown : Int32) (m0_width : Nat) (m0_many : Nat) (m0_cells : Nat) (m0_moved : Nat) (m0_tape : Nat) (m0_taped : Int32) (m0_at : Int32) (m0_token : Int32) (m0_place : Int32) (m0_value : Int32) (m0_word : Int64) (m0_bad : Int32) (m0_badPlace : Int32) (m0_fault : Int32) (m0_faultPlace : Int32) (m0_lines : Nat) (m0_hours : Nat) (m0_courts : Nat) (m0_in : Nat) (m0_gates : Nat) (m0_gate : Nat) (m0_people : Nat) (m0_at0 : Nat) (m0_stray : Nat) (m0_set : Nat) (m0_once : Nat) (m0_truth : Nat) (m0_known : Nat) (m0_isKept : Nat) (m0_strays : Int32) (m0_hostPerson : Int32) (m0_hostCourt : Int32) (m0_outside : Int32) (m0_inside : Nat) (m0_can : Nat) (m0_fewest : Nat) (m0_waysTo : Nat) (m0_then : Nat) (m0_two : Nat) (m0_nextTwo : Nat) (m0_three : Nat) (m0_nextThree : Nat) (m0_shut : Int32) (m0_worth : Nat) (m0_digit : Nat) (m0_codes : Int32) (m0_most : Int64) (m0_bestTry : Int32) (m0_dayCourt : Int32) (m0_dayHour : Int32) (m0_dayNo : Int32) (m0_x : Int64) (cA_m0_courts : ClassId) (f_m0_courts : Nat → Int32) (b_m0_taped : 0 ≤ m0_taped.toInt ∧ m0_taped.toInt ≤ 1600) (b_m0_at : 0 ≤ m0_at.toInt ∧ m0_at.toInt ≤ 1600) (b_m0_token : 0 ≤ m0_token.toInt ∧ m0_token.toInt ≤ 4) (b_m0_value : 0 ≤ m0_value.toInt ∧ m0_value.toInt ≤ 1000009) (b_m0_bad : 0 ≤ m0_bad.toInt ∧ m0_bad.toInt ≤ 3) (b_m0_strays : 0 ≤ m0_strays.toInt ∧ m0_strays.toInt ≤ 5) (b_m0_hostCourt : 0 ≤ m0_hostCourt.toInt ∧ m0_hostCourt.toInt ≤ 9) (b_m0_dayCourt : 0 ≤ m0_dayCourt.toInt ∧ m0_dayCourt.toInt ≤ 9) (b_m0_dayHour : 0 ≤ m0_dayHour.toInt ∧ m0_dayHour.toInt ≤ 48) (b_f_m0_courts : ∀ j : Nat, 0 ≤ (f_m0_courts j).toInt ∧ (f_m0_courts j).toInt ≤ 10) (sz : Nat) : Met l yX10_isCourt (.code yX10_isCourt cX10_isCourt 2 (some .boolean) :: zT) ({ frames := 1, cells := 0, slots := 0, locals := 25 }) (va_Pc [.ref m0, .int p1] (zB sa dC dI (zV78 m0 m0_thrown m0_width m0_many m0_cells m0_moved m0_tape m0_taped m0_at m0_token m0_place m0_value m0_word m0_bad m0_badPlace m0_fault m0_faultPlace m0_lines m0_hours m0_courts m0_in m0_gates m0_gate m0_people m0_at0 m0_stray m0_set m0_once m0_truth m0_known m0_isKept m0_strays m0_hostPerson m0_hostCourt m0_outside m0_inside m0_can m0_fewest m0_waysTo m0_then m0_two m0_nextTwo m0_three m0_nextThree m0_shut m0_worth m0_digit m0_codes m0_most m0_bestTry m0_dayCourt m0_dayHour m0_dayNo m0_x m0_courts cA_m0_courts f_m0_courts) [(cA_m0_courts, .int)] sz)) (va_Qi (fun (r : Int32) (_ : Unit) => (0 ≤ r.toInt ∧ r.toInt ≤ 1) ∧ (r.toInt = 0 ∨ (0 ≤ p1.toInt ∧ p1.toInt ≤ 9 ∧ 1 ≤ (f_m0_courts (Int32.toNatClampNeg 0)).toInt)) ∧ r = (F_X10_isCourt p1 f_m0_courts)) (fun _ t => zW dC dI (zV78 m0 m0_thrown m0_width m0_many m0_cells m0_moved m0_tape m0_taped m0_at m0_token m0_place m0_value m0_word m0_bad m0_badPlace m0_fault m0_faultPlace m0_lines m0_hours m0_courts m0_in m0_gates m0_gate m0_people m0_at0 m0_stray m0_set m0_once m0_truth m0_known m0_isKept m0_strays m0_hostPerson m0_hostCourt m0_outside m0_inside m0_can m0_fewest m0_waysTo m0_then m0_two m0_nextTwo m0_three m0_nextThree m0_shut m0_worth m0_digit m0_codes m0_most m0_bestTry m0_dayCourt m0_dayHour m0_dayNo m0_x m0_courts cA_m0_courts f_m0_courts) [] (va_A (zV78 m0 m0_thrown m0_width m0_many m0_cells m0_moved m0_tape m0_taped m0_at m0_token m0_place m0_value m0_word m0_bad m0_badPlace m0_fault m0_faultPlace m0_lines m0_hours m0_courts m0_in m0_gates m0_gate m0_people m0_at0 m0_stray m0_set m0_once m0_truth m0_known m0_isKept m0_strays m0_hostPerson m0_hostCourt m0_outside m0_inside m0_can m0_fewest m0_waysTo m0_then m0_two m0_nextTwo m0_three m0_nextThree m0_shut m0_worth m0_digit m0_codes m0_most m0_bestTry m0_dayCourt m0_dayHour m0_dayNo m0_x m0_courts cA_m0_courts f_m0_courts) sz) t) (va_A (zV78 m0 m0_thrown m0_width m0_many m0_cells m0_moved m0_tape m0_taped m0_at m0_token m0_place m0_value m0_word m0_bad m0_badPlace m0_fault m0_faultPlace m0_lines m0_hours m0_courts m0_in m0_gates m0_gate m0_people m0_at0 m0_stray m0_set m0_once m0_truth m0_known m0_isKept m0_strays m0_hostPerson m0_hostCourt m0_outside m0_inside m0_can m0_fewest m0_waysTo m0_then m0_two m0_nextTwo m0_three m0_nextThree m0_shut m0_worth m0_digit m0_codes m0_most m0_bestTry m0_dayCourt m0_dayHour m0_dayNo m0_x m0_courts cA_m0_courts f_m0_courts) sz)) 0 0 (va_A (zV78 m0 m0_thrown m0_width m0_many m0_cells m0_moved m0_tape m0_taped m0_at m0_token m0_place m0_value m0_word m0_bad m0_badPlace m0_fault m0_faultPlace m0_lines m0_hours m0_courts m0_in m0_gates m0_gate m0_people m0_at0 m0_stray m0_set m0_once m0_truth m0_known m0_isKept m0_strays m0_hostPerson m0_hostCourt m0_outside m0_inside m0_can m0_fewest m0_waysTo m0_then m0_two m0_nextTwo m0_three m0_nextThree m0_shut m0_worth m0_digit m0_codes m0_most m0_bestTry m0_dayCourt m0_dayHour m0_dayNo m0_x m0_courts cA_m0_courts f_m0_courts) sz) := by
  refine z_enter (by decide) (by exact (Nat.le_of_ble_eq_true rfl)) ?_
  intro p e s m args below meth c ls A R Qc hargs hsz hQe hAe hRe hx hb hml hr hts hown hlocks hin hl hP hK hD hN hXs hA hS
  rw [hAe] at hQe
  have hown : s.vm.findClass RX10 = some m.cls := hown
  have hl : lv_has ls 2 [(0, .ref m0), (1, .int p1)] := hl
  obtain ⟨RR, hRR⟩ : ∃ z : Int32, z = (F_X10_isCourt p1 f_m0_courts) := ⟨_, rfl⟩
  have hF : RR = (F_X10_isCourt p1 f_m0_courts) := hRR
  refine lv_iload_n hx hb dX10_isCourt_0 rfl (lv_at hl 1 rfl) ?_
  refine lv_i2l (v := _) hx hb dX10_isCourt_1 rfl ?_
  refine lv_topl (fun x_1 ex_1 => ?_)
  replace hF := hF.trans (zL_eq ex_1)
  have b_x_1 : x_1.toInt = p1.toInt := by rw [ex_1]; exact z_l64 _
  refine lv_lconst (v := 0) hx hb dX10_isCourt_2 (by decide) ?_
  refine lv_aload_n hx hb dX10_isCourt_3 rfl (lv_at hl 0 rfl) ?_
  refine va_get (D := (dC, dI)) (ci := 10) (v := .ref m0_courts) (C := RX10) (T := TX10) (N := 53) hx hb hts zl_X10 hown hK hP 0 rfl rfl 18 (by decide) (hts _ zw_t6_118) (fun _ h9 => h9) rfl dX10_isCourt_4 ?_
  refine lv_iconst (v := 0) hx hb dX10_isCourt_7 (by decide) ?_
  refine va_iald hx hb hK hP 1 0 rfl rfl (zi_in (show Int32.toInt 0 = 0 from by decide) (by decide)) dX10_isCourt_8 ?_
  refine lv_topi (fun x_2 ex_2 => ?_)
  replace hF := hF.trans (zL_eq ex_2)
  have b_x_2 : 0 ≤ x_2.toInt ∧ x_2.toInt ≤ 10 := by rw [ex_2]; exact b_f_m0_courts _
  have t_x_2 : x_2.toInt = (f_m0_courts (Int32.toNatClampNeg 0)).toInt := by rw [ex_2]
  refine lv_iconst (v := 1) hx hb dX10_isCourt_9 (by decide) ?_
  refine lv_isub hx hb dX10_isCourt_10 ?_
  refine lv_topi (fun x_3 ex_3 => ?_)
  replace hF := hF.trans (zL_eq ex_3)
  have b_x_3 : x_3.toInt = x_2.toInt - 1 := by rw [ex_3]; exact zi_sub rfl (show Int32.toInt 1 = 1 from by decide) (z_rsc b_x_2 (by decide))
  refine lv_i2l (v := _) hx hb dX10_isCourt_11 rfl ?_
  refine lv_topl (fun x_4 ex_4 => ?_)
  replace hF := hF.trans (zL_eq ex_4)
  have b_x_4 : x_4.toInt = x_3.toInt := by rw [ex_4]; exact z_l64 _
  obtain ⟨hPc, hDc, hFc⟩ := z_cut (wc := []) hP hD hS hA [] rfl (by decide +kernel)
  have hKc := hK.sub (tys' := []) [] rfl
  refine va_calli (va_runS (As := [.long x_1, .long 0, .long x_4]) (rest := []) ⟨hx, hb, hml, hown, hts⟩ (kf_X10_in l sa dC dI x_1 (0) x_4 s.heap.size) (va_cwS 3 hts (z_gS zw_t7_29 zw_t7_30 zw_t1_11 zw_t7_31) rfl rfl rfl (by decide +kernel) (by rw [← hRe]; exact ⟨(Nat.le_of_ble_eq_true rfl), (Nat.le_of_ble_eq_true rfl)⟩)) (z_preS hPc hKc hDc hN hXs hS hFc) rfl rfl hl.1 rfl (lv_room (Nat.le_of_ble_eq_true rfl)) dX10_isCourt_12 (by rw [← hRe]; exact ⟨(Nat.le_of_ble_eq_true rfl), (Nat.le_of_ble_eq_true rfl)⟩)) hS (fun q _ h => hFc q h) hFc (fun r_5 u t H1 locs ht hvm hw hB hz1 hk1 hS => ?_)
  obtain ⟨hP, hD, hK⟩ := z_after3 (wn := (zV78 m0 m0_thrown m0_width m0_many m0_cells m0_moved m0_tape m0_taped m0_at m0_token m0_place m0_value m0_word m0_bad m0_badPlace m0_fault m0_faultPlace m0_lines m0_hours m0_courts m0_in m0_gates m0_gate m0_people m0_at0 m0_stray m0_set m0_once m0_truth m0_known m0_isKept m0_strays m0_hostPerson m0_hostCourt m0_outside m0_inside m0_can m0_fewest m0_waysTo m0_then m0_two m0_nextTwo m0_three m0_nextThree m0_shut m0_worth m0_digit m0_codes m0_most m0_bestTry m0_dayCourt m0_dayHour m0_dayNo m0_x m0_courts cA_m0_courts f_m0_courts)) hB ht hvm hP hD hK [] [0, 1] rfl 2 rfl (by decide +kernel) rfl (by decide +kernel) hk1 hFc
  generalize H1 = H at hP hS ⊢
  have hK : va_K (dC, dI) vwCl [(cA_m0_courts, .int)] s := hK
  have b_r_5 : 0 ≤ r_5.toInt ∧ r_5.toInt ≤ 1 := hw.1
  have s_r_5 := hw.2.1
  have sf_r_5 := hw.2.2
  have zal_0 : Int64.toInt 0 = 0 := by decide
  replace hF := hF.trans (zL_eq sf_r_5)
  have hF : RR = r_5 := hF
  exact W.zret (v := r_5) hx hb hr (zi_bool (by first | with_reducible assumption | omega)) (fun t ht hW => by rw [← hQe]; exact ⟨⟨r_5, (), rfl, ⟨by omega, ⟨by omega, (by rw [← hRR, hF])⟩⟩, z_ret hP hK hD ht hW [0, 1] [] rfl (by decide) rfl⟩, hS.F ht⟩) hS.2.2 dX10_isCourt_15
set_option maxHeartbeats 4000000 in
set_option maxRecDepth 100000 in
theorem kf_X10_isPerson (l : Launch) (sa : Nat → Nat) (dC : Nat → ClassId) (dI : Nat → Nat → Nat) (m0 : Nat) (p1 : Int32) (m0_thrown : Int32) (m0_width : Nat) (m0_many : Nat) (m0_cells : Nat) (m0_moved : Nat) (m0_tape : Nat) (m0_taped : Int32) (m0_at : Int32) (m0_token : Int32) (m0_place : Int32) (m0_value : Int32) (m0_word : Int64) (m0_bad : Int32) (m0_badPlace : Int32) (m0_fault : Int32) (m0_faultPlace : Int32) (m0_lines : Nat) (m0_hours : Nat) (m0_courts : Nat) (m0_in : Nat) (m0_gates : Nat) (m0_gate : Nat) (m0_people : Nat) (m0_at0 : Nat) (m0_stray : Nat) (m0_set : Nat) (m0_once : Nat) (m0_truth : Nat) (m0_known : Nat) (m0_isKept : Nat) (m0_strays : Int32) (m0_hostPerson : Int32) (m0_hostCourt : Int32) (m0_outside : Int32) (m0_inside : Nat) (m0_can : Nat) (m0_fewest : Nat) (m0_waysTo : Nat) (m0_then : Nat) (m0_two : Nat) (m0_nextTwo : Nat) (m0_three : Nat) (m0_nextThree : Nat) (m0_shut : Int32) (m0_worth : Nat) (m0_digit : Nat) (m0_codes : Int32) (m0_most : Int64) (m0_bestTry : Int32) (m0_dayCourt : Int32) (m0_dayHour : Int32) (m0_dayNo : Int32) (m0_x : Int64) (cA_m0_people : ClassId) (f_m0_people : Nat → Int32) (b_m0_taped : 0 ≤ m0_taped.toInt ∧ m0_taped.toInt ≤ 1600) (b_m0_at : 0 ≤ m0_at.toInt ∧ m0_at.toInt ≤ 1600) (b_m0_token : 0 ≤ m0_token.toInt ∧ m0_token.toInt ≤ 4) (b_m0_value : 0 ≤ m0_value.toInt ∧ m0_value.toInt ≤ 1000009) (b_m0_bad : 0 ≤ m0_bad.toInt ∧ m0_bad.toInt ≤ 3) (b_m0_strays : 0 ≤ m0_strays.toInt ∧ m0_strays.toInt ≤ 5) (b_m0_hostCourt : 0 ≤ m0_hostCourt.toInt ∧ m0_hostCourt.toInt ≤ 9) (b_m0_dayCourt : 0 ≤ m0_dayCourt.toInt ∧ m0_dayCourt.toInt ≤ 9) (b_m0_dayHour : 0 ≤ m0_dayHour.toInt ∧ m0_dayHour.toInt ≤ 48) (b_f_m0_people : ∀ j : Nat, 0 ≤ (f_m0_people j).toInt ∧ (f_m0_people j).toInt ≤ 10) (sz : Nat) : Met l yX10_isPerson (.code yX10_isPerson cX10_isPerson 2 (some .boolean) :: zT) ({ frames := 1, cells := 0, slots := 0, locals := 25 }) (va_Pc [.ref m0, .int p1] (zB sa dC dI (zV78 m0 m0_thrown m0_width m0_many m0_cells m0_moved m0_tape m0_taped m0_at m0_token m0_place m0_value m0_word m0_bad m0_badPlace m0_fault m0_faultPlace m0_lines m0_hours m0_courts m0_in m0_gates m0_gate m0_people m0_at0 m0_stray m0_set m0_once m0_truth m0_known m0_isKept m0_strays m0_hostPerson m0_hostCourt m0_outside m0_inside m0_can m0_fewest m0_waysTo m0_then m0_two m0_nextTwo m0_three m0_nextThree m0_shut m0_worth m0_digit m0_codes m0_most m0_bestTry m0_dayCourt m0_dayHour m0_dayNo m0_x m0_people cA_m0_people f_m0_people) [(cA_m0_people, .int)] sz)) (va_Qi (fun (r : Int32) (_ : Unit) => (0 ≤ r.toInt ∧ r.toInt ≤ 1) ∧ (r.toInt = 0 ∨ (0 ≤ p1.toInt ∧ p1.toInt ≤ 9)) ∧ r = (F_X10_isPerson p1 f_m0_people)) (fun _ t => zW dC dI (zV78 m0 m0_thrown m0_width m0_many m0_cells m0_moved m0_tape m0_taped m0_at m0_token m0_place m0_value m0_word m0_bad m0_badPlace m0_fault m0_faultPlace m0_lines m0_hours m0_courts m0_in m0_gates m0_gate m0_people m0_at0 m0_stray m0_set m0_once m0_truth m0_known m0_isKept m0_strays m0_hostPerson m0_hostCourt m0_outside m0_inside m0_can m0_fewest m0_waysTo m0_then m0_two m0_nextTwo m0_three m0_nextThree m0_shut m0_worth m0_digit m0_codes m0_most m0_bestTry m0_dayCourt m0_dayHour m0_dayNo m0_x m0_people cA_m0_people f_m0_people) [] (va_A (zV78 m0 m0_thrown m0_width m0_many m0_cells m0_moved m0_tape m0_taped m0_at m0_token m0_place m0_value m0_word m0_bad m0_badPlace m0_fault m0_faultPlace m0_lines m0_hours m0_courts m0_in m0_gates m0_gate m0_people m0_at0 m0_stray m0_set m0_once m0_truth m0_known m0_isKept m0_strays m0_hostPerson m0_hostCourt m0_outside m0_inside m0_can m0_fewest m0_waysTo m0_then m0_two m0_nextTwo m0_three m0_nextThree m0_shut m0_worth m0_digit m0_codes m0_most m0_bestTry m0_dayCourt m0_dayHour m0_dayNo m0_x m0_people cA_m0_people f_m0_people) sz) t) (va_A (zV78 m0 m0_thrown m0_width m0_many m0_cells m0_moved m0_tape m0_taped m0_at m0_token m0_place m0_value m0_word m0_bad m0_badPlace m0_fault m0_faultPlace m0_lines m0_hours m0_courts m0_in m0_gates m0_gate m0_people m0_at0 m0_stray m0_set m0_once m0_truth m0_known m0_isKept m0_strays m0_hostPerson m0_hostCourt m0_outside m0_inside m0_can m0_fewest m0_waysTo m0_then m0_two m0_nextTwo m0_three m0_nextThree m0_shut m0_worth m0_digit m0_codes m0_most m0_bestTry m0_dayCourt m0_dayHour m0_dayNo m0_x m0_people cA_m0_people f_m0_people) sz)) 0 0 (va_A (zV78 m0 m0_thrown m0_width m0_many m0_cells m0_moved m0_tape m0_taped m0_at m0_token m0_place m0_value m0_word m0_bad m0_badPlace m0_fault m0_faultPlace m0_lines m0_hours m0_courts m0_in m0_gates m0_gate m0_people m0_at0 m0_stray m0_set m0_once m0_truth m0_known m0_isKept m0_strays m0_hostPerson m0_hostCourt m0_outside m0_inside m0_can m0_fewest m0_waysTo m0_then m0_two m0_nextTwo m0_three m0_nextThree m0_shut m0_worth m0_digit m0_codes m0_most m0_bestTry m0_dayCourt m0_dayHour m0_dayNo m0_x m0_people cA_m0_people f_m0_people) sz) := by
  refine z_enter (by decide) (by exact (Nat.le_of_ble_eq_true rfl)) ?_
  intro p e s m args below meth c ls A R Qc hargs hsz hQe hAe hRe hx hb hml hr hts hown hlocks hin hl hP hK hD hN hXs hA hS
  rw [hAe] at hQe
  have hown : s.vm.findClass RX10 = some m.cls := hown
  have hl : lv_has ls 2 [(0, .ref m0), (1, .int p1)] := hl
  obtain ⟨RR, hRR⟩ : ∃ z : Int32, z = (F_X10_isPerson p1 f_m0_people) := ⟨_, rfl⟩
  have hF : RR = (F_X10_isPerson p1 f_m0_people) := hRR
  refine lv_iload_n hx hb dX10_isPerson_0 rfl (lv_at hl 1 rfl) ?_
  refine lv_i2l (v := _) hx hb dX10_isPerson_1 rfl ?_
  refine lv_topl (fun x_1 ex_1 => ?_)
  replace hF := hF.trans (zL_eq ex_1)
  have b_x_1 : x_1.toInt = p1.toInt := by rw [ex_1]; exact z_l64 _
  refine lv_lconst (v := 0) hx hb dX10_isPerson_2 (by decide) ?_
  refine lv_aload_n hx hb dX10_isPerson_3 rfl (lv_at hl 0 rfl) ?_
  refine va_get (D := (dC, dI)) (ci := 10) (v := .ref m0_people) (C := RX10) (T := TX10) (N := 53) hx hb hts zl_X10 hown hK hP 0 rfl rfl 22 (by decide) (hts _ zw_t6_122) (fun _ h9 => h9) rfl dX10_isPerson_4 ?_
  refine lv_iconst (v := 0) hx hb dX10_isPerson_7 (by decide) ?_
  refine va_iald hx hb hK hP 1 0 rfl rfl (zi_in (show Int32.toInt 0 = 0 from by decide) (by decide)) dX10_isPerson_8 ?_
  refine lv_topi (fun x_2 ex_2 => ?_)
  replace hF := hF.trans (zL_eq ex_2)
  have b_x_2 : 0 ≤ x_2.toInt ∧ x_2.toInt ≤ 10 := by rw [ex_2]; exact b_f_m0_people _
  have t_x_2 : x_2.toInt = (f_m0_people (Int32.toNatClampNeg 0)).toInt := by rw [ex_2]
  refine lv_iconst (v := 1) hx hb dX10_isPerson_9 (by decide) ?_
  refine lv_isub hx hb dX10_isPerson_10 ?_
  refine lv_topi (fun x_3 ex_3 => ?_)
  replace hF := hF.trans (zL_eq ex_3)
  have b_x_3 : x_3.toInt = x_2.toInt - 1 := by rw [ex_3]; exact zi_sub rfl (show Int32.toInt 1 = 1 from by decide) (z_rsc b_x_2 (by decide))
  refine lv_i2l (v := _) hx hb dX10_isPerson_11 rfl ?_
  refine lv_topl (fun x_4 ex_4 => ?_)
  replace hF := hF.trans (zL_eq ex_4)
  have b_x_4 : x_4.toInt = x_3.toInt := by rw [ex_4]; exact z_l64 _
  obtain ⟨hPc, hDc, hFc⟩ := z_cut (wc := []) hP hD hS hA [] rfl (by decide +kernel)
  have hKc := hK.sub (tys' := []) [] rfl
  refine va_calli (va_runS (As := [.long x_1, .long 0, .long x_4]) (rest := []) ⟨hx, hb, hml, hown, hts⟩ (kf_X10_in l sa dC dI x_1 (0) x_4 s.heap.size) (va_cwS 3 hts (z_gS zw_t7_29 zw_t7_30 zw_t1_11 zw_t7_31) rfl rfl rfl (by decide +kernel) (by rw [← hRe]; exact ⟨(Nat.le_of_ble_eq_true rfl), (Nat.le_of_ble_eq_true rfl)⟩)) (z_preS hPc hKc hDc hN hXs hS hFc) rfl rfl hl.1 rfl (lv_room (Nat.le_of_ble_eq_true rfl)) dX10_isPerson_12 (by rw [← hRe]; exact ⟨(Nat.le_of_ble_eq_true rfl), (Nat.le_of_ble_eq_true rfl)⟩)) hS (fun q _ h => hFc q h) hFc (fun r_5 u t H1 locs ht hvm hw hB hz1 hk1 hS => ?_)
  obtain ⟨hP, hD, hK⟩ := z_after3 (wn := (zV78 m0 m0_thrown m0_width m0_many m0_cells m0_moved m0_tape m0_taped m0_at m0_token m0_place m0_value m0_word m0_bad m0_badPlace m0_fault m0_faultPlace m0_lines m0_hours m0_courts m0_in m0_gates m0_gate m0_people m0_at0 m0_stray m0_set m0_once m0_truth m0_known m0_isKept m0_strays m0_hostPerson m0_hostCourt m0_outside m0_inside m0_can m0_fewest m0_waysTo m0_then m0_two m0_nextTwo m0_three m0_nextThree m0_shut m0_worth m0_digit m0_codes m0_most m0_bestTry m0_dayCourt m0_dayHour m0_dayNo m0_x m0_people cA_m0_people f_m0_people)) hB ht hvm hP hD hK [] [0, 1] rfl 2 rfl (by decide +kernel) rfl (by decide +kernel) hk1 hFc
  generalize H1 = H at hP hS ⊢
  have hK : va_K (dC, dI) vwCl [(cA_m0_people, .int)] s := hK
  have b_r_5 : 0 ≤ r_5.toInt ∧ r_5.toInt ≤ 1 := hw.1
  have s_r_5 := hw.2.1
  have sf_r_5 := hw.2.2
  have zal_0 : Int64.toInt 0 = 0 := by decide
  replace hF := hF.trans (zL_eq sf_r_5)
  have hF : RR = r_5 := hF
  exact W.zret (v := r_5) hx hb hr (zi_bool (by first | with_reducible assumption | omega)) (fun t ht hW => by rw [← hQe]; exact ⟨⟨r_5, (), rfl, ⟨by omega, ⟨by omega, (by rw [← hRR, hF])⟩⟩, z_ret hP hK hD ht hW [0, 1] [] rfl (by decide) rfl⟩, hS.F ht⟩) hS.2.2 dX10_isPerson_15
set_option maxHeartbeats 4000000 in
set_option maxRecDepth 100000 in
theorem kf_X10_isGate (l : Launch) (sa : Nat → Nat) (dC : Nat → ClassId) (dI : Nat → Nat → Nat) (m0 : Nat) (p1 : Int32) (m0_thrown : Int32) (m0_width : Nat) (m0_many : Nat) (m0_cells : Nat) (m0_moved : Nat) (m0_tape : Nat) (m0_taped : Int32) (m0_at : Int32) (m0_token : Int32) (m0_place : Int32) (m0_value : Int32) (m0_word : Int64) (m0_bad : Int32) (m0_badPlace : Int32) (m0_fault : Int32) (m0_faultPlace : Int32) (m0_lines : Nat) (m0_hours : Nat) (m0_courts : Nat) (m0_in : Nat) (m0_gates : Nat) (m0_gate : Nat) (m0_people : Nat) (m0_at0 : Nat) (m0_stray : Nat) (m0_set : Nat) (m0_once : Nat) (m0_truth : Nat) (m0_known : Nat) (m0_isKept : Nat) (m0_strays : Int32) (m0_hostPerson : Int32) (m0_hostCourt : Int32) (m0_outside : Int32) (m0_inside : Nat) (m0_can : Nat) (m0_fewest : Nat) (m0_waysTo : Nat) (m0_then : Nat) (m0_two : Nat) (m0_nextTwo : Nat) (m0_three : Nat) (m0_nextThree : Nat) (m0_shut : Int32) (m0_worth : Nat) (m0_digit : Nat) (m0_codes : Int32) (m0_most : Int64) (m0_bestTry : Int32) (m0_dayCourt : Int32) (m0_dayHour : Int32) (m0_dayNo : Int32) (m0_x : Int64) (cA_m0_gates : ClassId) (f_m0_gates : Nat → Int32) (b_m0_taped : 0 ≤ m0_taped.toInt ∧ m0_taped.toInt ≤ 1600) (b_m0_at : 0 ≤ m0_at.toInt ∧ m0_at.toInt ≤ 1600) (b_m0_token : 0 ≤ m0_token.toInt ∧ m0_token.toInt ≤ 4) (b_m0_value : 0 ≤ m0_value.toInt ∧ m0_value.toInt ≤ 1000009) (b_m0_bad : 0 ≤ m0_bad.toInt ∧ m0_bad.toInt ≤ 3) (b_m0_strays : 0 ≤ m0_strays.toInt ∧ m0_strays.toInt ≤ 5) (b_m0_hostCourt : 0 ≤ m0_hostCourt.toInt ∧ m0_hostCourt.toInt ≤ 9) (b_m0_dayCourt : 0 ≤ m0_dayCourt.toInt ∧ m0_dayCourt.toInt ≤ 9) (b_m0_dayHour : 0 ≤ m0_dayHour.toInt ∧ m0_dayHour.toInt ≤ 48) (b_f_m0_gates : ∀ j : Nat, 0 ≤ (f_m0_gates j).toInt ∧ (f_m0_gates j).toInt ≤ 16) (sz : Nat) : Met l yX10_isGate (.code yX10_isGate cX10_isGate 2 (some .boolean) :: zT) ({ frames := 1, cells := 0, slots := 0, locals := 25 }) (va_Pc [.ref m0, .int p1] (zB sa dC dI (zV78 m0 m0_thrown m0_width m0_many m0_cells m0_moved m0_tape m0_taped m0_at m0_token m0_place m0_value m0_word m0_bad m0_badPlace m0_fault m0_faultPlace m0_lines m0_hours m0_courts m0_in m0_gates m0_gate m0_people m0_at0 m0_stray m0_set m0_once m0_truth m0_known m0_isKept m0_strays m0_hostPerson m0_hostCourt m0_outside m0_inside m0_can m0_fewest m0_waysTo m0_then m0_two m0_nextTwo m0_three m0_nextThree m0_shut m0_worth m0_digit m0_codes m0_most m0_bestTry m0_dayCourt m0_dayHour m0_dayNo m0_x m0_gates cA_m0_gates f_m0_gates) [(cA_m0_gates, .int)] sz)) (va_Qi (fun (r : Int32) (_ : Unit) => (0 ≤ r.toInt ∧ r.toInt ≤ 1) ∧ (r.toInt = 0 ∨ (0 ≤ p1.toInt ∧ p1.toInt ≤ 15)) ∧ r = (F_X10_isGate p1 f_m0_gates)) (fun _ t => zW dC dI (zV78 m0 m0_thrown m0_width m0_many m0_cells m0_moved m0_tape m0_taped m0_at m0_token m0_place m0_value m0_word m0_bad m0_badPlace m0_fault m0_faultPlace m0_lines m0_hours m0_courts m0_in m0_gates m0_gate m0_people m0_at0 m0_stray m0_set m0_once m0_truth m0_known m0_isKept m0_strays m0_hostPerson m0_hostCourt m0_outside m0_inside m0_can m0_fewest m0_waysTo m0_then m0_two m0_nextTwo m0_three m0_nextThree m0_shut m0_worth m0_digit m0_codes m0_most m0_bestTry m0_dayCourt m0_dayHour m0_dayNo m0_x m0_gates cA_m0_gates f_m0_gates) [] (va_A (zV78 m0 m0_thrown m0_width m0_many m0_cells m0_moved m0_tape m0_taped m0_at m0_token m0_place m0_value m0_word m0_bad m0_badPlace m0_fault m0_faultPlace m0_lines m0_hours m0_courts m0_in m0_gates m0_gate m0_people m0_at0 m0_stray m0_set m0_once m0_truth m0_known m0_isKept m0_strays m0_hostPerson m0_hostCourt m0_outside m0_inside m0_can m0_fewest m0_waysTo m0_then m0_two m0_nextTwo m0_three m0_nextThree m0_shut m0_worth m0_digit m0_codes m0_most m0_bestTry m0_dayCourt m0_dayHour m0_dayNo m0_x m0_gates cA_m0_gates f_m0_gates) sz) t) (va_A (zV78 m0 m0_thrown m0_width m0_many m0_cells m0_moved m0_tape m0_taped m0_at m0_token m0_place m0_value m0_word m0_bad m0_badPlace m0_fault m0_faultPlace m0_lines m0_hours m0_courts m0_in m0_gates m0_gate m0_people m0_at0 m0_stray m0_set m0_once m0_truth m0_known m0_isKept m0_strays m0_hostPerson m0_hostCourt m0_outside m0_inside m0_can m0_fewest m0_waysTo m0_then m0_two m0_nextTwo m0_three m0_nextThree m0_shut m0_worth m0_digit m0_codes m0_most m0_bestTry m0_dayCourt m0_dayHour m0_dayNo m0_x m0_gates cA_m0_gates f_m0_gates) sz)) 0 0 (va_A (zV78 m0 m0_thrown m0_width m0_many m0_cells m0_moved m0_tape m0_taped m0_at m0_token m0_place m0_value m0_word m0_bad m0_badPlace m0_fault m0_faultPlace m0_lines m0_hours m0_courts m0_in m0_gates m0_gate m0_people m0_at0 m0_stray m0_set m0_once m0_truth m0_known m0_isKept m0_strays m0_hostPerson m0_hostCourt m0_outside m0_inside m0_can m0_fewest m0_waysTo m0_then m0_two m0_nextTwo m0_three m0_nextThree m0_shut m0_worth m0_digit m0_codes m0_most m0_bestTry m0_dayCourt m0_dayHour m0_dayNo m0_x m0_gates cA_m0_gates f_m0_gates) sz) := by
  refine z_enter (by decide) (by exact (Nat.le_of_ble_eq_true rfl)) ?_
  intro p e s m args below meth c ls A R Qc hargs hsz hQe hAe hRe hx hb hml hr hts hown hlocks hin hl hP hK hD hN hXs hA hS
  rw [hAe] at hQe
  have hown : s.vm.findClass RX10 = some m.cls := hown
  have hl : lv_has ls 2 [(0, .ref m0), (1, .int p1)] := hl
  obtain ⟨RR, hRR⟩ : ∃ z : Int32, z = (F_X10_isGate p1 f_m0_gates) := ⟨_, rfl⟩
  have hF : RR = (F_X10_isGate p1 f_m0_gates) := hRR
  refine lv_iload_n hx hb dX10_isGate_0 rfl (lv_at hl 1 rfl) ?_
  refine lv_i2l (v := _) hx hb dX10_isGate_1 rfl ?_
  refine lv_topl (fun x_1 ex_1 => ?_)
  replace hF := hF.trans (zL_eq ex_1)
  have b_x_1 : x_1.toInt = p1.toInt := by rw [ex_1]; exact z_l64 _
  refine lv_lconst (v := 0) hx hb dX10_isGate_2 (by decide) ?_
  refine lv_aload_n hx hb dX10_isGate_3 rfl (lv_at hl 0 rfl) ?_
  refine va_get (D := (dC, dI)) (ci := 10) (v := .ref m0_gates) (C := RX10) (T := TX10) (N := 53) hx hb hts zl_X10 hown hK hP 0 rfl rfl 20 (by decide) (hts _ zw_t6_120) (fun _ h9 => h9) rfl dX10_isGate_4 ?_
  refine lv_iconst (v := 0) hx hb dX10_isGate_7 (by decide) ?_
  refine va_iald hx hb hK hP 1 0 rfl rfl (zi_in (show Int32.toInt 0 = 0 from by decide) (by decide)) dX10_isGate_8 ?_
  refine lv_topi (fun x_2 ex_2 => ?_)
  replace hF := hF.trans (zL_eq ex_2)
  have b_x_2 : 0 ≤ x_2.toInt ∧ x_2.toInt ≤ 16 := by rw [ex_2]; exact b_f_m0_gates _
  have t_x_2 : x_2.toInt = (f_m0_gates (Int32.toNatClampNeg 0)).toInt := by rw [ex_2]
  refine lv_iconst (v := 1) hx hb dX10_isGate_9 (by decide) ?_
  refine lv_isub hx hb dX10_isGate_10 ?_
  refine lv_topi (fun x_3 ex_3 => ?_)
  replace hF := hF.trans (zL_eq ex_3)
  have b_x_3 : x_3.toInt = x_2.toInt - 1 := by rw [ex_3]; exact zi_sub rfl (show Int32.toInt 1 = 1 from by decide) (z_rsc b_x_2 (by decide))
  refine lv_i2l (v := _) hx hb dX10_isGate_11 rfl ?_
  refine lv_topl (fun x_4 ex_4 => ?_)
  replace hF := hF.trans (zL_eq ex_4)
  have b_x_4 : x_4.toInt = x_3.toInt := by rw [ex_4]; exact z_l64 _
  obtain ⟨hPc, hDc, hFc⟩ := z_cut (wc := []) hP hD hS hA [] rfl (by decide +kernel)
  have hKc := hK.sub (tys' := []) [] rfl
  refine va_calli (va_runS (As := [.long x_1, .long 0, .long x_4]) (rest := []) ⟨hx, hb, hml, hown, hts⟩ (kf_X10_in l sa dC dI x_1 (0) x_4 s.heap.size) (va_cwS 3 hts (z_gS zw_t7_29 zw_t7_30 zw_t1_11 zw_t7_31) rfl rfl rfl (by decide +kernel) (by rw [← hRe]; exact ⟨(Nat.le_of_ble_eq_true rfl), (Nat.le_of_ble_eq_true rfl)⟩)) (z_preS hPc hKc hDc hN hXs hS hFc) rfl rfl hl.1 rfl (lv_room (Nat.le_of_ble_eq_true rfl)) dX10_isGate_12 (by rw [← hRe]; exact ⟨(Nat.le_of_ble_eq_true rfl), (Nat.le_of_ble_eq_true rfl)⟩)) hS (fun q _ h => hFc q h) hFc (fun r_5 u t H1 locs ht hvm hw hB hz1 hk1 hS => ?_)
  obtain ⟨hP, hD, hK⟩ := z_after3 (wn := (zV78 m0 m0_thrown m0_width m0_many m0_cells m0_moved m0_tape m0_taped m0_at m0_token m0_place m0_value m0_word m0_bad m0_badPlace m0_fault m0_faultPlace m0_lines m0_hours m0_courts m0_in m0_gates m0_gate m0_people m0_at0 m0_stray m0_set m0_once m0_truth m0_known m0_isKept m0_strays m0_hostPerson m0_hostCourt m0_outside m0_inside m0_can m0_fewest m0_waysTo m0_then m0_two m0_nextTwo m0_three m0_nextThree m0_shut m0_worth m0_digit m0_codes m0_most m0_bestTry m0_dayCourt m0_dayHour m0_dayNo m0_x m0_gates cA_m0_gates f_m0_gates)) hB ht hvm hP hD hK [] [0, 1] rfl 2 rfl (by decide +kernel) rfl (by decide +kernel) hk1 hFc
  generalize H1 = H at hP hS ⊢
  have hK : va_K (dC, dI) vwCl [(cA_m0_gates, .int)] s := hK
  have b_r_5 : 0 ≤ r_5.toInt ∧ r_5.toInt ≤ 1 := hw.1
  have s_r_5 := hw.2.1
  have sf_r_5 := hw.2.2
  have zal_0 : Int64.toInt 0 = 0 := by decide
  replace hF := hF.trans (zL_eq sf_r_5)
  have hF : RR = r_5 := hF
  exact W.zret (v := r_5) hx hb hr (zi_bool (by first | with_reducible assumption | omega)) (fun t ht hW => by rw [← hQe]; exact ⟨⟨r_5, (), rfl, ⟨by omega, ⟨by omega, (by rw [← hRR, hF])⟩⟩, z_ret hP hK hD ht hW [0, 1] [] rfl (by decide) rfl⟩, hS.F ht⟩) hS.2.2 dX10_isGate_15
set_option maxHeartbeats 4000000 in
set_option maxRecDepth 100000 in
theorem kf_X10_isPeople (l : Launch) (sa : Nat → Nat) (dC : Nat → ClassId) (dI : Nat → Nat → Nat) (m0 : Nat) (p1 : Int32) (m0_thrown : Int32) (m0_width : Nat) (m0_many : Nat) (m0_cells : Nat) (m0_moved : Nat) (m0_tape : Nat) (m0_taped : Int32) (m0_at : Int32) (m0_token : Int32) (m0_place : Int32) (m0_value : Int32) (m0_word : Int64) (m0_bad : Int32) (m0_badPlace : Int32) (m0_fault : Int32) (m0_faultPlace : Int32) (m0_lines : Nat) (m0_hours : Nat) (m0_courts : Nat) (m0_in : Nat) (m0_gates : Nat) (m0_gate : Nat) (m0_people : Nat) (m0_at0 : Nat) (m0_stray : Nat) (m0_set : Nat) (m0_once : Nat) (m0_truth : Nat) (m0_known : Nat) (m0_isKept : Nat) (m0_strays : Int32) (m0_hostPerson : Int32) (m0_hostCourt : Int32) (m0_outside : Int32) (m0_inside : Nat) (m0_can : Nat) (m0_fewest : Nat) (m0_waysTo : Nat) (m0_then : Nat) (m0_two : Nat) (m0_nextTwo : Nat) (m0_three : Nat) (m0_nextThree : Nat) (m0_shut : Int32) (m0_worth : Nat) (m0_digit : Nat) (m0_codes : Int32) (m0_most : Int64) (m0_bestTry : Int32) (m0_dayCourt : Int32) (m0_dayHour : Int32) (m0_dayNo : Int32) (m0_x : Int64) (cA_m0_people : ClassId) (f_m0_people : Nat → Int32) (b_m0_taped : 0 ≤ m0_taped.toInt ∧ m0_taped.toInt ≤ 1600) (b_m0_at : 0 ≤ m0_at.toInt ∧ m0_at.toInt ≤ 1600) (b_m0_token : 0 ≤ m0_token.toInt ∧ m0_token.toInt ≤ 4) (b_m0_value : 0 ≤ m0_value.toInt ∧ m0_value.toInt ≤ 1000009) (b_m0_bad : 0 ≤ m0_bad.toInt ∧ m0_bad.toInt ≤ 3) (b_m0_strays : 0 ≤ m0_strays.toInt ∧ m0_strays.toInt ≤ 5) (b_m0_hostCourt : 0 ≤ m0_hostCourt.toInt ∧ m0_hostCourt.toInt ≤ 9) (b_m0_dayCourt : 0 ≤ m0_dayCourt.toInt ∧ m0_dayCourt.toInt ≤ 9) (b_m0_dayHour : 0 ≤ m0_dayHour.toInt ∧ m0_dayHour.toInt ≤ 48) (b_f_m0_people : ∀ j : Nat, 0 ≤ (f_m0_people j).toInt ∧ (f_m0_people j).toInt ≤ 10) (sz : Nat) : Met l yX10_isPeople (.code yX10_isPeople cX10_isPeople 2 (some .boolean) :: zT) ({ frames := 1, cells := 0, slots := 0, locals := 25 }) (va_Pc [.ref m0, .int p1] (zB sa dC dI (zV78 m0 m0_thrown m0_width m0_many m0_cells m0_moved m0_tape m0_taped m0_at m0_token m0_place m0_value m0_word m0_bad m0_badPlace m0_fault m0_faultPlace m0_lines m0_hours m0_courts m0_in m0_gates m0_gate m0_people m0_at0 m0_stray m0_set m0_once m0_truth m0_known m0_isKept m0_strays m0_hostPerson m0_hostCourt m0_outside m0_inside m0_can m0_fewest m0_waysTo m0_then m0_two m0_nextTwo m0_three m0_nextThree m0_shut m0_worth m0_digit m0_codes m0_most m0_bestTry m0_dayCourt m0_dayHour m0_dayNo m0_x m0_people cA_m0_people f_m0_people) [(cA_m0_people, .int)] sz)) (va_Qi (fun (r : Int32) (_ : Unit) => (0 ≤ r.toInt ∧ r.toInt ≤ 1) ∧ (r.toInt = 0 ∨ (0 ≤ p1.toInt ∧ p1.toInt ≤ 1023)) ∧ r = (F_X10_isPeople p1 f_m0_people)) (fun _ t => zW dC dI (zV78 m0 m0_thrown m0_width m0_many m0_cells m0_moved m0_tape m0_taped m0_at m0_token m0_place m0_value m0_word m0_bad m0_badPlace m0_fault m0_faultPlace m0_lines m0_hours m0_courts m0_in m0_gates m0_gate m0_people m0_at0 m0_stray m0_set m0_once m0_truth m0_known m0_isKept m0_strays m0_hostPerson m0_hostCourt m0_outside m0_inside m0_can m0_fewest m0_waysTo m0_then m0_two m0_nextTwo m0_three m0_nextThree m0_shut m0_worth m0_digit m0_codes m0_most m0_bestTry m0_dayCourt m0_dayHour m0_dayNo m0_x m0_people cA_m0_people f_m0_people) [] (va_A (zV78 m0 m0_thrown m0_width m0_many m0_cells m0_moved m0_tape m0_taped m0_at m0_token m0_place m0_value m0_word m0_bad m0_badPlace m0_fault m0_faultPlace m0_lines m0_hours m0_courts m0_in m0_gates m0_gate m0_people m0_at0 m0_stray m0_set m0_once m0_truth m0_known m0_isKept m0_strays m0_hostPerson m0_hostCourt m0_outside m0_inside m0_can m0_fewest m0_waysTo m0_then m0_two m0_nextTwo m0_three m0_nextThree m0_shut m0_worth m0_digit m0_codes m0_most m0_bestTry m0_dayCourt m0_dayHour m0_dayNo m0_x m0_people cA_m0_people f_m0_people) sz) t) (va_A (zV78 m0 m0_thrown m0_width m0_many m0_cells m0_moved m0_tape m0_taped m0_at m0_token m0_place m0_value m0_word m0_bad m0_badPlace m0_fault m0_faultPlace m0_lines m0_hours m0_courts m0_in m0_gates m0_gate m0_people m0_at0 m0_stray m0_set m0_once m0_truth m0_known m0_isKept m0_strays m0_hostPerson m0_hostCourt m0_outside m0_inside m0_can m0_fewest m0_waysTo m0_then m0_two m0_nextTwo m0_three m0_nextThree m0_shut m0_worth m0_digit m0_codes m0_most m0_bestTry m0_dayCourt m0_dayHour m0_dayNo m0_x m0_people cA_m0_people f_m0_people) sz)) 0 0 (va_A (zV78 m0 m0_thrown m0_width m0_many m0_cells m0_moved m0_tape m0_taped m0_at m0_token m0_place m0_value m0_word m0_bad m0_badPlace m0_fault m0_faultPlace m0_lines m0_hours m0_courts m0_in m0_gates m0_gate m0_people m0_at0 m0_stray m0_set m0_once m0_truth m0_known m0_isKept m0_strays m0_hostPerson m0_hostCourt m0_outside m0_inside m0_can m0_fewest m0_waysTo m0_then m0_two m0_nextTwo m0_three m0_nextThree m0_shut m0_worth m0_digit m0_codes m0_most m0_bestTry m0_dayCourt m0_dayHour m0_dayNo m0_x m0_people cA_m0_people f_m0_people) sz) := by
  refine z_enter (by decide) (by exact (Nat.le_of_ble_eq_true rfl)) ?_
  intro p e s m args below meth c ls A R Qc hargs hsz hQe hAe hRe hx hb hml hr hts hown hlocks hin hl hP hK hD hN hXs hA hS
  rw [hAe] at hQe
  have hown : s.vm.findClass RX10 = some m.cls := hown
  have hl : lv_has ls 2 [(0, .ref m0), (1, .int p1)] := hl
  obtain ⟨RR, hRR⟩ : ∃ z : Int32, z = (F_X10_isPeople p1 f_m0_people) := ⟨_, rfl⟩
  have hF : RR = (F_X10_isPeople p1 f_m0_people) := hRR
  refine lv_iload_n hx hb dX10_isPeople_0 rfl (lv_at hl 1 rfl) ?_
  refine lv_i2l (v := _) hx hb dX10_isPeople_1 rfl ?_
  refine lv_topl (fun x_1 ex_1 => ?_)
  replace hF := hF.trans (zL_eq ex_1)
  have b_x_1 : x_1.toInt = p1.toInt := by rw [ex_1]; exact z_l64 _
  refine lv_lconst (v := 0) hx hb dX10_isPeople_2 (by decide) ?_
  refine lv_iconst (v := 1) hx hb dX10_isPeople_3 (by decide) ?_
  refine lv_aload_n hx hb dX10_isPeople_4 rfl (lv_at hl 0 rfl) ?_
  refine va_get (D := (dC, dI)) (ci := 10) (v := .ref m0_people) (C := RX10) (T := TX10) (N := 53) hx hb hts zl_X10 hown hK hP 0 rfl rfl 22 (by decide) (hts _ zw_t6_122) (fun _ h9 => h9) rfl dX10_isPeople_5 ?_
  refine lv_iconst (v := 0) hx hb dX10_isPeople_8 (by decide) ?_
  refine va_iald hx hb hK hP 1 0 rfl rfl (zi_in (show Int32.toInt 0 = 0 from by decide) (by decide)) dX10_isPeople_9 ?_
  refine lv_topi (fun x_2 ex_2 => ?_)
  replace hF := hF.trans (zL_eq ex_2)
  have b_x_2 : 0 ≤ x_2.toInt ∧ x_2.toInt ≤ 10 := by rw [ex_2]; exact b_f_m0_people _
  have t_x_2 : x_2.toInt = (f_m0_people (Int32.toNatClampNeg 0)).toInt := by rw [ex_2]
  refine lv_ishl hx hb dX10_isPeople_10 ?_
  refine lv_topi (fun x_3 ex_3 => ?_)
  replace hF := hF.trans (zL_eq ex_3)
  have b_x_3 : 1 ≤ x_3.toInt ∧ x_3.toInt ≤ 1024 := by rw [ex_3]; exact zi_shl1 rfl (by first | with_reducible assumption | omega)
  refine lv_iconst (v := 1) hx hb dX10_isPeople_11 (by decide) ?_
  refine lv_isub hx hb dX10_isPeople_12 ?_
  refine lv_topi (fun x_4 ex_4 => ?_)
  replace hF := hF.trans (zL_eq ex_4)
  have b_x_4 : x_4.toInt = x_3.toInt - 1 := by rw [ex_4]; exact zi_sub rfl (show Int32.toInt 1 = 1 from by decide) (z_rsc b_x_3 (by decide))
  refine lv_i2l (v := _) hx hb dX10_isPeople_13 rfl ?_
  refine lv_topl (fun x_5 ex_5 => ?_)
  replace hF := hF.trans (zL_eq ex_5)
  have b_x_5 : x_5.toInt = x_4.toInt := by rw [ex_5]; exact z_l64 _
  obtain ⟨hPc, hDc, hFc⟩ := z_cut (wc := []) hP hD hS hA [] rfl (by decide +kernel)
  have hKc := hK.sub (tys' := []) [] rfl
  refine va_calli (va_runS (As := [.long x_1, .long 0, .long x_5]) (rest := []) ⟨hx, hb, hml, hown, hts⟩ (kf_X10_in l sa dC dI x_1 (0) x_5 s.heap.size) (va_cwS 3 hts (z_gS zw_t7_29 zw_t7_30 zw_t1_11 zw_t7_31) rfl rfl rfl (by decide +kernel) (by rw [← hRe]; exact ⟨(Nat.le_of_ble_eq_true rfl), (Nat.le_of_ble_eq_true rfl)⟩)) (z_preS hPc hKc hDc hN hXs hS hFc) rfl rfl hl.1 rfl (lv_room (Nat.le_of_ble_eq_true rfl)) dX10_isPeople_14 (by rw [← hRe]; exact ⟨(Nat.le_of_ble_eq_true rfl), (Nat.le_of_ble_eq_true rfl)⟩)) hS (fun q _ h => hFc q h) hFc (fun r_6 u t H1 locs ht hvm hw hB hz1 hk1 hS => ?_)
  obtain ⟨hP, hD, hK⟩ := z_after3 (wn := (zV78 m0 m0_thrown m0_width m0_many m0_cells m0_moved m0_tape m0_taped m0_at m0_token m0_place m0_value m0_word m0_bad m0_badPlace m0_fault m0_faultPlace m0_lines m0_hours m0_courts m0_in m0_gates m0_gate m0_people m0_at0 m0_stray m0_set m0_once m0_truth m0_known m0_isKept m0_strays m0_hostPerson m0_hostCourt m0_outside m0_inside m0_can m0_fewest m0_waysTo m0_then m0_two m0_nextTwo m0_three m0_nextThree m0_shut m0_worth m0_digit m0_codes m0_most m0_bestTry m0_dayCourt m0_dayHour m0_dayNo m0_x m0_people cA_m0_people f_m0_people)) hB ht hvm hP hD hK [] [0, 1] rfl 2 rfl (by decide +kernel) rfl (by decide +kernel) hk1 hFc
  generalize H1 = H at hP hS ⊢
  have hK : va_K (dC, dI) vwCl [(cA_m0_people, .int)] s := hK
  have b_r_6 : 0 ≤ r_6.toInt ∧ r_6.toInt ≤ 1 := hw.1
  have s_r_6 := hw.2.1
  have sf_r_6 := hw.2.2
  have zal_0 : Int64.toInt 0 = 0 := by decide
  replace hF := hF.trans (zL_eq sf_r_6)
  have hF : RR = r_6 := hF
  exact W.zret (v := r_6) hx hb hr (zi_bool (by first | with_reducible assumption | omega)) (fun t ht hW => by rw [← hQe]; exact ⟨⟨r_6, (), rfl, ⟨by omega, ⟨by omega, (by rw [← hRR, hF])⟩⟩, z_ret hP hK hD ht hW [0, 1] [] rfl (by decide) rfl⟩, hS.F ht⟩) hS.2.2 dX10_isPeople_17
set_option maxHeartbeats 4000000 in
set_option maxRecDepth 100000 in
theorem kf_X10_may (l : Launch) (sa : Nat → Nat) (dC : Nat → ClassId) (dI : Nat → Nat → Nat) (m0 : Nat) (m0_thrown : Int32) (m0_width : Nat) (m0_many : Nat) (m0_cells : Nat) (m0_moved : Nat) (m0_tape : Nat) (m0_taped : Int32) (m0_at : Int32) (m0_token : Int32) (m0_place : Int32) (m0_value : Int32) (m0_word : Int64) (m0_bad : Int32) (m0_badPlace : Int32) (m0_fault : Int32) (m0_faultPlace : Int32) (m0_lines : Nat) (m0_hours : Nat) (m0_courts : Nat) (m0_in : Nat) (m0_gates : Nat) (m0_gate : Nat) (m0_people : Nat) (m0_at0 : Nat) (m0_stray : Nat) (m0_set : Nat) (m0_once : Nat) (m0_truth : Nat) (m0_known : Nat) (m0_isKept : Nat) (m0_strays : Int32) (m0_hostPerson : Int32) (m0_hostCourt : Int32) (m0_outside : Int32) (m0_inside : Nat) (m0_can : Nat) (m0_fewest : Nat) (m0_waysTo : Nat) (m0_then : Nat) (m0_two : Nat) (m0_nextTwo : Nat) (m0_three : Nat) (m0_nextThree : Nat) (m0_shut : Int32) (m0_worth : Nat) (m0_digit : Nat) (m0_codes : Int32) (m0_most : Int64) (m0_bestTry : Int32) (m0_dayCourt : Int32) (m0_dayHour : Int32) (m0_dayNo : Int32) (m0_x : Int64) (cA_m0_people : ClassId) (f_m0_people : Nat → Int32) (cA_m0_stray : ClassId) (f_m0_stray : Nat → Int32) (b_m0_taped : 0 ≤ m0_taped.toInt ∧ m0_taped.toInt ≤ 1600) (b_m0_at : 0 ≤ m0_at.toInt ∧ m0_at.toInt ≤ 1600) (b_m0_token : 0 ≤ m0_token.toInt ∧ m0_token.toInt ≤ 4) (b_m0_value : 0 ≤ m0_value.toInt ∧ m0_value.toInt ≤ 1000009) (b_m0_bad : 0 ≤ m0_bad.toInt ∧ m0_bad.toInt ≤ 3) (b_m0_strays : 0 ≤ m0_strays.toInt ∧ m0_strays.toInt ≤ 5) (b_m0_hostCourt : 0 ≤ m0_hostCourt.toInt ∧ m0_hostCourt.toInt ≤ 9) (b_m0_dayCourt : 0 ≤ m0_dayCourt.toInt ∧ m0_dayCourt.toInt ≤ 9) (b_m0_dayHour : 0 ≤ m0_dayHour.toInt ∧ m0_dayHour.toInt ≤ 48) (b_f_m0_people : ∀ j : Nat, 0 ≤ (f_m0_people j).toInt ∧ (f_m0_people j).toInt ≤ 10) (b_f_m0_stray : ∀ j : Nat, 0 ≤ (f_m0_stray j).toInt ∧ (f_m0_stray j).toInt ≤ 99 ∧ (j % 2 = 1 → (f_m0_stray j).toInt ≤ 9)) (sz : Nat) : Met l yX10_may (.code yX10_may cX10_may 3 (some .int) :: zT) ({ frames := 0, cells := 0, slots := 0, locals := 0 }) (va_Pc [.ref m0] (zB sa dC dI (zV79 m0 m0_thrown m0_width m0_many m0_cells m0_moved m0_tape m0_taped m0_at m0_token m0_place m0_value m0_word m0_bad m0_badPlace m0_fault m0_faultPlace m0_lines m0_hours m0_courts m0_in m0_gates m0_gate m0_people m0_at0 m0_stray m0_set m0_once m0_truth m0_known m0_isKept m0_strays m0_hostPerson m0_hostCourt m0_outside m0_inside m0_can m0_fewest m0_waysTo m0_then m0_two m0_nextTwo m0_three m0_nextThree m0_shut m0_worth m0_digit m0_codes m0_most m0_bestTry m0_dayCourt m0_dayHour m0_dayNo m0_x m0_people cA_m0_people f_m0_people m0_stray cA_m0_stray f_m0_stray) [(cA_m0_people, .int), (cA_m0_stray, .int)] sz)) (va_Qi (fun (r : Int32) (_ : Unit) => (0 ≤ r.toInt ∧ r.toInt ≤ 1023) ∧ r = (F_X10_may f_m0_people f_m0_stray)) (fun _ t => zW dC dI (zV79 m0 m0_thrown m0_width m0_many m0_cells m0_moved m0_tape m0_taped m0_at m0_token m0_place m0_value m0_word m0_bad m0_badPlace m0_fault m0_faultPlace m0_lines m0_hours m0_courts m0_in m0_gates m0_gate m0_people m0_at0 m0_stray m0_set m0_once m0_truth m0_known m0_isKept m0_strays m0_hostPerson m0_hostCourt m0_outside m0_inside m0_can m0_fewest m0_waysTo m0_then m0_two m0_nextTwo m0_three m0_nextThree m0_shut m0_worth m0_digit m0_codes m0_most m0_bestTry m0_dayCourt m0_dayHour m0_dayNo m0_x m0_people cA_m0_people f_m0_people m0_stray cA_m0_stray f_m0_stray) [] (va_A (zV79 m0 m0_thrown m0_width m0_many m0_cells m0_moved m0_tape m0_taped m0_at m0_token m0_place m0_value m0_word m0_bad m0_badPlace m0_fault m0_faultPlace m0_lines m0_hours m0_courts m0_in m0_gates m0_gate m0_people m0_at0 m0_stray m0_set m0_once m0_truth m0_known m0_isKept m0_strays m0_hostPerson m0_hostCourt m0_outside m0_inside m0_can m0_fewest m0_waysTo m0_then m0_two m0_nextTwo m0_three m0_nextThree m0_shut m0_worth m0_digit m0_codes m0_most m0_bestTry m0_dayCourt m0_dayHour m0_dayNo m0_x m0_people cA_m0_people f_m0_people m0_stray cA_m0_stray f_m0_stray) sz) t) (va_A (zV79 m0 m0_thrown m0_width m0_many m0_cells m0_moved m0_tape m0_taped m0_at m0_token m0_place m0_value m0_word m0_bad m0_badPlace m0_fault m0_faultPlace m0_lines m0_hours m0_courts m0_in m0_gates m0_gate m0_people m0_at0 m0_stray m0_set m0_once m0_truth m0_known m0_isKept m0_strays m0_hostPerson m0_hostCourt m0_outside m0_inside m0_can m0_fewest m0_waysTo m0_then m0_two m0_nextTwo m0_three m0_nextThree m0_shut m0_worth m0_digit m0_codes m0_most m0_bestTry m0_dayCourt m0_dayHour m0_dayNo m0_x m0_people cA_m0_people f_m0_people m0_stray cA_m0_stray f_m0_stray) sz)) 0 0 (va_A (zV79 m0 m0_thrown m0_width m0_many m0_cells m0_moved m0_tape m0_taped m0_at m0_token m0_place m0_value m0_word m0_bad m0_badPlace m0_fault m0_faultPlace m0_lines m0_hours m0_courts m0_in m0_gates m0_gate m0_people m0_at0 m0_stray m0_set m0_once m0_truth m0_known m0_isKept m0_strays m0_hostPerson m0_hostCourt m0_outside m0_inside m0_can m0_fewest m0_waysTo m0_then m0_two m0_nextTwo m0_three m0_nextThree m0_shut m0_worth m0_digit m0_codes m0_most m0_bestTry m0_dayCourt m0_dayHour m0_dayNo m0_x m0_people cA_m0_people f_m0_people m0_stray cA_m0_stray f_m0_stray) sz) := by
  refine z_enter (by decide) (by exact (Nat.le_of_ble_eq_true rfl)) ?_
  intro p e s m args below meth c ls A R Qc hargs hsz hQe hAe hRe hx hb hml hr hts hown hlocks hin hl hP hK hD hN hXs hA hS
  rw [hAe] at hQe
  have hown : s.vm.findClass RX10 = some m.cls := hown
  have hl : lv_has ls 3 [(0, .ref m0)] := hl
  obtain ⟨RR, hRR⟩ : ∃ z : Int32, z = (F_X10_may f_m0_people f_m0_stray) := ⟨_, rfl⟩
  have hF : RR = (F_X10_may f_m0_people f_m0_stray) := hRR
  refine lv_iconst (v := 0) hx hb dX10_may_0 (by decide) ?_
  refine lv_istore_n (lv' := [(1, .int 0), (0, .ref m0)]) hx hb dX10_may_1 rfl hl (by decide) rfl (fun ls hl => ?_)
  refine lv_iconst (v := 0) hx hb dX10_may_2 (by decide) ?_
  refine lv_istore_n (lv' := [(2, .int 0), (1, .int 0), (0, .ref m0)]) hx hb dX10_may_3 rfl hl (by decide) rfl (fun ls hl => ?_)
  have loop_1 : ∀ (t_1 : Nat) (v1_2 : Int32) (v2_1 : Int32) (b_v1_2 : 0 ≤ v1_2.toInt ∧ v1_2.toInt ≤ 1023) (b_v2_1 : 0 ≤ v2_1.toInt ∧ v2_1.toInt ≤ 10) (H : Heap) (locs : List Loc) (ls : Array Slot), 10 - v2_1.toInt < (t_1 : Int) → RR = L_X10_may_1 f_m0_people f_m0_stray K_X10_may_1_0 t_1 v1_2 v2_1 → va_P (dC, dI) vwCl (zV79 m0 m0_thrown m0_width m0_many m0_cells m0_moved m0_tape m0_taped m0_at m0_token m0_place m0_value m0_word m0_bad m0_badPlace m0_fault m0_faultPlace m0_lines m0_hours m0_courts m0_in m0_gates m0_gate m0_people m0_at0 m0_stray m0_set m0_once m0_truth m0_known m0_isKept m0_strays m0_hostPerson m0_hostCourt m0_outside m0_inside m0_can m0_fewest m0_waysTo m0_then m0_two m0_nextTwo m0_three m0_nextThree m0_shut m0_worth m0_digit m0_codes m0_most m0_bestTry m0_dayCourt m0_dayHour m0_dayNo m0_x m0_people cA_m0_people f_m0_people m0_stray cA_m0_stray f_m0_stray) H → va_D A (zV79 m0 m0_thrown m0_width m0_many m0_cells m0_moved m0_tape m0_taped m0_at m0_token m0_place m0_value m0_word m0_bad m0_badPlace m0_fault m0_faultPlace m0_lines m0_hours m0_courts m0_in m0_gates m0_gate m0_people m0_at0 m0_stray m0_set m0_once m0_truth m0_known m0_isKept m0_strays m0_hostPerson m0_hostCourt m0_outside m0_inside m0_can m0_fewest m0_waysTo m0_then m0_two m0_nextTwo m0_three m0_nextThree m0_shut m0_worth m0_digit m0_codes m0_most m0_bestTry m0_dayCourt m0_dayHour m0_dayNo m0_x m0_people cA_m0_people f_m0_people m0_stray cA_m0_stray f_m0_stray) → va_S A s.heap H locs → lv_has ls 3 [(0, .ref m0), (1, .int v1_2), (2, .int v2_1)] → W p l e R s m args below meth c H locs 0 0 (MQ below Qc args s 0 0 A) (F0 m 4 ls []) := by
    intro t_1
    induction t_1 with
    | zero => intro v1_2 v2_1 b_v1_2 b_v2_1 H locs ls hmu _ _ _ _ _; exact absurd hmu (by first | with_reducible assumption | omega)
    | succ t_1 ih_1 =>
      intro v1_2 v2_1 b_v1_2 b_v2_1 H locs ls hmu hF hP hD hS hl
      replace hF := hF.trans L_X10_may_1_s
      refine lv_iload_n hx hb dX10_may_4 rfl (lv_at hl 2 rfl) ?_
      refine lv_aload_n hx hb dX10_may_5 rfl (lv_at hl 0 rfl) ?_
      refine va_get (D := (dC, dI)) (ci := 10) (v := .ref m0_people) (C := RX10) (T := TX10) (N := 53) hx hb hts zl_X10 hown hK hP 0 rfl rfl 22 (by decide) (hts _ zw_t6_122) (fun _ h9 => h9) rfl dX10_may_6 ?_
      refine lv_iconst (v := 0) hx hb dX10_may_9 (by decide) ?_
      refine va_iald hx hb hK hP 1 0 rfl rfl (zi_in (show Int32.toInt 0 = 0 from by decide) (by decide)) dX10_may_10 ?_
      refine lv_topi (fun x_3 ex_3 => ?_)
      replace hF := hF.trans (zL_eq ex_3)
      have b_x_3 : 0 ≤ x_3.toInt ∧ x_3.toInt ≤ 10 := by rw [ex_3]; exact b_f_m0_people _
      have t_x_3 : x_3.toInt = (f_m0_people (Int32.toNatClampNeg 0)).toInt := by rw [ex_3]
      refine lv_icmp_ge (tgt := 41) hx hb dX10_may_11 (by decide) (fun c_4 => ?_) (fun c_4 => ?_)
      · have ic_4 := zz_ge rfl rfl c_4
        replace hF := hF.trans (if_pos c_4)
        refine lv_iload_n hx hb dX10_may_41 rfl (lv_at hl 1 rfl) ?_
        have hF : RR = v1_2 := hF
        exact W.iret (v := v1_2) hx hb hr (fun t ht hW => by rw [← hQe]; exact ⟨⟨v1_2, (), rfl, ⟨by omega, (by rw [← hRR, hF])⟩, z_ret hP hK hD ht hW [0, 1, 2] [] rfl (by decide) rfl⟩, hS.F ht⟩) hS.2.2 dX10_may_42
      · have ic_4 := zz_nge rfl rfl c_4
        replace hF := hF.trans (if_neg c_4)
        refine lv_iload_n hx hb dX10_may_14 rfl (lv_at hl 1 rfl) ?_
        refine lv_aload_n hx hb dX10_may_15 rfl (lv_at hl 0 rfl) ?_
        refine va_get (D := (dC, dI)) (ci := 10) (v := .ref m0_stray) (C := RX10) (T := TX10) (N := 53) hx hb hts zl_X10 hown hK hP 0 rfl rfl 24 (by decide) (hts _ zw_t6_124) (fun _ h9 => h9) rfl dX10_may_16 ?_
        refine lv_iconst (v := 2) hx hb dX10_may_19 (by decide) ?_
        refine lv_iload_n hx hb dX10_may_20 rfl (lv_at hl 2 rfl) ?_
        refine lv_imul hx hb dX10_may_21 ?_
        refine lv_topi (fun x_5 ex_5 => ?_)
        replace hF := hF.trans (zL_eq ex_5)
        have b_x_5 : x_5.toInt = 2 * v2_1.toInt := by rw [ex_5]; exact zi_mul (show Int32.toInt 2 = 2 from by decide) rfl (z_rmc b_v2_1 (by decide))
        refine va_iald hx hb hK hP 2 1 rfl rfl (zi_in rfl (by first | exact z_rin (z_emc (c := 2) b_x_5 b_v2_1) (by decide) | omega)) dX10_may_22 ?_
        refine lv_topi (fun x_6 ex_6 => ?_)
        replace hF := hF.trans (zL_eq ex_6)
        have b_x_6 := b_f_m0_stray (Int32.toNatClampNeg x_5)
        rw [← ex_6] at b_x_6
        have kx_x_6 := zi_clamp (x := x_5) rfl (z_r0 (z_emc (c := 2) b_x_5 b_v2_1) (by decide))
        refine lv_if_le (tgt := 32) hx hb dX10_may_23 (by decide) (fun c_7 => ?_) (fun c_7 => ?_)
        · have ic_7 := zz_le rfl (show Int32.toInt 0 = 0 from by decide) c_7
          replace hF := hF.trans (if_pos c_7)
          refine lv_iconst (v := 0) hx hb dX10_may_32 (by decide) ?_
          refine lv_ior hx hb dX10_may_33 ?_
          refine lv_topi (fun x_8 ex_8 => ?_)
          replace hF := hF.trans (zL_eq ex_8)
          have b_x_8 : 0 ≤ x_8.toInt ∧ x_8.toInt ≤ 1023 := by rw [ex_8]; exact zi_or 10 rfl (show Int32.toInt 0 = 0 from by decide) (by first | with_reducible assumption | omega) (by first | with_reducible assumption | omega) (by decide)
          refine lv_istore_n (lv' := [(1, .int x_8), (0, .ref m0), (2, .int v2_1)]) hx hb dX10_may_34 rfl hl (by decide) rfl (fun ls hl => ?_)
          obtain ⟨x_9, ex_9⟩ : ∃ z : Int32, z = v2_1 + Int32.ofInt 1 := ⟨_, rfl⟩
          have b_x_9 : x_9.toInt = v2_1.toInt + 1 := by rw [ex_9]; exact zi_add rfl (show (Int32.ofInt 1).toInt = 1 from by decide) (z_rac b_v2_1 (by decide))
          refine lv_iinc (v := x_9) (lv' := [(2, .int x_9), (1, .int x_8), (0, .ref m0)]) hx hb dX10_may_35 hl (k := 2) rfl ex_9.symm (by decide) rfl (fun ls hl => ?_)
          replace hF := hF.trans (zL_eq ex_9)
          refine lv_goto (tgt := 4) hx hb dX10_may_38 (by decide) ?_
          exact ih_1 x_8 x_9 (by first | with_reducible assumption | omega) (by first | with_reducible assumption | omega) _ _ _ (by first | with_reducible assumption | omega) hF (hP.sub (ws' := (zV79 m0 m0_thrown m0_width m0_many m0_cells m0_moved m0_tape m0_taped m0_at m0_token m0_place m0_value m0_word m0_bad m0_badPlace m0_fault m0_faultPlace m0_lines m0_hours m0_courts m0_in m0_gates m0_gate m0_people m0_at0 m0_stray m0_set m0_once m0_truth m0_known m0_isKept m0_strays m0_hostPerson m0_hostCourt m0_outside m0_inside m0_can m0_fewest m0_waysTo m0_then m0_two m0_nextTwo m0_three m0_nextThree m0_shut m0_worth m0_digit m0_codes m0_most m0_bestTry m0_dayCourt m0_dayHour m0_dayNo m0_x m0_people cA_m0_people f_m0_people m0_stray cA_m0_stray f_m0_stray)) [0, 1, 2] rfl) (hD.sub (ws' := (zV79 m0 m0_thrown m0_width m0_many m0_cells m0_moved m0_tape m0_taped m0_at m0_token m0_place m0_value m0_word m0_bad m0_badPlace m0_fault m0_faultPlace m0_lines m0_hours m0_courts m0_in m0_gates m0_gate m0_people m0_at0 m0_stray m0_set m0_once m0_truth m0_known m0_isKept m0_strays m0_hostPerson m0_hostCourt m0_outside m0_inside m0_can m0_fewest m0_waysTo m0_then m0_two m0_nextTwo m0_three m0_nextThree m0_shut m0_worth m0_digit m0_codes m0_most m0_bestTry m0_dayCourt m0_dayHour m0_dayNo m0_x m0_people cA_m0_people f_m0_people m0_stray cA_m0_stray f_m0_stray)) [0, 1, 2] (by decide) rfl) hS (lv_sub hl [2, 1, 0] rfl)
        · have ic_7 := zz_nle rfl (show Int32.toInt 0 = 0 from by decide) c_7
          replace hF := hF.trans (if_neg c_7)
          refine lv_iconst (v := 1) hx hb dX10_may_26 (by decide) ?_
          refine lv_iload_n hx hb dX10_may_27 rfl (lv_at hl 2 rfl) ?_
          refine lv_ishl hx hb dX10_may_28 ?_
          refine lv_topi (fun x_10 ex_10 => ?_)
          replace hF := hF.trans (zL_eq ex_10)
          have b_x_10 : 1 ≤ x_10.toInt ∧ x_10.toInt ≤ 512 := by rw [ex_10]; exact zi_shl9 rfl (by first | with_reducible assumption | omega)
          refine lv_goto (tgt := 33) hx hb dX10_may_29 (by decide) ?_
          refine lv_ior hx hb dX10_may_33 ?_
          refine lv_topi (fun x_11 ex_11 => ?_)
          replace hF := hF.trans (zL_eq ex_11)
          have b_x_11 : 0 ≤ x_11.toInt ∧ x_11.toInt ≤ 1023 := by rw [ex_11]; exact zi_or 10 rfl rfl (by first | with_reducible assumption | omega) (by first | with_reducible assumption | omega) (by decide)
          refine lv_istore_n (lv' := [(1, .int x_11), (0, .ref m0), (2, .int v2_1)]) hx hb dX10_may_34 rfl hl (by decide) rfl (fun ls hl => ?_)
          obtain ⟨x_12, ex_12⟩ : ∃ z : Int32, z = v2_1 + Int32.ofInt 1 := ⟨_, rfl⟩
          have b_x_12 : x_12.toInt = v2_1.toInt + 1 := by rw [ex_12]; exact zi_add rfl (show (Int32.ofInt 1).toInt = 1 from by decide) (z_rac b_v2_1 (by decide))
          refine lv_iinc (v := x_12) (lv' := [(2, .int x_12), (1, .int x_11), (0, .ref m0)]) hx hb dX10_may_35 hl (k := 2) rfl ex_12.symm (by decide) rfl (fun ls hl => ?_)
          replace hF := hF.trans (zL_eq ex_12)
          refine lv_goto (tgt := 4) hx hb dX10_may_38 (by decide) ?_
          exact ih_1 x_11 x_12 (by first | with_reducible assumption | omega) (by first | with_reducible assumption | omega) _ _ _ (by first | with_reducible assumption | omega) hF (hP.sub (ws' := (zV79 m0 m0_thrown m0_width m0_many m0_cells m0_moved m0_tape m0_taped m0_at m0_token m0_place m0_value m0_word m0_bad m0_badPlace m0_fault m0_faultPlace m0_lines m0_hours m0_courts m0_in m0_gates m0_gate m0_people m0_at0 m0_stray m0_set m0_once m0_truth m0_known m0_isKept m0_strays m0_hostPerson m0_hostCourt m0_outside m0_inside m0_can m0_fewest m0_waysTo m0_then m0_two m0_nextTwo m0_three m0_nextThree m0_shut m0_worth m0_digit m0_codes m0_most m0_bestTry m0_dayCourt m0_dayHour m0_dayNo m0_x m0_people cA_m0_people f_m0_people m0_stray cA_m0_stray f_m0_stray)) [0, 1, 2] rfl) (hD.sub (ws' := (zV79 m0 m0_thrown m0_width m0_many m0_cells m0_moved m0_tape m0_taped m0_at m0_token m0_place m0_value m0_word m0_bad m0_badPlace m0_fault m0_faultPlace m0_lines m0_hours m0_courts m0_in m0_gates m0_gate m0_people m0_at0 m0_stray m0_set m0_once m0_truth m0_known m0_isKept m0_strays m0_hostPerson m0_hostCourt m0_outside m0_inside m0_can m0_fewest m0_waysTo m0_then m0_two m0_nextTwo m0_three m0_nextThree m0_shut m0_worth m0_digit m0_codes m0_most m0_bestTry m0_dayCourt m0_dayHour m0_dayNo m0_x m0_people cA_m0_people f_m0_people m0_stray cA_m0_stray f_m0_stray)) [0, 1, 2] (by decide) rfl) hS (lv_sub hl [2, 1, 0] rfl)
  exact loop_1 12 (0) (0) (by decide) (by decide) _ _ _ (by decide) hF hP hD hS (lv_sub hl [2, 1, 0] rfl)
set_option maxHeartbeats 4000000 in
set_option maxRecDepth 100000 in
theorem kf_X10_isStrayed (l : Launch) (sa : Nat → Nat) (dC : Nat → ClassId) (dI : Nat → Nat → Nat) (m0 : Nat) (p1 : Int32) (m0_thrown : Int32) (m0_width : Nat) (m0_many : Nat) (m0_cells : Nat) (m0_moved : Nat) (m0_tape : Nat) (m0_taped : Int32) (m0_at : Int32) (m0_token : Int32) (m0_place : Int32) (m0_value : Int32) (m0_word : Int64) (m0_bad : Int32) (m0_badPlace : Int32) (m0_fault : Int32) (m0_faultPlace : Int32) (m0_lines : Nat) (m0_hours : Nat) (m0_courts : Nat) (m0_in : Nat) (m0_gates : Nat) (m0_gate : Nat) (m0_people : Nat) (m0_at0 : Nat) (m0_stray : Nat) (m0_set : Nat) (m0_once : Nat) (m0_truth : Nat) (m0_known : Nat) (m0_isKept : Nat) (m0_strays : Int32) (m0_hostPerson : Int32) (m0_hostCourt : Int32) (m0_outside : Int32) (m0_inside : Nat) (m0_can : Nat) (m0_fewest : Nat) (m0_waysTo : Nat) (m0_then : Nat) (m0_two : Nat) (m0_nextTwo : Nat) (m0_three : Nat) (m0_nextThree : Nat) (m0_shut : Int32) (m0_worth : Nat) (m0_digit : Nat) (m0_codes : Int32) (m0_most : Int64) (m0_bestTry : Int32) (m0_dayCourt : Int32) (m0_dayHour : Int32) (m0_dayNo : Int32) (m0_x : Int64) (cA_m0_truth : ClassId) (f_m0_truth : Nat → Int32) (b_m0_taped : 0 ≤ m0_taped.toInt ∧ m0_taped.toInt ≤ 1600) (b_m0_at : 0 ≤ m0_at.toInt ∧ m0_at.toInt ≤ 1600) (b_m0_token : 0 ≤ m0_token.toInt ∧ m0_token.toInt ≤ 4) (b_m0_value : 0 ≤ m0_value.toInt ∧ m0_value.toInt ≤ 1000009) (b_m0_bad : 0 ≤ m0_bad.toInt ∧ m0_bad.toInt ≤ 3) (b_m0_strays : 0 ≤ m0_strays.toInt ∧ m0_strays.toInt ≤ 5) (b_m0_hostCourt : 0 ≤ m0_hostCourt.toInt ∧ m0_hostCourt.toInt ≤ 9) (b_m0_dayCourt : 0 ≤ m0_dayCourt.toInt ∧ m0_dayCourt.toInt ≤ 9) (b_m0_dayHour : 0 ≤ m0_dayHour.toInt ∧ m0_dayHour.toInt ≤ 48) (sz : Nat) : Met l yX10_isStrayed (.code yX10_isStrayed cX10_isStrayed 2 (some .boolean) :: zT) ({ frames := 0, cells := 0, slots := 0, locals := 0 }) (va_Pc [.ref m0, .int p1] (zB sa dC dI (zV80 m0 m0_thrown m0_width m0_many m0_cells m0_moved m0_tape m0_taped m0_at m0_token m0_place m0_value m0_word m0_bad m0_badPlace m0_fault m0_faultPlace m0_lines m0_hours m0_courts m0_in m0_gates m0_gate m0_people m0_at0 m0_stray m0_set m0_once m0_truth m0_known m0_isKept m0_strays m0_hostPerson m0_hostCourt m0_outside m0_inside m0_can m0_fewest m0_waysTo m0_then m0_two m0_nextTwo m0_three m0_nextThree m0_shut m0_worth m0_digit m0_codes m0_most m0_bestTry m0_dayCourt m0_dayHour m0_dayNo m0_x m0_truth cA_m0_truth f_m0_truth) [(cA_m0_truth, .int)] sz)) (va_Qi (fun (r : Int32) (_ : Unit) => (0 ≤ r.toInt ∧ r.toInt ≤ 1) ∧ r = (F_X10_isStrayed p1 f_m0_truth)) (fun _ t => zW dC dI (zV80 m0 m0_thrown m0_width m0_many m0_cells m0_moved m0_tape m0_taped m0_at m0_token m0_place m0_value m0_word m0_bad m0_badPlace m0_fault m0_faultPlace m0_lines m0_hours m0_courts m0_in m0_gates m0_gate m0_people m0_at0 m0_stray m0_set m0_once m0_truth m0_known m0_isKept m0_strays m0_hostPerson m0_hostCourt m0_outside m0_inside m0_can m0_fewest m0_waysTo m0_then m0_two m0_nextTwo m0_three m0_nextThree m0_shut m0_worth m0_digit m0_codes m0_most m0_bestTry m0_dayCourt m0_dayHour m0_dayNo m0_x m0_truth cA_m0_truth f_m0_truth) [] (va_A (zV80 m0 m0_thrown m0_width m0_many m0_cells m0_moved m0_tape m0_taped m0_at m0_token m0_place m0_value m0_word m0_bad m0_badPlace m0_fault m0_faultPlace m0_lines m0_hours m0_courts m0_in m0_gates m0_gate m0_people m0_at0 m0_stray m0_set m0_once m0_truth m0_known m0_isKept m0_strays m0_hostPerson m0_hostCourt m0_outside m0_inside m0_can m0_fewest m0_waysTo m0_then m0_two m0_nextTwo m0_three m0_nextThree m0_shut m0_worth m0_digit m0_codes m0_most m0_bestTry m0_dayCourt m0_dayHour m0_dayNo m0_x m0_truth cA_m0_truth f_m0_truth) sz) t) (va_A (zV80 m0 m0_thrown m0_width m0_many m0_cells m0_moved m0_tape m0_taped m0_at m0_token m0_place m0_value m0_word m0_bad m0_badPlace m0_fault m0_faultPlace m0_lines m0_hours m0_courts m0_in m0_gates m0_gate m0_people m0_at0 m0_stray m0_set m0_once m0_truth m0_known m0_isKept m0_strays m0_hostPerson m0_hostCourt m0_outside m0_inside m0_can m0_fewest m0_waysTo m0_then m0_two m0_nextTwo m0_three m0_nextThree m0_shut m0_worth m0_digit m0_codes m0_most m0_bestTry m0_dayCourt m0_dayHour m0_dayNo m0_x m0_truth cA_m0_truth f_m0_truth) sz)) 0 0 (va_A (zV80 m0 m0_thrown m0_width m0_many m0_cells m0_moved m0_tape m0_taped m0_at m0_token m0_place m0_value m0_word m0_bad m0_badPlace m0_fault m0_faultPlace m0_lines m0_hours m0_courts m0_in m0_gates m0_gate m0_people m0_at0 m0_stray m0_set m0_once m0_truth m0_known m0_isKept m0_strays m0_hostPerson m0_hostCourt m0_outside m0_inside m0_can m0_fewest m0_waysTo m0_then m0_two m0_nextTwo m0_three m0_nextThree m0_shut m0_worth m0_digit m0_codes m0_most m0_bestTry m0_dayCourt m0_dayHour m0_dayNo m0_x m0_truth cA_m0_truth f_m0_truth) sz) := by
  refine z_enter (by decide) (by exact (Nat.le_of_ble_eq_true rfl)) ?_
  intro p e s m args below meth c ls A R Qc hargs hsz hQe hAe hRe hx hb hml hr hts hown hlocks hin hl hP hK hD hN hXs hA hS
  rw [hAe] at hQe
  have hown : s.vm.findClass RX10 = some m.cls := hown
  have hl : lv_has ls 2 [(0, .ref m0), (1, .int p1)] := hl
  obtain ⟨RR, hRR⟩ : ∃ z : Int32, z = (F_X10_isStrayed p1 f_m0_truth) := ⟨_, rfl⟩
  have hF : RR = (F_X10_isStrayed p1 f_m0_truth) := hRR
  refine lv_aload_n hx hb dX10_isStrayed_0 rfl (lv_at hl 0 rfl) ?_
  refine va_get (D := (dC, dI)) (ci := 10) (v := .ref m0_truth) (C := RX10) (T := TX10) (N := 53) hx hb hts zl_X10 hown hK hP 0 rfl rfl 27 (by decide) (hts _ zw_t6_127) (fun _ h9 => h9) rfl dX10_isStrayed_1 ?_
  refine lv_iconst (v := 0) hx hb dX10_isStrayed_4 (by decide) ?_
  refine va_iald hx hb hK hP 1 0 rfl rfl (zi_in (show Int32.toInt 0 = 0 from by decide) (by decide)) dX10_isStrayed_5 ?_
  refine lv_topi (fun x_1 ex_1 => ?_)
  replace hF := hF.trans (zL_eq ex_1)
  refine lv_iload_n hx hb dX10_isStrayed_6 rfl (lv_at hl 1 rfl) ?_
  refine lv_ishr hx hb dX10_isStrayed_7 ?_
  refine lv_topi (fun x_2 ex_2 => ?_)
  replace hF := hF.trans (zL_eq ex_2)
  refine lv_iconst (v := 1) hx hb dX10_isStrayed_8 (by decide) ?_
  refine lv_iand hx hb dX10_isStrayed_9 ?_
  refine lv_topi (fun x_3 ex_3 => ?_)
  replace hF := hF.trans (zL_eq ex_3)
  have b_x_3 : 0 ≤ x_3.toInt ∧ x_3.toInt ≤ 1 := by rw [ex_3]; exact zi_andR (show Int32.toInt 1 = 1 from by decide) (by first | with_reducible assumption | omega) (by first | with_reducible assumption | omega)
  refine lv_iconst (v := 1) hx hb dX10_isStrayed_10 (by decide) ?_
  refine lv_icmp_ne (tgt := 18) hx hb dX10_isStrayed_11 (by decide) (fun c_4 => ?_) (fun c_4 => ?_)
  · have ic_4 := zz_ne rfl (show Int32.toInt 1 = 1 from by decide) c_4
    replace hF := hF.trans (if_neg c_4)
    refine lv_iconst (v := 0) hx hb dX10_isStrayed_18 (by decide) ?_
    have hF : RR = (0 : Int32) := hF
    have zc : Int32.toInt 0 = 0 := by decide
    exact W.zret (v := 0) hx hb hr (by decide) (fun t ht hW => by rw [← hQe]; exact ⟨⟨0, (), rfl, ⟨by decide, (by rw [← hRR, hF])⟩, z_ret hP hK hD ht hW [0, 1] [] rfl (by decide) rfl⟩, hS.F ht⟩) hS.2.2 dX10_isStrayed_19
  · have ic_4 := zz_nne rfl (show Int32.toInt 1 = 1 from by decide) c_4
    replace hF := hF.trans (if_pos c_4)
    refine lv_iconst (v := 1) hx hb dX10_isStrayed_14 (by decide) ?_
    refine lv_goto (tgt := 19) hx hb dX10_isStrayed_15 (by decide) ?_
    have hF : RR = (1 : Int32) := hF
    have zc : Int32.toInt 1 = 1 := by decide
    exact W.zret (v := 1) hx hb hr (by decide) (fun t ht hW => by rw [← hQe]; exact ⟨⟨1, (), rfl, ⟨by decide, (by rw [← hRR, hF])⟩, z_ret hP hK hD ht hW [0, 1] [] rfl (by decide) rfl⟩, hS.F ht⟩) hS.2.2 dX10_isStrayed_19
set_option maxHeartbeats 4000000 in
set_option maxRecDepth 100000 in
theorem kf_X10_leadsTo (l : Launch) (sa : Nat → Nat) (dC : Nat → ClassId) (dI : Nat → Nat → Nat) (m0 : Nat) (p1 : Int32) (p2 : Int32) (m0_thrown : Int32) (m0_width : Nat) (m0_many : Nat) (m0_cells : Nat) (m0_moved : Nat) (m0_tape : Nat) (m0_taped : Int32) (m0_at : Int32) (m0_token : Int32) (m0_place : Int32) (m0_value : Int32) (m0_word : Int64) (m0_bad : Int32) (m0_badPlace : Int32) (m0_fault : Int32) (m0_faultPlace : Int32) (m0_lines : Nat) (m0_hours : Nat) (m0_courts : Nat) (m0_in : Nat) (m0_gates : Nat) (m0_gate : Nat) (m0_people : Nat) (m0_at0 : Nat) (m0_stray : Nat) (m0_set : Nat) (m0_once : Nat) (m0_truth : Nat) (m0_known : Nat) (m0_isKept : Nat) (m0_strays : Int32) (m0_hostPerson : Int32) (m0_hostCourt : Int32) (m0_outside : Int32) (m0_inside : Nat) (m0_can : Nat) (m0_fewest : Nat) (m0_waysTo : Nat) (m0_then : Nat) (m0_two : Nat) (m0_nextTwo : Nat) (m0_three : Nat) (m0_nextThree : Nat) (m0_shut : Int32) (m0_worth : Nat) (m0_digit : Nat) (m0_codes : Int32) (m0_most : Int64) (m0_bestTry : Int32) (m0_dayCourt : Int32) (m0_dayHour : Int32) (m0_dayNo : Int32) (m0_x : Int64) (cA_m0_gate : ClassId) (f_m0_gate : Nat → Int32) (b_p1 : 0 ≤ p1.toInt ∧ p1.toInt ≤ 15) (b_m0_taped : 0 ≤ m0_taped.toInt ∧ m0_taped.toInt ≤ 1600) (b_m0_at : 0 ≤ m0_at.toInt ∧ m0_at.toInt ≤ 1600) (b_m0_token : 0 ≤ m0_token.toInt ∧ m0_token.toInt ≤ 4) (b_m0_value : 0 ≤ m0_value.toInt ∧ m0_value.toInt ≤ 1000009) (b_m0_bad : 0 ≤ m0_bad.toInt ∧ m0_bad.toInt ≤ 3) (b_m0_strays : 0 ≤ m0_strays.toInt ∧ m0_strays.toInt ≤ 5) (b_m0_hostCourt : 0 ≤ m0_hostCourt.toInt ∧ m0_hostCourt.toInt ≤ 9) (b_m0_dayCourt : 0 ≤ m0_dayCourt.toInt ∧ m0_dayCourt.toInt ≤ 9) (b_m0_dayHour : 0 ≤ m0_dayHour.toInt ∧ m0_dayHour.toInt ≤ 48) (b_f_m0_gate : ∀ j : Nat, 0 ≤ (f_m0_gate j).toInt ∧ (f_m0_gate j).toInt ≤ 9) (sz : Nat) : Met l yX10_leadsTo (.code yX10_leadsTo cX10_leadsTo 3 (some .int) :: zT) ({ frames := 0, cells := 0, slots := 0, locals := 0 }) (va_Pc [.ref m0, .int p1, .int p2] (zB sa dC dI (zV81 m0 m0_thrown m0_width m0_many m0_cells m0_moved m0_tape m0_taped m0_at m0_token m0_place m0_value m0_word m0_bad m0_badPlace m0_fault m0_faultPlace m0_lines m0_hours m0_courts m0_in m0_gates m0_gate m0_people m0_at0 m0_stray m0_set m0_once m0_truth m0_known m0_isKept m0_strays m0_hostPerson m0_hostCourt m0_outside m0_inside m0_can m0_fewest m0_waysTo m0_then m0_two m0_nextTwo m0_three m0_nextThree m0_shut m0_worth m0_digit m0_codes m0_most m0_bestTry m0_dayCourt m0_dayHour m0_dayNo m0_x m0_gate cA_m0_gate f_m0_gate) [(cA_m0_gate, .int)] sz)) (va_Qi (fun (r : Int32) (_ : Unit) => ((-1) ≤ r.toInt ∧ r.toInt ≤ 9) ∧ ((r.toInt = -1 ∧ zK f_m0_gate p1.toInt p2.toInt = 0) ∨ (0 ≤ r.toInt ∧ zK f_m0_gate p1.toInt p2.toInt = 1)) ∧ r = (F_X10_leadsTo p1 p2 f_m0_gate)) (fun _ t => zW dC dI (zV81 m0 m0_thrown m0_width m0_many m0_cells m0_moved m0_tape m0_taped m0_at m0_token m0_place m0_value m0_word m0_bad m0_badPlace m0_fault m0_faultPlace m0_lines m0_hours m0_courts m0_in m0_gates m0_gate m0_people m0_at0 m0_stray m0_set m0_once m0_truth m0_known m0_isKept m0_strays m0_hostPerson m0_hostCourt m0_outside m0_inside m0_can m0_fewest m0_waysTo m0_then m0_two m0_nextTwo m0_three m0_nextThree m0_shut m0_worth m0_digit m0_codes m0_most m0_bestTry m0_dayCourt m0_dayHour m0_dayNo m0_x m0_gate cA_m0_gate f_m0_gate) [] (va_A (zV81 m0 m0_thrown m0_width m0_many m0_cells m0_moved m0_tape m0_taped m0_at m0_token m0_place m0_value m0_word m0_bad m0_badPlace m0_fault m0_faultPlace m0_lines m0_hours m0_courts m0_in m0_gates m0_gate m0_people m0_at0 m0_stray m0_set m0_once m0_truth m0_known m0_isKept m0_strays m0_hostPerson m0_hostCourt m0_outside m0_inside m0_can m0_fewest m0_waysTo m0_then m0_two m0_nextTwo m0_three m0_nextThree m0_shut m0_worth m0_digit m0_codes m0_most m0_bestTry m0_dayCourt m0_dayHour m0_dayNo m0_x m0_gate cA_m0_gate f_m0_gate) sz) t) (va_A (zV81 m0 m0_thrown m0_width m0_many m0_cells m0_moved m0_tape m0_taped m0_at m0_token m0_place m0_value m0_word m0_bad m0_badPlace m0_fault m0_faultPlace m0_lines m0_hours m0_courts m0_in m0_gates m0_gate m0_people m0_at0 m0_stray m0_set m0_once m0_truth m0_known m0_isKept m0_strays m0_hostPerson m0_hostCourt m0_outside m0_inside m0_can m0_fewest m0_waysTo m0_then m0_two m0_nextTwo m0_three m0_nextThree m0_shut m0_worth m0_digit m0_codes m0_most m0_bestTry m0_dayCourt m0_dayHour m0_dayNo m0_x m0_gate cA_m0_gate f_m0_gate) sz)) 0 0 (va_A (zV81 m0 m0_thrown m0_width m0_many m0_cells m0_moved m0_tape m0_taped m0_at m0_token m0_place m0_value m0_word m0_bad m0_badPlace m0_fault m0_faultPlace m0_lines m0_hours m0_courts m0_in m0_gates m0_gate m0_people m0_at0 m0_stray m0_set m0_once m0_truth m0_known m0_isKept m0_strays m0_hostPerson m0_hostCourt m0_outside m0_inside m0_can m0_fewest m0_waysTo m0_then m0_two m0_nextTwo m0_three m0_nextThree m0_shut m0_worth m0_digit m0_codes m0_most m0_bestTry m0_dayCourt m0_dayHour m0_dayNo m0_x m0_gate cA_m0_gate f_m0_gate) sz) := by
  refine z_enter (by decide) (by exact (Nat.le_of_ble_eq_true rfl)) ?_
  intro p e s m args below meth c ls A R Qc hargs hsz hQe hAe hRe hx hb hml hr hts hown hlocks hin hl hP hK hD hN hXs hA hS
  rw [hAe] at hQe
  have hown : s.vm.findClass RX10 = some m.cls := hown
  have hl : lv_has ls 3 [(0, .ref m0), (1, .int p1), (2, .int p2)] := hl
  obtain ⟨RR, hRR⟩ : ∃ z : Int32, z = (F_X10_leadsTo p1 p2 f_m0_gate) := ⟨_, rfl⟩
  have hF : RR = (F_X10_leadsTo p1 p2 f_m0_gate) := hRR
  refine lv_aload_n hx hb dX10_leadsTo_0 rfl (lv_at hl 0 rfl) ?_
  refine va_get (D := (dC, dI)) (ci := 10) (v := .ref m0_gate) (C := RX10) (T := TX10) (N := 53) hx hb hts zl_X10 hown hK hP 0 rfl rfl 21 (by decide) (hts _ zw_t6_121) (fun _ h9 => h9) rfl dX10_leadsTo_1 ?_
  refine lv_iconst (v := 2) hx hb dX10_leadsTo_4 (by decide) ?_
  refine lv_iload_n hx hb dX10_leadsTo_5 rfl (lv_at hl 1 rfl) ?_
  refine lv_imul hx hb dX10_leadsTo_6 ?_
  refine lv_topi (fun x_1 ex_1 => ?_)
  replace hF := hF.trans (zL_eq ex_1)
  have b_x_1 : x_1.toInt = 2 * p1.toInt := by rw [ex_1]; exact zi_mul (show Int32.toInt 2 = 2 from by decide) rfl (z_rmc b_p1 (by decide))
  refine va_iald hx hb hK hP 1 0 rfl rfl (zi_in rfl (by first | exact z_rin (z_emc (c := 2) b_x_1 b_p1) (by decide) | omega)) dX10_leadsTo_7 ?_
  refine lv_topi (fun x_2 ex_2 => ?_)
  replace hF := hF.trans (zL_eq ex_2)
  have b_x_2 : 0 ≤ x_2.toInt ∧ x_2.toInt ≤ 9 := by rw [ex_2]; exact b_f_m0_gate _
  have t_x_2 : x_2.toInt = (f_m0_gate (Int32.toNatClampNeg x_1)).toInt := by rw [ex_2]
  refine lv_iload_n hx hb dX10_leadsTo_8 rfl (lv_at hl 2 rfl) ?_
  have nb_p2 := zi_nb p2
  refine lv_icmp_ne (tgt := 25) hx hb dX10_leadsTo_9 (by decide) (fun c_3 => ?_) (fun c_3 => ?_)
  · have ic_3 := zz_ne rfl rfl c_3
    replace hF := hF.trans (if_neg c_3)
    refine lv_aload_n hx hb dX10_leadsTo_25 rfl (lv_at hl 0 rfl) ?_
    refine va_get (D := (dC, dI)) (ci := 10) (v := .ref m0_gate) (C := RX10) (T := TX10) (N := 53) hx hb hts zl_X10 hown hK hP 0 rfl rfl 21 (by decide) (hts _ zw_t6_121) (fun _ h9 => h9) rfl dX10_leadsTo_26 ?_
    refine lv_iconst (v := 2) hx hb dX10_leadsTo_29 (by decide) ?_
    refine lv_iload_n hx hb dX10_leadsTo_30 rfl (lv_at hl 1 rfl) ?_
    refine lv_imul hx hb dX10_leadsTo_31 ?_
    refine lv_topi (fun x_4 ex_4 => ?_)
    replace hF := hF.trans (zL_eq ex_4)
    have b_x_4 : x_4.toInt = 2 * p1.toInt := by rw [ex_4]; exact zi_mul (show Int32.toInt 2 = 2 from by decide) rfl (z_rmc b_p1 (by decide))
    refine lv_iconst (v := 1) hx hb dX10_leadsTo_32 (by decide) ?_
    refine lv_iadd hx hb dX10_leadsTo_33 ?_
    refine lv_topi (fun x_5 ex_5 => ?_)
    replace hF := hF.trans (zL_eq ex_5)
    have b_x_5 : x_5.toInt = x_4.toInt + 1 := by rw [ex_5]; exact zi_add rfl (show Int32.toInt 1 = 1 from by decide) (z_rac (z_emc (c := 2) b_x_4 b_p1) (by decide))
    refine va_iald hx hb hK hP 1 0 rfl rfl (zi_in rfl (by first | exact z_rin (z_eac b_x_5 (z_emc (c := 2) b_x_4 b_p1)) (by decide) | omega)) dX10_leadsTo_34 ?_
    refine lv_topi (fun x_6 ex_6 => ?_)
    replace hF := hF.trans (zL_eq ex_6)
    have b_x_6 : 0 ≤ x_6.toInt ∧ x_6.toInt ≤ 9 := by rw [ex_6]; exact b_f_m0_gate _
    have t_x_6 : x_6.toInt = (f_m0_gate (Int32.toNatClampNeg x_5)).toInt := by rw [ex_6]
    refine lv_iload_n hx hb dX10_leadsTo_35 rfl (lv_at hl 2 rfl) ?_
    refine lv_icmp_ne (tgt := 50) hx hb dX10_leadsTo_36 (by decide) (fun c_7 => ?_) (fun c_7 => ?_)
    · have ic_7 := zz_ne rfl rfl c_7
      replace hF := hF.trans (if_neg c_7)
      refine lv_iconst (v := (-1)) hx hb dX10_leadsTo_50 (by decide) ?_
      have hj := zK_0 (f := f_m0_gate) (x := x_1) (y := x_5) (a := p1.toInt) (c := p2.toInt) (by first | with_reducible assumption | omega) (by first | with_reducible assumption | omega) (by first | with_reducible assumption | omega) (by first | with_reducible assumption | omega) (by first | with_reducible assumption | omega)
      have hF : RR = (-1 : Int32) := hF
      have zc : Int32.toInt (-1) = (-1) := by decide
      exact W.iret (v := (-1)) hx hb hr (fun t ht hW => by rw [← hQe]; exact ⟨⟨(-1), (), rfl, ⟨by decide, ⟨by omega, (by rw [← hRR, hF])⟩⟩, z_ret hP hK hD ht hW [0, 1] [] rfl (by decide) rfl⟩, hS.F ht⟩) hS.2.2 dX10_leadsTo_51
    · have ic_7 := zz_nne rfl rfl c_7
      replace hF := hF.trans (if_pos c_7)
      refine lv_aload_n hx hb dX10_leadsTo_39 rfl (lv_at hl 0 rfl) ?_
      refine va_get (D := (dC, dI)) (ci := 10) (v := .ref m0_gate) (C := RX10) (T := TX10) (N := 53) hx hb hts zl_X10 hown hK hP 0 rfl rfl 21 (by decide) (hts _ zw_t6_121) (fun _ h9 => h9) rfl dX10_leadsTo_40 ?_
      refine lv_iconst (v := 2) hx hb dX10_leadsTo_43 (by decide) ?_
      refine lv_iload_n hx hb dX10_leadsTo_44 rfl (lv_at hl 1 rfl) ?_
      refine lv_imul hx hb dX10_leadsTo_45 ?_
      refine lv_topi (fun x_8 ex_8 => ?_)
      replace hF := hF.trans (zL_eq ex_8)
      have b_x_8 : x_8.toInt = 2 * p1.toInt := by rw [ex_8]; exact zi_mul (show Int32.toInt 2 = 2 from by decide) rfl (z_rmc b_p1 (by decide))
      obtain rfl : x_1 = x_8 := Int32.toInt_inj.mp (by first | with_reducible assumption | omega)
      refine va_iald hx hb hK hP 1 0 rfl rfl (zi_in rfl (by first | exact z_rin (z_emc (c := 2) b_x_8 b_p1) (by decide) | omega)) dX10_leadsTo_46 ?_
      refine lv_topi (fun x_9 ex_9 => ?_)
      replace hF := hF.trans (zL_eq ex_9)
      obtain rfl : x_2 = x_9 := ex_2.trans ex_9.symm
      refine lv_goto (tgt := 51) hx hb dX10_leadsTo_47 (by decide) ?_
      have hj : zK f_m0_gate p1.toInt p2.toInt = 1 := by first | exact zK_1 (x := x_1) (by first | with_reducible assumption | omega) (by first | with_reducible assumption | omega) (by first | with_reducible assumption | omega) | exact zK_2 (x := x_5) (by first | with_reducible assumption | omega) (by first | with_reducible assumption | omega) (by first | with_reducible assumption | omega)
      have hF : RR = x_2 := hF
      exact W.iret (v := x_2) hx hb hr (fun t ht hW => by rw [← hQe]; exact ⟨⟨x_2, (), rfl, ⟨by omega, ⟨by omega, (by rw [← hRR, hF])⟩⟩, z_ret hP hK hD ht hW [0, 1] [] rfl (by decide) rfl⟩, hS.F ht⟩) hS.2.2 dX10_leadsTo_51
  · have ic_3 := zz_nne rfl rfl c_3
    replace hF := hF.trans (if_pos c_3)
    refine lv_aload_n hx hb dX10_leadsTo_12 rfl (lv_at hl 0 rfl) ?_
    refine va_get (D := (dC, dI)) (ci := 10) (v := .ref m0_gate) (C := RX10) (T := TX10) (N := 53) hx hb hts zl_X10 hown hK hP 0 rfl rfl 21 (by decide) (hts _ zw_t6_121) (fun _ h9 => h9) rfl dX10_leadsTo_13 ?_
    refine lv_iconst (v := 2) hx hb dX10_leadsTo_16 (by decide) ?_
    refine lv_iload_n hx hb dX10_leadsTo_17 rfl (lv_at hl 1 rfl) ?_
    refine lv_imul hx hb dX10_leadsTo_18 ?_
    refine lv_topi (fun x_10 ex_10 => ?_)
    replace hF := hF.trans (zL_eq ex_10)
    have b_x_10 : x_10.toInt = 2 * p1.toInt := by rw [ex_10]; exact zi_mul (show Int32.toInt 2 = 2 from by decide) rfl (z_rmc b_p1 (by decide))
    refine lv_iconst (v := 1) hx hb dX10_leadsTo_19 (by decide) ?_
    refine lv_iadd hx hb dX10_leadsTo_20 ?_
    refine lv_topi (fun x_11 ex_11 => ?_)
    replace hF := hF.trans (zL_eq ex_11)
    have b_x_11 : x_11.toInt = x_10.toInt + 1 := by rw [ex_11]; exact zi_add rfl (show Int32.toInt 1 = 1 from by decide) (z_rac (z_emc (c := 2) b_x_10 b_p1) (by decide))
    refine va_iald hx hb hK hP 1 0 rfl rfl (zi_in rfl (by first | exact z_rin (z_eac b_x_11 (z_emc (c := 2) b_x_10 b_p1)) (by decide) | omega)) dX10_leadsTo_21 ?_
    refine lv_topi (fun x_12 ex_12 => ?_)
    replace hF := hF.trans (zL_eq ex_12)
    have b_x_12 : 0 ≤ x_12.toInt ∧ x_12.toInt ≤ 9 := by rw [ex_12]; exact b_f_m0_gate _
    have t_x_12 : x_12.toInt = (f_m0_gate (Int32.toNatClampNeg x_11)).toInt := by rw [ex_12]
    refine lv_goto (tgt := 51) hx hb dX10_leadsTo_22 (by decide) ?_
    have hj : zK f_m0_gate p1.toInt p2.toInt = 1 := by first | exact zK_1 (x := x_1) (by first | with_reducible assumption | omega) (by first | with_reducible assumption | omega) (by first | with_reducible assumption | omega) | exact zK_2 (x := x_11) (by first | with_reducible assumption | omega) (by first | with_reducible assumption | omega) (by first | with_reducible assumption | omega)
    have hF : RR = x_12 := hF
    exact W.iret (v := x_12) hx hb hr (fun t ht hW => by rw [← hQe]; exact ⟨⟨x_12, (), rfl, ⟨by omega, ⟨by omega, (by rw [← hRR, hF])⟩⟩, z_ret hP hK hD ht hW [0, 1] [] rfl (by decide) rfl⟩, hS.F ht⟩) hS.2.2 dX10_leadsTo_51
