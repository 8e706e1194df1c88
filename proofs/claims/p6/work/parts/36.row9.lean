set_option linter.all false
set_option maxHeartbeats 4000000 in
set_option maxRecDepth 100000 in
theorem k_X9_isSlot_v1 (l : Launch) (sa : Nat → Nat) (dC : Nat → ClassId) (dI : Nat → Nat → Nat) (p1 : Int32)  (sz : Nat) : Met l yX9_isSlot (.code yX9_isSlot cX9_isSlot 1 (some .boolean) :: zT) ({ frames := 0, cells := 0, slots := 0, locals := 0 }) (va_Pc [.int p1] (zB sa dC dI [] [] sz)) (va_Qi (fun (r : Int32) (_ : Unit) => (0 ≤ r.toInt ∧ r.toInt ≤ 1) ∧ ((r.toInt = 0 ∧ (p1.toInt < 0 ∨ 3 < p1.toInt)) ∨ (r.toInt = 1 ∧ 0 ≤ p1.toInt ∧ p1.toInt ≤ 3))) (fun _ t => zW dC dI [] [] (va_A [] sz) t) (va_A [] sz)) 0 0 (va_A [] sz) := by
  refine z_enter (by decide) (by exact (Nat.le_of_ble_eq_true rfl)) ?_
  intro p e s m args below meth c ls A R Qc hargs hsz hQe hAe hRe hx hb hml hr hts hown hlocks hin hl hP hK hD hN hXs hA hS
  rw [hAe] at hQe
  have hown : s.vm.findClass RX9 = some m.cls := hown
  have hl : lv_has ls 1 [(0, .int p1)] := hl
  refine lv_iload_n hx hb dX9_isSlot_0 rfl (lv_at hl 0 rfl) ?_
  have nb_p1 := zi_nb p1
  refine lv_if_lt (tgt := 13) hx hb dX9_isSlot_1 (by decide) (fun c_1 => ?_) (fun c_1 => ?_)
  · have ic_1 := zz_lt rfl (show Int32.toInt 0 = 0 from by decide) c_1
    refine lv_iconst (v := 0) hx hb dX9_isSlot_13 (by decide) ?_
    have zc : Int32.toInt 0 = 0 := by decide
    exact W.zret (v := 0) hx hb hr (by decide) (fun t ht hW => by rw [← hQe]; exact ⟨⟨0, (), rfl, (by first | decide | omega), z_ret hP hK hD ht hW [] [] rfl (by decide) rfl⟩, hS.F ht⟩) hS.2.2 dX9_isSlot_14
  · have ic_1 := zz_nlt rfl (show Int32.toInt 0 = 0 from by decide) c_1
    refine lv_iload_n hx hb dX9_isSlot_4 rfl (lv_at hl 0 rfl) ?_
    refine lv_iconst (v := 4) hx hb dX9_isSlot_5 (by decide) ?_
    refine lv_icmp_ge (tgt := 13) hx hb dX9_isSlot_6 (by decide) (fun c_2 => ?_) (fun c_2 => ?_)
    · have ic_2 := zz_ge rfl (show Int32.toInt 4 = 4 from by decide) c_2
      refine lv_iconst (v := 0) hx hb dX9_isSlot_13 (by decide) ?_
      have zc : Int32.toInt 0 = 0 := by decide
      exact W.zret (v := 0) hx hb hr (by decide) (fun t ht hW => by rw [← hQe]; exact ⟨⟨0, (), rfl, (by first | decide | omega), z_ret hP hK hD ht hW [] [] rfl (by decide) rfl⟩, hS.F ht⟩) hS.2.2 dX9_isSlot_14
    · have ic_2 := zz_nge rfl (show Int32.toInt 4 = 4 from by decide) c_2
      refine lv_iconst (v := 1) hx hb dX9_isSlot_9 (by decide) ?_
      refine lv_goto (tgt := 14) hx hb dX9_isSlot_10 (by decide) ?_
      have zc : Int32.toInt 1 = 1 := by decide
      exact W.zret (v := 1) hx hb hr (by decide) (fun t ht hW => by rw [← hQe]; exact ⟨⟨1, (), rfl, (by first | decide | omega), z_ret hP hK hD ht hW [] [] rfl (by decide) rfl⟩, hS.F ht⟩) hS.2.2 dX9_isSlot_14
set_option maxHeartbeats 4000000 in
set_option maxRecDepth 100000 in
theorem k_X9_row_v1 (l : Launch) (sa : Nat → Nat) (dC : Nat → ClassId) (dI : Nat → Nat → Nat) (h0 : Nat) (p1 : Int32) (p2 : Int32) (p3 : Int32) (tp : Nat) (h0_tapeLength : Int32) (h0_faultKind : Int32) (h0_faultPlace : Int32) (nw : Nat) (im : Nat) (sl : Nat) (rd : Nat) (wk : Nat) (fm : Nat) (mt : Nat) (ch : Nat) (dy : Nat) (cA_sl : ClassId) (f_sl : Nat → Option Nat) (r0 : Nat) (r1 : Nat) (r2 : Nat) (r3 : Nat) (r0_width : Int32) (r0_size : Int32) (r0_numbers : Nat) (cA_r0_numbers : ClassId) (f_r0_numbers : Nat → Int64) (r1_width : Int32) (r1_size : Int32) (r1_numbers : Nat) (cA_r1_numbers : ClassId) (f_r1_numbers : Nat → Int64) (r2_width : Int32) (r2_size : Int32) (r2_numbers : Nat) (cA_r2_numbers : ClassId) (f_r2_numbers : Nat → Int64) (r3_width : Int32) (r3_size : Int32) (r3_numbers : Nat) (cA_r3_numbers : ClassId) (f_r3_numbers : Nat → Int64) (b_h0_tapeLength : 0 ≤ h0_tapeLength.toInt ∧ h0_tapeLength.toInt ≤ 1600) (hsl0 : f_sl 0 = some r0) (hsl1 : f_sl 1 = some r1) (hsl2 : f_sl 2 = some r2) (hsl3 : f_sl 3 = some r3) (b_r0_size : 0 ≤ r0_size.toInt ∧ r0_size.toInt ≤ 60) (b_r1_size : 0 ≤ r1_size.toInt ∧ r1_size.toInt ≤ 60) (b_r2_size : 0 ≤ r2_size.toInt ∧ r2_size.toInt ≤ 60) (b_r3_size : 0 ≤ r3_size.toInt ∧ r3_size.toInt ≤ 60) (sz : Nat) : Met l yX9_row (.code yX9_row cX9_row 4 (some .int) :: zT) ({ frames := 2, cells := 0, slots := 0, locals := 46 }) (va_Pc [.ref h0, .int p1, .int p2, .int p3] (zB sa dC dI (zV73 h0 tp h0_tapeLength h0_faultKind h0_faultPlace nw im sl rd wk fm mt ch dy sl cA_sl f_sl r0 r0_width r0_size r0_numbers r0_numbers cA_r0_numbers f_r0_numbers r1 r1_width r1_size r1_numbers r1_numbers cA_r1_numbers f_r1_numbers r2 r2_width r2_size r2_numbers r2_numbers cA_r2_numbers f_r2_numbers r3 r3_width r3_size r3_numbers r3_numbers cA_r3_numbers f_r3_numbers) [(cA_sl, .object RX6), (cA_r0_numbers, .long), (cA_r1_numbers, .long), (cA_r2_numbers, .long), (cA_r3_numbers, .long)] sz)) (va_Qi (fun (r : Int32) (_ : Unit) => ((-3) ≤ r.toInt ∧ r.toInt ≤ 0) ∧ ((r.toInt = -2 ∧ (p1.toInt < 0 ∨ 3 < p1.toInt ∨ p2.toInt < 0 ∨ 3 < p2.toInt ∨ 60 < p3.toInt)) ∨ (r.toInt = -3 ∧ 0 ≤ p1.toInt ∧ p1.toInt ≤ 3 ∧ 0 ≤ p2.toInt ∧ p2.toInt ≤ 3 ∧ p3.toInt < 0) ∨ (r.toInt = 0 ∧ 0 ≤ p1.toInt ∧ p1.toInt ≤ 3 ∧ 0 ≤ p2.toInt ∧ p2.toInt ≤ 3 ∧ 0 ≤ p3.toInt ∧ p3.toInt ≤ 60))) (fun _ t => ∃ (n_r0_0 : Int32) (n_r0_1 : Int32) (n_r0_numbers : Nat → Int64) (n_r1_0 : Int32) (n_r1_1 : Int32) (n_r1_numbers : Nat → Int64) (n_r2_0 : Int32) (n_r2_1 : Int32) (n_r2_numbers : Nat → Int64) (n_r3_0 : Int32) (n_r3_1 : Int32) (n_r3_numbers : Nat → Int64), (0 ≤ n_r0_1.toInt ∧ n_r0_1.toInt ≤ 60) ∧ (0 ≤ n_r1_1.toInt ∧ n_r1_1.toInt ≤ 60) ∧ (0 ≤ n_r2_1.toInt ∧ n_r2_1.toInt ≤ 60) ∧ (0 ≤ n_r3_1.toInt ∧ n_r3_1.toInt ≤ 60) ∧ zW dC dI (zV73 h0 tp h0_tapeLength h0_faultKind h0_faultPlace nw im sl rd wk fm mt ch dy sl cA_sl f_sl r0 n_r0_0 n_r0_1 r0_numbers r0_numbers cA_r0_numbers n_r0_numbers r1 n_r1_0 n_r1_1 r1_numbers r1_numbers cA_r1_numbers n_r1_numbers r2 n_r2_0 n_r2_1 r2_numbers r2_numbers cA_r2_numbers n_r2_numbers r3 n_r3_0 n_r3_1 r3_numbers r3_numbers cA_r3_numbers n_r3_numbers) [] (va_A (zV73 h0 tp h0_tapeLength h0_faultKind h0_faultPlace nw im sl rd wk fm mt ch dy sl cA_sl f_sl r0 r0_width r0_size r0_numbers r0_numbers cA_r0_numbers f_r0_numbers r1 r1_width r1_size r1_numbers r1_numbers cA_r1_numbers f_r1_numbers r2 r2_width r2_size r2_numbers r2_numbers cA_r2_numbers f_r2_numbers r3 r3_width r3_size r3_numbers r3_numbers cA_r3_numbers f_r3_numbers) sz) t) (va_A (zV73 h0 tp h0_tapeLength h0_faultKind h0_faultPlace nw im sl rd wk fm mt ch dy sl cA_sl f_sl r0 r0_width r0_size r0_numbers r0_numbers cA_r0_numbers f_r0_numbers r1 r1_width r1_size r1_numbers r1_numbers cA_r1_numbers f_r1_numbers r2 r2_width r2_size r2_numbers r2_numbers cA_r2_numbers f_r2_numbers r3 r3_width r3_size r3_numbers r3_numbers cA_r3_numbers f_r3_numbers) sz)) 0 0 (va_A (zV73 h0 tp h0_tapeLength h0_faultKind h0_faultPlace nw im sl rd wk fm mt ch dy sl cA_sl f_sl r0 r0_width r0_size r0_numbers r0_numbers cA_r0_numbers f_r0_numbers r1 r1_width r1_size r1_numbers r1_numbers cA_r1_numbers f_r1_numbers r2 r2_width r2_size r2_numbers r2_numbers cA_r2_numbers f_r2_numbers r3 r3_width r3_size r3_numbers r3_numbers cA_r3_numbers f_r3_numbers) sz) := by
  refine z_enter (by decide) (by exact (Nat.le_of_ble_eq_true rfl)) ?_
  intro p e s m args below meth c ls A R Qc hargs hsz hQe hAe hRe hx hb hml hr hts hown hlocks hin hl hP hK hD hN hXs hA hS
  rw [hAe] at hQe
  have hown : s.vm.findClass RX9 = some m.cls := hown
  have hl : lv_has ls 4 [(0, .ref h0), (1, .int p1), (2, .int p2), (3, .int p3)] := hl
  refine lv_iload_n hx hb dX9_row_0 rfl (lv_at hl 1 rfl) ?_
  obtain ⟨hPc, hDc, hFc⟩ := z_cut (wc := []) hP hD hS hA [] rfl (by decide +kernel)
  have hKc := hK.sub (tys' := []) [] rfl
  refine va_calli (va_runS (As := [.int p1]) (rest := []) ⟨hx, hb, hml, hown, hts⟩ (k_X9_isSlot_v1 l sa dC dI p1 s.heap.size) (va_cwS 1 hts (z_gS zw_t5_219 zw_t5_220 zw_t1_1 zw_t5_221) rfl rfl rfl (by decide +kernel) (by rw [← hRe]; exact ⟨(Nat.le_of_ble_eq_true rfl), (Nat.le_of_ble_eq_true rfl)⟩)) (z_preS hPc hKc hDc hN hXs hS hFc) rfl rfl hl.1 rfl (lv_room (Nat.le_of_ble_eq_true rfl)) dX9_row_1 (by rw [← hRe]; exact ⟨(Nat.le_of_ble_eq_true rfl), (Nat.le_of_ble_eq_true rfl)⟩)) hS (fun q _ h => hFc q h) hFc (fun r_1 u t H1 locs ht hvm hw hB hz1 hk1 hS => ?_)
  obtain ⟨hP, hD, hK⟩ := z_after3 (wn := (zV73 h0 tp h0_tapeLength h0_faultKind h0_faultPlace nw im sl rd wk fm mt ch dy sl cA_sl f_sl r0 r0_width r0_size r0_numbers r0_numbers cA_r0_numbers f_r0_numbers r1 r1_width r1_size r1_numbers r1_numbers cA_r1_numbers f_r1_numbers r2 r2_width r2_size r2_numbers r2_numbers cA_r2_numbers f_r2_numbers r3 r3_width r3_size r3_numbers r3_numbers cA_r3_numbers f_r3_numbers)) hB ht hvm hP hD hK [] [0, 1, 2, 3, 4, 5, 6, 7, 8, 9] rfl 10 rfl (by decide +kernel) rfl (by decide +kernel) hk1 hFc
  generalize H1 = H at hP hS ⊢
  have hK : va_K (dC, dI) vwCl [(cA_sl, .object RX6), (cA_r0_numbers, .long), (cA_r1_numbers, .long), (cA_r2_numbers, .long), (cA_r3_numbers, .long)] s := hK
  have b_r_1 : 0 ≤ r_1.toInt ∧ r_1.toInt ≤ 1 := hw.1
  have s_r_1 := hw.2
  refine lv_if_eq (tgt := 22) hx hb dX9_row_4 (by decide) (fun c_2 => ?_) (fun c_2 => ?_)
  · have ic_2 := zz_eq rfl (show Int32.toInt 0 = 0 from by decide) c_2
    refine lv_bipush (v := (-2)) hx hb dX9_row_22 (by decide) ?_
    have zc : Int32.toInt (-2) = (-2) := by decide
    exact W.iret (v := (-2)) hx hb hr (fun t ht hW => by rw [← hQe]; exact ⟨⟨(-2), (), rfl, (by first | with_reducible assumption | omega), ⟨r0_width, r0_size, f_r0_numbers, r1_width, r1_size, f_r1_numbers, r2_width, r2_size, f_r2_numbers, r3_width, r3_size, f_r3_numbers, (by first | with_reducible assumption | omega), (by first | with_reducible assumption | omega), (by first | with_reducible assumption | omega), (by first | with_reducible assumption | omega), z_ret hP hK hD ht hW [0, 1, 2, 3, 4, 5, 6, 7, 8, 9] [] rfl (by decide) rfl⟩⟩, hS.F ht⟩) hS.2.2 dX9_row_24
  · have ic_2 := zz_neq rfl (show Int32.toInt 0 = 0 from by decide) c_2
    refine lv_iload_n hx hb dX9_row_7 rfl (lv_at hl 2 rfl) ?_
    have nb_p2 := zi_nb p2
    refine lv_if_lt (tgt := 22) hx hb dX9_row_8 (by decide) (fun c_3 => ?_) (fun c_3 => ?_)
    · have ic_3 := zz_lt rfl (show Int32.toInt 0 = 0 from by decide) c_3
      refine lv_bipush (v := (-2)) hx hb dX9_row_22 (by decide) ?_
      have zc : Int32.toInt (-2) = (-2) := by decide
      exact W.iret (v := (-2)) hx hb hr (fun t ht hW => by rw [← hQe]; exact ⟨⟨(-2), (), rfl, (by first | with_reducible assumption | omega), ⟨r0_width, r0_size, f_r0_numbers, r1_width, r1_size, f_r1_numbers, r2_width, r2_size, f_r2_numbers, r3_width, r3_size, f_r3_numbers, (by first | with_reducible assumption | omega), (by first | with_reducible assumption | omega), (by first | with_reducible assumption | omega), (by first | with_reducible assumption | omega), z_ret hP hK hD ht hW [0, 1, 2, 3, 4, 5, 6, 7, 8, 9] [] rfl (by decide) rfl⟩⟩, hS.F ht⟩) hS.2.2 dX9_row_24
    · have ic_3 := zz_nlt rfl (show Int32.toInt 0 = 0 from by decide) c_3
      refine lv_iload_n hx hb dX9_row_11 rfl (lv_at hl 2 rfl) ?_
      refine lv_iconst (v := 3) hx hb dX9_row_12 (by decide) ?_
      refine lv_icmp_gt (tgt := 22) hx hb dX9_row_13 (by decide) (fun c_4 => ?_) (fun c_4 => ?_)
      · have ic_4 := zz_gt rfl (show Int32.toInt 3 = 3 from by decide) c_4
        refine lv_bipush (v := (-2)) hx hb dX9_row_22 (by decide) ?_
        have zc : Int32.toInt (-2) = (-2) := by decide
        exact W.iret (v := (-2)) hx hb hr (fun t ht hW => by rw [← hQe]; exact ⟨⟨(-2), (), rfl, (by first | with_reducible assumption | omega), ⟨r0_width, r0_size, f_r0_numbers, r1_width, r1_size, f_r1_numbers, r2_width, r2_size, f_r2_numbers, r3_width, r3_size, f_r3_numbers, (by first | with_reducible assumption | omega), (by first | with_reducible assumption | omega), (by first | with_reducible assumption | omega), (by first | with_reducible assumption | omega), z_ret hP hK hD ht hW [0, 1, 2, 3, 4, 5, 6, 7, 8, 9] [] rfl (by decide) rfl⟩⟩, hS.F ht⟩) hS.2.2 dX9_row_24
      · have ic_4 := zz_ngt rfl (show Int32.toInt 3 = 3 from by decide) c_4
        refine lv_iload_n hx hb dX9_row_16 rfl (lv_at hl 3 rfl) ?_
        refine lv_bipush (v := 60) hx hb dX9_row_17 (by decide) ?_
        have nb_p3 := zi_nb p3
        refine lv_icmp_le (tgt := 25) hx hb dX9_row_19 (by decide) (fun c_5 => ?_) (fun c_5 => ?_)
        · have ic_5 := zz_le rfl (show Int32.toInt 60 = 60 from by decide) c_5
          refine lv_iload_n hx hb dX9_row_25 rfl (lv_at hl 3 rfl) ?_
          refine lv_if_ge (tgt := 32) hx hb dX9_row_26 (by decide) (fun c_6 => ?_) (fun c_6 => ?_)
          · have ic_6 := zz_ge rfl (show Int32.toInt 0 = 0 from by decide) c_6
            refine lv_aload_n hx hb dX9_row_32 rfl (lv_at hl 0 rfl) ?_
            refine va_get (D := (dC, dI)) (ci := 9) (v := .ref sl) (C := RX9) (T := TX9) (N := 13) hx hb hts zl_X9 hown hK hP 0 rfl rfl 6 (by decide) (hts _ zw_t2_195) (fun _ h9 => h9) rfl dX9_row_33 ?_
            refine lv_iload_n hx hb dX9_row_36 rfl (lv_at hl 1 rfl) ?_
            rcases z_s3 p1 with q_sw | rfl | rfl | rfl | rfl | q_sw
            · omega
            · have zc_0 : Int32.toInt 0 = 0 := by decide
              refine va_aldq hx hb hK hP 1 0 rfl rfl (zi_in (show Int32.toInt 0 = 0 from by decide) (by decide)) dX9_row_37 ?_
              refine W.eq (g2 := F0 m 38 ls (.ref r0 :: [])) (by rw [show f_sl (Int32.toNatClampNeg 0) = some r0 from (by rw [show Int32.toNatClampNeg 0 = 0 from by decide]; exact hsl0)]; rfl) ?_
              refine lv_iload_n hx hb dX9_row_38 rfl (lv_at hl 2 rfl) ?_
              refine lv_iload_n hx hb dX9_row_39 rfl (lv_at hl 3 rfl) ?_
              obtain ⟨hPc, hDc, hFc⟩ := z_cut (wc := (zV7 r0 r0_width r0_size r0_numbers r0_numbers cA_r0_numbers f_r0_numbers)) hP hD hS hA [2, 3] rfl (by decide +kernel)
              have hKc := hK.sub (tys' := [(cA_r0_numbers, .long)]) [1] rfl
              refine va_callv (va_runV (As := [.int p2, .int p3]) (rest := []) ⟨hx, hb, hml, hown, hts⟩ (k_X6_make l sa dC dI r0 p2 p3 r0_width r0_size r0_numbers cA_r0_numbers f_r0_numbers (by first | with_reducible assumption | omega) b_r0_size H.size) (cwV 2 hts (z_gV zw_t6_71 zw_t6_72 zw_t6_73 zw_t1_10 zw_t6_74) rfl rfl rfl (by decide +kernel) (by rw [← hRe]; exact ⟨(Nat.le_of_ble_eq_true rfl), (Nat.le_of_ble_eq_true rfl)⟩)) (z_preV hPc hKc hDc hN hXs hS hFc (q := (RX6, TX6, 3)) (ci := 6) (q0 := 0) rfl rfl) rfl rfl hl.1 rfl (lv_room (Nat.le_of_ble_eq_true rfl)) dX9_row_40 (by rw [← hRe]; exact ⟨(Nat.le_of_ble_eq_true rfl), (Nat.le_of_ble_eq_true rfl)⟩)) hS (fun q _ h => hFc q h) hFc (fun u t H1 locs ht hvm hw hB hz1 hk1 hS => ?_)
              obtain ⟨n_rw_8, n_rw_9, n_rw_numbers_10, b_n_rw_9, hB⟩ := hB
              obtain ⟨hP, hD, hK⟩ := z_after3 (wn := (zV73 h0 tp h0_tapeLength h0_faultKind h0_faultPlace nw im sl rd wk fm mt ch dy sl cA_sl f_sl r1 r1_width r1_size r1_numbers r1_numbers cA_r1_numbers f_r1_numbers r2 r2_width r2_size r2_numbers r2_numbers cA_r2_numbers f_r2_numbers r3 r3_width r3_size r3_numbers r3_numbers cA_r3_numbers f_r3_numbers r0 n_rw_8 n_rw_9 r0_numbers r0_numbers cA_r0_numbers n_rw_numbers_10)) hB ht hvm hP hD hK [2, 3] [0, 1, 4, 5, 6, 7, 8, 9] rfl 10 rfl (by decide +kernel) rfl (by decide +kernel) hk1 hFc
              generalize H1 = H at hP hS ⊢
              have hK : va_K (dC, dI) vwCl [(cA_sl, .object RX6), (cA_r0_numbers, .long), (cA_r1_numbers, .long), (cA_r2_numbers, .long), (cA_r3_numbers, .long)] s := hK
              refine lv_iconst (v := 0) hx hb dX9_row_43 (by decide) ?_
              have zc : Int32.toInt 0 = 0 := by decide
              exact W.iret (v := 0) hx hb hr (fun t ht hW => by rw [← hQe]; exact ⟨⟨0, (), rfl, (by first | with_reducible assumption | omega), ⟨n_rw_8, n_rw_9, n_rw_numbers_10, r1_width, r1_size, f_r1_numbers, r2_width, r2_size, f_r2_numbers, r3_width, r3_size, f_r3_numbers, (by first | with_reducible assumption | omega), (by first | with_reducible assumption | omega), (by first | with_reducible assumption | omega), (by first | with_reducible assumption | omega), z_ret hP hK hD ht hW [0, 1, 8, 9, 2, 3, 4, 5, 6, 7] [] rfl (by decide) rfl⟩⟩, hS.F ht⟩) hS.2.2 dX9_row_44
            · have zc_1 : Int32.toInt 1 = 1 := by decide
              refine va_aldq hx hb hK hP 1 0 rfl rfl (zi_in (show Int32.toInt 1 = 1 from by decide) (by decide)) dX9_row_37 ?_
              refine W.eq (g2 := F0 m 38 ls (.ref r1 :: [])) (by rw [show f_sl (Int32.toNatClampNeg 1) = some r1 from (by rw [show Int32.toNatClampNeg 1 = 1 from by decide]; exact hsl1)]; rfl) ?_
              refine lv_iload_n hx hb dX9_row_38 rfl (lv_at hl 2 rfl) ?_
              refine lv_iload_n hx hb dX9_row_39 rfl (lv_at hl 3 rfl) ?_
              obtain ⟨hPc, hDc, hFc⟩ := z_cut (wc := (zV7 r1 r1_width r1_size r1_numbers r1_numbers cA_r1_numbers f_r1_numbers)) hP hD hS hA [4, 5] rfl (by decide +kernel)
              have hKc := hK.sub (tys' := [(cA_r1_numbers, .long)]) [2] rfl
              refine va_callv (va_runV (As := [.int p2, .int p3]) (rest := []) ⟨hx, hb, hml, hown, hts⟩ (k_X6_make l sa dC dI r1 p2 p3 r1_width r1_size r1_numbers cA_r1_numbers f_r1_numbers (by first | with_reducible assumption | omega) b_r1_size H.size) (cwV 2 hts (z_gV zw_t6_71 zw_t6_72 zw_t6_73 zw_t1_10 zw_t6_74) rfl rfl rfl (by decide +kernel) (by rw [← hRe]; exact ⟨(Nat.le_of_ble_eq_true rfl), (Nat.le_of_ble_eq_true rfl)⟩)) (z_preV hPc hKc hDc hN hXs hS hFc (q := (RX6, TX6, 3)) (ci := 6) (q0 := 0) rfl rfl) rfl rfl hl.1 rfl (lv_room (Nat.le_of_ble_eq_true rfl)) dX9_row_40 (by rw [← hRe]; exact ⟨(Nat.le_of_ble_eq_true rfl), (Nat.le_of_ble_eq_true rfl)⟩)) hS (fun q _ h => hFc q h) hFc (fun u t H1 locs ht hvm hw hB hz1 hk1 hS => ?_)
              obtain ⟨n_rw_12, n_rw_13, n_rw_numbers_14, b_n_rw_13, hB⟩ := hB
              obtain ⟨hP, hD, hK⟩ := z_after3 (wn := (zV73 h0 tp h0_tapeLength h0_faultKind h0_faultPlace nw im sl rd wk fm mt ch dy sl cA_sl f_sl r0 r0_width r0_size r0_numbers r0_numbers cA_r0_numbers f_r0_numbers r2 r2_width r2_size r2_numbers r2_numbers cA_r2_numbers f_r2_numbers r3 r3_width r3_size r3_numbers r3_numbers cA_r3_numbers f_r3_numbers r1 n_rw_12 n_rw_13 r1_numbers r1_numbers cA_r1_numbers n_rw_numbers_14)) hB ht hvm hP hD hK [4, 5] [0, 1, 2, 3, 6, 7, 8, 9] rfl 10 rfl (by decide +kernel) rfl (by decide +kernel) hk1 hFc
              generalize H1 = H at hP hS ⊢
              have hK : va_K (dC, dI) vwCl [(cA_sl, .object RX6), (cA_r0_numbers, .long), (cA_r1_numbers, .long), (cA_r2_numbers, .long), (cA_r3_numbers, .long)] s := hK
              refine lv_iconst (v := 0) hx hb dX9_row_43 (by decide) ?_
              have zc : Int32.toInt 0 = 0 := by decide
              exact W.iret (v := 0) hx hb hr (fun t ht hW => by rw [← hQe]; exact ⟨⟨0, (), rfl, (by first | with_reducible assumption | omega), ⟨r0_width, r0_size, f_r0_numbers, n_rw_12, n_rw_13, n_rw_numbers_14, r2_width, r2_size, f_r2_numbers, r3_width, r3_size, f_r3_numbers, (by first | with_reducible assumption | omega), (by first | with_reducible assumption | omega), (by first | with_reducible assumption | omega), (by first | with_reducible assumption | omega), z_ret hP hK hD ht hW [0, 1, 2, 3, 8, 9, 4, 5, 6, 7] [] rfl (by decide) rfl⟩⟩, hS.F ht⟩) hS.2.2 dX9_row_44
            · have zc_2 : Int32.toInt 2 = 2 := by decide
              refine va_aldq hx hb hK hP 1 0 rfl rfl (zi_in (show Int32.toInt 2 = 2 from by decide) (by decide)) dX9_row_37 ?_
              refine W.eq (g2 := F0 m 38 ls (.ref r2 :: [])) (by rw [show f_sl (Int32.toNatClampNeg 2) = some r2 from (by rw [show Int32.toNatClampNeg 2 = 2 from by decide]; exact hsl2)]; rfl) ?_
              refine lv_iload_n hx hb dX9_row_38 rfl (lv_at hl 2 rfl) ?_
              refine lv_iload_n hx hb dX9_row_39 rfl (lv_at hl 3 rfl) ?_
              obtain ⟨hPc, hDc, hFc⟩ := z_cut (wc := (zV7 r2 r2_width r2_size r2_numbers r2_numbers cA_r2_numbers f_r2_numbers)) hP hD hS hA [6, 7] rfl (by decide +kernel)
              have hKc := hK.sub (tys' := [(cA_r2_numbers, .long)]) [3] rfl
              refine va_callv (va_runV (As := [.int p2, .int p3]) (rest := []) ⟨hx, hb, hml, hown, hts⟩ (k_X6_make l sa dC dI r2 p2 p3 r2_width r2_size r2_numbers cA_r2_numbers f_r2_numbers (by first | with_reducible assumption | omega) b_r2_size H.size) (cwV 2 hts (z_gV zw_t6_71 zw_t6_72 zw_t6_73 zw_t1_10 zw_t6_74) rfl rfl rfl (by decide +kernel) (by rw [← hRe]; exact ⟨(Nat.le_of_ble_eq_true rfl), (Nat.le_of_ble_eq_true rfl)⟩)) (z_preV hPc hKc hDc hN hXs hS hFc (q := (RX6, TX6, 3)) (ci := 6) (q0 := 0) rfl rfl) rfl rfl hl.1 rfl (lv_room (Nat.le_of_ble_eq_true rfl)) dX9_row_40 (by rw [← hRe]; exact ⟨(Nat.le_of_ble_eq_true rfl), (Nat.le_of_ble_eq_true rfl)⟩)) hS (fun q _ h => hFc q h) hFc (fun u t H1 locs ht hvm hw hB hz1 hk1 hS => ?_)
              obtain ⟨n_rw_16, n_rw_17, n_rw_numbers_18, b_n_rw_17, hB⟩ := hB
              obtain ⟨hP, hD, hK⟩ := z_after3 (wn := (zV73 h0 tp h0_tapeLength h0_faultKind h0_faultPlace nw im sl rd wk fm mt ch dy sl cA_sl f_sl r0 r0_width r0_size r0_numbers r0_numbers cA_r0_numbers f_r0_numbers r1 r1_width r1_size r1_numbers r1_numbers cA_r1_numbers f_r1_numbers r3 r3_width r3_size r3_numbers r3_numbers cA_r3_numbers f_r3_numbers r2 n_rw_16 n_rw_17 r2_numbers r2_numbers cA_r2_numbers n_rw_numbers_18)) hB ht hvm hP hD hK [6, 7] [0, 1, 2, 3, 4, 5, 8, 9] rfl 10 rfl (by decide +kernel) rfl (by decide +kernel) hk1 hFc
              generalize H1 = H at hP hS ⊢
              have hK : va_K (dC, dI) vwCl [(cA_sl, .object RX6), (cA_r0_numbers, .long), (cA_r1_numbers, .long), (cA_r2_numbers, .long), (cA_r3_numbers, .long)] s := hK
              refine lv_iconst (v := 0) hx hb dX9_row_43 (by decide) ?_
              have zc : Int32.toInt 0 = 0 := by decide
              exact W.iret (v := 0) hx hb hr (fun t ht hW => by rw [← hQe]; exact ⟨⟨0, (), rfl, (by first | with_reducible assumption | omega), ⟨r0_width, r0_size, f_r0_numbers, r1_width, r1_size, f_r1_numbers, n_rw_16, n_rw_17, n_rw_numbers_18, r3_width, r3_size, f_r3_numbers, (by first | with_reducible assumption | omega), (by first | with_reducible assumption | omega), (by first | with_reducible assumption | omega), (by first | with_reducible assumption | omega), z_ret hP hK hD ht hW [0, 1, 2, 3, 4, 5, 8, 9, 6, 7] [] rfl (by decide) rfl⟩⟩, hS.F ht⟩) hS.2.2 dX9_row_44
            · have zc_3 : Int32.toInt 3 = 3 := by decide
              refine va_aldq hx hb hK hP 1 0 rfl rfl (zi_in (show Int32.toInt 3 = 3 from by decide) (by decide)) dX9_row_37 ?_
              refine W.eq (g2 := F0 m 38 ls (.ref r3 :: [])) (by rw [show f_sl (Int32.toNatClampNeg 3) = some r3 from (by rw [show Int32.toNatClampNeg 3 = 3 from by decide]; exact hsl3)]; rfl) ?_
              refine lv_iload_n hx hb dX9_row_38 rfl (lv_at hl 2 rfl) ?_
              refine lv_iload_n hx hb dX9_row_39 rfl (lv_at hl 3 rfl) ?_
              obtain ⟨hPc, hDc, hFc⟩ := z_cut (wc := (zV7 r3 r3_width r3_size r3_numbers r3_numbers cA_r3_numbers f_r3_numbers)) hP hD hS hA [8, 9] rfl (by decide +kernel)
              have hKc := hK.sub (tys' := [(cA_r3_numbers, .long)]) [4] rfl
              refine va_callv (va_runV (As := [.int p2, .int p3]) (rest := []) ⟨hx, hb, hml, hown, hts⟩ (k_X6_make l sa dC dI r3 p2 p3 r3_width r3_size r3_numbers cA_r3_numbers f_r3_numbers (by first | with_reducible assumption | omega) b_r3_size H.size) (cwV 2 hts (z_gV zw_t6_71 zw_t6_72 zw_t6_73 zw_t1_10 zw_t6_74) rfl rfl rfl (by decide +kernel) (by rw [← hRe]; exact ⟨(Nat.le_of_ble_eq_true rfl), (Nat.le_of_ble_eq_true rfl)⟩)) (z_preV hPc hKc hDc hN hXs hS hFc (q := (RX6, TX6, 3)) (ci := 6) (q0 := 0) rfl rfl) rfl rfl hl.1 rfl (lv_room (Nat.le_of_ble_eq_true rfl)) dX9_row_40 (by rw [← hRe]; exact ⟨(Nat.le_of_ble_eq_true rfl), (Nat.le_of_ble_eq_true rfl)⟩)) hS (fun q _ h => hFc q h) hFc (fun u t H1 locs ht hvm hw hB hz1 hk1 hS => ?_)
              obtain ⟨n_rw_20, n_rw_21, n_rw_numbers_22, b_n_rw_21, hB⟩ := hB
              obtain ⟨hP, hD, hK⟩ := z_after3 (wn := (zV73 h0 tp h0_tapeLength h0_faultKind h0_faultPlace nw im sl rd wk fm mt ch dy sl cA_sl f_sl r0 r0_width r0_size r0_numbers r0_numbers cA_r0_numbers f_r0_numbers r1 r1_width r1_size r1_numbers r1_numbers cA_r1_numbers f_r1_numbers r2 r2_width r2_size r2_numbers r2_numbers cA_r2_numbers f_r2_numbers r3 n_rw_20 n_rw_21 r3_numbers r3_numbers cA_r3_numbers n_rw_numbers_22)) hB ht hvm hP hD hK [8, 9] [0, 1, 2, 3, 4, 5, 6, 7] rfl 10 rfl (by decide +kernel) rfl (by decide +kernel) hk1 hFc
              generalize H1 = H at hP hS ⊢
              have hK : va_K (dC, dI) vwCl [(cA_sl, .object RX6), (cA_r0_numbers, .long), (cA_r1_numbers, .long), (cA_r2_numbers, .long), (cA_r3_numbers, .long)] s := hK
              refine lv_iconst (v := 0) hx hb dX9_row_43 (by decide) ?_
              have zc : Int32.toInt 0 = 0 := by decide
              exact W.iret (v := 0) hx hb hr (fun t ht hW => by rw [← hQe]; exact ⟨⟨0, (), rfl, (by first | with_reducible assumption | omega), ⟨r0_width, r0_size, f_r0_numbers, r1_width, r1_size, f_r1_numbers, r2_width, r2_size, f_r2_numbers, n_rw_20, n_rw_21, n_rw_numbers_22, (by first | with_reducible assumption | omega), (by first | with_reducible assumption | omega), (by first | with_reducible assumption | omega), (by first | with_reducible assumption | omega), z_ret hP hK hD ht hW [0, 1, 2, 3, 4, 5, 6, 7, 8, 9] [] rfl (by decide) rfl⟩⟩, hS.F ht⟩) hS.2.2 dX9_row_44
            · omega
          · have ic_6 := zz_nge rfl (show Int32.toInt 0 = 0 from by decide) c_6
            refine lv_bipush (v := (-3)) hx hb dX9_row_29 (by decide) ?_
            have zc : Int32.toInt (-3) = (-3) := by decide
            exact W.iret (v := (-3)) hx hb hr (fun t ht hW => by rw [← hQe]; exact ⟨⟨(-3), (), rfl, (by first | with_reducible assumption | omega), ⟨r0_width, r0_size, f_r0_numbers, r1_width, r1_size, f_r1_numbers, r2_width, r2_size, f_r2_numbers, r3_width, r3_size, f_r3_numbers, (by first | with_reducible assumption | omega), (by first | with_reducible assumption | omega), (by first | with_reducible assumption | omega), (by first | with_reducible assumption | omega), z_ret hP hK hD ht hW [0, 1, 2, 3, 4, 5, 6, 7, 8, 9] [] rfl (by decide) rfl⟩⟩, hS.F ht⟩) hS.2.2 dX9_row_31
        · have ic_5 := zz_nle rfl (show Int32.toInt 60 = 60 from by decide) c_5
          refine lv_bipush (v := (-2)) hx hb dX9_row_22 (by decide) ?_
          have zc : Int32.toInt (-2) = (-2) := by decide
          exact W.iret (v := (-2)) hx hb hr (fun t ht hW => by rw [← hQe]; exact ⟨⟨(-2), (), rfl, (by first | with_reducible assumption | omega), ⟨r0_width, r0_size, f_r0_numbers, r1_width, r1_size, f_r1_numbers, r2_width, r2_size, f_r2_numbers, r3_width, r3_size, f_r3_numbers, (by first | with_reducible assumption | omega), (by first | with_reducible assumption | omega), (by first | with_reducible assumption | omega), (by first | with_reducible assumption | omega), z_ret hP hK hD ht hW [0, 1, 2, 3, 4, 5, 6, 7, 8, 9] [] rfl (by decide) rfl⟩⟩, hS.F ht⟩) hS.2.2 dX9_row_24
