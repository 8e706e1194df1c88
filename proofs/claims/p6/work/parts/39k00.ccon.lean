set_option linter.all false
set_option maxHeartbeats 4000000 in
set_option maxRecDepth 100000 in
theorem kf_X9_has (l : Launch) (sa : Nat → Nat) (dC : Nat → ClassId) (dI : Nat → Nat → Nat) (p1 : Int32) (p2 : Int32)  (sz : Nat) : Met l yX9_has (.code yX9_has cX9_has 2 (some .boolean) :: zT) ({ frames := 0, cells := 0, slots := 0, locals := 0 }) (va_Pc [.int p1, .int p2] (zB sa dC dI [] [] sz)) (va_Qi (fun (r : Int32) (_ : Unit) => (0 ≤ r.toInt ∧ r.toInt ≤ 1) ∧ r = (F_X9_has p1 p2)) (fun _ t => zW dC dI [] [] (va_A [] sz) t) (va_A [] sz)) 0 0 (va_A [] sz) := by
  refine z_enter (by decide) (by exact (Nat.le_of_ble_eq_true rfl)) ?_
  intro p e s m args below meth c ls A R Qc hargs hsz hQe hAe hRe hx hb hml hr hts hown hlocks hin hl hP hK hD hN hXs hA hS
  rw [hAe] at hQe
  have hown : s.vm.findClass RX9 = some m.cls := hown
  have hl : lv_has ls 2 [(0, .int p1), (1, .int p2)] := hl
  obtain ⟨RR, hRR⟩ : ∃ z : Int32, z = (F_X9_has p1 p2) := ⟨_, rfl⟩
  have hF : RR = (F_X9_has p1 p2) := hRR
  refine lv_iload_n hx hb dX9_has_0 rfl (lv_at hl 0 rfl) ?_
  refine lv_iload_n hx hb dX9_has_1 rfl (lv_at hl 1 rfl) ?_
  refine lv_ishr hx hb dX9_has_2 ?_
  refine lv_topi (fun x_1 ex_1 => ?_)
  replace hF := hF.trans (zL_eq ex_1)
  refine lv_iconst (v := 1) hx hb dX9_has_3 (by decide) ?_
  refine lv_iand hx hb dX9_has_4 ?_
  refine lv_topi (fun x_2 ex_2 => ?_)
  replace hF := hF.trans (zL_eq ex_2)
  have b_x_2 : 0 ≤ x_2.toInt ∧ x_2.toInt ≤ 1 := by rw [ex_2]; exact zi_andR (show Int32.toInt 1 = 1 from by decide) (by first | with_reducible assumption | omega) (by first | with_reducible assumption | omega)
  refine lv_if_eq (tgt := 12) hx hb dX9_has_5 (by decide) (fun c_3 => ?_) (fun c_3 => ?_)
  · have ic_3 := zz_eq rfl (show Int32.toInt 0 = 0 from by decide) c_3
    replace hF := hF.trans (if_pos c_3)
    refine lv_iconst (v := 0) hx hb dX9_has_12 (by decide) ?_
    have hF : RR = (0 : Int32) := hF
    have zc : Int32.toInt 0 = 0 := by decide
    exact W.zret (v := 0) hx hb hr (by decide) (fun t ht hW => by rw [← hQe]; exact ⟨⟨0, (), rfl, ⟨by decide, (by rw [← hRR, hF])⟩, z_ret hP hK hD ht hW [] [] rfl (by decide) rfl⟩, hS.F ht⟩) hS.2.2 dX9_has_13
  · have ic_3 := zz_neq rfl (show Int32.toInt 0 = 0 from by decide) c_3
    replace hF := hF.trans (if_neg c_3)
    refine lv_iconst (v := 1) hx hb dX9_has_8 (by decide) ?_
    refine lv_goto (tgt := 13) hx hb dX9_has_9 (by decide) ?_
    have hF : RR = (1 : Int32) := hF
    have zc : Int32.toInt 1 = 1 := by decide
    exact W.zret (v := 1) hx hb hr (by decide) (fun t ht hW => by rw [← hQe]; exact ⟨⟨1, (), rfl, ⟨by decide, (by rw [← hRR, hF])⟩, z_ret hP hK hD ht hW [] [] rfl (by decide) rfl⟩, hS.F ht⟩) hS.2.2 dX9_has_13
set_option maxHeartbeats 4000000 in
set_option maxRecDepth 100000 in
theorem kf_J0_coder_7d493 (l : Launch) (sa : Nat → Nat) (dC : Nat → ClassId) (dI : Nat → Nat → Nat) (wi : Nat) (hwi : wi < 14) (sz : Nat) : Met l yJ0_coder_7d493 (.code yJ0_coder_7d493 cJ0_coder_7d493 1 (some .byte) :: zT) ({ frames := 0, cells := 0, slots := 0, locals := 0 }) (va_Pc [.ref (sa (2 + 2 * wi))] (zB sa dC dI [] [] sz)) (va_Qi (fun (r : Int32) (_ : Unit) => (0 ≤ r.toInt ∧ r.toInt ≤ 0) ∧ r = F_J0_coder_7d493) (fun _ t => zW dC dI [] [] (va_A [] sz) t) (va_A [] sz)) 0 0 (va_A [] sz) := by
  refine z_enter (by decide) (by exact (Nat.le_of_ble_eq_true rfl)) ?_
  intro p e s m args below meth c ls A R Qc hargs hsz hQe hAe hRe hx hb hml hr hts hown hlocks hin hl hP hK hD hN hXs hA hS
  rw [hAe] at hQe
  have hown : s.vm.findClass RJ0 = some m.cls := hown
  have hl : lv_has ls 1 [(0, .ref (sa (2 + 2 * wi)))] := hl
  obtain ⟨RR, hRR⟩ : ∃ z : Int32, z = F_J0_coder_7d493 := ⟨_, rfl⟩
  have hF : RR = F_J0_coder_7d493 := hRR
  refine va_gets hx hb hXs.2.2.2.2.1 hS hown (hts _ zw_t3_49) (fun _ h9 => h9) dJ0_coder_7d493_0 ?_
  refine lv_if_eq (tgt := 13) hx hb dJ0_coder_7d493_3 (by decide) (fun q => absurd q (by decide)) (fun _ => ?_)
  refine lv_aload_n hx hb dJ0_coder_7d493_6 rfl (lv_at hl 0 rfl) ?_
  refine vk_getf hx hb ((hXs.2.2.2.2.2.2.1.1 wi hwi).2.1) hS hown (hts _ zw_t9_90) (fun _ h9 => h9) dJ0_coder_7d493_7 ?_
  refine lv_goto (tgt := 14) hx hb dJ0_coder_7d493_10 (by decide) ?_
  have hF : RR = (0 : Int32) := hF
  have zc : Int32.toInt 0 = 0 := by decide
  exact W.zret (v := 0) hx hb hr (by decide) (fun t ht hW => by rw [← hQe]; exact ⟨⟨0, (), rfl, ⟨by decide, (by rw [← hRR, hF])⟩, z_ret hP hK hD ht hW [] [] rfl (by decide) rfl⟩, hS.F ht⟩) hS.2.2 dJ0_coder_7d493_14
set_option maxHeartbeats 4000000 in
set_option maxRecDepth 100000 in
theorem kf_J0_length_8abf5 (l : Launch) (sa : Nat → Nat) (dC : Nat → ClassId) (dI : Nat → Nat → Nat) (wi : Nat) (hwi : wi < 14) (sz : Nat) : Met l yJ0_length_8abf5 (.code yJ0_length_8abf5 cJ0_length_8abf5 1 (some .int) :: zT) ({ frames := 1, cells := 0, slots := 0, locals := 20 }) (va_Pc [.ref (sa (2 + 2 * wi))] (zB sa dC dI [] [] sz)) (va_Qi (fun (r : Int32) (_ : Unit) => (2 ≤ r.toInt ∧ r.toInt ≤ 6) ∧ r.toInt = ((zLen.getD wi 0 : Nat) : Int) ∧ r = (F_J0_length_8abf5 wi)) (fun _ t => zW dC dI [] [] (va_A [] sz) t) (va_A [] sz)) 0 0 (va_A [] sz) := by
  refine z_enter (by decide) (by exact (Nat.le_of_ble_eq_true rfl)) ?_
  intro p e s m args below meth c ls A R Qc hargs hsz hQe hAe hRe hx hb hml hr hts hown hlocks hin hl hP hK hD hN hXs hA hS
  rw [hAe] at hQe
  have hown : s.vm.findClass RJ0 = some m.cls := hown
  have hl : lv_has ls 1 [(0, .ref (sa (2 + 2 * wi)))] := hl
  obtain ⟨RR, hRR⟩ : ∃ z : Int32, z = (F_J0_length_8abf5 wi) := ⟨_, rfl⟩
  have hF : RR = (F_J0_length_8abf5 wi) := hRR
  refine lv_aload_n hx hb dJ0_length_8abf5_0 rfl (lv_at hl 0 rfl) ?_
  refine vk_getf hx hb ((hXs.2.2.2.2.2.2.1.1 wi hwi).2.2.1) hS hown (hts _ zw_t9_89) (fun _ h9 => h9) dJ0_length_8abf5_1 ?_
  refine va_tlen hx hb ((hXs.2.2.2.2.2.2.1.1 wi hwi).2.2.2) hS rfl dJ0_length_8abf5_4 ?_
  refine lv_topi (fun x_1 ex_1 => ?_)
  replace hF := hF.trans (zL_eq ex_1)
  have b_x_1 : x_1.toInt = ((zLen.getD wi 0 : Nat) : Int) ∧ 2 ≤ x_1.toInt ∧ x_1.toInt ≤ 6 := by rw [ex_1]; exact zLen_b wi hwi
  refine lv_aload_n hx hb dJ0_length_8abf5_5 rfl (lv_at hl 0 rfl) ?_
  obtain ⟨hPc, hDc, hFc⟩ := z_cut (wc := []) hP hD hS hA [] rfl (by decide +kernel)
  have hKc := hK.sub (tys' := []) [] rfl
  refine va_calli (va_runV (As := []) (rest := [.int x_1]) ⟨hx, hb, hml, hown, hts⟩ (kf_J0_coder_7d493 l sa dC dI wi hwi s.heap.size) (cwV 0 hts (z_gV zw_t3_45 zw_t3_46 zw_t3_47 zw_t1_13 zw_t3_48) rfl rfl rfl (by decide +kernel) (by rw [← hRe]; exact ⟨(Nat.le_of_ble_eq_true rfl), (Nat.le_of_ble_eq_true rfl)⟩)) (z_preK hPc hKc hDc hN hXs hS hFc (vk_recv (adK := fun i => sa (2 + 2 * i)) (i := wi) hXs.2.2.2.2.2.2.1 hwi hS)) rfl rfl hl.1 rfl (lv_room (Nat.le_of_ble_eq_true rfl)) dJ0_length_8abf5_6 (by rw [← hRe]; exact ⟨(Nat.le_of_ble_eq_true rfl), (Nat.le_of_ble_eq_true rfl)⟩)) hS (fun q _ h => hFc q h) hFc (fun r_2 u t H1 locs ht hvm hw hB hz1 hk1 hS => ?_)
  obtain ⟨hP, hD, hK⟩ := z_after3 (wn := []) hB ht hvm hP hD hK [] [] rfl 0 rfl (by decide +kernel) rfl (by decide +kernel) hk1 hFc
  generalize H1 = H at hP hS ⊢
  have hK : va_K (dC, dI) vwCl [] s := hK
  have b_r_2 : 0 ≤ r_2.toInt ∧ r_2.toInt ≤ 0 := hw.1
  have sf_r_2 := hw.2
  replace hF := hF.trans (zL_eq sf_r_2)
  refine lv_ishr hx hb dJ0_length_8abf5_9 ?_
  refine lv_topi (fun x_3 ex_3 => ?_)
  replace hF := hF.trans (zL_eq ex_3)
  have b_x_3 : x_3.toInt = x_1.toInt := by rw [ex_3]; exact zi_shr0 rfl rfl (by first | with_reducible assumption | omega)
  have hF : RR = x_3 := hF
  exact W.iret (v := x_3) hx hb hr (fun t ht hW => by rw [← hQe]; exact ⟨⟨x_3, (), rfl, ⟨by omega, ⟨by omega, (by rw [← hRR, hF])⟩⟩, z_ret hP hK hD ht hW [] [] rfl (by decide) rfl⟩, hS.F ht⟩) hS.2.2 dJ0_length_8abf5_10
set_option maxHeartbeats 4000000 in
set_option maxRecDepth 100000 in
theorem kf_J0_isLatin1_aae02 (l : Launch) (sa : Nat → Nat) (dC : Nat → ClassId) (dI : Nat → Nat → Nat) (wi : Nat) (hwi : wi < 14) (sz : Nat) : Met l yJ0_isLatin1_aae02 (.code yJ0_isLatin1_aae02 cJ0_isLatin1_aae02 1 (some .boolean) :: zT) ({ frames := 0, cells := 0, slots := 0, locals := 0 }) (va_Pc [.ref (sa (2 + 2 * wi))] (zB sa dC dI [] [] sz)) (va_Qi (fun (r : Int32) (_ : Unit) => (1 ≤ r.toInt ∧ r.toInt ≤ 1) ∧ r = F_J0_isLatin1_aae02) (fun _ t => zW dC dI [] [] (va_A [] sz) t) (va_A [] sz)) 0 0 (va_A [] sz) := by
  refine z_enter (by decide) (by exact (Nat.le_of_ble_eq_true rfl)) ?_
  intro p e s m args below meth c ls A R Qc hargs hsz hQe hAe hRe hx hb hml hr hts hown hlocks hin hl hP hK hD hN hXs hA hS
  rw [hAe] at hQe
  have hown : s.vm.findClass RJ0 = some m.cls := hown
  have hl : lv_has ls 1 [(0, .ref (sa (2 + 2 * wi)))] := hl
  obtain ⟨RR, hRR⟩ : ∃ z : Int32, z = F_J0_isLatin1_aae02 := ⟨_, rfl⟩
  have hF : RR = F_J0_isLatin1_aae02 := hRR
  refine va_gets hx hb hXs.2.2.2.2.1 hS hown (hts _ zw_t3_49) (fun _ h9 => h9) dJ0_isLatin1_aae02_0 ?_
  refine lv_if_eq (tgt := 17) hx hb dJ0_isLatin1_aae02_3 (by decide) (fun q => absurd q (by decide)) (fun _ => ?_)
  refine lv_aload_n hx hb dJ0_isLatin1_aae02_6 rfl (lv_at hl 0 rfl) ?_
  refine vk_getf hx hb ((hXs.2.2.2.2.2.2.1.1 wi hwi).2.1) hS hown (hts _ zw_t9_90) (fun _ h9 => h9) dJ0_isLatin1_aae02_7 ?_
  refine lv_if_ne (tgt := 17) hx hb dJ0_isLatin1_aae02_10 (by decide) (fun q => absurd q (by decide)) (fun _ => ?_)
  refine lv_iconst (v := 1) hx hb dJ0_isLatin1_aae02_13 (by decide) ?_
  refine lv_goto (tgt := 18) hx hb dJ0_isLatin1_aae02_14 (by decide) ?_
  have hF : RR = (1 : Int32) := hF
  have zc : Int32.toInt 1 = 1 := by decide
  exact W.zret (v := 1) hx hb hr (by decide) (fun t ht hW => by rw [← hQe]; exact ⟨⟨1, (), rfl, ⟨by decide, (by rw [← hRR, hF])⟩, z_ret hP hK hD ht hW [] [] rfl (by decide) rfl⟩, hS.F ht⟩) hS.2.2 dJ0_isLatin1_aae02_18
set_option maxHeartbeats 4000000 in
set_option maxRecDepth 100000 in
theorem kf_J1_charAt_3b067 (l : Launch) (sa : Nat → Nat) (dC : Nat → ClassId) (dI : Nat → Nat → Nat) (p1 : Int32) (wi : Nat) (b_p1 : 0 ≤ p1.toInt ∧ p1.toInt ≤ 5) (hwi : wi < 14) (hep_0 : p1.toInt < ((zLen.getD wi 0 : Nat) : Int)) (sz : Nat) : Met l yJ1_charAt_3b067 (.code yJ1_charAt_3b067 cJ1_charAt_3b067 2 (some .char) :: zT) ({ frames := 2, cells := 0, slots := 0, locals := 43 }) (va_Pc [.ref (sa (3 + 2 * wi)), .int p1] (zB sa dC dI [] [] sz)) (va_Qi (fun (r : Int32) (_ : Unit) => (0 ≤ r.toInt ∧ r.toInt ≤ 255) ∧ r = (F_J1_charAt_3b067 p1 wi)) (fun _ t => zW dC dI [] [] (va_A [] sz) t) (va_A [] sz)) 0 0 (va_A [] sz) := by
  refine z_enter (by decide) (by exact (Nat.le_of_ble_eq_true rfl)) ?_
  intro p e s m args below meth c ls A R Qc hargs hsz hQe hAe hRe hx hb hml hr hts hown hlocks hin hl hP hK hD hN hXs hA hS
  rw [hAe] at hQe
  have hown : s.vm.findClass RJ1 = some m.cls := hown
  have hl : lv_has ls 2 [(0, .ref (sa (3 + 2 * wi))), (1, .int p1)] := hl
  obtain ⟨RR, hRR⟩ : ∃ z : Int32, z = (F_J1_charAt_3b067 p1 wi) := ⟨_, rfl⟩
  have hF : RR = (F_J1_charAt_3b067 p1 wi) := hRR
  refine lv_iload_n hx hb dJ1_charAt_3b067_0 rfl (lv_at hl 1 rfl) ?_
  refine lv_aload_n hx hb dJ1_charAt_3b067_1 rfl (lv_at hl 0 rfl) ?_
  refine va_tlen hx hb ((hXs.2.2.2.2.2.2.1.1 wi hwi).2.2.2) hS rfl dJ1_charAt_3b067_2 ?_
  refine lv_topi (fun x_1 ex_1 => ?_)
  replace hF := hF.trans (zL_eq ex_1)
  have b_x_1 : x_1.toInt = ((zLen.getD wi 0 : Nat) : Int) ∧ 2 ≤ x_1.toInt ∧ x_1.toInt ≤ 6 := by rw [ex_1]; exact zLen_b wi hwi
  obtain ⟨hPc, hDc, hFc⟩ := z_cut (wc := []) hP hD hS hA [] rfl (by decide +kernel)
  have hKc := hK.sub (tys' := []) [] rfl
  refine va_callv (va_runS (As := [.int p1, .int x_1]) (rest := []) ⟨hx, hb, hml, hown, hts⟩ (k_J0_checkIndex_df160 l sa dC dI p1 x_1 b_p1 (by first | with_reducible assumption | omega) (by first | assumption | omega) s.heap.size) (va_cwS 2 hts (z_gS zw_t3_62 zw_t3_63 zw_t1_13 zw_t3_64) rfl rfl rfl (by decide +kernel) (by rw [← hRe]; exact ⟨(Nat.le_of_ble_eq_true rfl), (Nat.le_of_ble_eq_true rfl)⟩)) (z_preS hPc hKc hDc hN hXs hS hFc) rfl rfl hl.1 rfl (lv_room (Nat.le_of_ble_eq_true rfl)) dJ1_charAt_3b067_3 (by rw [← hRe]; exact ⟨(Nat.le_of_ble_eq_true rfl), (Nat.le_of_ble_eq_true rfl)⟩)) hS (fun q _ h => hFc q h) hFc (fun u t H1 locs ht hvm hw hB hz1 hk1 hS => ?_)
  obtain ⟨hP, hD, hK⟩ := z_after3 (wn := []) hB ht hvm hP hD hK [] [] rfl 0 rfl (by decide +kernel) rfl (by decide +kernel) hk1 hFc
  generalize H1 = H at hP hS ⊢
  have hK : va_K (dC, dI) vwCl [] s := hK
  refine lv_aload_n hx hb dJ1_charAt_3b067_6 rfl (lv_at hl 0 rfl) ?_
  refine lv_iload_n hx hb dJ1_charAt_3b067_7 rfl (lv_at hl 1 rfl) ?_
  refine va_tb hx hb ((hXs.2.2.2.2.2.2.1.1 wi hwi).2.2.2) hS (vp_in_iff.mpr ⟨by omega, by omega⟩) rfl dJ1_charAt_3b067_8 ?_
  refine lv_topi (fun x_3 ex_3 => ?_)
  replace hF := hF.trans (zL_eq ex_3)
  refine lv_sipush (v := 255) hx hb dJ1_charAt_3b067_9 (by decide) ?_
  refine lv_iand hx hb dJ1_charAt_3b067_12 ?_
  refine lv_topi (fun x_4 ex_4 => ?_)
  replace hF := hF.trans (zL_eq ex_4)
  have b_x_4 : 0 ≤ x_4.toInt ∧ x_4.toInt ≤ 255 := by rw [ex_4]; exact zi_andR (show Int32.toInt 255 = 255 from by decide) (by first | with_reducible assumption | omega) (by first | with_reducible assumption | omega)
  refine lv_i2c (v := _) hx hb dJ1_charAt_3b067_13 rfl ?_
  refine lv_topi (fun x_5 ex_5 => ?_)
  replace hF := hF.trans (zL_eq ex_5)
  have b_x_5 : x_5.toInt = x_4.toInt := by rw [ex_5]; exact zi_i2c rfl (by first | with_reducible assumption | omega)
  have hF : RR = x_5 := hF
  exact W.zret (v := x_5) hx hb hr (zi_char (by first | with_reducible assumption | omega)) (fun t ht hW => by rw [← hQe]; exact ⟨⟨x_5, (), rfl, ⟨by omega, (by rw [← hRR, hF])⟩, z_ret hP hK hD ht hW [] [] rfl (by decide) rfl⟩, hS.F ht⟩) hS.2.2 dJ1_charAt_3b067_14
set_option maxHeartbeats 4000000 in
set_option maxRecDepth 100000 in
theorem kf_J0_charAt_5068e (l : Launch) (sa : Nat → Nat) (dC : Nat → ClassId) (dI : Nat → Nat → Nat) (p1 : Int32) (wi : Nat) (b_p1 : 0 ≤ p1.toInt ∧ p1.toInt ≤ 5) (hwi : wi < 14) (hep_0 : p1.toInt < ((zLen.getD wi 0 : Nat) : Int)) (sz : Nat) : Met l yJ0_charAt_5068e (.code yJ0_charAt_5068e cJ0_charAt_5068e 2 (some .char) :: zT) ({ frames := 3, cells := 0, slots := 0, locals := 64 }) (va_Pc [.ref (sa (2 + 2 * wi)), .int p1] (zB sa dC dI [] [] sz)) (va_Qi (fun (r : Int32) (_ : Unit) => (0 ≤ r.toInt ∧ r.toInt ≤ 255) ∧ r = (F_J0_charAt_5068e p1 wi)) (fun _ t => zW dC dI [] [] (va_A [] sz) t) (va_A [] sz)) 0 0 (va_A [] sz) := by
  refine z_enter (by decide) (by exact (Nat.le_of_ble_eq_true rfl)) ?_
  intro p e s m args below meth c ls A R Qc hargs hsz hQe hAe hRe hx hb hml hr hts hown hlocks hin hl hP hK hD hN hXs hA hS
  rw [hAe] at hQe
  have hown : s.vm.findClass RJ0 = some m.cls := hown
  have hl : lv_has ls 2 [(0, .ref (sa (2 + 2 * wi))), (1, .int p1)] := hl
  obtain ⟨RR, hRR⟩ : ∃ z : Int32, z = (F_J0_charAt_5068e p1 wi) := ⟨_, rfl⟩
  have hF : RR = (F_J0_charAt_5068e p1 wi) := hRR
  refine lv_aload_n hx hb dJ0_charAt_5068e_0 rfl (lv_at hl 0 rfl) ?_
  obtain ⟨hPc, hDc, hFc⟩ := z_cut (wc := []) hP hD hS hA [] rfl (by decide +kernel)
  have hKc := hK.sub (tys' := []) [] rfl
  refine va_calli (va_runV (As := []) (rest := []) ⟨hx, hb, hml, hown, hts⟩ (kf_J0_isLatin1_aae02 l sa dC dI wi hwi s.heap.size) (cwV 0 hts (z_gV zw_t3_55 zw_t3_56 zw_t3_57 zw_t1_13 zw_t3_58) rfl rfl rfl (by decide +kernel) (by rw [← hRe]; exact ⟨(Nat.le_of_ble_eq_true rfl), (Nat.le_of_ble_eq_true rfl)⟩)) (z_preK hPc hKc hDc hN hXs hS hFc (vk_recv (adK := fun i => sa (2 + 2 * i)) (i := wi) hXs.2.2.2.2.2.2.1 hwi hS)) rfl rfl hl.1 rfl (lv_room (Nat.le_of_ble_eq_true rfl)) dJ0_charAt_5068e_1 (by rw [← hRe]; exact ⟨(Nat.le_of_ble_eq_true rfl), (Nat.le_of_ble_eq_true rfl)⟩)) hS (fun q _ h => hFc q h) hFc (fun r_1 u t H1 locs ht hvm hw hB hz1 hk1 hS => ?_)
  obtain ⟨hP, hD, hK⟩ := z_after3 (wn := []) hB ht hvm hP hD hK [] [] rfl 0 rfl (by decide +kernel) rfl (by decide +kernel) hk1 hFc
  generalize H1 = H at hP hS ⊢
  have hK : va_K (dC, dI) vwCl [] s := hK
  have b_r_1 : 1 ≤ r_1.toInt ∧ r_1.toInt ≤ 1 := hw.1
  have sf_r_1 := hw.2
  replace hF := hF.trans (zL_eq sf_r_1)
  refine lv_if_eq (tgt := 16) hx hb dJ0_charAt_5068e_4 (by decide) (fun q => absurd (zz_eq rfl (show Int32.toInt 0 = 0 from by decide) q) (by first | with_reducible assumption | omega)) (fun c_2 => ?_)
  have ic_2 := zz_neq rfl (show Int32.toInt 0 = 0 from by decide) c_2
  refine lv_aload_n hx hb dJ0_charAt_5068e_7 rfl (lv_at hl 0 rfl) ?_
  refine vk_getf hx hb ((hXs.2.2.2.2.2.2.1.1 wi hwi).2.2.1) hS hown (hts _ zw_t9_89) (fun _ h9 => h9) dJ0_charAt_5068e_8 ?_
  refine lv_iload_n hx hb dJ0_charAt_5068e_11 rfl (lv_at hl 1 rfl) ?_
  obtain ⟨hPc, hDc, hFc⟩ := z_cut (wc := []) hP hD hS hA [] rfl (by decide +kernel)
  have hKc := hK.sub (tys' := []) [] rfl
  refine va_calli (va_runS (As := [.ref (sa (3 + 2 * wi)), .int p1]) (rest := []) ⟨hx, hb, hml, hown, hts⟩ (kf_J1_charAt_3b067 l sa dC dI p1 wi b_p1 hwi (by first | assumption | omega) H.size) (va_cwS 2 hts (z_gS zw_t3_59 zw_t3_60 zw_t1_14 zw_t3_61) rfl rfl rfl (by decide +kernel) (by rw [← hRe]; exact ⟨(Nat.le_of_ble_eq_true rfl), (Nat.le_of_ble_eq_true rfl)⟩)) (z_preS hPc hKc hDc hN hXs hS hFc) rfl rfl hl.1 rfl (lv_room (Nat.le_of_ble_eq_true rfl)) dJ0_charAt_5068e_12 (by rw [← hRe]; exact ⟨(Nat.le_of_ble_eq_true rfl), (Nat.le_of_ble_eq_true rfl)⟩)) hS (fun q _ h => hFc q h) hFc (fun r_3 u t H1 locs ht hvm hw hB hz1 hk1 hS => ?_)
  obtain ⟨hP, hD, hK⟩ := z_after3 (wn := []) hB ht hvm hP hD hK [] [] rfl 0 rfl (by decide +kernel) rfl (by decide +kernel) hk1 hFc
  generalize H1 = H at hP hS ⊢
  have hK : va_K (dC, dI) vwCl [] s := hK
  have b_r_3 : 0 ≤ r_3.toInt ∧ r_3.toInt ≤ 255 := hw.1
  have sf_r_3 := hw.2
  replace hF := hF.trans (zL_eq sf_r_3)
  have hF : RR = r_3 := hF
  exact W.zret (v := r_3) hx hb hr (zi_char (by first | with_reducible assumption | omega)) (fun t ht hW => by rw [← hQe]; exact ⟨⟨r_3, (), rfl, ⟨by omega, (by rw [← hRR, hF])⟩, z_ret hP hK hD ht hW [] [] rfl (by decide) rfl⟩, hS.F ht⟩) hS.2.2 dJ0_charAt_5068e_15
set_option maxHeartbeats 4000000 in
set_option maxRecDepth 100000 in
theorem kf_X5_kindOf (l : Launch) (sa : Nat → Nat) (dC : Nat → ClassId) (dI : Nat → Nat → Nat) (p0 : Int32)  (sz : Nat) : Met l yX5_kindOf (.code yX5_kindOf cX5_kindOf 1 (some .int) :: zT) ({ frames := 0, cells := 0, slots := 0, locals := 0 }) (va_Pc [.int p0] (zB sa dC dI [] [] sz)) (va_Qi (fun (r : Int32) (_ : Unit) => (0 ≤ r.toInt ∧ r.toInt ≤ 4) ∧ (¬ r.toInt = 2 ∨ (48 ≤ p0.toInt ∧ p0.toInt ≤ 57)) ∧ r = (F_X5_kindOf p0)) (fun _ t => zW dC dI [] [] (va_A [] sz) t) (va_A [] sz)) 0 0 (va_A [] sz) := by
  refine z_enter (by decide) (by exact (Nat.le_of_ble_eq_true rfl)) ?_
  intro p e s m args below meth c ls A R Qc hargs hsz hQe hAe hRe hx hb hml hr hts hown hlocks hin hl hP hK hD hN hXs hA hS
  rw [hAe] at hQe
  have hown : s.vm.findClass RX5 = some m.cls := hown
  have hl : lv_has ls 1 [(0, .int p0)] := hl
  obtain ⟨RR, hRR⟩ : ∃ z : Int32, z = (F_X5_kindOf p0) := ⟨_, rfl⟩
  have hF : RR = (F_X5_kindOf p0) := hRR
  refine lv_iload_n hx hb dX5_kindOf_0 rfl (lv_at hl 0 rfl) ?_
  refine lv_bipush (v := 32) hx hb dX5_kindOf_1 (by decide) ?_
  have nb_p0 := zi_nb p0
  refine lv_icmp_eq (tgt := 12) hx hb dX5_kindOf_3 (by decide) (fun c_1 => ?_) (fun c_1 => ?_)
  · have ic_1 := zz_eq rfl (show Int32.toInt 32 = 32 from by decide) c_1
    replace hF := hF.trans (if_pos c_1)
    refine lv_iconst (v := 0) hx hb dX5_kindOf_12 (by decide) ?_
    have hF : RR = (0 : Int32) := hF
    have zc : Int32.toInt 0 = 0 := by decide
    exact W.iret (v := 0) hx hb hr (fun t ht hW => by rw [← hQe]; exact ⟨⟨0, (), rfl, ⟨by decide, ⟨by omega, (by rw [← hRR, hF])⟩⟩, z_ret hP hK hD ht hW [] [] rfl (by decide) rfl⟩, hS.F ht⟩) hS.2.2 dX5_kindOf_13
  · have ic_1 := zz_neq rfl (show Int32.toInt 32 = 32 from by decide) c_1
    replace hF := hF.trans (if_neg c_1)
    refine lv_iload_n hx hb dX5_kindOf_6 rfl (lv_at hl 0 rfl) ?_
    refine lv_bipush (v := 10) hx hb dX5_kindOf_7 (by decide) ?_
    refine lv_icmp_ne (tgt := 14) hx hb dX5_kindOf_9 (by decide) (fun c_2 => ?_) (fun c_2 => ?_)
    · have ic_2 := zz_ne rfl (show Int32.toInt 10 = 10 from by decide) c_2
      replace hF := hF.trans (if_neg c_2)
      refine lv_iload_n hx hb dX5_kindOf_14 rfl (lv_at hl 0 rfl) ?_
      refine lv_bipush (v := 97) hx hb dX5_kindOf_15 (by decide) ?_
      refine lv_icmp_lt (tgt := 28) hx hb dX5_kindOf_17 (by decide) (fun c_3 => ?_) (fun c_3 => ?_)
      · have ic_3 := zz_lt rfl (show Int32.toInt 97 = 97 from by decide) c_3
        replace hF := hF.trans (if_pos c_3)
        refine lv_iload_n hx hb dX5_kindOf_28 rfl (lv_at hl 0 rfl) ?_
        refine lv_bipush (v := 48) hx hb dX5_kindOf_29 (by decide) ?_
        refine lv_icmp_lt (tgt := 42) hx hb dX5_kindOf_31 (by decide) (fun c_4 => ?_) (fun c_4 => ?_)
        · have ic_4 := zz_lt rfl (show Int32.toInt 48 = 48 from by decide) c_4
          replace hF := hF.trans (if_pos c_4)
          refine lv_iload_n hx hb dX5_kindOf_42 rfl (lv_at hl 0 rfl) ?_
          refine lv_bipush (v := 59) hx hb dX5_kindOf_43 (by decide) ?_
          refine lv_icmp_ne (tgt := 52) hx hb dX5_kindOf_45 (by decide) (fun c_5 => ?_) (fun q => absurd (zz_nne rfl (show Int32.toInt 59 = 59 from by decide) q) (by first | with_reducible assumption | omega))
          have ic_5 := zz_ne rfl (show Int32.toInt 59 = 59 from by decide) c_5
          refine lv_iconst (v := 4) hx hb dX5_kindOf_52 (by decide) ?_
          have hF : RR = (4 : Int32) := hF
          have zc : Int32.toInt 4 = 4 := by decide
          exact W.iret (v := 4) hx hb hr (fun t ht hW => by rw [← hQe]; exact ⟨⟨4, (), rfl, ⟨by decide, ⟨by omega, (by rw [← hRR, hF])⟩⟩, z_ret hP hK hD ht hW [] [] rfl (by decide) rfl⟩, hS.F ht⟩) hS.2.2 dX5_kindOf_53
        · have ic_4 := zz_nlt rfl (show Int32.toInt 48 = 48 from by decide) c_4
          replace hF := hF.trans (if_neg c_4)
          refine lv_iload_n hx hb dX5_kindOf_34 rfl (lv_at hl 0 rfl) ?_
          refine lv_bipush (v := 57) hx hb dX5_kindOf_35 (by decide) ?_
          refine lv_icmp_gt (tgt := 42) hx hb dX5_kindOf_37 (by decide) (fun c_6 => ?_) (fun c_6 => ?_)
          · have ic_6 := zz_gt rfl (show Int32.toInt 57 = 57 from by decide) c_6
            replace hF := hF.trans (if_pos c_6)
            refine lv_iload_n hx hb dX5_kindOf_42 rfl (lv_at hl 0 rfl) ?_
            refine lv_bipush (v := 59) hx hb dX5_kindOf_43 (by decide) ?_
            refine lv_icmp_ne (tgt := 52) hx hb dX5_kindOf_45 (by decide) (fun c_7 => ?_) (fun c_7 => ?_)
            · have ic_7 := zz_ne rfl (show Int32.toInt 59 = 59 from by decide) c_7
              replace hF := hF.trans (if_neg c_7)
              refine lv_iconst (v := 4) hx hb dX5_kindOf_52 (by decide) ?_
              have hF : RR = (4 : Int32) := hF
              have zc : Int32.toInt 4 = 4 := by decide
              exact W.iret (v := 4) hx hb hr (fun t ht hW => by rw [← hQe]; exact ⟨⟨4, (), rfl, ⟨by decide, ⟨by omega, (by rw [← hRR, hF])⟩⟩, z_ret hP hK hD ht hW [] [] rfl (by decide) rfl⟩, hS.F ht⟩) hS.2.2 dX5_kindOf_53
            · have ic_7 := zz_nne rfl (show Int32.toInt 59 = 59 from by decide) c_7
              replace hF := hF.trans (if_pos c_7)
              refine lv_iconst (v := 3) hx hb dX5_kindOf_48 (by decide) ?_
              refine lv_goto (tgt := 53) hx hb dX5_kindOf_49 (by decide) ?_
              have hF : RR = (3 : Int32) := hF
              have zc : Int32.toInt 3 = 3 := by decide
              exact W.iret (v := 3) hx hb hr (fun t ht hW => by rw [← hQe]; exact ⟨⟨3, (), rfl, ⟨by decide, ⟨by omega, (by rw [← hRR, hF])⟩⟩, z_ret hP hK hD ht hW [] [] rfl (by decide) rfl⟩, hS.F ht⟩) hS.2.2 dX5_kindOf_53
          · have ic_6 := zz_ngt rfl (show Int32.toInt 57 = 57 from by decide) c_6
            replace hF := hF.trans (if_neg c_6)
            refine lv_iconst (v := 2) hx hb dX5_kindOf_40 (by decide) ?_
            have hF : RR = (2 : Int32) := hF
            have zc : Int32.toInt 2 = 2 := by decide
            exact W.iret (v := 2) hx hb hr (fun t ht hW => by rw [← hQe]; exact ⟨⟨2, (), rfl, ⟨by decide, ⟨by omega, (by rw [← hRR, hF])⟩⟩, z_ret hP hK hD ht hW [] [] rfl (by decide) rfl⟩, hS.F ht⟩) hS.2.2 dX5_kindOf_41
      · have ic_3 := zz_nlt rfl (show Int32.toInt 97 = 97 from by decide) c_3
        replace hF := hF.trans (if_neg c_3)
        refine lv_iload_n hx hb dX5_kindOf_20 rfl (lv_at hl 0 rfl) ?_
        refine lv_bipush (v := 122) hx hb dX5_kindOf_21 (by decide) ?_
        refine lv_icmp_gt (tgt := 28) hx hb dX5_kindOf_23 (by decide) (fun c_8 => ?_) (fun c_8 => ?_)
        · have ic_8 := zz_gt rfl (show Int32.toInt 122 = 122 from by decide) c_8
          replace hF := hF.trans (if_pos c_8)
          refine lv_iload_n hx hb dX5_kindOf_28 rfl (lv_at hl 0 rfl) ?_
          refine lv_bipush (v := 48) hx hb dX5_kindOf_29 (by decide) ?_
          refine lv_icmp_lt (tgt := 42) hx hb dX5_kindOf_31 (by decide) (fun q => absurd (zz_lt rfl (show Int32.toInt 48 = 48 from by decide) q) (by first | with_reducible assumption | omega)) (fun c_9 => ?_)
          have ic_9 := zz_nlt rfl (show Int32.toInt 48 = 48 from by decide) c_9
          refine lv_iload_n hx hb dX5_kindOf_34 rfl (lv_at hl 0 rfl) ?_
          refine lv_bipush (v := 57) hx hb dX5_kindOf_35 (by decide) ?_
          refine lv_icmp_gt (tgt := 42) hx hb dX5_kindOf_37 (by decide) (fun c_10 => ?_) (fun q => absurd (zz_ngt rfl (show Int32.toInt 57 = 57 from by decide) q) (by first | with_reducible assumption | omega))
          have ic_10 := zz_gt rfl (show Int32.toInt 57 = 57 from by decide) c_10
          refine lv_iload_n hx hb dX5_kindOf_42 rfl (lv_at hl 0 rfl) ?_
          refine lv_bipush (v := 59) hx hb dX5_kindOf_43 (by decide) ?_
          refine lv_icmp_ne (tgt := 52) hx hb dX5_kindOf_45 (by decide) (fun c_11 => ?_) (fun q => absurd (zz_nne rfl (show Int32.toInt 59 = 59 from by decide) q) (by first | with_reducible assumption | omega))
          have ic_11 := zz_ne rfl (show Int32.toInt 59 = 59 from by decide) c_11
          refine lv_iconst (v := 4) hx hb dX5_kindOf_52 (by decide) ?_
          have hF : RR = (4 : Int32) := hF
          have zc : Int32.toInt 4 = 4 := by decide
          exact W.iret (v := 4) hx hb hr (fun t ht hW => by rw [← hQe]; exact ⟨⟨4, (), rfl, ⟨by decide, ⟨by omega, (by rw [← hRR, hF])⟩⟩, z_ret hP hK hD ht hW [] [] rfl (by decide) rfl⟩, hS.F ht⟩) hS.2.2 dX5_kindOf_53
        · have ic_8 := zz_ngt rfl (show Int32.toInt 122 = 122 from by decide) c_8
          replace hF := hF.trans (if_neg c_8)
          refine lv_iconst (v := 1) hx hb dX5_kindOf_26 (by decide) ?_
          have hF : RR = (1 : Int32) := hF
          have zc : Int32.toInt 1 = 1 := by decide
          exact W.iret (v := 1) hx hb hr (fun t ht hW => by rw [← hQe]; exact ⟨⟨1, (), rfl, ⟨by decide, ⟨by omega, (by rw [← hRR, hF])⟩⟩, z_ret hP hK hD ht hW [] [] rfl (by decide) rfl⟩, hS.F ht⟩) hS.2.2 dX5_kindOf_27
    · have ic_2 := zz_nne rfl (show Int32.toInt 10 = 10 from by decide) c_2
      replace hF := hF.trans (if_pos c_2)
      refine lv_iconst (v := 0) hx hb dX5_kindOf_12 (by decide) ?_
      have hF : RR = (0 : Int32) := hF
      have zc : Int32.toInt 0 = 0 := by decide
      exact W.iret (v := 0) hx hb hr (fun t ht hW => by rw [← hQe]; exact ⟨⟨0, (), rfl, ⟨by decide, ⟨by omega, (by rw [← hRR, hF])⟩⟩, z_ret hP hK hD ht hW [] [] rfl (by decide) rfl⟩, hS.F ht⟩) hS.2.2 dX5_kindOf_13
set_option maxHeartbeats 4000000 in
set_option maxRecDepth 100000 in
theorem kf_X5_addToken (l : Launch) (sa : Nat → Nat) (dC : Nat → ClassId) (dI : Nat → Nat → Nat) (rd : Nat) (p1 : Int32) (p2 : Int32) (rd_fault : Int32) (rd_place : Int32) (tx : Nat) (rd_kinds : Nat) (rd_starts : Nat) (rd_stops : Nat) (rd_values : Nat) (rd_tokens : Int32) (rd_at : Int32) (tn : Nat) (rd_strayCount : Int32) (rd_lawTold : Int32) (rd_falseTold : Int32) (cA_rd_kinds : ClassId) (f_rd_kinds : Nat → Int32) (cA_rd_starts : ClassId) (f_rd_starts : Nat → Int32) (cA_rd_values : ClassId) (f_rd_values : Nat → Int32) (b_p1 : 0 ≤ p1.toInt ∧ p1.toInt ≤ 5) (b_p2 : 0 ≤ p2.toInt ∧ p2.toInt ≤ 1599) (b_rd_tokens : 0 ≤ rd_tokens.toInt ∧ rd_tokens.toInt ≤ 1599) (b_rd_at : 0 ≤ rd_at.toInt ∧ rd_at.toInt ≤ 1600) (b_rd_strayCount : 0 ≤ rd_strayCount.toInt ∧ rd_strayCount.toInt ≤ 4) (b_rd_lawTold : 0 ≤ rd_lawTold.toInt ∧ rd_lawTold.toInt ≤ 1) (b_rd_falseTold : 0 ≤ rd_falseTold.toInt ∧ rd_falseTold.toInt ≤ 1) (b_f_rd_kinds : ∀ j : Nat, 0 ≤ (f_rd_kinds j).toInt ∧ (f_rd_kinds j).toInt ≤ 5) (b_f_rd_starts : ∀ j : Nat, 0 ≤ (f_rd_starts j).toInt ∧ (f_rd_starts j).toInt ≤ 1600) (b_f_rd_values : ∀ j : Nat, 0 ≤ (f_rd_values j).toInt ∧ (f_rd_values j).toInt ≤ 100000) (sz : Nat) : Met l yX5_addToken (.code yX5_addToken cX5_addToken 3 none :: zT) ({ frames := 0, cells := 0, slots := 0, locals := 0 }) (va_Pc [.ref rd, .int p1, .int p2] (zB sa dC dI (zV210 rd rd_fault rd_place tx rd_kinds rd_starts rd_stops rd_values rd_tokens rd_at tn rd_strayCount rd_lawTold rd_falseTold rd_kinds cA_rd_kinds f_rd_kinds rd_starts cA_rd_starts f_rd_starts rd_values cA_rd_values f_rd_values) [(cA_rd_kinds, .int), (cA_rd_starts, .int), (cA_rd_values, .int)] sz)) (va_Qv (fun _ : Unit => True) (fun _ t => ∃ (n_rd_7 : Int32) (n_rd_kinds : Nat → Int32) (n_rd_starts : Nat → Int32) (n_rd_values : Nat → Int32), (1 ≤ n_rd_7.toInt ∧ n_rd_7.toInt ≤ 1600) ∧ (∀ j : Nat, 0 ≤ (n_rd_kinds j).toInt ∧ (n_rd_kinds j).toInt ≤ 5) ∧ (∀ j : Nat, 0 ≤ (n_rd_starts j).toInt ∧ (n_rd_starts j).toInt ≤ 1600) ∧ (∀ j : Nat, 0 ≤ (n_rd_values j).toInt ∧ (n_rd_values j).toInt ≤ 100000) ∧ (n_rd_7.toInt = rd_tokens.toInt + 1) ∧ (n_rd_7 = (F_X5_addToken p1 p2 rd_tokens f_rd_kinds f_rd_starts f_rd_values).1) ∧ (n_rd_kinds = (F_X5_addToken p1 p2 rd_tokens f_rd_kinds f_rd_starts f_rd_values).2.1) ∧ (n_rd_starts = (F_X5_addToken p1 p2 rd_tokens f_rd_kinds f_rd_starts f_rd_values).2.2.1) ∧ (n_rd_values = (F_X5_addToken p1 p2 rd_tokens f_rd_kinds f_rd_starts f_rd_values).2.2.2) ∧ zW dC dI (zV210 rd rd_fault rd_place tx rd_kinds rd_starts rd_stops rd_values n_rd_7 rd_at tn rd_strayCount rd_lawTold rd_falseTold rd_kinds cA_rd_kinds n_rd_kinds rd_starts cA_rd_starts n_rd_starts rd_values cA_rd_values n_rd_values) [] (va_A (zV210 rd rd_fault rd_place tx rd_kinds rd_starts rd_stops rd_values rd_tokens rd_at tn rd_strayCount rd_lawTold rd_falseTold rd_kinds cA_rd_kinds f_rd_kinds rd_starts cA_rd_starts f_rd_starts rd_values cA_rd_values f_rd_values) sz) t) (va_A (zV210 rd rd_fault rd_place tx rd_kinds rd_starts rd_stops rd_values rd_tokens rd_at tn rd_strayCount rd_lawTold rd_falseTold rd_kinds cA_rd_kinds f_rd_kinds rd_starts cA_rd_starts f_rd_starts rd_values cA_rd_values f_rd_values) sz)) 0 0 (va_A (zV210 rd rd_fault rd_place tx rd_kinds rd_starts rd_stops rd_values rd_tokens rd_at tn rd_strayCount rd_lawTold rd_falseTold rd_kinds cA_rd_kinds f_rd_kinds rd_starts cA_rd_starts f_rd_starts rd_values cA_rd_values f_rd_values) sz) := by
  refine z_enter (by decide) (by exact (Nat.le_of_ble_eq_true rfl)) ?_
  intro p e s m args below meth c ls A R Qc hargs hsz hQe hAe hRe hx hb hml hr hts hown hlocks hin hl hP hK hD hN hXs hA hS
  rw [hAe] at hQe
  have hown : s.vm.findClass RX5 = some m.cls := hown
  have hl : lv_has ls 3 [(0, .ref rd), (1, .int p1), (2, .int p2)] := hl
  obtain ⟨RR, hRR⟩ : ∃ z : Int32 × (Nat → Int32) × (Nat → Int32) × (Nat → Int32), z = (F_X5_addToken p1 p2 rd_tokens f_rd_kinds f_rd_starts f_rd_values) := ⟨_, rfl⟩
  have hF : RR = (F_X5_addToken p1 p2 rd_tokens f_rd_kinds f_rd_starts f_rd_values) := hRR
  refine lv_aload_n hx hb dX5_addToken_0 rfl (lv_at hl 0 rfl) ?_
  refine va_get (D := (dC, dI)) (ci := 5) (v := .ref rd_kinds) (C := RX5) (T := TX5) (N := 13) hx hb hts zl_X5 hown hK hP 0 rfl rfl 3 (by decide) (hts _ zw_t1_198) (fun _ h9 => h9) rfl dX5_addToken_1 ?_
  refine lv_aload_n hx hb dX5_addToken_4 rfl (lv_at hl 0 rfl) ?_
  refine va_get (D := (dC, dI)) (ci := 5) (v := .int rd_tokens) (C := RX5) (T := TX5) (N := 13) hx hb hts zl_X5 hown hK hP 0 rfl rfl 7 (by decide) (hts _ zw_t1_202) (fun _ h9 => h9) rfl dX5_addToken_5 ?_
  refine lv_iload_n hx hb dX5_addToken_8 rfl (lv_at hl 1 rfl) ?_
  refine va_iast hx hb hK hP hD hS 1 0 rfl rfl (zi_in rfl (by first | with_reducible assumption | omega)) dX5_addToken_9 (fun H locs hP hD hS => ?_)
  obtain ⟨f_1, ef_1⟩ : ∃ g : Nat → Int32, g = upd f_rd_kinds (Int32.toNatClampNeg rd_tokens) p1 := ⟨_, rfl⟩
  replace hF := hF.trans (zL_eq ef_1)
  have b_f_1 : ∀ j : Nat, 0 ≤ (f_1 j).toInt ∧ (f_1 j).toInt ≤ 5 := by rw [ef_1]; exact zi_upd b_f_rd_kinds rfl (by first | with_reducible assumption | omega)
  have hP : va_P (dC, dI) vwCl (zV210 rd rd_fault rd_place tx rd_kinds rd_starts rd_stops rd_values rd_tokens rd_at tn rd_strayCount rd_lawTold rd_falseTold rd_kinds cA_rd_kinds (upd f_rd_kinds (Int32.toNatClampNeg rd_tokens) p1) rd_starts cA_rd_starts f_rd_starts rd_values cA_rd_values f_rd_values) H := hP
  have hD : va_D A (zV210 rd rd_fault rd_place tx rd_kinds rd_starts rd_stops rd_values rd_tokens rd_at tn rd_strayCount rd_lawTold rd_falseTold rd_kinds cA_rd_kinds (upd f_rd_kinds (Int32.toNatClampNeg rd_tokens) p1) rd_starts cA_rd_starts f_rd_starts rd_values cA_rd_values f_rd_values) := hD
  rw [← ef_1] at hP hD
  refine lv_aload_n hx hb dX5_addToken_10 rfl (lv_at hl 0 rfl) ?_
  refine va_get (D := (dC, dI)) (ci := 5) (v := .ref rd_starts) (C := RX5) (T := TX5) (N := 13) hx hb hts zl_X5 hown hK hP 0 rfl rfl 4 (by decide) (hts _ zw_t1_199) (fun _ h9 => h9) rfl dX5_addToken_11 ?_
  refine lv_aload_n hx hb dX5_addToken_14 rfl (lv_at hl 0 rfl) ?_
  refine va_get (D := (dC, dI)) (ci := 5) (v := .int rd_tokens) (C := RX5) (T := TX5) (N := 13) hx hb hts zl_X5 hown hK hP 0 rfl rfl 7 (by decide) (hts _ zw_t1_202) (fun _ h9 => h9) rfl dX5_addToken_15 ?_
  refine lv_iload_n hx hb dX5_addToken_18 rfl (lv_at hl 2 rfl) ?_
  refine va_iast hx hb hK hP hD hS 2 1 rfl rfl (zi_in rfl (by first | with_reducible assumption | omega)) dX5_addToken_19 (fun H locs hP hD hS => ?_)
  obtain ⟨f_2, ef_2⟩ : ∃ g : Nat → Int32, g = upd f_rd_starts (Int32.toNatClampNeg rd_tokens) p2 := ⟨_, rfl⟩
  replace hF := hF.trans (zL_eq ef_2)
  have b_f_2 : ∀ j : Nat, 0 ≤ (f_2 j).toInt ∧ (f_2 j).toInt ≤ 1600 := by rw [ef_2]; exact zi_upd b_f_rd_starts rfl (by first | with_reducible assumption | omega)
  have hP : va_P (dC, dI) vwCl (zV210 rd rd_fault rd_place tx rd_kinds rd_starts rd_stops rd_values rd_tokens rd_at tn rd_strayCount rd_lawTold rd_falseTold rd_kinds cA_rd_kinds f_1 rd_starts cA_rd_starts (upd f_rd_starts (Int32.toNatClampNeg rd_tokens) p2) rd_values cA_rd_values f_rd_values) H := hP
  have hD : va_D A (zV210 rd rd_fault rd_place tx rd_kinds rd_starts rd_stops rd_values rd_tokens rd_at tn rd_strayCount rd_lawTold rd_falseTold rd_kinds cA_rd_kinds f_1 rd_starts cA_rd_starts (upd f_rd_starts (Int32.toNatClampNeg rd_tokens) p2) rd_values cA_rd_values f_rd_values) := hD
  rw [← ef_2] at hP hD
  refine lv_aload_n hx hb dX5_addToken_20 rfl (lv_at hl 0 rfl) ?_
  refine va_get (D := (dC, dI)) (ci := 5) (v := .ref rd_values) (C := RX5) (T := TX5) (N := 13) hx hb hts zl_X5 hown hK hP 0 rfl rfl 6 (by decide) (hts _ zw_t1_201) (fun _ h9 => h9) rfl dX5_addToken_21 ?_
  refine lv_aload_n hx hb dX5_addToken_24 rfl (lv_at hl 0 rfl) ?_
  refine va_get (D := (dC, dI)) (ci := 5) (v := .int rd_tokens) (C := RX5) (T := TX5) (N := 13) hx hb hts zl_X5 hown hK hP 0 rfl rfl 7 (by decide) (hts _ zw_t1_202) (fun _ h9 => h9) rfl dX5_addToken_25 ?_
  refine lv_iconst (v := 0) hx hb dX5_addToken_28 (by decide) ?_
  refine va_iast hx hb hK hP hD hS 3 2 rfl rfl (zi_in rfl (by first | with_reducible assumption | omega)) dX5_addToken_29 (fun H locs hP hD hS => ?_)
  obtain ⟨f_3, ef_3⟩ : ∃ g : Nat → Int32, g = upd f_rd_values (Int32.toNatClampNeg rd_tokens) 0 := ⟨_, rfl⟩
  replace hF := hF.trans (zL_eq ef_3)
  have b_f_3 : ∀ j : Nat, 0 ≤ (f_3 j).toInt ∧ (f_3 j).toInt ≤ 100000 := by rw [ef_3]; exact zi_upd b_f_rd_values (show Int32.toInt 0 = 0 from by decide) (by first | with_reducible assumption | omega)
  have hP : va_P (dC, dI) vwCl (zV210 rd rd_fault rd_place tx rd_kinds rd_starts rd_stops rd_values rd_tokens rd_at tn rd_strayCount rd_lawTold rd_falseTold rd_kinds cA_rd_kinds f_1 rd_starts cA_rd_starts f_2 rd_values cA_rd_values (upd f_rd_values (Int32.toNatClampNeg rd_tokens) 0)) H := hP
  have hD : va_D A (zV210 rd rd_fault rd_place tx rd_kinds rd_starts rd_stops rd_values rd_tokens rd_at tn rd_strayCount rd_lawTold rd_falseTold rd_kinds cA_rd_kinds f_1 rd_starts cA_rd_starts f_2 rd_values cA_rd_values (upd f_rd_values (Int32.toNatClampNeg rd_tokens) 0)) := hD
  rw [← ef_3] at hP hD
  refine lv_aload_n hx hb dX5_addToken_30 rfl (lv_at hl 0 rfl) ?_
  refine lv_dup hx hb dX5_addToken_31 rfl ?_
  refine va_get (D := (dC, dI)) (ci := 5) (v := .int rd_tokens) (C := RX5) (T := TX5) (N := 13) hx hb hts zl_X5 hown hK hP 0 rfl rfl 7 (by decide) (hts _ zw_t1_202) (fun _ h9 => h9) rfl dX5_addToken_32 ?_
  refine lv_iconst (v := 1) hx hb dX5_addToken_35 (by decide) ?_
  refine lv_iadd hx hb dX5_addToken_36 ?_
  refine lv_topi (fun x_4 ex_4 => ?_)
  replace hF := hF.trans (zL_eq ex_4)
  have b_x_4 : x_4.toInt = rd_tokens.toInt + 1 := by rw [ex_4]; exact zi_add rfl (show Int32.toInt 1 = 1 from by decide) (z_rac b_rd_tokens (by decide))
  refine va_put (D := (dC, dI)) (ci := 5) (v := .int x_4) (ty := .int) (C := RX5) (T := TX5) (N := 13) hx hb hts zl_X5 tyX5 tyX5_ok nmX5 hown hK hP hD hS 0 rfl rfl 7 (by decide) (hts _ zw_t1_202) (fun _ h9 => h9) rfl (by decide +kernel) rfl rfl (Nat.le_of_ble_eq_true rfl) dX5_addToken_37 (fun H locs hP hD hS => ?_)
  have hP : va_P (dC, dI) vwCl (zV210 rd rd_fault rd_place tx rd_kinds rd_starts rd_stops rd_values x_4 rd_at tn rd_strayCount rd_lawTold rd_falseTold rd_kinds cA_rd_kinds f_1 rd_starts cA_rd_starts f_2 rd_values cA_rd_values f_3) H := hP
  have hD : va_D A (zV210 rd rd_fault rd_place tx rd_kinds rd_starts rd_stops rd_values x_4 rd_at tn rd_strayCount rd_lawTold rd_falseTold rd_kinds cA_rd_kinds f_1 rd_starts cA_rd_starts f_2 rd_values cA_rd_values f_3) := hD
  have hF : RR = (x_4, f_1, f_2, f_3) := hF
  exact W.vret hx hb hr (fun t ht hW => by rw [← hQe]; exact ⟨⟨(), rfl, trivial, ⟨x_4, f_1, f_2, f_3, (by first | with_reducible assumption | omega), b_f_1, b_f_2, b_f_3, (by first | omega | assumption), (by rw [← hRR, hF]), (by rw [← hRR, hF]), (by rw [← hRR, hF]), (by rw [← hRR, hF]), z_ret hP hK hD ht hW [0, 1, 2, 3] [] rfl (by decide) rfl⟩⟩, hS.F ht⟩) hS.2.2 dX5_addToken_40
set_option maxHeartbeats 4000000 in
set_option maxRecDepth 100000 in
theorem kf_X5_blame (l : Launch) (sa : Nat → Nat) (dC : Nat → ClassId) (dI : Nat → Nat → Nat) (rd : Nat) (p1 : Int32) (rd_fault : Int32) (rd_place : Int32) (tx : Nat) (rd_kinds : Nat) (rd_starts : Nat) (rd_stops : Nat) (rd_values : Nat) (rd_tokens : Int32) (rd_at : Int32) (tn : Nat) (rd_strayCount : Int32) (rd_lawTold : Int32) (rd_falseTold : Int32) (cA_rd_starts : ClassId) (f_rd_starts : Nat → Int32) (b_p1 : 1 ≤ p1.toInt ∧ p1.toInt ≤ 3) (b_rd_tokens : 0 ≤ rd_tokens.toInt ∧ rd_tokens.toInt ≤ 1600) (b_rd_at : 0 ≤ rd_at.toInt ∧ rd_at.toInt ≤ 1600) (b_rd_strayCount : 0 ≤ rd_strayCount.toInt ∧ rd_strayCount.toInt ≤ 4) (b_rd_lawTold : 0 ≤ rd_lawTold.toInt ∧ rd_lawTold.toInt ≤ 1) (b_rd_falseTold : 0 ≤ rd_falseTold.toInt ∧ rd_falseTold.toInt ≤ 1) (b_f_rd_starts : ∀ j : Nat, 0 ≤ (f_rd_starts j).toInt ∧ (f_rd_starts j).toInt ≤ 1600) (sz : Nat) : Met l yX5_blame (.code yX5_blame cX5_blame 2 none :: zT) ({ frames := 0, cells := 0, slots := 0, locals := 0 }) (va_Pc [.ref rd, .int p1] (zB sa dC dI (zV211 rd rd_fault rd_place tx rd_kinds rd_starts rd_stops rd_values rd_tokens rd_at tn rd_strayCount rd_lawTold rd_falseTold rd_starts cA_rd_starts f_rd_starts) [(cA_rd_starts, .int)] sz)) (va_Qv (fun _ : Unit => True) (fun _ t => ∃ (n_rd_0 : Int32) (n_rd_1 : Int32), (¬ n_rd_0.toInt = 0) ∧ (n_rd_0 = (F_X5_blame p1 rd_fault rd_place rd_at f_rd_starts).1) ∧ (n_rd_1 = (F_X5_blame p1 rd_fault rd_place rd_at f_rd_starts).2) ∧ zW dC dI (zV211 rd n_rd_0 n_rd_1 tx rd_kinds rd_starts rd_stops rd_values rd_tokens rd_at tn rd_strayCount rd_lawTold rd_falseTold rd_starts cA_rd_starts f_rd_starts) [] (va_A (zV211 rd rd_fault rd_place tx rd_kinds rd_starts rd_stops rd_values rd_tokens rd_at tn rd_strayCount rd_lawTold rd_falseTold rd_starts cA_rd_starts f_rd_starts) sz) t) (va_A (zV211 rd rd_fault rd_place tx rd_kinds rd_starts rd_stops rd_values rd_tokens rd_at tn rd_strayCount rd_lawTold rd_falseTold rd_starts cA_rd_starts f_rd_starts) sz)) 0 0 (va_A (zV211 rd rd_fault rd_place tx rd_kinds rd_starts rd_stops rd_values rd_tokens rd_at tn rd_strayCount rd_lawTold rd_falseTold rd_starts cA_rd_starts f_rd_starts) sz) := by
  refine z_enter (by decide) (by exact (Nat.le_of_ble_eq_true rfl)) ?_
  intro p e s m args below meth c ls A R Qc hargs hsz hQe hAe hRe hx hb hml hr hts hown hlocks hin hl hP hK hD hN hXs hA hS
  rw [hAe] at hQe
  have hown : s.vm.findClass RX5 = some m.cls := hown
  have hl : lv_has ls 2 [(0, .ref rd), (1, .int p1)] := hl
  obtain ⟨RR, hRR⟩ : ∃ z : Int32 × Int32, z = (F_X5_blame p1 rd_fault rd_place rd_at f_rd_starts) := ⟨_, rfl⟩
  have hF : RR = (F_X5_blame p1 rd_fault rd_place rd_at f_rd_starts) := hRR
  refine lv_aload_n hx hb dX5_blame_0 rfl (lv_at hl 0 rfl) ?_
  refine va_get (D := (dC, dI)) (ci := 5) (v := .int rd_fault) (C := RX5) (T := TX5) (N := 13) hx hb hts zl_X5 hown hK hP 0 rfl rfl 0 (by decide) (hts _ zw_t1_193) (fun _ h9 => h9) rfl dX5_blame_1 ?_
  have nb_rd_fault := zi_nb rd_fault
  refine lv_if_ne (tgt := 25) hx hb dX5_blame_4 (by decide) (fun c_1 => ?_) (fun c_1 => ?_)
  · have ic_1 := zz_ne rfl (show Int32.toInt 0 = 0 from by decide) c_1
    replace hF := hF.trans (if_neg c_1)
    have hF : RR = (rd_fault, rd_place) := hF
    exact W.vret hx hb hr (fun t ht hW => by rw [← hQe]; exact ⟨⟨(), rfl, trivial, ⟨rd_fault, rd_place, (by first | omega | assumption), (by rw [← hRR, hF]), (by rw [← hRR, hF]), z_ret hP hK hD ht hW [0, 1] [] rfl (by decide) rfl⟩⟩, hS.F ht⟩) hS.2.2 dX5_blame_25
  · have ic_1 := zz_nne rfl (show Int32.toInt 0 = 0 from by decide) c_1
    replace hF := hF.trans (if_pos c_1)
    refine lv_aload_n hx hb dX5_blame_7 rfl (lv_at hl 0 rfl) ?_
    refine lv_iload_n hx hb dX5_blame_8 rfl (lv_at hl 1 rfl) ?_
    refine va_put (D := (dC, dI)) (ci := 5) (v := .int p1) (ty := .int) (C := RX5) (T := TX5) (N := 13) hx hb hts zl_X5 tyX5 tyX5_ok nmX5 hown hK hP hD hS 0 rfl rfl 0 (by decide) (hts _ zw_t1_193) (fun _ h9 => h9) rfl (by decide +kernel) rfl rfl (Nat.le_of_ble_eq_true rfl) dX5_blame_9 (fun H locs hP hD hS => ?_)
    have hP : va_P (dC, dI) vwCl (zV211 rd p1 rd_place tx rd_kinds rd_starts rd_stops rd_values rd_tokens rd_at tn rd_strayCount rd_lawTold rd_falseTold rd_starts cA_rd_starts f_rd_starts) H := hP
    have hD : va_D A (zV211 rd p1 rd_place tx rd_kinds rd_starts rd_stops rd_values rd_tokens rd_at tn rd_strayCount rd_lawTold rd_falseTold rd_starts cA_rd_starts f_rd_starts) := hD
    refine lv_aload_n hx hb dX5_blame_12 rfl (lv_at hl 0 rfl) ?_
    refine lv_aload_n hx hb dX5_blame_13 rfl (lv_at hl 0 rfl) ?_
    refine va_get (D := (dC, dI)) (ci := 5) (v := .ref rd_starts) (C := RX5) (T := TX5) (N := 13) hx hb hts zl_X5 hown hK hP 0 rfl rfl 4 (by decide) (hts _ zw_t1_199) (fun _ h9 => h9) rfl dX5_blame_14 ?_
    refine lv_aload_n hx hb dX5_blame_17 rfl (lv_at hl 0 rfl) ?_
    refine va_get (D := (dC, dI)) (ci := 5) (v := .int rd_at) (C := RX5) (T := TX5) (N := 13) hx hb hts zl_X5 hown hK hP 0 rfl rfl 8 (by decide) (hts _ zw_t1_203) (fun _ h9 => h9) rfl dX5_blame_18 ?_
    refine va_iald hx hb hK hP 1 0 rfl rfl (zi_in rfl (by first | with_reducible assumption | omega)) dX5_blame_21 ?_
    refine lv_topi (fun x_2 ex_2 => ?_)
    replace hF := hF.trans (zL_eq ex_2)
    have b_x_2 : 0 ≤ x_2.toInt ∧ x_2.toInt ≤ 1600 := by rw [ex_2]; exact b_f_rd_starts _
    refine va_put (D := (dC, dI)) (ci := 5) (v := .int x_2) (ty := .int) (C := RX5) (T := TX5) (N := 13) hx hb hts zl_X5 tyX5 tyX5_ok nmX5 hown hK hP hD hS 0 rfl rfl 1 (by decide) (hts _ zw_t1_195) (fun _ h9 => h9) rfl (by decide +kernel) rfl rfl (Nat.le_of_ble_eq_true rfl) dX5_blame_22 (fun H locs hP hD hS => ?_)
    have hP : va_P (dC, dI) vwCl (zV211 rd p1 x_2 tx rd_kinds rd_starts rd_stops rd_values rd_tokens rd_at tn rd_strayCount rd_lawTold rd_falseTold rd_starts cA_rd_starts f_rd_starts) H := hP
    have hD : va_D A (zV211 rd p1 x_2 tx rd_kinds rd_starts rd_stops rd_values rd_tokens rd_at tn rd_strayCount rd_lawTold rd_falseTold rd_starts cA_rd_starts f_rd_starts) := hD
    have hF : RR = (p1, x_2) := hF
    exact W.vret hx hb hr (fun t ht hW => by rw [← hQe]; exact ⟨⟨(), rfl, trivial, ⟨p1, x_2, (by first | omega | assumption), (by rw [← hRR, hF]), (by rw [← hRR, hF]), z_ret hP hK hD ht hW [0, 1] [] rfl (by decide) rfl⟩⟩, hS.F ht⟩) hS.2.2 dX5_blame_25
set_option maxHeartbeats 4000000 in
set_option maxRecDepth 100000 in
theorem kf_X5_advance (l : Launch) (sa : Nat → Nat) (dC : Nat → ClassId) (dI : Nat → Nat → Nat) (rd : Nat) (rd_fault : Int32) (rd_place : Int32) (tx : Nat) (rd_kinds : Nat) (rd_starts : Nat) (rd_stops : Nat) (rd_values : Nat) (rd_tokens : Int32) (rd_at : Int32) (tn : Nat) (rd_strayCount : Int32) (rd_lawTold : Int32) (rd_falseTold : Int32) (b_rd_tokens : 0 ≤ rd_tokens.toInt ∧ rd_tokens.toInt ≤ 1600) (b_rd_at : 0 ≤ rd_at.toInt ∧ rd_at.toInt ≤ 1600) (b_rd_strayCount : 0 ≤ rd_strayCount.toInt ∧ rd_strayCount.toInt ≤ 4) (b_rd_lawTold : 0 ≤ rd_lawTold.toInt ∧ rd_lawTold.toInt ≤ 1) (b_rd_falseTold : 0 ≤ rd_falseTold.toInt ∧ rd_falseTold.toInt ≤ 1) (sz : Nat) : Met l yX5_advance (.code yX5_advance cX5_advance 1 none :: zT) ({ frames := 0, cells := 0, slots := 0, locals := 0 }) (va_Pc [.ref rd] (zB sa dC dI (zV212 rd rd_fault rd_place tx rd_kinds rd_starts rd_stops rd_values rd_tokens rd_at tn rd_strayCount rd_lawTold rd_falseTold) [] sz)) (va_Qv (fun _ : Unit => True) (fun _ t => ∃ (n_rd_8 : Int32), (0 ≤ n_rd_8.toInt ∧ n_rd_8.toInt ≤ 1600) ∧ (n_rd_8 = (F_X5_advance rd_fault rd_tokens rd_at)) ∧ zW dC dI (zV212 rd rd_fault rd_place tx rd_kinds rd_starts rd_stops rd_values rd_tokens n_rd_8 tn rd_strayCount rd_lawTold rd_falseTold) [] (va_A (zV212 rd rd_fault rd_place tx rd_kinds rd_starts rd_stops rd_values rd_tokens rd_at tn rd_strayCount rd_lawTold rd_falseTold) sz) t) (va_A (zV212 rd rd_fault rd_place tx rd_kinds rd_starts rd_stops rd_values rd_tokens rd_at tn rd_strayCount rd_lawTold rd_falseTold) sz)) 0 0 (va_A (zV212 rd rd_fault rd_place tx rd_kinds rd_starts rd_stops rd_values rd_tokens rd_at tn rd_strayCount rd_lawTold rd_falseTold) sz) := by
  refine z_enter (by decide) (by exact (Nat.le_of_ble_eq_true rfl)) ?_
  intro p e s m args below meth c ls A R Qc hargs hsz hQe hAe hRe hx hb hml hr hts hown hlocks hin hl hP hK hD hN hXs hA hS
  rw [hAe] at hQe
  have hown : s.vm.findClass RX5 = some m.cls := hown
  have hl : lv_has ls 1 [(0, .ref rd)] := hl
  obtain ⟨RR, hRR⟩ : ∃ z : Int32, z = (F_X5_advance rd_fault rd_tokens rd_at) := ⟨_, rfl⟩
  have hF : RR = (F_X5_advance rd_fault rd_tokens rd_at) := hRR
  refine lv_aload_n hx hb dX5_advance_0 rfl (lv_at hl 0 rfl) ?_
  refine va_get (D := (dC, dI)) (ci := 5) (v := .int rd_fault) (C := RX5) (T := TX5) (N := 13) hx hb hts zl_X5 hown hK hP 0 rfl rfl 0 (by decide) (hts _ zw_t1_193) (fun _ h9 => h9) rfl dX5_advance_1 ?_
  have nb_rd_fault := zi_nb rd_fault
  refine lv_if_ne (tgt := 28) hx hb dX5_advance_4 (by decide) (fun c_1 => ?_) (fun c_1 => ?_)
  · have ic_1 := zz_ne rfl (show Int32.toInt 0 = 0 from by decide) c_1
    replace hF := hF.trans (if_neg c_1)
    have hF : RR = rd_at := hF
    exact W.vret hx hb hr (fun t ht hW => by rw [← hQe]; exact ⟨⟨(), rfl, trivial, ⟨rd_at, (by first | with_reducible assumption | omega), (by rw [← hRR, hF]), z_ret hP hK hD ht hW [0] [] rfl (by decide) rfl⟩⟩, hS.F ht⟩) hS.2.2 dX5_advance_28
  · have ic_1 := zz_nne rfl (show Int32.toInt 0 = 0 from by decide) c_1
    replace hF := hF.trans (if_pos c_1)
    refine lv_aload_n hx hb dX5_advance_7 rfl (lv_at hl 0 rfl) ?_
    refine va_get (D := (dC, dI)) (ci := 5) (v := .int rd_at) (C := RX5) (T := TX5) (N := 13) hx hb hts zl_X5 hown hK hP 0 rfl rfl 8 (by decide) (hts _ zw_t1_203) (fun _ h9 => h9) rfl dX5_advance_8 ?_
    refine lv_aload_n hx hb dX5_advance_11 rfl (lv_at hl 0 rfl) ?_
    refine va_get (D := (dC, dI)) (ci := 5) (v := .int rd_tokens) (C := RX5) (T := TX5) (N := 13) hx hb hts zl_X5 hown hK hP 0 rfl rfl 7 (by decide) (hts _ zw_t1_202) (fun _ h9 => h9) rfl dX5_advance_12 ?_
    refine lv_icmp_ge (tgt := 28) hx hb dX5_advance_15 (by decide) (fun c_2 => ?_) (fun c_2 => ?_)
    · have ic_2 := zz_ge rfl rfl c_2
      replace hF := hF.trans (if_pos c_2)
      have hF : RR = rd_at := hF
      exact W.vret hx hb hr (fun t ht hW => by rw [← hQe]; exact ⟨⟨(), rfl, trivial, ⟨rd_at, (by first | with_reducible assumption | omega), (by rw [← hRR, hF]), z_ret hP hK hD ht hW [0] [] rfl (by decide) rfl⟩⟩, hS.F ht⟩) hS.2.2 dX5_advance_28
    · have ic_2 := zz_nge rfl rfl c_2
      replace hF := hF.trans (if_neg c_2)
      refine lv_aload_n hx hb dX5_advance_18 rfl (lv_at hl 0 rfl) ?_
      refine lv_dup hx hb dX5_advance_19 rfl ?_
      refine va_get (D := (dC, dI)) (ci := 5) (v := .int rd_at) (C := RX5) (T := TX5) (N := 13) hx hb hts zl_X5 hown hK hP 0 rfl rfl 8 (by decide) (hts _ zw_t1_203) (fun _ h9 => h9) rfl dX5_advance_20 ?_
      refine lv_iconst (v := 1) hx hb dX5_advance_23 (by decide) ?_
      refine lv_iadd hx hb dX5_advance_24 ?_
      refine lv_topi (fun x_3 ex_3 => ?_)
      replace hF := hF.trans (zL_eq ex_3)
      have b_x_3 : x_3.toInt = rd_at.toInt + 1 := by rw [ex_3]; exact zi_add rfl (show Int32.toInt 1 = 1 from by decide) (z_rac b_rd_at (by decide))
      refine va_put (D := (dC, dI)) (ci := 5) (v := .int x_3) (ty := .int) (C := RX5) (T := TX5) (N := 13) hx hb hts zl_X5 tyX5 tyX5_ok nmX5 hown hK hP hD hS 0 rfl rfl 8 (by decide) (hts _ zw_t1_203) (fun _ h9 => h9) rfl (by decide +kernel) rfl rfl (Nat.le_of_ble_eq_true rfl) dX5_advance_25 (fun H locs hP hD hS => ?_)
      have hP : va_P (dC, dI) vwCl (zV212 rd rd_fault rd_place tx rd_kinds rd_starts rd_stops rd_values rd_tokens x_3 tn rd_strayCount rd_lawTold rd_falseTold) H := hP
      have hD : va_D A (zV212 rd rd_fault rd_place tx rd_kinds rd_starts rd_stops rd_values rd_tokens x_3 tn rd_strayCount rd_lawTold rd_falseTold) := hD
      have hF : RR = x_3 := hF
      exact W.vret hx hb hr (fun t ht hW => by rw [← hQe]; exact ⟨⟨(), rfl, trivial, ⟨x_3, (by first | with_reducible assumption | omega), (by rw [← hRR, hF]), z_ret hP hK hD ht hW [0] [] rfl (by decide) rfl⟩⟩, hS.F ht⟩) hS.2.2 dX5_advance_28
set_option maxHeartbeats 4000000 in
set_option maxRecDepth 100000 in
theorem kf_X5_isWord (l : Launch) (sa : Nat → Nat) (dC : Nat → ClassId) (dI : Nat → Nat → Nat) (rd : Nat) (rd_fault : Int32) (rd_place : Int32) (tx : Nat) (rd_kinds : Nat) (rd_starts : Nat) (rd_stops : Nat) (rd_values : Nat) (rd_tokens : Int32) (rd_at : Int32) (tn : Nat) (rd_strayCount : Int32) (rd_lawTold : Int32) (rd_falseTold : Int32) (cA_rd_kinds : ClassId) (f_rd_kinds : Nat → Int32) (cA_rd_starts : ClassId) (f_rd_starts : Nat → Int32) (cA_rd_stops : ClassId) (f_rd_stops : Nat → Int32) (cA_tx : ClassId) (f_tx : Nat → Int32) (wi : Nat) (b_rd_tokens : 0 ≤ rd_tokens.toInt ∧ rd_tokens.toInt ≤ 1600) (b_rd_at : 0 ≤ rd_at.toInt ∧ rd_at.toInt ≤ 1600) (b_rd_strayCount : 0 ≤ rd_strayCount.toInt ∧ rd_strayCount.toInt ≤ 4) (b_rd_lawTold : 0 ≤ rd_lawTold.toInt ∧ rd_lawTold.toInt ≤ 1) (b_rd_falseTold : 0 ≤ rd_falseTold.toInt ∧ rd_falseTold.toInt ≤ 1) (b_f_rd_kinds : ∀ j : Nat, 0 ≤ (f_rd_kinds j).toInt ∧ (f_rd_kinds j).toInt ≤ 5) (b_f_rd_starts : ∀ j : Nat, 0 ≤ (f_rd_starts j).toInt ∧ (f_rd_starts j).toInt ≤ 1600) (b_f_rd_stops : ∀ j : Nat, 0 ≤ (f_rd_stops j).toInt ∧ (f_rd_stops j).toInt ≤ 1600) (hwi : wi < 14) (sz : Nat) : Met l yX5_isWord (.code yX5_isWord cX5_isWord 3 (some .boolean) :: zT) ({ frames := 4, cells := 0, slots := 0, locals := 85 }) (va_Pc [.ref rd, .ref (sa (2 + 2 * wi))] (zB sa dC dI (zV213 rd rd_fault rd_place tx rd_kinds rd_starts rd_stops rd_values rd_tokens rd_at tn rd_strayCount rd_lawTold rd_falseTold rd_kinds cA_rd_kinds f_rd_kinds rd_starts cA_rd_starts f_rd_starts rd_stops cA_rd_stops f_rd_stops tx cA_tx f_tx) [(cA_rd_kinds, .int), (cA_rd_starts, .int), (cA_rd_stops, .int), (cA_tx, .byte)] sz)) (va_Qi (fun (r : Int32) (_ : Unit) => (0 ≤ r.toInt ∧ r.toInt ≤ 1) ∧ r = (F_X5_isWord rd_at f_rd_kinds f_rd_starts f_rd_stops f_tx wi)) (fun _ t => zW dC dI (zV213 rd rd_fault rd_place tx rd_kinds rd_starts rd_stops rd_values rd_tokens rd_at tn rd_strayCount rd_lawTold rd_falseTold rd_kinds cA_rd_kinds f_rd_kinds rd_starts cA_rd_starts f_rd_starts rd_stops cA_rd_stops f_rd_stops tx cA_tx f_tx) [] (va_A (zV213 rd rd_fault rd_place tx rd_kinds rd_starts rd_stops rd_values rd_tokens rd_at tn rd_strayCount rd_lawTold rd_falseTold rd_kinds cA_rd_kinds f_rd_kinds rd_starts cA_rd_starts f_rd_starts rd_stops cA_rd_stops f_rd_stops tx cA_tx f_tx) sz) t) (va_A (zV213 rd rd_fault rd_place tx rd_kinds rd_starts rd_stops rd_values rd_tokens rd_at tn rd_strayCount rd_lawTold rd_falseTold rd_kinds cA_rd_kinds f_rd_kinds rd_starts cA_rd_starts f_rd_starts rd_stops cA_rd_stops f_rd_stops tx cA_tx f_tx) sz)) 0 0 (va_A (zV213 rd rd_fault rd_place tx rd_kinds rd_starts rd_stops rd_values rd_tokens rd_at tn rd_strayCount rd_lawTold rd_falseTold rd_kinds cA_rd_kinds f_rd_kinds rd_starts cA_rd_starts f_rd_starts rd_stops cA_rd_stops f_rd_stops tx cA_tx f_tx) sz) := by
  refine z_enter (by decide) (by exact (Nat.le_of_ble_eq_true rfl)) ?_
  intro p e s m args below meth c ls A R Qc hargs hsz hQe hAe hRe hx hb hml hr hts hown hlocks hin hl hP hK hD hN hXs hA hS
  rw [hAe] at hQe
  have hown : s.vm.findClass RX5 = some m.cls := hown
  have hl : lv_has ls 3 [(0, .ref rd), (1, .ref (sa (2 + 2 * wi)))] := hl
  obtain ⟨RR, hRR⟩ : ∃ z : Int32, z = (F_X5_isWord rd_at f_rd_kinds f_rd_starts f_rd_stops f_tx wi) := ⟨_, rfl⟩
  have hF : RR = (F_X5_isWord rd_at f_rd_kinds f_rd_starts f_rd_stops f_tx wi) := hRR
  refine lv_aload_n hx hb dX5_isWord_0 rfl (lv_at hl 0 rfl) ?_
  refine va_get (D := (dC, dI)) (ci := 5) (v := .ref rd_kinds) (C := RX5) (T := TX5) (N := 13) hx hb hts zl_X5 hown hK hP 0 rfl rfl 3 (by decide) (hts _ zw_t1_198) (fun _ h9 => h9) rfl dX5_isWord_1 ?_
  refine lv_aload_n hx hb dX5_isWord_4 rfl (lv_at hl 0 rfl) ?_
  refine va_get (D := (dC, dI)) (ci := 5) (v := .int rd_at) (C := RX5) (T := TX5) (N := 13) hx hb hts zl_X5 hown hK hP 0 rfl rfl 8 (by decide) (hts _ zw_t1_203) (fun _ h9 => h9) rfl dX5_isWord_5 ?_
  refine va_iald hx hb hK hP 1 0 rfl rfl (zi_in rfl (by first | with_reducible assumption | omega)) dX5_isWord_8 ?_
  refine lv_topi (fun x_1 ex_1 => ?_)
  replace hF := hF.trans (zL_eq ex_1)
  have b_x_1 : 0 ≤ x_1.toInt ∧ x_1.toInt ≤ 5 := by rw [ex_1]; exact b_f_rd_kinds _
  refine lv_iconst (v := 1) hx hb dX5_isWord_9 (by decide) ?_
  refine lv_icmp_ne (tgt := 39) hx hb dX5_isWord_10 (by decide) (fun c_2 => ?_) (fun c_2 => ?_)
  · have ic_2 := zz_ne rfl (show Int32.toInt 1 = 1 from by decide) c_2
    replace hF := hF.trans (if_neg c_2)
    refine lv_iconst (v := 0) hx hb dX5_isWord_39 (by decide) ?_
    have hF : RR = (0 : Int32) := hF
    have zc : Int32.toInt 0 = 0 := by decide
    exact W.zret (v := 0) hx hb hr (by decide) (fun t ht hW => by rw [← hQe]; exact ⟨⟨0, (), rfl, ⟨by decide, (by rw [← hRR, hF])⟩, z_ret hP hK hD ht hW [0, 1, 2, 3, 4] [] rfl (by decide) rfl⟩, hS.F ht⟩) hS.2.2 dX5_isWord_40
  · have ic_2 := zz_nne rfl (show Int32.toInt 1 = 1 from by decide) c_2
    replace hF := hF.trans (if_pos c_2)
    refine lv_aload_n hx hb dX5_isWord_13 rfl (lv_at hl 0 rfl) ?_
    refine va_get (D := (dC, dI)) (ci := 5) (v := .ref rd_stops) (C := RX5) (T := TX5) (N := 13) hx hb hts zl_X5 hown hK hP 0 rfl rfl 5 (by decide) (hts _ zw_t1_200) (fun _ h9 => h9) rfl dX5_isWord_14 ?_
    refine lv_aload_n hx hb dX5_isWord_17 rfl (lv_at hl 0 rfl) ?_
    refine va_get (D := (dC, dI)) (ci := 5) (v := .int rd_at) (C := RX5) (T := TX5) (N := 13) hx hb hts zl_X5 hown hK hP 0 rfl rfl 8 (by decide) (hts _ zw_t1_203) (fun _ h9 => h9) rfl dX5_isWord_18 ?_
    refine va_iald hx hb hK hP 3 2 rfl rfl (zi_in rfl (by first | with_reducible assumption | omega)) dX5_isWord_21 ?_
    refine lv_topi (fun x_3 ex_3 => ?_)
    replace hF := hF.trans (zL_eq ex_3)
    have b_x_3 : 0 ≤ x_3.toInt ∧ x_3.toInt ≤ 1600 := by rw [ex_3]; exact b_f_rd_stops _
    refine lv_aload_n hx hb dX5_isWord_22 rfl (lv_at hl 0 rfl) ?_
    refine va_get (D := (dC, dI)) (ci := 5) (v := .ref rd_starts) (C := RX5) (T := TX5) (N := 13) hx hb hts zl_X5 hown hK hP 0 rfl rfl 4 (by decide) (hts _ zw_t1_199) (fun _ h9 => h9) rfl dX5_isWord_23 ?_
    refine lv_aload_n hx hb dX5_isWord_26 rfl (lv_at hl 0 rfl) ?_
    refine va_get (D := (dC, dI)) (ci := 5) (v := .int rd_at) (C := RX5) (T := TX5) (N := 13) hx hb hts zl_X5 hown hK hP 0 rfl rfl 8 (by decide) (hts _ zw_t1_203) (fun _ h9 => h9) rfl dX5_isWord_27 ?_
    refine va_iald hx hb hK hP 2 1 rfl rfl (zi_in rfl (by first | with_reducible assumption | omega)) dX5_isWord_30 ?_
    refine lv_topi (fun x_4 ex_4 => ?_)
    replace hF := hF.trans (zL_eq ex_4)
    have b_x_4 : 0 ≤ x_4.toInt ∧ x_4.toInt ≤ 1600 := by rw [ex_4]; exact b_f_rd_starts _
    refine lv_isub hx hb dX5_isWord_31 ?_
    refine lv_topi (fun x_5 ex_5 => ?_)
    replace hF := hF.trans (zL_eq ex_5)
    have b_x_5 : x_5.toInt = x_3.toInt - x_4.toInt := by rw [ex_5]; exact zi_sub rfl rfl (by first | with_reducible assumption | omega)
    refine lv_aload_n hx hb dX5_isWord_32 rfl (lv_at hl 1 rfl) ?_
    obtain ⟨hPc, hDc, hFc⟩ := z_cut (wc := []) hP hD hS hA [] rfl (by decide +kernel)
    have hKc := hK.sub (tys' := []) [] rfl
    refine va_calli (va_runV (As := []) (rest := [.int x_5]) ⟨hx, hb, hml, hown, hts⟩ (kf_J0_length_8abf5 l sa dC dI wi hwi s.heap.size) (cwV 0 hts (z_gV zw_t3_41 zw_t3_42 zw_t3_43 zw_t1_13 zw_t3_44) rfl rfl rfl (by decide +kernel) (by rw [← hRe]; exact ⟨(Nat.le_of_ble_eq_true rfl), (Nat.le_of_ble_eq_true rfl)⟩)) (z_preK hPc hKc hDc hN hXs hS hFc (vk_recv (adK := fun i => sa (2 + 2 * i)) (i := wi) hXs.2.2.2.2.2.2.1 hwi hS)) rfl rfl hl.1 rfl (lv_room (Nat.le_of_ble_eq_true rfl)) dX5_isWord_33 (by rw [← hRe]; exact ⟨(Nat.le_of_ble_eq_true rfl), (Nat.le_of_ble_eq_true rfl)⟩)) hS (fun q _ h => hFc q h) hFc (fun r_6 u t H1 locs ht hvm hw hB hz1 hk1 hS => ?_)
    obtain ⟨hP, hD, hK⟩ := z_after3 (wn := (zV213 rd rd_fault rd_place tx rd_kinds rd_starts rd_stops rd_values rd_tokens rd_at tn rd_strayCount rd_lawTold rd_falseTold rd_kinds cA_rd_kinds f_rd_kinds rd_starts cA_rd_starts f_rd_starts rd_stops cA_rd_stops f_rd_stops tx cA_tx f_tx)) hB ht hvm hP hD hK [] [0, 1, 2, 3, 4] rfl 5 rfl (by decide +kernel) rfl (by decide +kernel) hk1 hFc
    generalize H1 = H at hP hS ⊢
    have hK : va_K (dC, dI) vwCl [(cA_rd_kinds, .int), (cA_rd_starts, .int), (cA_rd_stops, .int), (cA_tx, .byte)] s := hK
    have b_r_6 : 2 ≤ r_6.toInt ∧ r_6.toInt ≤ 6 := hw.1
    have s_r_6 := hw.2.1
    have sf_r_6 := hw.2.2
    replace hF := hF.trans (zL_eq sf_r_6)
    refine lv_icmp_eq (tgt := 41) hx hb dX5_isWord_36 (by decide) (fun c_7 => ?_) (fun c_7 => ?_)
    · have ic_7 := zz_eq rfl rfl c_7
      replace hF := hF.trans (if_pos c_7)
      refine lv_iconst (v := 0) hx hb dX5_isWord_41 (by decide) ?_
      refine lv_istore_n (lv' := [(2, .int 0), (0, .ref rd), (1, .ref (sa (2 + 2 * wi)))]) hx hb dX5_isWord_42 rfl hl (by decide) rfl (fun ls hl => ?_)
      have loop_1 : ∀ (t_1 : Nat) (v2_8 : Int32) (b_v2_8 : 0 ≤ v2_8.toInt ∧ v2_8.toInt ≤ 6) (H : Heap) (locs : List Loc) (ls : Array Slot), 6 - v2_8.toInt < (t_1 : Int) → RR = L_X5_isWord_1 wi f_rd_starts rd_at x_4 f_tx K_X5_isWord_1_0 K_X5_isWord_1_1 t_1 v2_8 → va_P (dC, dI) vwCl (zV213 rd rd_fault rd_place tx rd_kinds rd_starts rd_stops rd_values rd_tokens rd_at tn rd_strayCount rd_lawTold rd_falseTold rd_kinds cA_rd_kinds f_rd_kinds rd_starts cA_rd_starts f_rd_starts rd_stops cA_rd_stops f_rd_stops tx cA_tx f_tx) H → va_D A (zV213 rd rd_fault rd_place tx rd_kinds rd_starts rd_stops rd_values rd_tokens rd_at tn rd_strayCount rd_lawTold rd_falseTold rd_kinds cA_rd_kinds f_rd_kinds rd_starts cA_rd_starts f_rd_starts rd_stops cA_rd_stops f_rd_stops tx cA_tx f_tx) → va_S A s.heap H locs → lv_has ls 3 [(0, .ref rd), (1, .ref (sa (2 + 2 * wi))), (2, .int v2_8)] → W p l e R s m args below meth c H locs 0 0 (MQ below Qc args s 0 0 A) (F0 m 43 ls []) := by
        intro t_1
        induction t_1 with
        | zero => intro v2_8 b_v2_8 H locs ls hmu _ _ _ _ _; exact absurd hmu (by first | with_reducible assumption | omega)
        | succ t_1 ih_1 =>
          intro v2_8 b_v2_8 H locs ls hmu hF hP hD hS hl
          replace hF := hF.trans L_X5_isWord_1_s
          refine lv_iload_n hx hb dX5_isWord_43 rfl (lv_at hl 2 rfl) ?_
          refine lv_aload_n hx hb dX5_isWord_44 rfl (lv_at hl 1 rfl) ?_
          obtain ⟨hPc, hDc, hFc⟩ := z_cut (wc := []) hP hD hS hA [] rfl (by decide +kernel)
          have hKc := hK.sub (tys' := []) [] rfl
          refine va_calli (va_runV (As := []) (rest := [.int v2_8]) ⟨hx, hb, hml, hown, hts⟩ (kf_J0_length_8abf5 l sa dC dI wi hwi H.size) (cwV 0 hts (z_gV zw_t3_41 zw_t3_42 zw_t3_43 zw_t1_13 zw_t3_44) rfl rfl rfl (by decide +kernel) (by rw [← hRe]; exact ⟨(Nat.le_of_ble_eq_true rfl), (Nat.le_of_ble_eq_true rfl)⟩)) (z_preK hPc hKc hDc hN hXs hS hFc (vk_recv (adK := fun i => sa (2 + 2 * i)) (i := wi) hXs.2.2.2.2.2.2.1 hwi hS)) rfl rfl hl.1 rfl (lv_room (Nat.le_of_ble_eq_true rfl)) dX5_isWord_45 (by rw [← hRe]; exact ⟨(Nat.le_of_ble_eq_true rfl), (Nat.le_of_ble_eq_true rfl)⟩)) hS (fun q _ h => hFc q h) hFc (fun r_9 u t H1 locs ht hvm hw hB hz1 hk1 hS => ?_)
          obtain ⟨hP, hD, hK⟩ := z_after3 (wn := (zV213 rd rd_fault rd_place tx rd_kinds rd_starts rd_stops rd_values rd_tokens rd_at tn rd_strayCount rd_lawTold rd_falseTold rd_kinds cA_rd_kinds f_rd_kinds rd_starts cA_rd_starts f_rd_starts rd_stops cA_rd_stops f_rd_stops tx cA_tx f_tx)) hB ht hvm hP hD hK [] [0, 1, 2, 3, 4] rfl 5 rfl (by decide +kernel) rfl (by decide +kernel) hk1 hFc
          generalize H1 = H at hP hS ⊢
          have hK : va_K (dC, dI) vwCl [(cA_rd_kinds, .int), (cA_rd_starts, .int), (cA_rd_stops, .int), (cA_tx, .byte)] s := hK
          have b_r_9 : 2 ≤ r_9.toInt ∧ r_9.toInt ≤ 6 := hw.1
          have s_r_9 := hw.2.1
          have sf_r_9 := hw.2.2
          replace hF := hF.trans (zL_eq sf_r_9)
          refine lv_icmp_ge (tgt := 83) hx hb dX5_isWord_48 (by decide) (fun c_10 => ?_) (fun c_10 => ?_)
          · have ic_10 := zz_ge rfl rfl c_10
            replace hF := hF.trans (if_pos c_10)
            refine lv_iconst (v := 1) hx hb dX5_isWord_83 (by decide) ?_
            have hF : RR = (1 : Int32) := hF
            have zc : Int32.toInt 1 = 1 := by decide
            exact W.zret (v := 1) hx hb hr (by decide) (fun t ht hW => by rw [← hQe]; exact ⟨⟨1, (), rfl, ⟨by decide, (by rw [← hRR, hF])⟩, z_ret hP hK hD ht hW [0, 1, 2, 3, 4] [] rfl (by decide) rfl⟩, hS.F ht⟩) hS.2.2 dX5_isWord_84
          · have ic_10 := zz_nge rfl rfl c_10
            replace hF := hF.trans (if_neg c_10)
            refine lv_aload_n hx hb dX5_isWord_51 rfl (lv_at hl 0 rfl) ?_
            refine va_get (D := (dC, dI)) (ci := 5) (v := .ref tx) (C := RX5) (T := TX5) (N := 13) hx hb hts zl_X5 hown hK hP 0 rfl rfl 2 (by decide) (hts _ zw_t1_197) (fun _ h9 => h9) rfl dX5_isWord_52 ?_
            refine lv_aload_n hx hb dX5_isWord_55 rfl (lv_at hl 0 rfl) ?_
            refine va_get (D := (dC, dI)) (ci := 5) (v := .ref rd_starts) (C := RX5) (T := TX5) (N := 13) hx hb hts zl_X5 hown hK hP 0 rfl rfl 4 (by decide) (hts _ zw_t1_199) (fun _ h9 => h9) rfl dX5_isWord_56 ?_
            refine lv_aload_n hx hb dX5_isWord_59 rfl (lv_at hl 0 rfl) ?_
            refine va_get (D := (dC, dI)) (ci := 5) (v := .int rd_at) (C := RX5) (T := TX5) (N := 13) hx hb hts zl_X5 hown hK hP 0 rfl rfl 8 (by decide) (hts _ zw_t1_203) (fun _ h9 => h9) rfl dX5_isWord_60 ?_
            refine va_iald hx hb hK hP 2 1 rfl rfl (zi_in rfl (by first | with_reducible assumption | omega)) dX5_isWord_63 ?_
            refine lv_topi (fun x_11 ex_11 => ?_)
            replace hF := hF.trans (zL_eq ex_11)
            obtain rfl : x_4 = x_11 := ex_4.trans ex_11.symm
            refine lv_iload_n hx hb dX5_isWord_64 rfl (lv_at hl 2 rfl) ?_
            refine lv_iadd hx hb dX5_isWord_65 ?_
            refine lv_topi (fun x_12 ex_12 => ?_)
            replace hF := hF.trans (zL_eq ex_12)
            have b_x_12 : x_12.toInt = x_4.toInt + v2_8.toInt := by rw [ex_12]; exact zi_add rfl rfl (z_raa b_x_4 b_v2_8 (by decide))
            refine va_bald hx hb hK hP 4 3 rfl rfl (zi_in rfl (by first | exact z_rin (z_ead b_x_12 b_x_4 b_v2_8) (by decide) | omega)) dX5_isWord_66 ?_
            refine lv_topi (fun x_13 ex_13 => ?_)
            replace hF := hF.trans (zL_eq ex_13)
            refine lv_aload_n hx hb dX5_isWord_67 rfl (lv_at hl 1 rfl) ?_
            refine lv_iload_n hx hb dX5_isWord_68 rfl (lv_at hl 2 rfl) ?_
            obtain ⟨hPc, hDc, hFc⟩ := z_cut (wc := []) hP hD hS hA [] rfl (by decide +kernel)
            have hKc := hK.sub (tys' := []) [] rfl
            refine va_calli (va_runV (As := [.int v2_8]) (rest := [.int x_13]) ⟨hx, hb, hml, hown, hts⟩ (kf_J0_charAt_5068e l sa dC dI v2_8 wi (by first | with_reducible assumption | omega) hwi (by first | assumption | omega) H.size) (cwV 1 hts (z_gV zw_t3_51 zw_t3_52 zw_t3_53 zw_t1_13 zw_t3_54) rfl rfl rfl (by decide +kernel) (by rw [← hRe]; exact ⟨(Nat.le_of_ble_eq_true rfl), (Nat.le_of_ble_eq_true rfl)⟩)) (z_preK hPc hKc hDc hN hXs hS hFc (vk_recv (adK := fun i => sa (2 + 2 * i)) (i := wi) hXs.2.2.2.2.2.2.1 hwi hS)) rfl rfl hl.1 rfl (lv_room (Nat.le_of_ble_eq_true rfl)) dX5_isWord_69 (by rw [← hRe]; exact ⟨(Nat.le_of_ble_eq_true rfl), (Nat.le_of_ble_eq_true rfl)⟩)) hS (fun q _ h => hFc q h) hFc (fun r_14 u t H1 locs ht hvm hw hB hz1 hk1 hS => ?_)
            obtain ⟨hP, hD, hK⟩ := z_after3 (wn := (zV213 rd rd_fault rd_place tx rd_kinds rd_starts rd_stops rd_values rd_tokens rd_at tn rd_strayCount rd_lawTold rd_falseTold rd_kinds cA_rd_kinds f_rd_kinds rd_starts cA_rd_starts f_rd_starts rd_stops cA_rd_stops f_rd_stops tx cA_tx f_tx)) hB ht hvm hP hD hK [] [0, 1, 2, 3, 4] rfl 5 rfl (by decide +kernel) rfl (by decide +kernel) hk1 hFc
            generalize H1 = H at hP hS ⊢
            have hK : va_K (dC, dI) vwCl [(cA_rd_kinds, .int), (cA_rd_starts, .int), (cA_rd_stops, .int), (cA_tx, .byte)] s := hK
            have b_r_14 : 0 ≤ r_14.toInt ∧ r_14.toInt ≤ 255 := hw.1
            have sf_r_14 := hw.2
            replace hF := hF.trans (zL_eq sf_r_14)
            have nb_x_13 := zi_nb x_13
            refine lv_icmp_eq (tgt := 77) hx hb dX5_isWord_72 (by decide) (fun c_15 => ?_) (fun c_15 => ?_)
            · have ic_15 := zz_eq rfl rfl c_15
              replace hF := hF.trans (if_pos c_15)
              obtain ⟨x_16, ex_16⟩ : ∃ z : Int32, z = v2_8 + Int32.ofInt 1 := ⟨_, rfl⟩
              have b_x_16 : x_16.toInt = v2_8.toInt + 1 := by rw [ex_16]; exact zi_add rfl (show (Int32.ofInt 1).toInt = 1 from by decide) (z_rac b_v2_8 (by decide))
              refine lv_iinc (v := x_16) (lv' := [(2, .int x_16), (0, .ref rd), (1, .ref (sa (2 + 2 * wi)))]) hx hb dX5_isWord_77 hl (k := 2) rfl ex_16.symm (by decide) rfl (fun ls hl => ?_)
              replace hF := hF.trans (zL_eq ex_16)
              refine lv_goto (tgt := 43) hx hb dX5_isWord_80 (by decide) ?_
              exact ih_1 x_16 (by first | with_reducible assumption | omega) _ _ _ (by first | with_reducible assumption | omega) hF (hP.sub (ws' := (zV213 rd rd_fault rd_place tx rd_kinds rd_starts rd_stops rd_values rd_tokens rd_at tn rd_strayCount rd_lawTold rd_falseTold rd_kinds cA_rd_kinds f_rd_kinds rd_starts cA_rd_starts f_rd_starts rd_stops cA_rd_stops f_rd_stops tx cA_tx f_tx)) [0, 1, 2, 3, 4] rfl) (hD.sub (ws' := (zV213 rd rd_fault rd_place tx rd_kinds rd_starts rd_stops rd_values rd_tokens rd_at tn rd_strayCount rd_lawTold rd_falseTold rd_kinds cA_rd_kinds f_rd_kinds rd_starts cA_rd_starts f_rd_starts rd_stops cA_rd_stops f_rd_stops tx cA_tx f_tx)) [0, 1, 2, 3, 4] (by decide) rfl) hS (lv_sub hl [1, 2, 0] rfl)
            · have ic_15 := zz_neq rfl rfl c_15
              replace hF := hF.trans (if_neg c_15)
              refine lv_iconst (v := 0) hx hb dX5_isWord_75 (by decide) ?_
              have hF : RR = (0 : Int32) := hF
              have zc : Int32.toInt 0 = 0 := by decide
              exact W.zret (v := 0) hx hb hr (by decide) (fun t ht hW => by rw [← hQe]; exact ⟨⟨0, (), rfl, ⟨by decide, (by rw [← hRR, hF])⟩, z_ret hP hK hD ht hW [0, 1, 2, 3, 4] [] rfl (by decide) rfl⟩, hS.F ht⟩) hS.2.2 dX5_isWord_76
      exact loop_1 8 (0) (by decide) _ _ _ (by decide) hF hP hD hS (lv_sub hl [1, 2, 0] rfl)
    · have ic_7 := zz_neq rfl rfl c_7
      replace hF := hF.trans (if_neg c_7)
      refine lv_iconst (v := 0) hx hb dX5_isWord_39 (by decide) ?_
      have hF : RR = (0 : Int32) := hF
      have zc : Int32.toInt 0 = 0 := by decide
      exact W.zret (v := 0) hx hb hr (by decide) (fun t ht hW => by rw [← hQe]; exact ⟨⟨0, (), rfl, ⟨by decide, (by rw [← hRR, hF])⟩, z_ret hP hK hD ht hW [0, 1, 2, 3, 4] [] rfl (by decide) rfl⟩, hS.F ht⟩) hS.2.2 dX5_isWord_40
set_option maxHeartbeats 4000000 in
set_option maxRecDepth 100000 in
theorem kf_X5_expectWord (l : Launch) (sa : Nat → Nat) (dC : Nat → ClassId) (dI : Nat → Nat → Nat) (rd : Nat) (rd_fault : Int32) (rd_place : Int32) (tx : Nat) (rd_kinds : Nat) (rd_starts : Nat) (rd_stops : Nat) (rd_values : Nat) (rd_tokens : Int32) (rd_at : Int32) (tn : Nat) (rd_strayCount : Int32) (rd_lawTold : Int32) (rd_falseTold : Int32) (cA_rd_kinds : ClassId) (f_rd_kinds : Nat → Int32) (cA_rd_starts : ClassId) (f_rd_starts : Nat → Int32) (cA_rd_stops : ClassId) (f_rd_stops : Nat → Int32) (cA_tx : ClassId) (f_tx : Nat → Int32) (wi : Nat) (b_rd_tokens : 0 ≤ rd_tokens.toInt ∧ rd_tokens.toInt ≤ 1600) (b_rd_at : 0 ≤ rd_at.toInt ∧ rd_at.toInt ≤ 1600) (b_rd_strayCount : 0 ≤ rd_strayCount.toInt ∧ rd_strayCount.toInt ≤ 4) (b_rd_lawTold : 0 ≤ rd_lawTold.toInt ∧ rd_lawTold.toInt ≤ 1) (b_rd_falseTold : 0 ≤ rd_falseTold.toInt ∧ rd_falseTold.toInt ≤ 1) (b_f_rd_kinds : ∀ j : Nat, 0 ≤ (f_rd_kinds j).toInt ∧ (f_rd_kinds j).toInt ≤ 5) (b_f_rd_starts : ∀ j : Nat, 0 ≤ (f_rd_starts j).toInt ∧ (f_rd_starts j).toInt ≤ 1600) (b_f_rd_stops : ∀ j : Nat, 0 ≤ (f_rd_stops j).toInt ∧ (f_rd_stops j).toInt ≤ 1600) (hwi : wi < 14) (sz : Nat) : Met l yX5_expectWord (.code yX5_expectWord cX5_expectWord 2 none :: zT) ({ frames := 5, cells := 0, slots := 0, locals := 107 }) (va_Pc [.ref rd, .ref (sa (2 + 2 * wi))] (zB sa dC dI (zV213 rd rd_fault rd_place tx rd_kinds rd_starts rd_stops rd_values rd_tokens rd_at tn rd_strayCount rd_lawTold rd_falseTold rd_kinds cA_rd_kinds f_rd_kinds rd_starts cA_rd_starts f_rd_starts rd_stops cA_rd_stops f_rd_stops tx cA_tx f_tx) [(cA_rd_kinds, .int), (cA_rd_starts, .int), (cA_rd_stops, .int), (cA_tx, .byte)] sz)) (va_Qv (fun _ : Unit => True) (fun _ t => ∃ (n_rd_0 : Int32) (n_rd_1 : Int32) (n_rd_8 : Int32), (0 ≤ n_rd_8.toInt ∧ n_rd_8.toInt ≤ 1600) ∧ (n_rd_0 = (F_X5_expectWord rd_fault rd_place rd_tokens rd_at f_rd_kinds f_rd_starts f_rd_stops f_tx wi).1) ∧ (n_rd_1 = (F_X5_expectWord rd_fault rd_place rd_tokens rd_at f_rd_kinds f_rd_starts f_rd_stops f_tx wi).2.1) ∧ (n_rd_8 = (F_X5_expectWord rd_fault rd_place rd_tokens rd_at f_rd_kinds f_rd_starts f_rd_stops f_tx wi).2.2) ∧ zW dC dI (zV213 rd n_rd_0 n_rd_1 tx rd_kinds rd_starts rd_stops rd_values rd_tokens n_rd_8 tn rd_strayCount rd_lawTold rd_falseTold rd_kinds cA_rd_kinds f_rd_kinds rd_starts cA_rd_starts f_rd_starts rd_stops cA_rd_stops f_rd_stops tx cA_tx f_tx) [] (va_A (zV213 rd rd_fault rd_place tx rd_kinds rd_starts rd_stops rd_values rd_tokens rd_at tn rd_strayCount rd_lawTold rd_falseTold rd_kinds cA_rd_kinds f_rd_kinds rd_starts cA_rd_starts f_rd_starts rd_stops cA_rd_stops f_rd_stops tx cA_tx f_tx) sz) t) (va_A (zV213 rd rd_fault rd_place tx rd_kinds rd_starts rd_stops rd_values rd_tokens rd_at tn rd_strayCount rd_lawTold rd_falseTold rd_kinds cA_rd_kinds f_rd_kinds rd_starts cA_rd_starts f_rd_starts rd_stops cA_rd_stops f_rd_stops tx cA_tx f_tx) sz)) 0 0 (va_A (zV213 rd rd_fault rd_place tx rd_kinds rd_starts rd_stops rd_values rd_tokens rd_at tn rd_strayCount rd_lawTold rd_falseTold rd_kinds cA_rd_kinds f_rd_kinds rd_starts cA_rd_starts f_rd_starts rd_stops cA_rd_stops f_rd_stops tx cA_tx f_tx) sz) := by
  refine z_enter (by decide) (by exact (Nat.le_of_ble_eq_true rfl)) ?_
  intro p e s m args below meth c ls A R Qc hargs hsz hQe hAe hRe hx hb hml hr hts hown hlocks hin hl hP hK hD hN hXs hA hS
  rw [hAe] at hQe
  have hown : s.vm.findClass RX5 = some m.cls := hown
  have hl : lv_has ls 2 [(0, .ref rd), (1, .ref (sa (2 + 2 * wi)))] := hl
  obtain ⟨RR, hRR⟩ : ∃ z : Int32 × Int32 × Int32, z = (F_X5_expectWord rd_fault rd_place rd_tokens rd_at f_rd_kinds f_rd_starts f_rd_stops f_tx wi) := ⟨_, rfl⟩
  have hF : RR = (F_X5_expectWord rd_fault rd_place rd_tokens rd_at f_rd_kinds f_rd_starts f_rd_stops f_tx wi) := hRR
  refine lv_aload_n hx hb dX5_expectWord_0 rfl (lv_at hl 0 rfl) ?_
  refine lv_aload_n hx hb dX5_expectWord_1 rfl (lv_at hl 1 rfl) ?_
  obtain ⟨hPc, hDc, hFc⟩ := z_cut (wc := (zV213 rd rd_fault rd_place tx rd_kinds rd_starts rd_stops rd_values rd_tokens rd_at tn rd_strayCount rd_lawTold rd_falseTold rd_kinds cA_rd_kinds f_rd_kinds rd_starts cA_rd_starts f_rd_starts rd_stops cA_rd_stops f_rd_stops tx cA_tx f_tx)) hP hD hS hA [0, 1, 2, 3, 4] rfl (by decide +kernel)
  have hKc := hK.sub (tys' := [(cA_rd_kinds, .int), (cA_rd_starts, .int), (cA_rd_stops, .int), (cA_tx, .byte)]) [0, 1, 2, 3] rfl
  refine va_calli (va_runV (As := [.ref (sa (2 + 2 * wi))]) (rest := []) ⟨hx, hb, hml, hown, hts⟩ (kf_X5_isWord l sa dC dI rd rd_fault rd_place tx rd_kinds rd_starts rd_stops rd_values rd_tokens rd_at tn rd_strayCount rd_lawTold rd_falseTold cA_rd_kinds f_rd_kinds cA_rd_starts f_rd_starts cA_rd_stops f_rd_stops cA_tx f_tx wi b_rd_tokens b_rd_at b_rd_strayCount b_rd_lawTold b_rd_falseTold b_f_rd_kinds b_f_rd_starts b_f_rd_stops hwi s.heap.size) (cwV 1 hts (z_gV zw_t3_37 zw_t3_39 zw_s1_6 zw_t1_4 zw_t3_40) rfl rfl rfl (by decide +kernel) (by rw [← hRe]; exact ⟨(Nat.le_of_ble_eq_true rfl), (Nat.le_of_ble_eq_true rfl)⟩)) (z_preV hPc hKc hDc hN hXs hS hFc (q := (RX5, TX5, 13)) (ci := 5) (q0 := 0) rfl rfl) rfl rfl hl.1 rfl (lv_room (Nat.le_of_ble_eq_true rfl)) dX5_expectWord_2 (by rw [← hRe]; exact ⟨(Nat.le_of_ble_eq_true rfl), (Nat.le_of_ble_eq_true rfl)⟩)) hS (fun q _ h => hFc q h) hFc (fun r_1 u t H1 locs ht hvm hw hB hz1 hk1 hS => ?_)
  obtain ⟨hP, hD, hK⟩ := z_after3 (wn := (zV213 rd rd_fault rd_place tx rd_kinds rd_starts rd_stops rd_values rd_tokens rd_at tn rd_strayCount rd_lawTold rd_falseTold rd_kinds cA_rd_kinds f_rd_kinds rd_starts cA_rd_starts f_rd_starts rd_stops cA_rd_stops f_rd_stops tx cA_tx f_tx)) hB ht hvm hP hD hK [0, 1, 2, 3, 4] [] rfl 5 rfl (by decide +kernel) rfl (by decide +kernel) hk1 hFc
  generalize H1 = H at hP hS ⊢
  have hK : va_K (dC, dI) vwCl [(cA_rd_kinds, .int), (cA_rd_starts, .int), (cA_rd_stops, .int), (cA_tx, .byte)] s := hK
  have b_r_1 : 0 ≤ r_1.toInt ∧ r_1.toInt ≤ 1 := hw.1
  have sf_r_1 := hw.2
  replace hF := hF.trans (zL_eq sf_r_1)
  refine lv_if_ne (tgt := 13) hx hb dX5_expectWord_5 (by decide) (fun c_2 => ?_) (fun c_2 => ?_)
  · have ic_2 := zz_ne rfl (show Int32.toInt 0 = 0 from by decide) c_2
    replace hF := hF.trans (if_neg c_2)
    refine lv_aload_n hx hb dX5_expectWord_13 rfl (lv_at hl 0 rfl) ?_
    obtain ⟨hPc, hDc, hFc⟩ := z_cut (wc := (zV212 rd rd_fault rd_place tx rd_kinds rd_starts rd_stops rd_values rd_tokens rd_at tn rd_strayCount rd_lawTold rd_falseTold)) hP hD hS hA [0] rfl (by decide +kernel)
    have hKc := hK.sub (tys' := []) [] rfl
    refine va_callv (va_runV (As := []) (rest := []) ⟨hx, hb, hml, hown, hts⟩ (kf_X5_advance l sa dC dI rd rd_fault rd_place tx rd_kinds rd_starts rd_stops rd_values rd_tokens rd_at tn rd_strayCount rd_lawTold rd_falseTold b_rd_tokens b_rd_at b_rd_strayCount b_rd_lawTold b_rd_falseTold H.size) (cwV 0 hts (z_gV zw_t3_93 zw_t3_95 zw_s1_8 zw_t1_4 zw_t3_96) rfl rfl rfl (by decide +kernel) (by rw [← hRe]; exact ⟨(Nat.le_of_ble_eq_true rfl), (Nat.le_of_ble_eq_true rfl)⟩)) (z_preV hPc hKc hDc hN hXs hS hFc (q := (RX5, TX5, 13)) (ci := 5) (q0 := 0) rfl rfl) rfl rfl hl.1 rfl (lv_room (Nat.le_of_ble_eq_true rfl)) dX5_expectWord_14 (by rw [← hRe]; exact ⟨(Nat.le_of_ble_eq_true rfl), (Nat.le_of_ble_eq_true rfl)⟩)) hS (fun q _ h => hFc q h) hFc (fun u t H1 locs ht hvm hw hB hz1 hk1 hS => ?_)
    obtain ⟨n_rd_4, b_n_rd_4, hf_5, hB⟩ := hB
    obtain ⟨hP, hD, hK⟩ := z_after3 (wn := [(rd_kinds, .inl (cA_rd_kinds, 1601, .inl f_rd_kinds)), (rd_starts, .inl (cA_rd_starts, 1601, .inl f_rd_starts)), (rd_stops, .inl (cA_rd_stops, 1601, .inl f_rd_stops)), (tx, .inl (cA_tx, 1600, .inl f_tx)), (rd, .inr (5, [.int rd_fault, .int rd_place, .ref tx, .ref rd_kinds, .ref rd_starts, .ref rd_stops, .ref rd_values, .int rd_tokens, .int n_rd_4, .ref tn, .int rd_strayCount, .int rd_lawTold, .int rd_falseTold]))]) hB ht hvm hP hD hK [0] [1, 2, 3, 4] rfl 5 rfl (by decide +kernel) rfl (by decide +kernel) hk1 hFc
    generalize H1 = H at hP hS ⊢
    have hK : va_K (dC, dI) vwCl [(cA_rd_kinds, .int), (cA_rd_starts, .int), (cA_rd_stops, .int), (cA_tx, .byte)] s := hK
    replace hF := hF.trans (zL_eq hf_5)
    have hF : RR = (rd_fault, rd_place, n_rd_4) := hF
    exact W.vret hx hb hr (fun t ht hW => by rw [← hQe]; exact ⟨⟨(), rfl, trivial, ⟨rd_fault, rd_place, n_rd_4, (by first | with_reducible assumption | omega), (by rw [← hRR, hF]), (by rw [← hRR, hF]), (by rw [← hRR, hF]), z_ret hP hK hD ht hW [4, 0, 1, 2, 3] [] rfl (by decide) rfl⟩⟩, hS.F ht⟩) hS.2.2 dX5_expectWord_17
  · have ic_2 := zz_nne rfl (show Int32.toInt 0 = 0 from by decide) c_2
    replace hF := hF.trans (if_pos c_2)
    refine lv_aload_n hx hb dX5_expectWord_8 rfl (lv_at hl 0 rfl) ?_
    refine lv_iconst (v := 1) hx hb dX5_expectWord_9 (by decide) ?_
    obtain ⟨hPc, hDc, hFc⟩ := z_cut (wc := (zV211 rd rd_fault rd_place tx rd_kinds rd_starts rd_stops rd_values rd_tokens rd_at tn rd_strayCount rd_lawTold rd_falseTold rd_starts cA_rd_starts f_rd_starts)) hP hD hS hA [0, 2] rfl (by decide +kernel)
    have hKc := hK.sub (tys' := [(cA_rd_starts, .int)]) [1] rfl
    refine va_callv (va_runV (As := [.int 1]) (rest := []) ⟨hx, hb, hml, hown, hts⟩ (kf_X5_blame l sa dC dI rd (1) rd_fault rd_place tx rd_kinds rd_starts rd_stops rd_values rd_tokens rd_at tn rd_strayCount rd_lawTold rd_falseTold cA_rd_starts f_rd_starts (by decide) b_rd_tokens b_rd_at b_rd_strayCount b_rd_lawTold b_rd_falseTold b_f_rd_starts H.size) (cwV 1 hts (z_gV zw_t3_89 zw_t3_91 zw_s1_7 zw_t1_4 zw_t3_92) rfl rfl rfl (by decide +kernel) (by rw [← hRe]; exact ⟨(Nat.le_of_ble_eq_true rfl), (Nat.le_of_ble_eq_true rfl)⟩)) (z_preV hPc hKc hDc hN hXs hS hFc (q := (RX5, TX5, 13)) (ci := 5) (q0 := 0) rfl rfl) rfl rfl hl.1 rfl (lv_room (Nat.le_of_ble_eq_true rfl)) dX5_expectWord_10 (by rw [← hRe]; exact ⟨(Nat.le_of_ble_eq_true rfl), (Nat.le_of_ble_eq_true rfl)⟩)) hS (fun q _ h => hFc q h) hFc (fun u t H1 locs ht hvm hw hB hz1 hk1 hS => ?_)
    refine hB.elim fun n_rd_7 ze1 => ze1.elim fun n_rd_8 ze2 => ze2.elim fun hf_9 ze3 => ze3.elim fun hf_10 ze4 => ze4.elim fun hf_11 ze5 => ?_
    clear hB ze1 ze2 ze3 ze4
    have hB := ze5
    clear ze5
    obtain ⟨hP, hD, hK⟩ := z_after3 (wn := [(rd_kinds, .inl (cA_rd_kinds, 1601, .inl f_rd_kinds)), (rd_stops, .inl (cA_rd_stops, 1601, .inl f_rd_stops)), (tx, .inl (cA_tx, 1600, .inl f_tx)), (rd, .inr (5, [.int n_rd_7, .int n_rd_8, .ref tx, .ref rd_kinds, .ref rd_starts, .ref rd_stops, .ref rd_values, .int rd_tokens, .int rd_at, .ref tn, .int rd_strayCount, .int rd_lawTold, .int rd_falseTold])), (rd_starts, .inl (cA_rd_starts, 1601, .inl f_rd_starts))]) hB ht hvm hP hD hK [0, 2] [1, 3, 4] rfl 5 rfl (by decide +kernel) rfl (by decide +kernel) hk1 hFc
    generalize H1 = H at hP hS ⊢
    have hK : va_K (dC, dI) vwCl [(cA_rd_kinds, .int), (cA_rd_starts, .int), (cA_rd_stops, .int), (cA_tx, .byte)] s := hK
    replace hF := hF.trans (zL_eq rfl)
    replace hF := hF.trans (zL_eq hf_10)
    replace hF := hF.trans (zL_eq hf_11)
    refine lv_aload_n hx hb dX5_expectWord_13 rfl (lv_at hl 0 rfl) ?_
    obtain ⟨hPc, hDc, hFc⟩ := z_cut (wc := (zV212 rd n_rd_7 n_rd_8 tx rd_kinds rd_starts rd_stops rd_values rd_tokens rd_at tn rd_strayCount rd_lawTold rd_falseTold)) hP hD hS hA [3] rfl (by decide +kernel)
    have hKc := hK.sub (tys' := []) [] rfl
    refine va_callv (va_runV (As := []) (rest := []) ⟨hx, hb, hml, hown, hts⟩ (kf_X5_advance l sa dC dI rd n_rd_7 n_rd_8 tx rd_kinds rd_starts rd_stops rd_values rd_tokens rd_at tn rd_strayCount rd_lawTold rd_falseTold b_rd_tokens b_rd_at b_rd_strayCount b_rd_lawTold b_rd_falseTold H.size) (cwV 0 hts (z_gV zw_t3_93 zw_t3_95 zw_s1_8 zw_t1_4 zw_t3_96) rfl rfl rfl (by decide +kernel) (by rw [← hRe]; exact ⟨(Nat.le_of_ble_eq_true rfl), (Nat.le_of_ble_eq_true rfl)⟩)) (z_preV hPc hKc hDc hN hXs hS hFc (q := (RX5, TX5, 13)) (ci := 5) (q0 := 0) rfl rfl) rfl rfl hl.1 rfl (lv_room (Nat.le_of_ble_eq_true rfl)) dX5_expectWord_14 (by rw [← hRe]; exact ⟨(Nat.le_of_ble_eq_true rfl), (Nat.le_of_ble_eq_true rfl)⟩)) hS (fun q _ h => hFc q h) hFc (fun u t H1 locs ht hvm hw hB hz1 hk1 hS => ?_)
    obtain ⟨n_rd_14, b_n_rd_14, hf_15, hB⟩ := hB
    obtain ⟨hP, hD, hK⟩ := z_after3 (wn := [(rd_kinds, .inl (cA_rd_kinds, 1601, .inl f_rd_kinds)), (rd_stops, .inl (cA_rd_stops, 1601, .inl f_rd_stops)), (tx, .inl (cA_tx, 1600, .inl f_tx)), (rd_starts, .inl (cA_rd_starts, 1601, .inl f_rd_starts)), (rd, .inr (5, [.int n_rd_7, .int n_rd_8, .ref tx, .ref rd_kinds, .ref rd_starts, .ref rd_stops, .ref rd_values, .int rd_tokens, .int n_rd_14, .ref tn, .int rd_strayCount, .int rd_lawTold, .int rd_falseTold]))]) hB ht hvm hP hD hK [3] [0, 1, 2, 4] rfl 5 rfl (by decide +kernel) rfl (by decide +kernel) hk1 hFc
    generalize H1 = H at hP hS ⊢
    have hK : va_K (dC, dI) vwCl [(cA_rd_kinds, .int), (cA_rd_starts, .int), (cA_rd_stops, .int), (cA_tx, .byte)] s := hK
    replace hF := hF.trans (zL_eq hf_15)
    have hF : RR = (n_rd_7, n_rd_8, n_rd_14) := hF
    exact W.vret hx hb hr (fun t ht hW => by rw [← hQe]; exact ⟨⟨(), rfl, trivial, ⟨n_rd_7, n_rd_8, n_rd_14, (by first | with_reducible assumption | omega), (by rw [← hRR, hF]), (by rw [← hRR, hF]), (by rw [← hRR, hF]), z_ret hP hK hD ht hW [4, 0, 3, 1, 2] [] rfl (by decide) rfl⟩⟩, hS.F ht⟩) hS.2.2 dX5_expectWord_17
set_option maxHeartbeats 4000000 in
set_option maxRecDepth 100000 in
theorem kf_X5_expectNumber (l : Launch) (sa : Nat → Nat) (dC : Nat → ClassId) (dI : Nat → Nat → Nat) (rd : Nat) (p1 : Int32) (p2 : Int32) (rd_fault : Int32) (rd_place : Int32) (tx : Nat) (rd_kinds : Nat) (rd_starts : Nat) (rd_stops : Nat) (rd_values : Nat) (rd_tokens : Int32) (rd_at : Int32) (tn : Nat) (rd_strayCount : Int32) (rd_lawTold : Int32) (rd_falseTold : Int32) (cA_rd_kinds : ClassId) (f_rd_kinds : Nat → Int32) (cA_rd_starts : ClassId) (f_rd_starts : Nat → Int32) (cA_rd_values : ClassId) (f_rd_values : Nat → Int32) (b_p1 : 0 ≤ p1.toInt ∧ p1.toInt ≤ 48) (b_p2 : (-1) ≤ p2.toInt ∧ p2.toInt ≤ 99) (b_rd_tokens : 0 ≤ rd_tokens.toInt ∧ rd_tokens.toInt ≤ 1600) (b_rd_at : 0 ≤ rd_at.toInt ∧ rd_at.toInt ≤ 1600) (b_rd_strayCount : 0 ≤ rd_strayCount.toInt ∧ rd_strayCount.toInt ≤ 4) (b_rd_lawTold : 0 ≤ rd_lawTold.toInt ∧ rd_lawTold.toInt ≤ 1) (b_rd_falseTold : 0 ≤ rd_falseTold.toInt ∧ rd_falseTold.toInt ≤ 1) (b_f_rd_kinds : ∀ j : Nat, 0 ≤ (f_rd_kinds j).toInt ∧ (f_rd_kinds j).toInt ≤ 5) (b_f_rd_starts : ∀ j : Nat, 0 ≤ (f_rd_starts j).toInt ∧ (f_rd_starts j).toInt ≤ 1600) (b_f_rd_values : ∀ j : Nat, 0 ≤ (f_rd_values j).toInt ∧ (f_rd_values j).toInt ≤ 100000) (sz : Nat) : Met l yX5_expectNumber (.code yX5_expectNumber cX5_expectNumber 4 (some .int) :: zT) ({ frames := 1, cells := 0, slots := 0, locals := 21 }) (va_Pc [.ref rd, .int p1, .int p2] (zB sa dC dI (zV210 rd rd_fault rd_place tx rd_kinds rd_starts rd_stops rd_values rd_tokens rd_at tn rd_strayCount rd_lawTold rd_falseTold rd_kinds cA_rd_kinds f_rd_kinds rd_starts cA_rd_starts f_rd_starts rd_values cA_rd_values f_rd_values) [(cA_rd_kinds, .int), (cA_rd_starts, .int), (cA_rd_values, .int)] sz)) (va_Qi (fun (r : Int32) (_ : Unit) => (0 ≤ r.toInt ∧ r.toInt ≤ 100000) ∧ (r.toInt = 0 ∨ (p1.toInt ≤ r.toInt ∧ r.toInt ≤ p2.toInt)) ∧ r = (F_X5_expectNumber p1 p2 rd_fault rd_place rd_tokens rd_at f_rd_kinds f_rd_starts f_rd_values).1) (fun _ t => ∃ (n_rd_0 : Int32) (n_rd_1 : Int32) (n_rd_8 : Int32), (0 ≤ n_rd_8.toInt ∧ n_rd_8.toInt ≤ 1600) ∧ (n_rd_0 = (F_X5_expectNumber p1 p2 rd_fault rd_place rd_tokens rd_at f_rd_kinds f_rd_starts f_rd_values).2.1) ∧ (n_rd_1 = (F_X5_expectNumber p1 p2 rd_fault rd_place rd_tokens rd_at f_rd_kinds f_rd_starts f_rd_values).2.2.1) ∧ (n_rd_8 = (F_X5_expectNumber p1 p2 rd_fault rd_place rd_tokens rd_at f_rd_kinds f_rd_starts f_rd_values).2.2.2) ∧ zW dC dI (zV210 rd n_rd_0 n_rd_1 tx rd_kinds rd_starts rd_stops rd_values rd_tokens n_rd_8 tn rd_strayCount rd_lawTold rd_falseTold rd_kinds cA_rd_kinds f_rd_kinds rd_starts cA_rd_starts f_rd_starts rd_values cA_rd_values f_rd_values) [] (va_A (zV210 rd rd_fault rd_place tx rd_kinds rd_starts rd_stops rd_values rd_tokens rd_at tn rd_strayCount rd_lawTold rd_falseTold rd_kinds cA_rd_kinds f_rd_kinds rd_starts cA_rd_starts f_rd_starts rd_values cA_rd_values f_rd_values) sz) t) (va_A (zV210 rd rd_fault rd_place tx rd_kinds rd_starts rd_stops rd_values rd_tokens rd_at tn rd_strayCount rd_lawTold rd_falseTold rd_kinds cA_rd_kinds f_rd_kinds rd_starts cA_rd_starts f_rd_starts rd_values cA_rd_values f_rd_values) sz)) 0 0 (va_A (zV210 rd rd_fault rd_place tx rd_kinds rd_starts rd_stops rd_values rd_tokens rd_at tn rd_strayCount rd_lawTold rd_falseTold rd_kinds cA_rd_kinds f_rd_kinds rd_starts cA_rd_starts f_rd_starts rd_values cA_rd_values f_rd_values) sz) := by
  refine z_enter (by decide) (by exact (Nat.le_of_ble_eq_true rfl)) ?_
  intro p e s m args below meth c ls A R Qc hargs hsz hQe hAe hRe hx hb hml hr hts hown hlocks hin hl hP hK hD hN hXs hA hS
  rw [hAe] at hQe
  have hown : s.vm.findClass RX5 = some m.cls := hown
  have hl : lv_has ls 4 [(0, .ref rd), (1, .int p1), (2, .int p2)] := hl
  obtain ⟨RR, hRR⟩ : ∃ z : Int32 × Int32 × Int32 × Int32, z = (F_X5_expectNumber p1 p2 rd_fault rd_place rd_tokens rd_at f_rd_kinds f_rd_starts f_rd_values) := ⟨_, rfl⟩
  have hF : RR = (F_X5_expectNumber p1 p2 rd_fault rd_place rd_tokens rd_at f_rd_kinds f_rd_starts f_rd_values) := hRR
  refine lv_aload_n hx hb dX5_expectNumber_0 rfl (lv_at hl 0 rfl) ?_
  refine va_get (D := (dC, dI)) (ci := 5) (v := .ref rd_values) (C := RX5) (T := TX5) (N := 13) hx hb hts zl_X5 hown hK hP 0 rfl rfl 6 (by decide) (hts _ zw_t1_201) (fun _ h9 => h9) rfl dX5_expectNumber_1 ?_
  refine lv_aload_n hx hb dX5_expectNumber_4 rfl (lv_at hl 0 rfl) ?_
  refine va_get (D := (dC, dI)) (ci := 5) (v := .int rd_at) (C := RX5) (T := TX5) (N := 13) hx hb hts zl_X5 hown hK hP 0 rfl rfl 8 (by decide) (hts _ zw_t1_203) (fun _ h9 => h9) rfl dX5_expectNumber_5 ?_
  refine va_iald hx hb hK hP 3 2 rfl rfl (zi_in rfl (by first | with_reducible assumption | omega)) dX5_expectNumber_8 ?_
  refine lv_topi (fun x_1 ex_1 => ?_)
  replace hF := hF.trans (zL_eq ex_1)
  have b_x_1 : 0 ≤ x_1.toInt ∧ x_1.toInt ≤ 100000 := by rw [ex_1]; exact b_f_rd_values _
  refine lv_istore_n (lv' := [(3, .int x_1), (0, .ref rd), (1, .int p1), (2, .int p2)]) hx hb dX5_expectNumber_9 rfl hl (by decide) rfl (fun ls hl => ?_)
  refine lv_aload_n hx hb dX5_expectNumber_10 rfl (lv_at hl 1 rfl) ?_
  refine va_get (D := (dC, dI)) (ci := 5) (v := .ref rd_kinds) (C := RX5) (T := TX5) (N := 13) hx hb hts zl_X5 hown hK hP 0 rfl rfl 3 (by decide) (hts _ zw_t1_198) (fun _ h9 => h9) rfl dX5_expectNumber_11 ?_
  refine lv_aload_n hx hb dX5_expectNumber_14 rfl (lv_at hl 1 rfl) ?_
  refine va_get (D := (dC, dI)) (ci := 5) (v := .int rd_at) (C := RX5) (T := TX5) (N := 13) hx hb hts zl_X5 hown hK hP 0 rfl rfl 8 (by decide) (hts _ zw_t1_203) (fun _ h9 => h9) rfl dX5_expectNumber_15 ?_
  refine va_iald hx hb hK hP 1 0 rfl rfl (zi_in rfl (by first | with_reducible assumption | omega)) dX5_expectNumber_18 ?_
  refine lv_topi (fun x_2 ex_2 => ?_)
  replace hF := hF.trans (zL_eq ex_2)
  have b_x_2 : 0 ≤ x_2.toInt ∧ x_2.toInt ≤ 5 := by rw [ex_2]; exact b_f_rd_kinds _
  refine lv_iconst (v := 2) hx hb dX5_expectNumber_19 (by decide) ?_
  refine lv_icmp_eq (tgt := 31) hx hb dX5_expectNumber_20 (by decide) (fun c_3 => ?_) (fun c_3 => ?_)
  · have ic_3 := zz_eq rfl (show Int32.toInt 2 = 2 from by decide) c_3
    replace hF := hF.trans (if_pos c_3)
    refine lv_iload_n hx hb dX5_expectNumber_31 rfl (lv_at hl 0 rfl) ?_
    refine lv_iload_n hx hb dX5_expectNumber_32 rfl (lv_at hl 2 rfl) ?_
    refine lv_icmp_lt (tgt := 41) hx hb dX5_expectNumber_33 (by decide) (fun c_4 => ?_) (fun c_4 => ?_)
    · have ic_4 := zz_lt rfl rfl c_4
      replace hF := hF.trans (if_pos c_4)
      refine lv_aload_n hx hb dX5_expectNumber_41 rfl (lv_at hl 1 rfl) ?_
      refine lv_iconst (v := 2) hx hb dX5_expectNumber_42 (by decide) ?_
      obtain ⟨hPc, hDc, hFc⟩ := z_cut (wc := (zV211 rd rd_fault rd_place tx rd_kinds rd_starts rd_stops rd_values rd_tokens rd_at tn rd_strayCount rd_lawTold rd_falseTold rd_starts cA_rd_starts f_rd_starts)) hP hD hS hA [0, 2] rfl (by decide +kernel)
      have hKc := hK.sub (tys' := [(cA_rd_starts, .int)]) [1] rfl
      refine va_callv (va_runV (As := [.int 2]) (rest := []) ⟨hx, hb, hml, hown, hts⟩ (kf_X5_blame l sa dC dI rd (2) rd_fault rd_place tx rd_kinds rd_starts rd_stops rd_values rd_tokens rd_at tn rd_strayCount rd_lawTold rd_falseTold cA_rd_starts f_rd_starts (by decide) b_rd_tokens b_rd_at b_rd_strayCount b_rd_lawTold b_rd_falseTold b_f_rd_starts s.heap.size) (cwV 1 hts (z_gV zw_t3_89 zw_t3_91 zw_s1_7 zw_t1_4 zw_t3_92) rfl rfl rfl (by decide +kernel) (by rw [← hRe]; exact ⟨(Nat.le_of_ble_eq_true rfl), (Nat.le_of_ble_eq_true rfl)⟩)) (z_preV hPc hKc hDc hN hXs hS hFc (q := (RX5, TX5, 13)) (ci := 5) (q0 := 0) rfl rfl) rfl rfl hl.1 rfl (lv_room (Nat.le_of_ble_eq_true rfl)) dX5_expectNumber_43 (by rw [← hRe]; exact ⟨(Nat.le_of_ble_eq_true rfl), (Nat.le_of_ble_eq_true rfl)⟩)) hS (fun q _ h => hFc q h) hFc (fun u t H1 locs ht hvm hw hB hz1 hk1 hS => ?_)
      refine hB.elim fun n_rd_6 ze1 => ze1.elim fun n_rd_7 ze2 => ze2.elim fun hf_8 ze3 => ze3.elim fun hf_9 ze4 => ze4.elim fun hf_10 ze5 => ?_
      clear hB ze1 ze2 ze3 ze4
      have hB := ze5
      clear ze5
      obtain ⟨hP, hD, hK⟩ := z_after3 (wn := [(rd_kinds, .inl (cA_rd_kinds, 1601, .inl f_rd_kinds)), (rd_values, .inl (cA_rd_values, 1601, .inl f_rd_values)), (rd, .inr (5, [.int n_rd_6, .int n_rd_7, .ref tx, .ref rd_kinds, .ref rd_starts, .ref rd_stops, .ref rd_values, .int rd_tokens, .int rd_at, .ref tn, .int rd_strayCount, .int rd_lawTold, .int rd_falseTold])), (rd_starts, .inl (cA_rd_starts, 1601, .inl f_rd_starts))]) hB ht hvm hP hD hK [0, 2] [1, 3] rfl 4 rfl (by decide +kernel) rfl (by decide +kernel) hk1 hFc
      generalize H1 = H at hP hS ⊢
      have hK : va_K (dC, dI) vwCl [(cA_rd_kinds, .int), (cA_rd_starts, .int), (cA_rd_values, .int)] s := hK
      replace hF := hF.trans (zL_eq rfl)
      replace hF := hF.trans (zL_eq hf_9)
      replace hF := hF.trans (zL_eq hf_10)
      refine lv_aload_n hx hb dX5_expectNumber_46 rfl (lv_at hl 1 rfl) ?_
      obtain ⟨hPc, hDc, hFc⟩ := z_cut (wc := (zV212 rd n_rd_6 n_rd_7 tx rd_kinds rd_starts rd_stops rd_values rd_tokens rd_at tn rd_strayCount rd_lawTold rd_falseTold)) hP hD hS hA [2] rfl (by decide +kernel)
      have hKc := hK.sub (tys' := []) [] rfl
      refine va_callv (va_runV (As := []) (rest := []) ⟨hx, hb, hml, hown, hts⟩ (kf_X5_advance l sa dC dI rd n_rd_6 n_rd_7 tx rd_kinds rd_starts rd_stops rd_values rd_tokens rd_at tn rd_strayCount rd_lawTold rd_falseTold b_rd_tokens b_rd_at b_rd_strayCount b_rd_lawTold b_rd_falseTold H.size) (cwV 0 hts (z_gV zw_t3_93 zw_t3_95 zw_s1_8 zw_t1_4 zw_t3_96) rfl rfl rfl (by decide +kernel) (by rw [← hRe]; exact ⟨(Nat.le_of_ble_eq_true rfl), (Nat.le_of_ble_eq_true rfl)⟩)) (z_preV hPc hKc hDc hN hXs hS hFc (q := (RX5, TX5, 13)) (ci := 5) (q0 := 0) rfl rfl) rfl rfl hl.1 rfl (lv_room (Nat.le_of_ble_eq_true rfl)) dX5_expectNumber_47 (by rw [← hRe]; exact ⟨(Nat.le_of_ble_eq_true rfl), (Nat.le_of_ble_eq_true rfl)⟩)) hS (fun q _ h => hFc q h) hFc (fun u t H1 locs ht hvm hw hB hz1 hk1 hS => ?_)
      obtain ⟨n_rd_13, b_n_rd_13, hf_14, hB⟩ := hB
      obtain ⟨hP, hD, hK⟩ := z_after3 (wn := (zV214 rd_kinds cA_rd_kinds f_rd_kinds rd_values cA_rd_values f_rd_values rd_starts cA_rd_starts f_rd_starts rd n_rd_6 n_rd_7 tx rd_kinds rd_starts rd_stops rd_values rd_tokens n_rd_13 tn rd_strayCount rd_lawTold rd_falseTold)) hB ht hvm hP hD hK [2] [0, 1, 3] rfl 4 rfl (by decide +kernel) rfl (by decide +kernel) hk1 hFc
      generalize H1 = H at hP hS ⊢
      have hK : va_K (dC, dI) vwCl [(cA_rd_kinds, .int), (cA_rd_starts, .int), (cA_rd_values, .int)] s := hK
      replace hF := hF.trans (zL_eq hf_14)
      refine lv_aload_n hx hb dX5_expectNumber_50 rfl (lv_at hl 1 rfl) ?_
      refine va_get (D := (dC, dI)) (ci := 5) (v := .int n_rd_6) (C := RX5) (T := TX5) (N := 13) hx hb hts zl_X5 hown hK hP 3 rfl rfl 0 (by decide) (hts _ zw_t1_193) (fun _ h9 => h9) rfl dX5_expectNumber_51 ?_
      have nb_n_rd_6 := zi_nb n_rd_6
      refine lv_if_ne (tgt := 61) hx hb dX5_expectNumber_54 (by decide) (fun c_15 => ?_) (fun c_15 => ?_)
      · have ic_15 := zz_ne rfl (show Int32.toInt 0 = 0 from by decide) c_15
        replace hF := hF.trans (if_neg c_15)
        refine lv_iconst (v := 0) hx hb dX5_expectNumber_61 (by decide) ?_
        have hF : RR = ((0 : Int32), n_rd_6, n_rd_7, n_rd_13) := hF
        have zc : Int32.toInt 0 = 0 := by decide
        exact W.iret (v := 0) hx hb hr (fun t ht hW => by rw [← hQe]; exact ⟨⟨0, (), rfl, ⟨by decide, ⟨by omega, (by rw [← hRR, hF])⟩⟩, ⟨n_rd_6, n_rd_7, n_rd_13, (by first | with_reducible assumption | omega), (by rw [← hRR, hF]), (by rw [← hRR, hF]), (by rw [← hRR, hF]), z_ret hP hK hD ht hW [3, 0, 2, 1] [] rfl (by decide) rfl⟩⟩, hS.F ht⟩) hS.2.2 dX5_expectNumber_62
      · have ic_15 := zz_nne rfl (show Int32.toInt 0 = 0 from by decide) c_15
        replace hF := hF.trans (if_pos c_15)
        refine lv_iload_n hx hb dX5_expectNumber_57 rfl (lv_at hl 0 rfl) ?_
        refine lv_goto (tgt := 62) hx hb dX5_expectNumber_58 (by decide) ?_
        have hF : RR = (x_1, n_rd_6, n_rd_7, n_rd_13) := hF
        exact W.iret (v := x_1) hx hb hr (fun t ht hW => by rw [← hQe]; exact ⟨⟨x_1, (), rfl, ⟨by omega, ⟨by omega, (by rw [← hRR, hF])⟩⟩, ⟨n_rd_6, n_rd_7, n_rd_13, (by first | with_reducible assumption | omega), (by rw [← hRR, hF]), (by rw [← hRR, hF]), (by rw [← hRR, hF]), z_ret hP hK hD ht hW [3, 0, 2, 1] [] rfl (by decide) rfl⟩⟩, hS.F ht⟩) hS.2.2 dX5_expectNumber_62
    · have ic_4 := zz_nlt rfl rfl c_4
      replace hF := hF.trans (if_neg c_4)
      refine lv_iload_n hx hb dX5_expectNumber_36 rfl (lv_at hl 0 rfl) ?_
      refine lv_iload_n hx hb dX5_expectNumber_37 rfl (lv_at hl 3 rfl) ?_
      refine lv_icmp_le (tgt := 46) hx hb dX5_expectNumber_38 (by decide) (fun c_16 => ?_) (fun c_16 => ?_)
      · have ic_16 := zz_le rfl rfl c_16
        replace hF := hF.trans (if_pos c_16)
        refine lv_aload_n hx hb dX5_expectNumber_46 rfl (lv_at hl 1 rfl) ?_
        obtain ⟨hPc, hDc, hFc⟩ := z_cut (wc := (zV212 rd rd_fault rd_place tx rd_kinds rd_starts rd_stops rd_values rd_tokens rd_at tn rd_strayCount rd_lawTold rd_falseTold)) hP hD hS hA [0] rfl (by decide +kernel)
        have hKc := hK.sub (tys' := []) [] rfl
        refine va_callv (va_runV (As := []) (rest := []) ⟨hx, hb, hml, hown, hts⟩ (kf_X5_advance l sa dC dI rd rd_fault rd_place tx rd_kinds rd_starts rd_stops rd_values rd_tokens rd_at tn rd_strayCount rd_lawTold rd_falseTold b_rd_tokens b_rd_at b_rd_strayCount b_rd_lawTold b_rd_falseTold s.heap.size) (cwV 0 hts (z_gV zw_t3_93 zw_t3_95 zw_s1_8 zw_t1_4 zw_t3_96) rfl rfl rfl (by decide +kernel) (by rw [← hRe]; exact ⟨(Nat.le_of_ble_eq_true rfl), (Nat.le_of_ble_eq_true rfl)⟩)) (z_preV hPc hKc hDc hN hXs hS hFc (q := (RX5, TX5, 13)) (ci := 5) (q0 := 0) rfl rfl) rfl rfl hl.1 rfl (lv_room (Nat.le_of_ble_eq_true rfl)) dX5_expectNumber_47 (by rw [← hRe]; exact ⟨(Nat.le_of_ble_eq_true rfl), (Nat.le_of_ble_eq_true rfl)⟩)) hS (fun q _ h => hFc q h) hFc (fun u t H1 locs ht hvm hw hB hz1 hk1 hS => ?_)
        obtain ⟨n_rd_18, b_n_rd_18, hf_19, hB⟩ := hB
        obtain ⟨hP, hD, hK⟩ := z_after3 (wn := (zV214 rd_kinds cA_rd_kinds f_rd_kinds rd_starts cA_rd_starts f_rd_starts rd_values cA_rd_values f_rd_values rd rd_fault rd_place tx rd_kinds rd_starts rd_stops rd_values rd_tokens n_rd_18 tn rd_strayCount rd_lawTold rd_falseTold)) hB ht hvm hP hD hK [0] [1, 2, 3] rfl 4 rfl (by decide +kernel) rfl (by decide +kernel) hk1 hFc
        generalize H1 = H at hP hS ⊢
        have hK : va_K (dC, dI) vwCl [(cA_rd_kinds, .int), (cA_rd_starts, .int), (cA_rd_values, .int)] s := hK
        replace hF := hF.trans (zL_eq hf_19)
        refine lv_aload_n hx hb dX5_expectNumber_50 rfl (lv_at hl 1 rfl) ?_
        refine va_get (D := (dC, dI)) (ci := 5) (v := .int rd_fault) (C := RX5) (T := TX5) (N := 13) hx hb hts zl_X5 hown hK hP 3 rfl rfl 0 (by decide) (hts _ zw_t1_193) (fun _ h9 => h9) rfl dX5_expectNumber_51 ?_
        have nb_rd_fault := zi_nb rd_fault
        refine lv_if_ne (tgt := 61) hx hb dX5_expectNumber_54 (by decide) (fun c_20 => ?_) (fun c_20 => ?_)
        · have ic_20 := zz_ne rfl (show Int32.toInt 0 = 0 from by decide) c_20
          replace hF := hF.trans (if_neg c_20)
          refine lv_iconst (v := 0) hx hb dX5_expectNumber_61 (by decide) ?_
          have hF : RR = ((0 : Int32), rd_fault, rd_place, n_rd_18) := hF
          have zc : Int32.toInt 0 = 0 := by decide
          exact W.iret (v := 0) hx hb hr (fun t ht hW => by rw [← hQe]; exact ⟨⟨0, (), rfl, ⟨by decide, ⟨by omega, (by rw [← hRR, hF])⟩⟩, ⟨rd_fault, rd_place, n_rd_18, (by first | with_reducible assumption | omega), (by rw [← hRR, hF]), (by rw [← hRR, hF]), (by rw [← hRR, hF]), z_ret hP hK hD ht hW [3, 0, 1, 2] [] rfl (by decide) rfl⟩⟩, hS.F ht⟩) hS.2.2 dX5_expectNumber_62
        · have ic_20 := zz_nne rfl (show Int32.toInt 0 = 0 from by decide) c_20
          replace hF := hF.trans (if_pos c_20)
          refine lv_iload_n hx hb dX5_expectNumber_57 rfl (lv_at hl 0 rfl) ?_
          refine lv_goto (tgt := 62) hx hb dX5_expectNumber_58 (by decide) ?_
          have hF : RR = (x_1, rd_fault, rd_place, n_rd_18) := hF
          exact W.iret (v := x_1) hx hb hr (fun t ht hW => by rw [← hQe]; exact ⟨⟨x_1, (), rfl, ⟨by omega, ⟨by omega, (by rw [← hRR, hF])⟩⟩, ⟨rd_fault, rd_place, n_rd_18, (by first | with_reducible assumption | omega), (by rw [← hRR, hF]), (by rw [← hRR, hF]), (by rw [← hRR, hF]), z_ret hP hK hD ht hW [3, 0, 1, 2] [] rfl (by decide) rfl⟩⟩, hS.F ht⟩) hS.2.2 dX5_expectNumber_62
      · have ic_16 := zz_nle rfl rfl c_16
        replace hF := hF.trans (if_neg c_16)
        refine lv_aload_n hx hb dX5_expectNumber_41 rfl (lv_at hl 1 rfl) ?_
        refine lv_iconst (v := 2) hx hb dX5_expectNumber_42 (by decide) ?_
        obtain ⟨hPc, hDc, hFc⟩ := z_cut (wc := (zV211 rd rd_fault rd_place tx rd_kinds rd_starts rd_stops rd_values rd_tokens rd_at tn rd_strayCount rd_lawTold rd_falseTold rd_starts cA_rd_starts f_rd_starts)) hP hD hS hA [0, 2] rfl (by decide +kernel)
        have hKc := hK.sub (tys' := [(cA_rd_starts, .int)]) [1] rfl
        refine va_callv (va_runV (As := [.int 2]) (rest := []) ⟨hx, hb, hml, hown, hts⟩ (kf_X5_blame l sa dC dI rd (2) rd_fault rd_place tx rd_kinds rd_starts rd_stops rd_values rd_tokens rd_at tn rd_strayCount rd_lawTold rd_falseTold cA_rd_starts f_rd_starts (by decide) b_rd_tokens b_rd_at b_rd_strayCount b_rd_lawTold b_rd_falseTold b_f_rd_starts s.heap.size) (cwV 1 hts (z_gV zw_t3_89 zw_t3_91 zw_s1_7 zw_t1_4 zw_t3_92) rfl rfl rfl (by decide +kernel) (by rw [← hRe]; exact ⟨(Nat.le_of_ble_eq_true rfl), (Nat.le_of_ble_eq_true rfl)⟩)) (z_preV hPc hKc hDc hN hXs hS hFc (q := (RX5, TX5, 13)) (ci := 5) (q0 := 0) rfl rfl) rfl rfl hl.1 rfl (lv_room (Nat.le_of_ble_eq_true rfl)) dX5_expectNumber_43 (by rw [← hRe]; exact ⟨(Nat.le_of_ble_eq_true rfl), (Nat.le_of_ble_eq_true rfl)⟩)) hS (fun q _ h => hFc q h) hFc (fun u t H1 locs ht hvm hw hB hz1 hk1 hS => ?_)
        refine hB.elim fun n_rd_22 ze1 => ze1.elim fun n_rd_23 ze2 => ze2.elim fun hf_24 ze3 => ze3.elim fun hf_25 ze4 => ze4.elim fun hf_26 ze5 => ?_
        clear hB ze1 ze2 ze3 ze4
        have hB := ze5
        clear ze5
        obtain ⟨hP, hD, hK⟩ := z_after3 (wn := [(rd_kinds, .inl (cA_rd_kinds, 1601, .inl f_rd_kinds)), (rd_values, .inl (cA_rd_values, 1601, .inl f_rd_values)), (rd, .inr (5, [.int n_rd_22, .int n_rd_23, .ref tx, .ref rd_kinds, .ref rd_starts, .ref rd_stops, .ref rd_values, .int rd_tokens, .int rd_at, .ref tn, .int rd_strayCount, .int rd_lawTold, .int rd_falseTold])), (rd_starts, .inl (cA_rd_starts, 1601, .inl f_rd_starts))]) hB ht hvm hP hD hK [0, 2] [1, 3] rfl 4 rfl (by decide +kernel) rfl (by decide +kernel) hk1 hFc
        generalize H1 = H at hP hS ⊢
        have hK : va_K (dC, dI) vwCl [(cA_rd_kinds, .int), (cA_rd_starts, .int), (cA_rd_values, .int)] s := hK
        replace hF := hF.trans (zL_eq rfl)
        replace hF := hF.trans (zL_eq hf_25)
        replace hF := hF.trans (zL_eq hf_26)
        refine lv_aload_n hx hb dX5_expectNumber_46 rfl (lv_at hl 1 rfl) ?_
        obtain ⟨hPc, hDc, hFc⟩ := z_cut (wc := (zV212 rd n_rd_22 n_rd_23 tx rd_kinds rd_starts rd_stops rd_values rd_tokens rd_at tn rd_strayCount rd_lawTold rd_falseTold)) hP hD hS hA [2] rfl (by decide +kernel)
        have hKc := hK.sub (tys' := []) [] rfl
        refine va_callv (va_runV (As := []) (rest := []) ⟨hx, hb, hml, hown, hts⟩ (kf_X5_advance l sa dC dI rd n_rd_22 n_rd_23 tx rd_kinds rd_starts rd_stops rd_values rd_tokens rd_at tn rd_strayCount rd_lawTold rd_falseTold b_rd_tokens b_rd_at b_rd_strayCount b_rd_lawTold b_rd_falseTold H.size) (cwV 0 hts (z_gV zw_t3_93 zw_t3_95 zw_s1_8 zw_t1_4 zw_t3_96) rfl rfl rfl (by decide +kernel) (by rw [← hRe]; exact ⟨(Nat.le_of_ble_eq_true rfl), (Nat.le_of_ble_eq_true rfl)⟩)) (z_preV hPc hKc hDc hN hXs hS hFc (q := (RX5, TX5, 13)) (ci := 5) (q0 := 0) rfl rfl) rfl rfl hl.1 rfl (lv_room (Nat.le_of_ble_eq_true rfl)) dX5_expectNumber_47 (by rw [← hRe]; exact ⟨(Nat.le_of_ble_eq_true rfl), (Nat.le_of_ble_eq_true rfl)⟩)) hS (fun q _ h => hFc q h) hFc (fun u t H1 locs ht hvm hw hB hz1 hk1 hS => ?_)
        obtain ⟨n_rd_29, b_n_rd_29, hf_30, hB⟩ := hB
        obtain ⟨hP, hD, hK⟩ := z_after3 (wn := (zV214 rd_kinds cA_rd_kinds f_rd_kinds rd_values cA_rd_values f_rd_values rd_starts cA_rd_starts f_rd_starts rd n_rd_22 n_rd_23 tx rd_kinds rd_starts rd_stops rd_values rd_tokens n_rd_29 tn rd_strayCount rd_lawTold rd_falseTold)) hB ht hvm hP hD hK [2] [0, 1, 3] rfl 4 rfl (by decide +kernel) rfl (by decide +kernel) hk1 hFc
        generalize H1 = H at hP hS ⊢
        have hK : va_K (dC, dI) vwCl [(cA_rd_kinds, .int), (cA_rd_starts, .int), (cA_rd_values, .int)] s := hK
        replace hF := hF.trans (zL_eq hf_30)
        refine lv_aload_n hx hb dX5_expectNumber_50 rfl (lv_at hl 1 rfl) ?_
        refine va_get (D := (dC, dI)) (ci := 5) (v := .int n_rd_22) (C := RX5) (T := TX5) (N := 13) hx hb hts zl_X5 hown hK hP 3 rfl rfl 0 (by decide) (hts _ zw_t1_193) (fun _ h9 => h9) rfl dX5_expectNumber_51 ?_
        have nb_n_rd_22 := zi_nb n_rd_22
        refine lv_if_ne (tgt := 61) hx hb dX5_expectNumber_54 (by decide) (fun c_31 => ?_) (fun c_31 => ?_)
        · have ic_31 := zz_ne rfl (show Int32.toInt 0 = 0 from by decide) c_31
          replace hF := hF.trans (if_neg c_31)
          refine lv_iconst (v := 0) hx hb dX5_expectNumber_61 (by decide) ?_
          have hF : RR = ((0 : Int32), n_rd_22, n_rd_23, n_rd_29) := hF
          have zc : Int32.toInt 0 = 0 := by decide
          exact W.iret (v := 0) hx hb hr (fun t ht hW => by rw [← hQe]; exact ⟨⟨0, (), rfl, ⟨by decide, ⟨by omega, (by rw [← hRR, hF])⟩⟩, ⟨n_rd_22, n_rd_23, n_rd_29, (by first | with_reducible assumption | omega), (by rw [← hRR, hF]), (by rw [← hRR, hF]), (by rw [← hRR, hF]), z_ret hP hK hD ht hW [3, 0, 2, 1] [] rfl (by decide) rfl⟩⟩, hS.F ht⟩) hS.2.2 dX5_expectNumber_62
        · have ic_31 := zz_nne rfl (show Int32.toInt 0 = 0 from by decide) c_31
          replace hF := hF.trans (if_pos c_31)
          refine lv_iload_n hx hb dX5_expectNumber_57 rfl (lv_at hl 0 rfl) ?_
          refine lv_goto (tgt := 62) hx hb dX5_expectNumber_58 (by decide) ?_
          have hF : RR = (x_1, n_rd_22, n_rd_23, n_rd_29) := hF
          exact W.iret (v := x_1) hx hb hr (fun t ht hW => by rw [← hQe]; exact ⟨⟨x_1, (), rfl, ⟨by omega, ⟨by omega, (by rw [← hRR, hF])⟩⟩, ⟨n_rd_22, n_rd_23, n_rd_29, (by first | with_reducible assumption | omega), (by rw [← hRR, hF]), (by rw [← hRR, hF]), (by rw [← hRR, hF]), z_ret hP hK hD ht hW [3, 0, 2, 1] [] rfl (by decide) rfl⟩⟩, hS.F ht⟩) hS.2.2 dX5_expectNumber_62
  · have ic_3 := zz_neq rfl (show Int32.toInt 2 = 2 from by decide) c_3
    replace hF := hF.trans (if_neg c_3)
    refine lv_aload_n hx hb dX5_expectNumber_23 rfl (lv_at hl 1 rfl) ?_
    refine lv_iconst (v := 1) hx hb dX5_expectNumber_24 (by decide) ?_
    obtain ⟨hPc, hDc, hFc⟩ := z_cut (wc := (zV211 rd rd_fault rd_place tx rd_kinds rd_starts rd_stops rd_values rd_tokens rd_at tn rd_strayCount rd_lawTold rd_falseTold rd_starts cA_rd_starts f_rd_starts)) hP hD hS hA [0, 2] rfl (by decide +kernel)
    have hKc := hK.sub (tys' := [(cA_rd_starts, .int)]) [1] rfl
    refine va_callv (va_runV (As := [.int 1]) (rest := []) ⟨hx, hb, hml, hown, hts⟩ (kf_X5_blame l sa dC dI rd (1) rd_fault rd_place tx rd_kinds rd_starts rd_stops rd_values rd_tokens rd_at tn rd_strayCount rd_lawTold rd_falseTold cA_rd_starts f_rd_starts (by decide) b_rd_tokens b_rd_at b_rd_strayCount b_rd_lawTold b_rd_falseTold b_f_rd_starts s.heap.size) (cwV 1 hts (z_gV zw_t3_89 zw_t3_91 zw_s1_7 zw_t1_4 zw_t3_92) rfl rfl rfl (by decide +kernel) (by rw [← hRe]; exact ⟨(Nat.le_of_ble_eq_true rfl), (Nat.le_of_ble_eq_true rfl)⟩)) (z_preV hPc hKc hDc hN hXs hS hFc (q := (RX5, TX5, 13)) (ci := 5) (q0 := 0) rfl rfl) rfl rfl hl.1 rfl (lv_room (Nat.le_of_ble_eq_true rfl)) dX5_expectNumber_25 (by rw [← hRe]; exact ⟨(Nat.le_of_ble_eq_true rfl), (Nat.le_of_ble_eq_true rfl)⟩)) hS (fun q _ h => hFc q h) hFc (fun u t H1 locs ht hvm hw hB hz1 hk1 hS => ?_)
    refine hB.elim fun n_rd_33 ze1 => ze1.elim fun n_rd_34 ze2 => ze2.elim fun hf_35 ze3 => ze3.elim fun hf_36 ze4 => ze4.elim fun hf_37 ze5 => ?_
    clear hB ze1 ze2 ze3 ze4
    have hB := ze5
    clear ze5
    obtain ⟨hP, hD, hK⟩ := z_after3 (wn := [(rd_kinds, .inl (cA_rd_kinds, 1601, .inl f_rd_kinds)), (rd_values, .inl (cA_rd_values, 1601, .inl f_rd_values)), (rd, .inr (5, [.int n_rd_33, .int n_rd_34, .ref tx, .ref rd_kinds, .ref rd_starts, .ref rd_stops, .ref rd_values, .int rd_tokens, .int rd_at, .ref tn, .int rd_strayCount, .int rd_lawTold, .int rd_falseTold])), (rd_starts, .inl (cA_rd_starts, 1601, .inl f_rd_starts))]) hB ht hvm hP hD hK [0, 2] [1, 3] rfl 4 rfl (by decide +kernel) rfl (by decide +kernel) hk1 hFc
    generalize H1 = H at hP hS ⊢
    have hK : va_K (dC, dI) vwCl [(cA_rd_kinds, .int), (cA_rd_starts, .int), (cA_rd_values, .int)] s := hK
    replace hF := hF.trans (zL_eq rfl)
    replace hF := hF.trans (zL_eq hf_36)
    replace hF := hF.trans (zL_eq hf_37)
    refine lv_goto (tgt := 46) hx hb dX5_expectNumber_28 (by decide) ?_
    refine lv_aload_n hx hb dX5_expectNumber_46 rfl (lv_at hl 1 rfl) ?_
    obtain ⟨hPc, hDc, hFc⟩ := z_cut (wc := (zV212 rd n_rd_33 n_rd_34 tx rd_kinds rd_starts rd_stops rd_values rd_tokens rd_at tn rd_strayCount rd_lawTold rd_falseTold)) hP hD hS hA [2] rfl (by decide +kernel)
    have hKc := hK.sub (tys' := []) [] rfl
    refine va_callv (va_runV (As := []) (rest := []) ⟨hx, hb, hml, hown, hts⟩ (kf_X5_advance l sa dC dI rd n_rd_33 n_rd_34 tx rd_kinds rd_starts rd_stops rd_values rd_tokens rd_at tn rd_strayCount rd_lawTold rd_falseTold b_rd_tokens b_rd_at b_rd_strayCount b_rd_lawTold b_rd_falseTold H.size) (cwV 0 hts (z_gV zw_t3_93 zw_t3_95 zw_s1_8 zw_t1_4 zw_t3_96) rfl rfl rfl (by decide +kernel) (by rw [← hRe]; exact ⟨(Nat.le_of_ble_eq_true rfl), (Nat.le_of_ble_eq_true rfl)⟩)) (z_preV hPc hKc hDc hN hXs hS hFc (q := (RX5, TX5, 13)) (ci := 5) (q0 := 0) rfl rfl) rfl rfl hl.1 rfl (lv_room (Nat.le_of_ble_eq_true rfl)) dX5_expectNumber_47 (by rw [← hRe]; exact ⟨(Nat.le_of_ble_eq_true rfl), (Nat.le_of_ble_eq_true rfl)⟩)) hS (fun q _ h => hFc q h) hFc (fun u t H1 locs ht hvm hw hB hz1 hk1 hS => ?_)
    obtain ⟨n_rd_40, b_n_rd_40, hf_41, hB⟩ := hB
    obtain ⟨hP, hD, hK⟩ := z_after3 (wn := (zV214 rd_kinds cA_rd_kinds f_rd_kinds rd_values cA_rd_values f_rd_values rd_starts cA_rd_starts f_rd_starts rd n_rd_33 n_rd_34 tx rd_kinds rd_starts rd_stops rd_values rd_tokens n_rd_40 tn rd_strayCount rd_lawTold rd_falseTold)) hB ht hvm hP hD hK [2] [0, 1, 3] rfl 4 rfl (by decide +kernel) rfl (by decide +kernel) hk1 hFc
    generalize H1 = H at hP hS ⊢
    have hK : va_K (dC, dI) vwCl [(cA_rd_kinds, .int), (cA_rd_starts, .int), (cA_rd_values, .int)] s := hK
    replace hF := hF.trans (zL_eq hf_41)
    refine lv_aload_n hx hb dX5_expectNumber_50 rfl (lv_at hl 1 rfl) ?_
    refine va_get (D := (dC, dI)) (ci := 5) (v := .int n_rd_33) (C := RX5) (T := TX5) (N := 13) hx hb hts zl_X5 hown hK hP 3 rfl rfl 0 (by decide) (hts _ zw_t1_193) (fun _ h9 => h9) rfl dX5_expectNumber_51 ?_
    have nb_n_rd_33 := zi_nb n_rd_33
    refine lv_if_ne (tgt := 61) hx hb dX5_expectNumber_54 (by decide) (fun c_42 => ?_) (fun c_42 => ?_)
    · have ic_42 := zz_ne rfl (show Int32.toInt 0 = 0 from by decide) c_42
      replace hF := hF.trans (if_neg c_42)
      refine lv_iconst (v := 0) hx hb dX5_expectNumber_61 (by decide) ?_
      have hF : RR = ((0 : Int32), n_rd_33, n_rd_34, n_rd_40) := hF
      have zc : Int32.toInt 0 = 0 := by decide
      exact W.iret (v := 0) hx hb hr (fun t ht hW => by rw [← hQe]; exact ⟨⟨0, (), rfl, ⟨by decide, ⟨by omega, (by rw [← hRR, hF])⟩⟩, ⟨n_rd_33, n_rd_34, n_rd_40, (by first | with_reducible assumption | omega), (by rw [← hRR, hF]), (by rw [← hRR, hF]), (by rw [← hRR, hF]), z_ret hP hK hD ht hW [3, 0, 2, 1] [] rfl (by decide) rfl⟩⟩, hS.F ht⟩) hS.2.2 dX5_expectNumber_62
    · have ic_42 := zz_nne rfl (show Int32.toInt 0 = 0 from by decide) c_42
      replace hF := hF.trans (if_pos c_42)
      refine lv_iload_n hx hb dX5_expectNumber_57 rfl (lv_at hl 0 rfl) ?_
      refine lv_goto (tgt := 62) hx hb dX5_expectNumber_58 (by decide) ?_
      have hF : RR = (x_1, n_rd_33, n_rd_34, n_rd_40) := hF
      exact W.iret (v := x_1) hx hb hr (fun t ht hW => by rw [← hQe]; exact ⟨⟨x_1, (), rfl, ⟨by omega, ⟨by omega, (by rw [← hRR, hF])⟩⟩, ⟨n_rd_33, n_rd_34, n_rd_40, (by first | with_reducible assumption | omega), (by rw [← hRR, hF]), (by rw [← hRR, hF]), (by rw [← hRR, hF]), z_ret hP hK hD ht hW [3, 0, 2, 1] [] rfl (by decide) rfl⟩⟩, hS.F ht⟩) hS.2.2 dX5_expectNumber_62
set_option maxHeartbeats 4000000 in
set_option maxRecDepth 100000 in
theorem kf_X5_expectCourt (l : Launch) (sa : Nat → Nat) (dC : Nat → ClassId) (dI : Nat → Nat → Nat) (rd : Nat) (rd_fault : Int32) (rd_place : Int32) (tx : Nat) (rd_kinds : Nat) (rd_starts : Nat) (rd_stops : Nat) (rd_values : Nat) (rd_tokens : Int32) (rd_at : Int32) (tn : Nat) (rd_strayCount : Int32) (rd_lawTold : Int32) (rd_falseTold : Int32) (cA_rd_kinds : ClassId) (f_rd_kinds : Nat → Int32) (cA_rd_starts : ClassId) (f_rd_starts : Nat → Int32) (cA_rd_values : ClassId) (f_rd_values : Nat → Int32) (tn_hours : Int32) (tn_courts : Int32) (tn_gateCount : Int32) (tn_people : Int32) (tn_lines : Int32) (tn_falseHours : Int32) (tn_strayers : Int32) (tn_deep : Int32) (tn_above : Nat) (tn_doors : Nat) (tn_degrees : Nat) (tn_neighbours : Nat) (tn_shows : Nat) (tn_oneEnd : Nat) (tn_otherEnd : Nat) (tn_told : Nat) (tn_strayParts : Nat) (tn_strayCourts : Nat) (b_rd_tokens : 0 ≤ rd_tokens.toInt ∧ rd_tokens.toInt ≤ 1600) (b_rd_at : 0 ≤ rd_at.toInt ∧ rd_at.toInt ≤ 1600) (b_rd_strayCount : 0 ≤ rd_strayCount.toInt ∧ rd_strayCount.toInt ≤ 4) (b_rd_lawTold : 0 ≤ rd_lawTold.toInt ∧ rd_lawTold.toInt ≤ 1) (b_rd_falseTold : 0 ≤ rd_falseTold.toInt ∧ rd_falseTold.toInt ≤ 1) (b_f_rd_kinds : ∀ j : Nat, 0 ≤ (f_rd_kinds j).toInt ∧ (f_rd_kinds j).toInt ≤ 5) (b_f_rd_starts : ∀ j : Nat, 0 ≤ (f_rd_starts j).toInt ∧ (f_rd_starts j).toInt ≤ 1600) (b_f_rd_values : ∀ j : Nat, 0 ≤ (f_rd_values j).toInt ∧ (f_rd_values j).toInt ≤ 100000) (b_tn_hours : 0 ≤ tn_hours.toInt ∧ tn_hours.toInt ≤ 48) (b_tn_courts : 0 ≤ tn_courts.toInt ∧ tn_courts.toInt ≤ 10) (b_tn_gateCount : 0 ≤ tn_gateCount.toInt ∧ tn_gateCount.toInt ≤ 16) (b_tn_people : 0 ≤ tn_people.toInt ∧ tn_people.toInt ≤ 10) (b_tn_falseHours : 0 ≤ tn_falseHours.toInt ∧ tn_falseHours.toInt ≤ 9) (b_tn_deep : 0 ≤ tn_deep.toInt ∧ tn_deep.toInt ≤ 1) (sz : Nat) : Met l yX5_expectCourt (.code yX5_expectCourt cX5_expectCourt 1 (some .int) :: zT) ({ frames := 2, cells := 0, slots := 0, locals := 44 }) (va_Pc [.ref rd] (zB sa dC dI (zV215 rd rd_fault rd_place tx rd_kinds rd_starts rd_stops rd_values rd_tokens rd_at tn rd_strayCount rd_lawTold rd_falseTold rd_kinds cA_rd_kinds f_rd_kinds rd_starts cA_rd_starts f_rd_starts rd_values cA_rd_values f_rd_values tn tn_hours tn_courts tn_gateCount tn_people tn_lines tn_falseHours tn_strayers tn_deep tn_above tn_doors tn_degrees tn_neighbours tn_shows tn_oneEnd tn_otherEnd tn_told tn_strayParts tn_strayCourts) [(cA_rd_kinds, .int), (cA_rd_starts, .int), (cA_rd_values, .int)] sz)) (va_Qi (fun (r : Int32) (_ : Unit) => (0 ≤ r.toInt ∧ r.toInt ≤ 9) ∧ r = (F_X5_expectCourt rd_fault rd_place rd_tokens rd_at f_rd_kinds f_rd_starts f_rd_values tn_courts).1) (fun _ t => ∃ (n_rd_0 : Int32) (n_rd_1 : Int32) (n_rd_8 : Int32), (0 ≤ n_rd_8.toInt ∧ n_rd_8.toInt ≤ 1600) ∧ (n_rd_0 = (F_X5_expectCourt rd_fault rd_place rd_tokens rd_at f_rd_kinds f_rd_starts f_rd_values tn_courts).2.1) ∧ (n_rd_1 = (F_X5_expectCourt rd_fault rd_place rd_tokens rd_at f_rd_kinds f_rd_starts f_rd_values tn_courts).2.2.1) ∧ (n_rd_8 = (F_X5_expectCourt rd_fault rd_place rd_tokens rd_at f_rd_kinds f_rd_starts f_rd_values tn_courts).2.2.2) ∧ zW dC dI (zV215 rd n_rd_0 n_rd_1 tx rd_kinds rd_starts rd_stops rd_values rd_tokens n_rd_8 tn rd_strayCount rd_lawTold rd_falseTold rd_kinds cA_rd_kinds f_rd_kinds rd_starts cA_rd_starts f_rd_starts rd_values cA_rd_values f_rd_values tn tn_hours tn_courts tn_gateCount tn_people tn_lines tn_falseHours tn_strayers tn_deep tn_above tn_doors tn_degrees tn_neighbours tn_shows tn_oneEnd tn_otherEnd tn_told tn_strayParts tn_strayCourts) [] (va_A (zV215 rd rd_fault rd_place tx rd_kinds rd_starts rd_stops rd_values rd_tokens rd_at tn rd_strayCount rd_lawTold rd_falseTold rd_kinds cA_rd_kinds f_rd_kinds rd_starts cA_rd_starts f_rd_starts rd_values cA_rd_values f_rd_values tn tn_hours tn_courts tn_gateCount tn_people tn_lines tn_falseHours tn_strayers tn_deep tn_above tn_doors tn_degrees tn_neighbours tn_shows tn_oneEnd tn_otherEnd tn_told tn_strayParts tn_strayCourts) sz) t) (va_A (zV215 rd rd_fault rd_place tx rd_kinds rd_starts rd_stops rd_values rd_tokens rd_at tn rd_strayCount rd_lawTold rd_falseTold rd_kinds cA_rd_kinds f_rd_kinds rd_starts cA_rd_starts f_rd_starts rd_values cA_rd_values f_rd_values tn tn_hours tn_courts tn_gateCount tn_people tn_lines tn_falseHours tn_strayers tn_deep tn_above tn_doors tn_degrees tn_neighbours tn_shows tn_oneEnd tn_otherEnd tn_told tn_strayParts tn_strayCourts) sz)) 0 0 (va_A (zV215 rd rd_fault rd_place tx rd_kinds rd_starts rd_stops rd_values rd_tokens rd_at tn rd_strayCount rd_lawTold rd_falseTold rd_kinds cA_rd_kinds f_rd_kinds rd_starts cA_rd_starts f_rd_starts rd_values cA_rd_values f_rd_values tn tn_hours tn_courts tn_gateCount tn_people tn_lines tn_falseHours tn_strayers tn_deep tn_above tn_doors tn_degrees tn_neighbours tn_shows tn_oneEnd tn_otherEnd tn_told tn_strayParts tn_strayCourts) sz) := by
  refine z_enter (by decide) (by exact (Nat.le_of_ble_eq_true rfl)) ?_
  intro p e s m args below meth c ls A R Qc hargs hsz hQe hAe hRe hx hb hml hr hts hown hlocks hin hl hP hK hD hN hXs hA hS
  rw [hAe] at hQe
  have hown : s.vm.findClass RX5 = some m.cls := hown
  have hl : lv_has ls 1 [(0, .ref rd)] := hl
  obtain ⟨RR, hRR⟩ : ∃ z : Int32 × Int32 × Int32 × Int32, z = (F_X5_expectCourt rd_fault rd_place rd_tokens rd_at f_rd_kinds f_rd_starts f_rd_values tn_courts) := ⟨_, rfl⟩
  have hF : RR = (F_X5_expectCourt rd_fault rd_place rd_tokens rd_at f_rd_kinds f_rd_starts f_rd_values tn_courts) := hRR
  refine lv_aload_n hx hb dX5_expectCourt_0 rfl (lv_at hl 0 rfl) ?_
  refine lv_iconst (v := 0) hx hb dX5_expectCourt_1 (by decide) ?_
  refine lv_aload_n hx hb dX5_expectCourt_2 rfl (lv_at hl 0 rfl) ?_
  refine va_get (D := (dC, dI)) (ci := 5) (v := .ref tn) (C := RX5) (T := TX5) (N := 13) hx hb hts zl_X5 hown hK hP 0 rfl rfl 9 (by decide) (hts _ zw_t1_204) (fun _ h9 => h9) rfl dX5_expectCourt_3 ?_
  refine va_get (D := (dC, dI)) (ci := 7) (v := .int tn_courts) (C := RX7) (T := TX7) (N := 18) hx hb hts zl_X7 hown hK hP 4 rfl rfl 1 (by decide) (hts _ zw_t1_51) (fun _ h9 => h9) rfl dX5_expectCourt_6 ?_
  refine lv_iconst (v := 1) hx hb dX5_expectCourt_9 (by decide) ?_
  refine lv_isub hx hb dX5_expectCourt_10 ?_
  refine lv_topi (fun x_1 ex_1 => ?_)
  replace hF := hF.trans (zL_eq ex_1)
  have b_x_1 : x_1.toInt = tn_courts.toInt - 1 := by rw [ex_1]; exact zi_sub rfl (show Int32.toInt 1 = 1 from by decide) (z_rsc b_tn_courts (by decide))
  obtain ⟨hPc, hDc, hFc⟩ := z_cut (wc := (zV210 rd rd_fault rd_place tx rd_kinds rd_starts rd_stops rd_values rd_tokens rd_at tn rd_strayCount rd_lawTold rd_falseTold rd_kinds cA_rd_kinds f_rd_kinds rd_starts cA_rd_starts f_rd_starts rd_values cA_rd_values f_rd_values)) hP hD hS hA [0, 1, 2, 3] rfl (by decide +kernel)
  have hKc := hK.sub (tys' := [(cA_rd_kinds, .int), (cA_rd_starts, .int), (cA_rd_values, .int)]) [0, 1, 2] rfl
  refine va_calli (va_runV (As := [.int 0, .int x_1]) (rest := []) ⟨hx, hb, hml, hown, hts⟩ (kf_X5_expectNumber l sa dC dI rd (0) x_1 rd_fault rd_place tx rd_kinds rd_starts rd_stops rd_values rd_tokens rd_at tn rd_strayCount rd_lawTold rd_falseTold cA_rd_kinds f_rd_kinds cA_rd_starts f_rd_starts cA_rd_values f_rd_values (by decide) (by first | with_reducible assumption | omega) b_rd_tokens b_rd_at b_rd_strayCount b_rd_lawTold b_rd_falseTold b_f_rd_kinds b_f_rd_starts b_f_rd_values s.heap.size) (cwV 2 hts (z_gV zw_t3_98 zw_t3_100 zw_s1_9 zw_t1_4 zw_t3_101) rfl rfl rfl (by decide +kernel) (by rw [← hRe]; exact ⟨(Nat.le_of_ble_eq_true rfl), (Nat.le_of_ble_eq_true rfl)⟩)) (z_preV hPc hKc hDc hN hXs hS hFc (q := (RX5, TX5, 13)) (ci := 5) (q0 := 0) rfl rfl) rfl rfl hl.1 rfl (lv_room (Nat.le_of_ble_eq_true rfl)) dX5_expectCourt_11 (by rw [← hRe]; exact ⟨(Nat.le_of_ble_eq_true rfl), (Nat.le_of_ble_eq_true rfl)⟩)) hS (fun q _ h => hFc q h) hFc (fun r_2 u t H1 locs ht hvm hw hB hz1 hk1 hS => ?_)
  refine hB.elim fun n_rd_3 ze1 => ze1.elim fun n_rd_4 ze2 => ze2.elim fun n_rd_5 ze3 => ze3.elim fun b_n_rd_5 ze4 => ze4.elim fun hf_6 ze5 => ze5.elim fun hf_7 ze6 => ze6.elim fun hf_8 ze7 => ?_
  clear hB ze1 ze2 ze3 ze4 ze5 ze6
  have hB := ze7
  clear ze7
  obtain ⟨hP, hD, hK⟩ := z_after3 (wn := [(tn, .inr (7, [.int tn_hours, .int tn_courts, .int tn_gateCount, .int tn_people, .int tn_lines, .int tn_falseHours, .int tn_strayers, .int tn_deep, .ref tn_above, .ref tn_doors, .ref tn_degrees, .ref tn_neighbours, .ref tn_shows, .ref tn_oneEnd, .ref tn_otherEnd, .ref tn_told, .ref tn_strayParts, .ref tn_strayCourts])), (rd, .inr (5, [.int n_rd_3, .int n_rd_4, .ref tx, .ref rd_kinds, .ref rd_starts, .ref rd_stops, .ref rd_values, .int rd_tokens, .int n_rd_5, .ref tn, .int rd_strayCount, .int rd_lawTold, .int rd_falseTold])), (rd_kinds, .inl (cA_rd_kinds, 1601, .inl f_rd_kinds)), (rd_starts, .inl (cA_rd_starts, 1601, .inl f_rd_starts)), (rd_values, .inl (cA_rd_values, 1601, .inl f_rd_values))]) hB ht hvm hP hD hK [0, 1, 2, 3] [4] rfl 5 rfl (by decide +kernel) rfl (by decide +kernel) hk1 hFc
  generalize H1 = H at hP hS ⊢
  have hK : va_K (dC, dI) vwCl [(cA_rd_kinds, .int), (cA_rd_starts, .int), (cA_rd_values, .int)] s := hK
  have b_r_2 : 0 ≤ r_2.toInt ∧ r_2.toInt ≤ 100000 := hw.1
  have s_r_2 := hw.2.1
  have sf_r_2 := hw.2.2
  have za_0 : Int32.toInt 0 = 0 := by decide
  replace hF := hF.trans (zL_eq rfl)
  replace hF := hF.trans (zL_eq sf_r_2)
  replace hF := hF.trans (zL_eq hf_6)
  replace hF := hF.trans (zL_eq hf_7)
  replace hF := hF.trans (zL_eq hf_8)
  have hF : RR = (r_2, n_rd_3, n_rd_4, n_rd_5) := hF
  exact W.iret (v := r_2) hx hb hr (fun t ht hW => by rw [← hQe]; exact ⟨⟨r_2, (), rfl, ⟨by omega, (by rw [← hRR, hF])⟩, ⟨n_rd_3, n_rd_4, n_rd_5, (by first | with_reducible assumption | omega), (by rw [← hRR, hF]), (by rw [← hRR, hF]), (by rw [← hRR, hF]), z_ret hP hK hD ht hW [1, 2, 3, 4, 0] [] rfl (by decide) rfl⟩⟩, hS.F ht⟩) hS.2.2 dX5_expectCourt_14
set_option maxHeartbeats 4000000 in
set_option maxRecDepth 100000 in
theorem kf_X5_readHours (l : Launch) (sa : Nat → Nat) (dC : Nat → ClassId) (dI : Nat → Nat → Nat) (rd : Nat) (rd_fault : Int32) (rd_place : Int32) (tx : Nat) (rd_kinds : Nat) (rd_starts : Nat) (rd_stops : Nat) (rd_values : Nat) (rd_tokens : Int32) (rd_at : Int32) (tn : Nat) (rd_strayCount : Int32) (rd_lawTold : Int32) (rd_falseTold : Int32) (cA_rd_kinds : ClassId) (f_rd_kinds : Nat → Int32) (cA_rd_starts : ClassId) (f_rd_starts : Nat → Int32) (cA_rd_stops : ClassId) (f_rd_stops : Nat → Int32) (cA_rd_values : ClassId) (f_rd_values : Nat → Int32) (cA_tx : ClassId) (f_tx : Nat → Int32) (tn_hours : Int32) (tn_courts : Int32) (tn_gateCount : Int32) (tn_people : Int32) (tn_lines : Int32) (tn_falseHours : Int32) (tn_strayers : Int32) (tn_deep : Int32) (tn_above : Nat) (tn_doors : Nat) (tn_degrees : Nat) (tn_neighbours : Nat) (tn_shows : Nat) (tn_oneEnd : Nat) (tn_otherEnd : Nat) (tn_told : Nat) (tn_strayParts : Nat) (tn_strayCourts : Nat) (b_rd_tokens : 0 ≤ rd_tokens.toInt ∧ rd_tokens.toInt ≤ 1600) (b_rd_at : 0 ≤ rd_at.toInt ∧ rd_at.toInt ≤ 1600) (b_rd_strayCount : 0 ≤ rd_strayCount.toInt ∧ rd_strayCount.toInt ≤ 4) (b_rd_lawTold : 0 ≤ rd_lawTold.toInt ∧ rd_lawTold.toInt ≤ 1) (b_rd_falseTold : 0 ≤ rd_falseTold.toInt ∧ rd_falseTold.toInt ≤ 1) (b_f_rd_kinds : ∀ j : Nat, 0 ≤ (f_rd_kinds j).toInt ∧ (f_rd_kinds j).toInt ≤ 5) (b_f_rd_starts : ∀ j : Nat, 0 ≤ (f_rd_starts j).toInt ∧ (f_rd_starts j).toInt ≤ 1600) (b_f_rd_stops : ∀ j : Nat, 0 ≤ (f_rd_stops j).toInt ∧ (f_rd_stops j).toInt ≤ 1600) (b_f_rd_values : ∀ j : Nat, 0 ≤ (f_rd_values j).toInt ∧ (f_rd_values j).toInt ≤ 100000) (b_tn_hours : 0 ≤ tn_hours.toInt ∧ tn_hours.toInt ≤ 48) (b_tn_courts : 0 ≤ tn_courts.toInt ∧ tn_courts.toInt ≤ 10) (b_tn_gateCount : 0 ≤ tn_gateCount.toInt ∧ tn_gateCount.toInt ≤ 16) (b_tn_people : 0 ≤ tn_people.toInt ∧ tn_people.toInt ≤ 10) (b_tn_falseHours : 0 ≤ tn_falseHours.toInt ∧ tn_falseHours.toInt ≤ 9) (b_tn_deep : 0 ≤ tn_deep.toInt ∧ tn_deep.toInt ≤ 1) (sz : Nat) : Met l yX5_readHours (.code yX5_readHours cX5_readHours 1 none :: zT) ({ frames := 6, cells := 0, slots := 0, locals := 128 }) (va_Pc [.ref rd] (zB sa dC dI (zV216 rd rd_fault rd_place tx rd_kinds rd_starts rd_stops rd_values rd_tokens rd_at tn rd_strayCount rd_lawTold rd_falseTold rd_kinds cA_rd_kinds f_rd_kinds rd_starts cA_rd_starts f_rd_starts rd_stops cA_rd_stops f_rd_stops rd_values cA_rd_values f_rd_values tx cA_tx f_tx tn tn_hours tn_courts tn_gateCount tn_people tn_lines tn_falseHours tn_strayers tn_deep tn_above tn_doors tn_degrees tn_neighbours tn_shows tn_oneEnd tn_otherEnd tn_told tn_strayParts tn_strayCourts) [(cA_rd_kinds, .int), (cA_rd_starts, .int), (cA_rd_stops, .int), (cA_rd_values, .int), (cA_tx, .byte)] sz)) (va_Qv (fun _ : Unit => True) (fun _ t => ∃ (n_rd_0 : Int32) (n_rd_1 : Int32) (n_rd_8 : Int32) (n_tn_0 : Int32) (n_tn_1 : Int32) (n_tn_7 : Int32), (0 ≤ n_rd_8.toInt ∧ n_rd_8.toInt ≤ 1600) ∧ (0 ≤ n_tn_0.toInt ∧ n_tn_0.toInt ≤ 48) ∧ (0 ≤ n_tn_1.toInt ∧ n_tn_1.toInt ≤ 10) ∧ (0 ≤ n_tn_7.toInt ∧ n_tn_7.toInt ≤ 1) ∧ (n_rd_0 = (F_X5_readHours rd_fault rd_place rd_tokens rd_at f_rd_kinds f_rd_starts f_rd_stops f_rd_values f_tx).1) ∧ (n_rd_1 = (F_X5_readHours rd_fault rd_place rd_tokens rd_at f_rd_kinds f_rd_starts f_rd_stops f_rd_values f_tx).2.1) ∧ (n_rd_8 = (F_X5_readHours rd_fault rd_place rd_tokens rd_at f_rd_kinds f_rd_starts f_rd_stops f_rd_values f_tx).2.2.1) ∧ (n_tn_0 = (F_X5_readHours rd_fault rd_place rd_tokens rd_at f_rd_kinds f_rd_starts f_rd_stops f_rd_values f_tx).2.2.2.1) ∧ (n_tn_1 = (F_X5_readHours rd_fault rd_place rd_tokens rd_at f_rd_kinds f_rd_starts f_rd_stops f_rd_values f_tx).2.2.2.2.1) ∧ (n_tn_7 = (F_X5_readHours rd_fault rd_place rd_tokens rd_at f_rd_kinds f_rd_starts f_rd_stops f_rd_values f_tx).2.2.2.2.2) ∧ zW dC dI (zV216 rd n_rd_0 n_rd_1 tx rd_kinds rd_starts rd_stops rd_values rd_tokens n_rd_8 tn rd_strayCount rd_lawTold rd_falseTold rd_kinds cA_rd_kinds f_rd_kinds rd_starts cA_rd_starts f_rd_starts rd_stops cA_rd_stops f_rd_stops rd_values cA_rd_values f_rd_values tx cA_tx f_tx tn n_tn_0 n_tn_1 tn_gateCount tn_people tn_lines tn_falseHours tn_strayers n_tn_7 tn_above tn_doors tn_degrees tn_neighbours tn_shows tn_oneEnd tn_otherEnd tn_told tn_strayParts tn_strayCourts) [] (va_A (zV216 rd rd_fault rd_place tx rd_kinds rd_starts rd_stops rd_values rd_tokens rd_at tn rd_strayCount rd_lawTold rd_falseTold rd_kinds cA_rd_kinds f_rd_kinds rd_starts cA_rd_starts f_rd_starts rd_stops cA_rd_stops f_rd_stops rd_values cA_rd_values f_rd_values tx cA_tx f_tx tn tn_hours tn_courts tn_gateCount tn_people tn_lines tn_falseHours tn_strayers tn_deep tn_above tn_doors tn_degrees tn_neighbours tn_shows tn_oneEnd tn_otherEnd tn_told tn_strayParts tn_strayCourts) sz) t) (va_A (zV216 rd rd_fault rd_place tx rd_kinds rd_starts rd_stops rd_values rd_tokens rd_at tn rd_strayCount rd_lawTold rd_falseTold rd_kinds cA_rd_kinds f_rd_kinds rd_starts cA_rd_starts f_rd_starts rd_stops cA_rd_stops f_rd_stops rd_values cA_rd_values f_rd_values tx cA_tx f_tx tn tn_hours tn_courts tn_gateCount tn_people tn_lines tn_falseHours tn_strayers tn_deep tn_above tn_doors tn_degrees tn_neighbours tn_shows tn_oneEnd tn_otherEnd tn_told tn_strayParts tn_strayCourts) sz)) 0 0 (va_A (zV216 rd rd_fault rd_place tx rd_kinds rd_starts rd_stops rd_values rd_tokens rd_at tn rd_strayCount rd_lawTold rd_falseTold rd_kinds cA_rd_kinds f_rd_kinds rd_starts cA_rd_starts f_rd_starts rd_stops cA_rd_stops f_rd_stops rd_values cA_rd_values f_rd_values tx cA_tx f_tx tn tn_hours tn_courts tn_gateCount tn_people tn_lines tn_falseHours tn_strayers tn_deep tn_above tn_doors tn_degrees tn_neighbours tn_shows tn_oneEnd tn_otherEnd tn_told tn_strayParts tn_strayCourts) sz) := by
  refine z_enter (by decide) (by exact (Nat.le_of_ble_eq_true rfl)) ?_
  intro p e s m args below meth c ls A R Qc hargs hsz hQe hAe hRe hx hb hml hr hts hown hlocks hin hl hP hK hD hN hXs hA hS
  rw [hAe] at hQe
  have hown : s.vm.findClass RX5 = some m.cls := hown
  have hl : lv_has ls 1 [(0, .ref rd)] := hl
  obtain ⟨RR, hRR⟩ : ∃ z : Int32 × Int32 × Int32 × Int32 × Int32 × Int32, z = (F_X5_readHours rd_fault rd_place rd_tokens rd_at f_rd_kinds f_rd_starts f_rd_stops f_rd_values f_tx) := ⟨_, rfl⟩
  have hF : RR = (F_X5_readHours rd_fault rd_place rd_tokens rd_at f_rd_kinds f_rd_starts f_rd_stops f_rd_values f_tx) := hRR
  refine lv_aload_n hx hb dX5_readHours_0 rfl (lv_at hl 0 rfl) ?_
  refine va_ldcS (index := 149) hx hb hown (hXs.2.2.2.2.2.2.2 5 (by decide)) dX5_readHours_1 ?_
  obtain ⟨hPc, hDc, hFc⟩ := z_cut (wc := (zV213 rd rd_fault rd_place tx rd_kinds rd_starts rd_stops rd_values rd_tokens rd_at tn rd_strayCount rd_lawTold rd_falseTold rd_kinds cA_rd_kinds f_rd_kinds rd_starts cA_rd_starts f_rd_starts rd_stops cA_rd_stops f_rd_stops tx cA_tx f_tx)) hP hD hS hA [0, 1, 2, 3, 5] rfl (by decide +kernel)
  have hKc := hK.sub (tys' := [(cA_rd_kinds, .int), (cA_rd_starts, .int), (cA_rd_stops, .int), (cA_tx, .byte)]) [0, 1, 2, 4] rfl
  refine va_callv (va_runV (As := [.ref (sa (2 + 2 * 5))]) (rest := []) ⟨hx, hb, hml, hown, hts⟩ (kf_X5_expectWord l sa dC dI rd rd_fault rd_place tx rd_kinds rd_starts rd_stops rd_values rd_tokens rd_at tn rd_strayCount rd_lawTold rd_falseTold cA_rd_kinds f_rd_kinds cA_rd_starts f_rd_starts cA_rd_stops f_rd_stops cA_tx f_tx (5) b_rd_tokens b_rd_at b_rd_strayCount b_rd_lawTold b_rd_falseTold b_f_rd_kinds b_f_rd_starts b_f_rd_stops (by decide) s.heap.size) (cwV 1 hts (z_gV zw_t3_33 zw_t3_35 zw_s1_5 zw_t1_4 zw_t3_36) rfl rfl rfl (by decide +kernel) (by rw [← hRe]; exact ⟨(Nat.le_of_ble_eq_true rfl), (Nat.le_of_ble_eq_true rfl)⟩)) (z_preV hPc hKc hDc hN hXs hS hFc (q := (RX5, TX5, 13)) (ci := 5) (q0 := 0) rfl rfl) rfl rfl hl.1 rfl (lv_room (Nat.le_of_ble_eq_true rfl)) dX5_readHours_3 (by rw [← hRe]; exact ⟨(Nat.le_of_ble_eq_true rfl), (Nat.le_of_ble_eq_true rfl)⟩)) hS (fun q _ h => hFc q h) hFc (fun u t H1 locs ht hvm hw hB hz1 hk1 hS => ?_)
  refine hB.elim fun n_rd_2 ze1 => ze1.elim fun n_rd_3 ze2 => ze2.elim fun n_rd_4 ze3 => ze3.elim fun b_n_rd_4 ze4 => ze4.elim fun hf_5 ze5 => ze5.elim fun hf_6 ze6 => ze6.elim fun hf_7 ze7 => ?_
  clear hB ze1 ze2 ze3 ze4 ze5 ze6
  have hB := ze7
  clear ze7
  obtain ⟨hP, hD, hK⟩ := z_after3 (wn := [(rd_values, .inl (cA_rd_values, 1601, .inl f_rd_values)), (tn, .inr (7, [.int tn_hours, .int tn_courts, .int tn_gateCount, .int tn_people, .int tn_lines, .int tn_falseHours, .int tn_strayers, .int tn_deep, .ref tn_above, .ref tn_doors, .ref tn_degrees, .ref tn_neighbours, .ref tn_shows, .ref tn_oneEnd, .ref tn_otherEnd, .ref tn_told, .ref tn_strayParts, .ref tn_strayCourts])), (rd, .inr (5, [.int n_rd_2, .int n_rd_3, .ref tx, .ref rd_kinds, .ref rd_starts, .ref rd_stops, .ref rd_values, .int rd_tokens, .int n_rd_4, .ref tn, .int rd_strayCount, .int rd_lawTold, .int rd_falseTold])), (rd_kinds, .inl (cA_rd_kinds, 1601, .inl f_rd_kinds)), (rd_starts, .inl (cA_rd_starts, 1601, .inl f_rd_starts)), (rd_stops, .inl (cA_rd_stops, 1601, .inl f_rd_stops)), (tx, .inl (cA_tx, 1600, .inl f_tx))]) hB ht hvm hP hD hK [0, 1, 2, 3, 5] [4, 6] rfl 7 rfl (by decide +kernel) rfl (by decide +kernel) hk1 hFc
  generalize H1 = H at hP hS ⊢
  have hK : va_K (dC, dI) vwCl [(cA_rd_kinds, .int), (cA_rd_starts, .int), (cA_rd_stops, .int), (cA_rd_values, .int), (cA_tx, .byte)] s := hK
  replace hF := hF.trans (zL_eq rfl)
  replace hF := hF.trans (zL_eq hf_5)
  replace hF := hF.trans (zL_eq hf_6)
  replace hF := hF.trans (zL_eq hf_7)
  refine lv_aload_n hx hb dX5_readHours_6 rfl (lv_at hl 0 rfl) ?_
  refine va_ldcS (index := 154) hx hb hown (hXs.2.2.2.2.2.2.2 6 (by decide)) dX5_readHours_7 ?_
  obtain ⟨hPc, hDc, hFc⟩ := z_cut (wc := (zV213 rd n_rd_2 n_rd_3 tx rd_kinds rd_starts rd_stops rd_values rd_tokens n_rd_4 tn rd_strayCount rd_lawTold rd_falseTold rd_kinds cA_rd_kinds f_rd_kinds rd_starts cA_rd_starts f_rd_starts rd_stops cA_rd_stops f_rd_stops tx cA_tx f_tx)) hP hD hS hA [2, 3, 4, 5, 6] rfl (by decide +kernel)
  have hKc := hK.sub (tys' := [(cA_rd_kinds, .int), (cA_rd_starts, .int), (cA_rd_stops, .int), (cA_tx, .byte)]) [0, 1, 2, 4] rfl
  refine va_callv (va_runV (As := [.ref (sa (2 + 2 * 6))]) (rest := []) ⟨hx, hb, hml, hown, hts⟩ (kf_X5_expectWord l sa dC dI rd n_rd_2 n_rd_3 tx rd_kinds rd_starts rd_stops rd_values rd_tokens n_rd_4 tn rd_strayCount rd_lawTold rd_falseTold cA_rd_kinds f_rd_kinds cA_rd_starts f_rd_starts cA_rd_stops f_rd_stops cA_tx f_tx (6) b_rd_tokens (by first | with_reducible assumption | omega) b_rd_strayCount b_rd_lawTold b_rd_falseTold b_f_rd_kinds b_f_rd_starts b_f_rd_stops (by decide) H.size) (cwV 1 hts (z_gV zw_t3_33 zw_t3_35 zw_s1_5 zw_t1_4 zw_t3_36) rfl rfl rfl (by decide +kernel) (by rw [← hRe]; exact ⟨(Nat.le_of_ble_eq_true rfl), (Nat.le_of_ble_eq_true rfl)⟩)) (z_preV hPc hKc hDc hN hXs hS hFc (q := (RX5, TX5, 13)) (ci := 5) (q0 := 0) rfl rfl) rfl rfl hl.1 rfl (lv_room (Nat.le_of_ble_eq_true rfl)) dX5_readHours_9 (by rw [← hRe]; exact ⟨(Nat.le_of_ble_eq_true rfl), (Nat.le_of_ble_eq_true rfl)⟩)) hS (fun q _ h => hFc q h) hFc (fun u t H1 locs ht hvm hw hB hz1 hk1 hS => ?_)
  refine hB.elim fun n_rd_10 ze1 => ze1.elim fun n_rd_11 ze2 => ze2.elim fun n_rd_12 ze3 => ze3.elim fun b_n_rd_12 ze4 => ze4.elim fun hf_13 ze5 => ze5.elim fun hf_14 ze6 => ze6.elim fun hf_15 ze7 => ?_
  clear hB ze1 ze2 ze3 ze4 ze5 ze6
  have hB := ze7
  clear ze7
  obtain ⟨hP, hD, hK⟩ := z_after3 (wn := [(rd_values, .inl (cA_rd_values, 1601, .inl f_rd_values)), (tn, .inr (7, [.int tn_hours, .int tn_courts, .int tn_gateCount, .int tn_people, .int tn_lines, .int tn_falseHours, .int tn_strayers, .int tn_deep, .ref tn_above, .ref tn_doors, .ref tn_degrees, .ref tn_neighbours, .ref tn_shows, .ref tn_oneEnd, .ref tn_otherEnd, .ref tn_told, .ref tn_strayParts, .ref tn_strayCourts])), (rd, .inr (5, [.int n_rd_10, .int n_rd_11, .ref tx, .ref rd_kinds, .ref rd_starts, .ref rd_stops, .ref rd_values, .int rd_tokens, .int n_rd_12, .ref tn, .int rd_strayCount, .int rd_lawTold, .int rd_falseTold])), (rd_kinds, .inl (cA_rd_kinds, 1601, .inl f_rd_kinds)), (rd_starts, .inl (cA_rd_starts, 1601, .inl f_rd_starts)), (rd_stops, .inl (cA_rd_stops, 1601, .inl f_rd_stops)), (tx, .inl (cA_tx, 1600, .inl f_tx))]) hB ht hvm hP hD hK [2, 3, 4, 5, 6] [0, 1] rfl 7 rfl (by decide +kernel) rfl (by decide +kernel) hk1 hFc
  generalize H1 = H at hP hS ⊢
  have hK : va_K (dC, dI) vwCl [(cA_rd_kinds, .int), (cA_rd_starts, .int), (cA_rd_stops, .int), (cA_rd_values, .int), (cA_tx, .byte)] s := hK
  replace hF := hF.trans (zL_eq rfl)
  replace hF := hF.trans (zL_eq hf_13)
  replace hF := hF.trans (zL_eq hf_14)
  replace hF := hF.trans (zL_eq hf_15)
  refine lv_aload_n hx hb dX5_readHours_12 rfl (lv_at hl 0 rfl) ?_
  refine va_get (D := (dC, dI)) (ci := 5) (v := .ref tn) (C := RX5) (T := TX5) (N := 13) hx hb hts zl_X5 hown hK hP 2 rfl rfl 9 (by decide) (hts _ zw_t1_204) (fun _ h9 => h9) rfl dX5_readHours_13 ?_
  refine lv_aload_n hx hb dX5_readHours_16 rfl (lv_at hl 0 rfl) ?_
  refine lv_iconst (v := 1) hx hb dX5_readHours_17 (by decide) ?_
  refine lv_bipush (v := 48) hx hb dX5_readHours_18 (by decide) ?_
  obtain ⟨hPc, hDc, hFc⟩ := z_cut (wc := (zV210 rd n_rd_10 n_rd_11 tx rd_kinds rd_starts rd_stops rd_values rd_tokens n_rd_12 tn rd_strayCount rd_lawTold rd_falseTold rd_kinds cA_rd_kinds f_rd_kinds rd_starts cA_rd_starts f_rd_starts rd_values cA_rd_values f_rd_values)) hP hD hS hA [2, 3, 4, 0] rfl (by decide +kernel)
  have hKc := hK.sub (tys' := [(cA_rd_kinds, .int), (cA_rd_starts, .int), (cA_rd_values, .int)]) [0, 1, 3] rfl
  refine va_calli (va_runV (As := [.int 1, .int 48]) (rest := [.ref tn]) ⟨hx, hb, hml, hown, hts⟩ (kf_X5_expectNumber l sa dC dI rd (1) (48) n_rd_10 n_rd_11 tx rd_kinds rd_starts rd_stops rd_values rd_tokens n_rd_12 tn rd_strayCount rd_lawTold rd_falseTold cA_rd_kinds f_rd_kinds cA_rd_starts f_rd_starts cA_rd_values f_rd_values (by decide) (by decide) b_rd_tokens (by first | with_reducible assumption | omega) b_rd_strayCount b_rd_lawTold b_rd_falseTold b_f_rd_kinds b_f_rd_starts b_f_rd_values H.size) (cwV 2 hts (z_gV zw_t3_98 zw_t3_100 zw_s1_9 zw_t1_4 zw_t3_101) rfl rfl rfl (by decide +kernel) (by rw [← hRe]; exact ⟨(Nat.le_of_ble_eq_true rfl), (Nat.le_of_ble_eq_true rfl)⟩)) (z_preV hPc hKc hDc hN hXs hS hFc (q := (RX5, TX5, 13)) (ci := 5) (q0 := 0) rfl rfl) rfl rfl hl.1 rfl (lv_room (Nat.le_of_ble_eq_true rfl)) dX5_readHours_20 (by rw [← hRe]; exact ⟨(Nat.le_of_ble_eq_true rfl), (Nat.le_of_ble_eq_true rfl)⟩)) hS (fun q _ h => hFc q h) hFc (fun r_17 u t H1 locs ht hvm hw hB hz1 hk1 hS => ?_)
  refine hB.elim fun n_rd_18 ze1 => ze1.elim fun n_rd_19 ze2 => ze2.elim fun n_rd_20 ze3 => ze3.elim fun b_n_rd_20 ze4 => ze4.elim fun hf_21 ze5 => ze5.elim fun hf_22 ze6 => ze6.elim fun hf_23 ze7 => ?_
  clear hB ze1 ze2 ze3 ze4 ze5 ze6
  have hB := ze7
  clear ze7
  obtain ⟨hP, hD, hK⟩ := z_after3 (wn := [(tn, .inr (7, [.int tn_hours, .int tn_courts, .int tn_gateCount, .int tn_people, .int tn_lines, .int tn_falseHours, .int tn_strayers, .int tn_deep, .ref tn_above, .ref tn_doors, .ref tn_degrees, .ref tn_neighbours, .ref tn_shows, .ref tn_oneEnd, .ref tn_otherEnd, .ref tn_told, .ref tn_strayParts, .ref tn_strayCourts])), (rd_stops, .inl (cA_rd_stops, 1601, .inl f_rd_stops)), (tx, .inl (cA_tx, 1600, .inl f_tx)), (rd, .inr (5, [.int n_rd_18, .int n_rd_19, .ref tx, .ref rd_kinds, .ref rd_starts, .ref rd_stops, .ref rd_values, .int rd_tokens, .int n_rd_20, .ref tn, .int rd_strayCount, .int rd_lawTold, .int rd_falseTold])), (rd_kinds, .inl (cA_rd_kinds, 1601, .inl f_rd_kinds)), (rd_starts, .inl (cA_rd_starts, 1601, .inl f_rd_starts)), (rd_values, .inl (cA_rd_values, 1601, .inl f_rd_values))]) hB ht hvm hP hD hK [2, 3, 4, 0] [1, 5, 6] rfl 7 rfl (by decide +kernel) rfl (by decide +kernel) hk1 hFc
  generalize H1 = H at hP hS ⊢
  have hK : va_K (dC, dI) vwCl [(cA_rd_kinds, .int), (cA_rd_starts, .int), (cA_rd_stops, .int), (cA_rd_values, .int), (cA_tx, .byte)] s := hK
  have b_r_17 : 0 ≤ r_17.toInt ∧ r_17.toInt ≤ 100000 := hw.1
  have s_r_17 := hw.2.1
  have sf_r_17 := hw.2.2
  have za_1 : Int32.toInt 1 = 1 := by decide
  have za_48 : Int32.toInt 48 = 48 := by decide
  replace hF := hF.trans (zL_eq rfl)
  replace hF := hF.trans (zL_eq sf_r_17)
  replace hF := hF.trans (zL_eq hf_21)
  replace hF := hF.trans (zL_eq hf_22)
  replace hF := hF.trans (zL_eq hf_23)
  refine va_put (D := (dC, dI)) (ci := 7) (v := .int r_17) (ty := .int) (C := RX7) (T := TX7) (N := 18) hx hb hts zl_X7 tyX7 tyX7_ok nmX7 hown hK hP hD hS 0 rfl rfl 0 (by decide) (hts _ zw_t1_45) (fun _ h9 => h9) rfl (by decide +kernel) rfl rfl (Nat.le_of_ble_eq_true rfl) dX5_readHours_23 (fun H locs hP hD hS => ?_)
  have hP : va_P (dC, dI) vwCl [(tn, .inr (7, [.int r_17, .int tn_courts, .int tn_gateCount, .int tn_people, .int tn_lines, .int tn_falseHours, .int tn_strayers, .int tn_deep, .ref tn_above, .ref tn_doors, .ref tn_degrees, .ref tn_neighbours, .ref tn_shows, .ref tn_oneEnd, .ref tn_otherEnd, .ref tn_told, .ref tn_strayParts, .ref tn_strayCourts])), (rd_stops, .inl (cA_rd_stops, 1601, .inl f_rd_stops)), (tx, .inl (cA_tx, 1600, .inl f_tx)), (rd, .inr (5, [.int n_rd_18, .int n_rd_19, .ref tx, .ref rd_kinds, .ref rd_starts, .ref rd_stops, .ref rd_values, .int rd_tokens, .int n_rd_20, .ref tn, .int rd_strayCount, .int rd_lawTold, .int rd_falseTold])), (rd_kinds, .inl (cA_rd_kinds, 1601, .inl f_rd_kinds)), (rd_starts, .inl (cA_rd_starts, 1601, .inl f_rd_starts)), (rd_values, .inl (cA_rd_values, 1601, .inl f_rd_values))] H := hP
  have hD : va_D A [(tn, .inr (7, [.int r_17, .int tn_courts, .int tn_gateCount, .int tn_people, .int tn_lines, .int tn_falseHours, .int tn_strayers, .int tn_deep, .ref tn_above, .ref tn_doors, .ref tn_degrees, .ref tn_neighbours, .ref tn_shows, .ref tn_oneEnd, .ref tn_otherEnd, .ref tn_told, .ref tn_strayParts, .ref tn_strayCourts])), (rd_stops, .inl (cA_rd_stops, 1601, .inl f_rd_stops)), (tx, .inl (cA_tx, 1600, .inl f_tx)), (rd, .inr (5, [.int n_rd_18, .int n_rd_19, .ref tx, .ref rd_kinds, .ref rd_starts, .ref rd_stops, .ref rd_values, .int rd_tokens, .int n_rd_20, .ref tn, .int rd_strayCount, .int rd_lawTold, .int rd_falseTold])), (rd_kinds, .inl (cA_rd_kinds, 1601, .inl f_rd_kinds)), (rd_starts, .inl (cA_rd_starts, 1601, .inl f_rd_starts)), (rd_values, .inl (cA_rd_values, 1601, .inl f_rd_values))] := hD
  refine lv_aload_n hx hb dX5_readHours_26 rfl (lv_at hl 0 rfl) ?_
  refine va_get (D := (dC, dI)) (ci := 5) (v := .ref tn) (C := RX5) (T := TX5) (N := 13) hx hb hts zl_X5 hown hK hP 3 rfl rfl 9 (by decide) (hts _ zw_t1_204) (fun _ h9 => h9) rfl dX5_readHours_27 ?_
  refine lv_iconst (v := 1) hx hb dX5_readHours_30 (by decide) ?_
  refine va_put (D := (dC, dI)) (ci := 7) (v := .int 1) (ty := .int) (C := RX7) (T := TX7) (N := 18) hx hb hts zl_X7 tyX7 tyX7_ok nmX7 hown hK hP hD hS 0 rfl rfl 1 (by decide) (hts _ zw_t1_51) (fun _ h9 => h9) rfl (by decide +kernel) rfl rfl (Nat.le_of_ble_eq_true rfl) dX5_readHours_31 (fun H locs hP hD hS => ?_)
  have hP : va_P (dC, dI) vwCl [(tn, .inr (7, [.int r_17, .int 1, .int tn_gateCount, .int tn_people, .int tn_lines, .int tn_falseHours, .int tn_strayers, .int tn_deep, .ref tn_above, .ref tn_doors, .ref tn_degrees, .ref tn_neighbours, .ref tn_shows, .ref tn_oneEnd, .ref tn_otherEnd, .ref tn_told, .ref tn_strayParts, .ref tn_strayCourts])), (rd_stops, .inl (cA_rd_stops, 1601, .inl f_rd_stops)), (tx, .inl (cA_tx, 1600, .inl f_tx)), (rd, .inr (5, [.int n_rd_18, .int n_rd_19, .ref tx, .ref rd_kinds, .ref rd_starts, .ref rd_stops, .ref rd_values, .int rd_tokens, .int n_rd_20, .ref tn, .int rd_strayCount, .int rd_lawTold, .int rd_falseTold])), (rd_kinds, .inl (cA_rd_kinds, 1601, .inl f_rd_kinds)), (rd_starts, .inl (cA_rd_starts, 1601, .inl f_rd_starts)), (rd_values, .inl (cA_rd_values, 1601, .inl f_rd_values))] H := hP
  have hD : va_D A [(tn, .inr (7, [.int r_17, .int 1, .int tn_gateCount, .int tn_people, .int tn_lines, .int tn_falseHours, .int tn_strayers, .int tn_deep, .ref tn_above, .ref tn_doors, .ref tn_degrees, .ref tn_neighbours, .ref tn_shows, .ref tn_oneEnd, .ref tn_otherEnd, .ref tn_told, .ref tn_strayParts, .ref tn_strayCourts])), (rd_stops, .inl (cA_rd_stops, 1601, .inl f_rd_stops)), (tx, .inl (cA_tx, 1600, .inl f_tx)), (rd, .inr (5, [.int n_rd_18, .int n_rd_19, .ref tx, .ref rd_kinds, .ref rd_starts, .ref rd_stops, .ref rd_values, .int rd_tokens, .int n_rd_20, .ref tn, .int rd_strayCount, .int rd_lawTold, .int rd_falseTold])), (rd_kinds, .inl (cA_rd_kinds, 1601, .inl f_rd_kinds)), (rd_starts, .inl (cA_rd_starts, 1601, .inl f_rd_starts)), (rd_values, .inl (cA_rd_values, 1601, .inl f_rd_values))] := hD
  refine lv_aload_n hx hb dX5_readHours_34 rfl (lv_at hl 0 rfl) ?_
  refine va_get (D := (dC, dI)) (ci := 5) (v := .ref tn) (C := RX5) (T := TX5) (N := 13) hx hb hts zl_X5 hown hK hP 3 rfl rfl 9 (by decide) (hts _ zw_t1_204) (fun _ h9 => h9) rfl dX5_readHours_35 ?_
  refine lv_iconst (v := 1) hx hb dX5_readHours_38 (by decide) ?_
  refine va_put (D := (dC, dI)) (ci := 7) (v := .int 1) (ty := .boolean) (C := RX7) (T := TX7) (N := 18) hx hb hts zl_X7 tyX7 tyX7_ok nmX7 hown hK hP hD hS 0 rfl rfl 7 (by decide) (hts _ zw_t1_77) (fun _ h9 => h9) rfl (by decide +kernel) (by decide) (by decide) (Nat.le_of_ble_eq_true rfl) dX5_readHours_39 (fun H locs hP hD hS => ?_)
  have hP : va_P (dC, dI) vwCl [(tn, .inr (7, [.int r_17, .int 1, .int tn_gateCount, .int tn_people, .int tn_lines, .int tn_falseHours, .int tn_strayers, .int 1, .ref tn_above, .ref tn_doors, .ref tn_degrees, .ref tn_neighbours, .ref tn_shows, .ref tn_oneEnd, .ref tn_otherEnd, .ref tn_told, .ref tn_strayParts, .ref tn_strayCourts])), (rd_stops, .inl (cA_rd_stops, 1601, .inl f_rd_stops)), (tx, .inl (cA_tx, 1600, .inl f_tx)), (rd, .inr (5, [.int n_rd_18, .int n_rd_19, .ref tx, .ref rd_kinds, .ref rd_starts, .ref rd_stops, .ref rd_values, .int rd_tokens, .int n_rd_20, .ref tn, .int rd_strayCount, .int rd_lawTold, .int rd_falseTold])), (rd_kinds, .inl (cA_rd_kinds, 1601, .inl f_rd_kinds)), (rd_starts, .inl (cA_rd_starts, 1601, .inl f_rd_starts)), (rd_values, .inl (cA_rd_values, 1601, .inl f_rd_values))] H := hP
  have hD : va_D A [(tn, .inr (7, [.int r_17, .int 1, .int tn_gateCount, .int tn_people, .int tn_lines, .int tn_falseHours, .int tn_strayers, .int 1, .ref tn_above, .ref tn_doors, .ref tn_degrees, .ref tn_neighbours, .ref tn_shows, .ref tn_oneEnd, .ref tn_otherEnd, .ref tn_told, .ref tn_strayParts, .ref tn_strayCourts])), (rd_stops, .inl (cA_rd_stops, 1601, .inl f_rd_stops)), (tx, .inl (cA_tx, 1600, .inl f_tx)), (rd, .inr (5, [.int n_rd_18, .int n_rd_19, .ref tx, .ref rd_kinds, .ref rd_starts, .ref rd_stops, .ref rd_values, .int rd_tokens, .int n_rd_20, .ref tn, .int rd_strayCount, .int rd_lawTold, .int rd_falseTold])), (rd_kinds, .inl (cA_rd_kinds, 1601, .inl f_rd_kinds)), (rd_starts, .inl (cA_rd_starts, 1601, .inl f_rd_starts)), (rd_values, .inl (cA_rd_values, 1601, .inl f_rd_values))] := hD
  have hF : RR = (n_rd_18, n_rd_19, n_rd_20, r_17, (1 : Int32), (1 : Int32)) := hF
  exact W.vret hx hb hr (fun t ht hW => by rw [← hQe]; exact ⟨⟨(), rfl, trivial, ⟨n_rd_18, n_rd_19, n_rd_20, r_17, (1), (1), (by first | with_reducible assumption | omega), (by first | with_reducible assumption | omega), (by decide), (by decide), (by rw [← hRR, hF]), (by rw [← hRR, hF]), (by rw [← hRR, hF]), (by rw [← hRR, hF]), (by rw [← hRR, hF]), (by rw [← hRR, hF]), z_ret hP hK hD ht hW [3, 4, 5, 1, 6, 2, 0] [] rfl (by decide) rfl⟩⟩, hS.F ht⟩) hS.2.2 dX5_readHours_42
set_option maxHeartbeats 4000000 in
set_option maxRecDepth 100000 in
theorem kf_X5_readCourt (l : Launch) (sa : Nat → Nat) (dC : Nat → ClassId) (dI : Nat → Nat → Nat) (rd : Nat) (rd_fault : Int32) (rd_place : Int32) (tx : Nat) (rd_kinds : Nat) (rd_starts : Nat) (rd_stops : Nat) (rd_values : Nat) (rd_tokens : Int32) (rd_at : Int32) (tn : Nat) (rd_strayCount : Int32) (rd_lawTold : Int32) (rd_falseTold : Int32) (cA_rd_kinds : ClassId) (f_rd_kinds : Nat → Int32) (cA_rd_starts : ClassId) (f_rd_starts : Nat → Int32) (cA_rd_stops : ClassId) (f_rd_stops : Nat → Int32) (cA_rd_values : ClassId) (f_rd_values : Nat → Int32) (cA_tx : ClassId) (f_tx : Nat → Int32) (tn_hours : Int32) (tn_courts : Int32) (tn_gateCount : Int32) (tn_people : Int32) (tn_lines : Int32) (tn_falseHours : Int32) (tn_strayers : Int32) (tn_deep : Int32) (tn_above : Nat) (tn_doors : Nat) (tn_degrees : Nat) (tn_neighbours : Nat) (tn_shows : Nat) (tn_oneEnd : Nat) (tn_otherEnd : Nat) (tn_told : Nat) (tn_strayParts : Nat) (tn_strayCourts : Nat) (cA_tn_above : ClassId) (f_tn_above : Nat → Int32) (b_rd_tokens : 0 ≤ rd_tokens.toInt ∧ rd_tokens.toInt ≤ 1600) (b_rd_at : 0 ≤ rd_at.toInt ∧ rd_at.toInt ≤ 1600) (b_rd_strayCount : 0 ≤ rd_strayCount.toInt ∧ rd_strayCount.toInt ≤ 4) (b_rd_lawTold : 0 ≤ rd_lawTold.toInt ∧ rd_lawTold.toInt ≤ 1) (b_rd_falseTold : 0 ≤ rd_falseTold.toInt ∧ rd_falseTold.toInt ≤ 1) (b_f_rd_kinds : ∀ j : Nat, 0 ≤ (f_rd_kinds j).toInt ∧ (f_rd_kinds j).toInt ≤ 5) (b_f_rd_starts : ∀ j : Nat, 0 ≤ (f_rd_starts j).toInt ∧ (f_rd_starts j).toInt ≤ 1600) (b_f_rd_stops : ∀ j : Nat, 0 ≤ (f_rd_stops j).toInt ∧ (f_rd_stops j).toInt ≤ 1600) (b_f_rd_values : ∀ j : Nat, 0 ≤ (f_rd_values j).toInt ∧ (f_rd_values j).toInt ≤ 100000) (b_tn_hours : 0 ≤ tn_hours.toInt ∧ tn_hours.toInt ≤ 48) (b_tn_courts : 0 ≤ tn_courts.toInt ∧ tn_courts.toInt ≤ 10) (b_tn_gateCount : 0 ≤ tn_gateCount.toInt ∧ tn_gateCount.toInt ≤ 16) (b_tn_people : 0 ≤ tn_people.toInt ∧ tn_people.toInt ≤ 10) (b_tn_falseHours : 0 ≤ tn_falseHours.toInt ∧ tn_falseHours.toInt ≤ 9) (b_tn_deep : 0 ≤ tn_deep.toInt ∧ tn_deep.toInt ≤ 1) (sz : Nat) : Met l yX5_readCourt (.code yX5_readCourt cX5_readCourt 2 none :: zT) ({ frames := 6, cells := 0, slots := 0, locals := 128 }) (va_Pc [.ref rd] (zB sa dC dI (zV217 rd rd_fault rd_place tx rd_kinds rd_starts rd_stops rd_values rd_tokens rd_at tn rd_strayCount rd_lawTold rd_falseTold rd_kinds cA_rd_kinds f_rd_kinds rd_starts cA_rd_starts f_rd_starts rd_stops cA_rd_stops f_rd_stops rd_values cA_rd_values f_rd_values tx cA_tx f_tx tn tn_hours tn_courts tn_gateCount tn_people tn_lines tn_falseHours tn_strayers tn_deep tn_above tn_doors tn_degrees tn_neighbours tn_shows tn_oneEnd tn_otherEnd tn_told tn_strayParts tn_strayCourts tn_above cA_tn_above f_tn_above) [(cA_rd_kinds, .int), (cA_rd_starts, .int), (cA_rd_stops, .int), (cA_rd_values, .int), (cA_tx, .byte), (cA_tn_above, .int)] sz)) (va_Qv (fun _ : Unit => True) (fun _ t => ∃ (n_rd_0 : Int32) (n_rd_1 : Int32) (n_rd_8 : Int32) (n_tn_1 : Int32) (n_tn_above : Nat → Int32), (0 ≤ n_rd_8.toInt ∧ n_rd_8.toInt ≤ 1600) ∧ (0 ≤ n_tn_1.toInt ∧ n_tn_1.toInt ≤ 10) ∧ (n_rd_0 = (F_X5_readCourt rd_fault rd_place rd_tokens rd_at f_rd_kinds f_rd_starts f_rd_stops f_rd_values f_tx tn_courts f_tn_above).1) ∧ (n_rd_1 = (F_X5_readCourt rd_fault rd_place rd_tokens rd_at f_rd_kinds f_rd_starts f_rd_stops f_rd_values f_tx tn_courts f_tn_above).2.1) ∧ (n_rd_8 = (F_X5_readCourt rd_fault rd_place rd_tokens rd_at f_rd_kinds f_rd_starts f_rd_stops f_rd_values f_tx tn_courts f_tn_above).2.2.1) ∧ (n_tn_1 = (F_X5_readCourt rd_fault rd_place rd_tokens rd_at f_rd_kinds f_rd_starts f_rd_stops f_rd_values f_tx tn_courts f_tn_above).2.2.2.1) ∧ (n_tn_above = (F_X5_readCourt rd_fault rd_place rd_tokens rd_at f_rd_kinds f_rd_starts f_rd_stops f_rd_values f_tx tn_courts f_tn_above).2.2.2.2) ∧ zW dC dI (zV217 rd n_rd_0 n_rd_1 tx rd_kinds rd_starts rd_stops rd_values rd_tokens n_rd_8 tn rd_strayCount rd_lawTold rd_falseTold rd_kinds cA_rd_kinds f_rd_kinds rd_starts cA_rd_starts f_rd_starts rd_stops cA_rd_stops f_rd_stops rd_values cA_rd_values f_rd_values tx cA_tx f_tx tn tn_hours n_tn_1 tn_gateCount tn_people tn_lines tn_falseHours tn_strayers tn_deep tn_above tn_doors tn_degrees tn_neighbours tn_shows tn_oneEnd tn_otherEnd tn_told tn_strayParts tn_strayCourts tn_above cA_tn_above n_tn_above) [] (va_A (zV217 rd rd_fault rd_place tx rd_kinds rd_starts rd_stops rd_values rd_tokens rd_at tn rd_strayCount rd_lawTold rd_falseTold rd_kinds cA_rd_kinds f_rd_kinds rd_starts cA_rd_starts f_rd_starts rd_stops cA_rd_stops f_rd_stops rd_values cA_rd_values f_rd_values tx cA_tx f_tx tn tn_hours tn_courts tn_gateCount tn_people tn_lines tn_falseHours tn_strayers tn_deep tn_above tn_doors tn_degrees tn_neighbours tn_shows tn_oneEnd tn_otherEnd tn_told tn_strayParts tn_strayCourts tn_above cA_tn_above f_tn_above) sz) t) (va_A (zV217 rd rd_fault rd_place tx rd_kinds rd_starts rd_stops rd_values rd_tokens rd_at tn rd_strayCount rd_lawTold rd_falseTold rd_kinds cA_rd_kinds f_rd_kinds rd_starts cA_rd_starts f_rd_starts rd_stops cA_rd_stops f_rd_stops rd_values cA_rd_values f_rd_values tx cA_tx f_tx tn tn_hours tn_courts tn_gateCount tn_people tn_lines tn_falseHours tn_strayers tn_deep tn_above tn_doors tn_degrees tn_neighbours tn_shows tn_oneEnd tn_otherEnd tn_told tn_strayParts tn_strayCourts tn_above cA_tn_above f_tn_above) sz)) 0 0 (va_A (zV217 rd rd_fault rd_place tx rd_kinds rd_starts rd_stops rd_values rd_tokens rd_at tn rd_strayCount rd_lawTold rd_falseTold rd_kinds cA_rd_kinds f_rd_kinds rd_starts cA_rd_starts f_rd_starts rd_stops cA_rd_stops f_rd_stops rd_values cA_rd_values f_rd_values tx cA_tx f_tx tn tn_hours tn_courts tn_gateCount tn_people tn_lines tn_falseHours tn_strayers tn_deep tn_above tn_doors tn_degrees tn_neighbours tn_shows tn_oneEnd tn_otherEnd tn_told tn_strayParts tn_strayCourts tn_above cA_tn_above f_tn_above) sz) := by
  refine z_enter (by decide) (by exact (Nat.le_of_ble_eq_true rfl)) ?_
  intro p e s m args below meth c ls A R Qc hargs hsz hQe hAe hRe hx hb hml hr hts hown hlocks hin hl hP hK hD hN hXs hA hS
  rw [hAe] at hQe
  have hown : s.vm.findClass RX5 = some m.cls := hown
  have hl : lv_has ls 2 [(0, .ref rd)] := hl
  obtain ⟨RR, hRR⟩ : ∃ z : Int32 × Int32 × Int32 × Int32 × (Nat → Int32), z = (F_X5_readCourt rd_fault rd_place rd_tokens rd_at f_rd_kinds f_rd_starts f_rd_stops f_rd_values f_tx tn_courts f_tn_above) := ⟨_, rfl⟩
  have hF : RR = (F_X5_readCourt rd_fault rd_place rd_tokens rd_at f_rd_kinds f_rd_starts f_rd_stops f_rd_values f_tx tn_courts f_tn_above) := hRR
  refine lv_aload_n hx hb dX5_readCourt_0 rfl (lv_at hl 0 rfl) ?_
  refine va_get (D := (dC, dI)) (ci := 5) (v := .ref tn) (C := RX5) (T := TX5) (N := 13) hx hb hts zl_X5 hown hK hP 0 rfl rfl 9 (by decide) (hts _ zw_t1_204) (fun _ h9 => h9) rfl dX5_readCourt_1 ?_
  refine va_get (D := (dC, dI)) (ci := 7) (v := .int tn_courts) (C := RX7) (T := TX7) (N := 18) hx hb hts zl_X7 hown hK hP 6 rfl rfl 1 (by decide) (hts _ zw_t1_51) (fun _ h9 => h9) rfl dX5_readCourt_4 ?_
  refine lv_bipush (v := 10) hx hb dX5_readCourt_7 (by decide) ?_
  refine lv_icmp_lt (tgt := 18) hx hb dX5_readCourt_9 (by decide) (fun c_1 => ?_) (fun c_1 => ?_)
  · have ic_1 := zz_lt rfl (show Int32.toInt 10 = 10 from by decide) c_1
    replace hF := hF.trans (if_pos c_1)
    refine lv_aload_n hx hb dX5_readCourt_18 rfl (lv_at hl 0 rfl) ?_
    obtain ⟨hPc, hDc, hFc⟩ := z_cut (wc := (zV212 rd rd_fault rd_place tx rd_kinds rd_starts rd_stops rd_values rd_tokens rd_at tn rd_strayCount rd_lawTold rd_falseTold)) hP hD hS hA [0] rfl (by decide +kernel)
    have hKc := hK.sub (tys' := []) [] rfl
    refine va_callv (va_runV (As := []) (rest := []) ⟨hx, hb, hml, hown, hts⟩ (kf_X5_advance l sa dC dI rd rd_fault rd_place tx rd_kinds rd_starts rd_stops rd_values rd_tokens rd_at tn rd_strayCount rd_lawTold rd_falseTold b_rd_tokens b_rd_at b_rd_strayCount b_rd_lawTold b_rd_falseTold s.heap.size) (cwV 0 hts (z_gV zw_t3_93 zw_t3_95 zw_s1_8 zw_t1_4 zw_t3_96) rfl rfl rfl (by decide +kernel) (by rw [← hRe]; exact ⟨(Nat.le_of_ble_eq_true rfl), (Nat.le_of_ble_eq_true rfl)⟩)) (z_preV hPc hKc hDc hN hXs hS hFc (q := (RX5, TX5, 13)) (ci := 5) (q0 := 0) rfl rfl) rfl rfl hl.1 rfl (lv_room (Nat.le_of_ble_eq_true rfl)) dX5_readCourt_19 (by rw [← hRe]; exact ⟨(Nat.le_of_ble_eq_true rfl), (Nat.le_of_ble_eq_true rfl)⟩)) hS (fun q _ h => hFc q h) hFc (fun u t H1 locs ht hvm hw hB hz1 hk1 hS => ?_)
    obtain ⟨n_rd_3, b_n_rd_3, hf_4, hB⟩ := hB
    obtain ⟨hP, hD, hK⟩ := z_after3 (wn := [(rd_kinds, .inl (cA_rd_kinds, 1601, .inl f_rd_kinds)), (rd_starts, .inl (cA_rd_starts, 1601, .inl f_rd_starts)), (rd_stops, .inl (cA_rd_stops, 1601, .inl f_rd_stops)), (rd_values, .inl (cA_rd_values, 1601, .inl f_rd_values)), (tx, .inl (cA_tx, 1600, .inl f_tx)), (tn, .inr (7, [.int tn_hours, .int tn_courts, .int tn_gateCount, .int tn_people, .int tn_lines, .int tn_falseHours, .int tn_strayers, .int tn_deep, .ref tn_above, .ref tn_doors, .ref tn_degrees, .ref tn_neighbours, .ref tn_shows, .ref tn_oneEnd, .ref tn_otherEnd, .ref tn_told, .ref tn_strayParts, .ref tn_strayCourts])), (tn_above, .inl (cA_tn_above, 10, .inl f_tn_above)), (rd, .inr (5, [.int rd_fault, .int rd_place, .ref tx, .ref rd_kinds, .ref rd_starts, .ref rd_stops, .ref rd_values, .int rd_tokens, .int n_rd_3, .ref tn, .int rd_strayCount, .int rd_lawTold, .int rd_falseTold]))]) hB ht hvm hP hD hK [0] [1, 2, 3, 4, 5, 6, 7] rfl 8 rfl (by decide +kernel) rfl (by decide +kernel) hk1 hFc
    generalize H1 = H at hP hS ⊢
    have hK : va_K (dC, dI) vwCl [(cA_rd_kinds, .int), (cA_rd_starts, .int), (cA_rd_stops, .int), (cA_rd_values, .int), (cA_tx, .byte), (cA_tn_above, .int)] s := hK
    replace hF := hF.trans (zL_eq hf_4)
    refine lv_aload_n hx hb dX5_readCourt_22 rfl (lv_at hl 0 rfl) ?_
    refine va_ldcS (index := 158) hx hb hown (hXs.2.2.2.2.2.2.2 7 (by decide)) dX5_readCourt_23 ?_
    obtain ⟨hPc, hDc, hFc⟩ := z_cut (wc := (zV213 rd rd_fault rd_place tx rd_kinds rd_starts rd_stops rd_values rd_tokens n_rd_3 tn rd_strayCount rd_lawTold rd_falseTold rd_kinds cA_rd_kinds f_rd_kinds rd_starts cA_rd_starts f_rd_starts rd_stops cA_rd_stops f_rd_stops tx cA_tx f_tx)) hP hD hS hA [7, 0, 1, 2, 4] rfl (by decide +kernel)
    have hKc := hK.sub (tys' := [(cA_rd_kinds, .int), (cA_rd_starts, .int), (cA_rd_stops, .int), (cA_tx, .byte)]) [0, 1, 2, 4] rfl
    refine va_callv (va_runV (As := [.ref (sa (2 + 2 * 7))]) (rest := []) ⟨hx, hb, hml, hown, hts⟩ (kf_X5_expectWord l sa dC dI rd rd_fault rd_place tx rd_kinds rd_starts rd_stops rd_values rd_tokens n_rd_3 tn rd_strayCount rd_lawTold rd_falseTold cA_rd_kinds f_rd_kinds cA_rd_starts f_rd_starts cA_rd_stops f_rd_stops cA_tx f_tx (7) b_rd_tokens (by first | with_reducible assumption | omega) b_rd_strayCount b_rd_lawTold b_rd_falseTold b_f_rd_kinds b_f_rd_starts b_f_rd_stops (by decide) H.size) (cwV 1 hts (z_gV zw_t3_33 zw_t3_35 zw_s1_5 zw_t1_4 zw_t3_36) rfl rfl rfl (by decide +kernel) (by rw [← hRe]; exact ⟨(Nat.le_of_ble_eq_true rfl), (Nat.le_of_ble_eq_true rfl)⟩)) (z_preV hPc hKc hDc hN hXs hS hFc (q := (RX5, TX5, 13)) (ci := 5) (q0 := 0) rfl rfl) rfl rfl hl.1 rfl (lv_room (Nat.le_of_ble_eq_true rfl)) dX5_readCourt_25 (by rw [← hRe]; exact ⟨(Nat.le_of_ble_eq_true rfl), (Nat.le_of_ble_eq_true rfl)⟩)) hS (fun q _ h => hFc q h) hFc (fun u t H1 locs ht hvm hw hB hz1 hk1 hS => ?_)
    refine hB.elim fun n_rd_6 ze1 => ze1.elim fun n_rd_7 ze2 => ze2.elim fun n_rd_8 ze3 => ze3.elim fun b_n_rd_8 ze4 => ze4.elim fun hf_9 ze5 => ze5.elim fun hf_10 ze6 => ze6.elim fun hf_11 ze7 => ?_
    clear hB ze1 ze2 ze3 ze4 ze5 ze6
    have hB := ze7
    clear ze7
    obtain ⟨hP, hD, hK⟩ := z_after3 (wn := [(rd_values, .inl (cA_rd_values, 1601, .inl f_rd_values)), (tn, .inr (7, [.int tn_hours, .int tn_courts, .int tn_gateCount, .int tn_people, .int tn_lines, .int tn_falseHours, .int tn_strayers, .int tn_deep, .ref tn_above, .ref tn_doors, .ref tn_degrees, .ref tn_neighbours, .ref tn_shows, .ref tn_oneEnd, .ref tn_otherEnd, .ref tn_told, .ref tn_strayParts, .ref tn_strayCourts])), (tn_above, .inl (cA_tn_above, 10, .inl f_tn_above)), (rd, .inr (5, [.int n_rd_6, .int n_rd_7, .ref tx, .ref rd_kinds, .ref rd_starts, .ref rd_stops, .ref rd_values, .int rd_tokens, .int n_rd_8, .ref tn, .int rd_strayCount, .int rd_lawTold, .int rd_falseTold])), (rd_kinds, .inl (cA_rd_kinds, 1601, .inl f_rd_kinds)), (rd_starts, .inl (cA_rd_starts, 1601, .inl f_rd_starts)), (rd_stops, .inl (cA_rd_stops, 1601, .inl f_rd_stops)), (tx, .inl (cA_tx, 1600, .inl f_tx))]) hB ht hvm hP hD hK [7, 0, 1, 2, 4] [3, 5, 6] rfl 8 rfl (by decide +kernel) rfl (by decide +kernel) hk1 hFc
    generalize H1 = H at hP hS ⊢
    have hK : va_K (dC, dI) vwCl [(cA_rd_kinds, .int), (cA_rd_starts, .int), (cA_rd_stops, .int), (cA_rd_values, .int), (cA_tx, .byte), (cA_tn_above, .int)] s := hK
    replace hF := hF.trans (zL_eq rfl)
    replace hF := hF.trans (zL_eq hf_9)
    replace hF := hF.trans (zL_eq hf_10)
    replace hF := hF.trans (zL_eq hf_11)
    refine lv_aload_n hx hb dX5_readCourt_28 rfl (lv_at hl 0 rfl) ?_
    obtain ⟨hPc, hDc, hFc⟩ := z_cut (wc := (zV215 rd n_rd_6 n_rd_7 tx rd_kinds rd_starts rd_stops rd_values rd_tokens n_rd_8 tn rd_strayCount rd_lawTold rd_falseTold rd_kinds cA_rd_kinds f_rd_kinds rd_starts cA_rd_starts f_rd_starts rd_values cA_rd_values f_rd_values tn tn_hours tn_courts tn_gateCount tn_people tn_lines tn_falseHours tn_strayers tn_deep tn_above tn_doors tn_degrees tn_neighbours tn_shows tn_oneEnd tn_otherEnd tn_told tn_strayParts tn_strayCourts)) hP hD hS hA [3, 4, 5, 0, 1] rfl (by decide +kernel)
    have hKc := hK.sub (tys' := [(cA_rd_kinds, .int), (cA_rd_starts, .int), (cA_rd_values, .int)]) [0, 1, 3] rfl
    refine va_calli (va_runV (As := []) (rest := []) ⟨hx, hb, hml, hown, hts⟩ (kf_X5_expectCourt l sa dC dI rd n_rd_6 n_rd_7 tx rd_kinds rd_starts rd_stops rd_values rd_tokens n_rd_8 tn rd_strayCount rd_lawTold rd_falseTold cA_rd_kinds f_rd_kinds cA_rd_starts f_rd_starts cA_rd_values f_rd_values tn_hours tn_courts tn_gateCount tn_people tn_lines tn_falseHours tn_strayers tn_deep tn_above tn_doors tn_degrees tn_neighbours tn_shows tn_oneEnd tn_otherEnd tn_told tn_strayParts tn_strayCourts b_rd_tokens (by first | with_reducible assumption | omega) b_rd_strayCount b_rd_lawTold b_rd_falseTold b_f_rd_kinds b_f_rd_starts b_f_rd_values b_tn_hours b_tn_courts b_tn_gateCount b_tn_people b_tn_falseHours b_tn_deep H.size) (cwV 0 hts (z_gV zw_t3_108 zw_t3_110 zw_s1_11 zw_t1_4 zw_t3_111) rfl rfl rfl (by decide +kernel) (by rw [← hRe]; exact ⟨(Nat.le_of_ble_eq_true rfl), (Nat.le_of_ble_eq_true rfl)⟩)) (z_preV hPc hKc hDc hN hXs hS hFc (q := (RX5, TX5, 13)) (ci := 5) (q0 := 0) rfl rfl) rfl rfl hl.1 rfl (lv_room (Nat.le_of_ble_eq_true rfl)) dX5_readCourt_29 (by rw [← hRe]; exact ⟨(Nat.le_of_ble_eq_true rfl), (Nat.le_of_ble_eq_true rfl)⟩)) hS (fun q _ h => hFc q h) hFc (fun r_13 u t H1 locs ht hvm hw hB hz1 hk1 hS => ?_)
    refine hB.elim fun n_rd_14 ze1 => ze1.elim fun n_rd_15 ze2 => ze2.elim fun n_rd_16 ze3 => ze3.elim fun b_n_rd_16 ze4 => ze4.elim fun hf_17 ze5 => ze5.elim fun hf_18 ze6 => ze6.elim fun hf_19 ze7 => ?_
    clear hB ze1 ze2 ze3 ze4 ze5 ze6
    have hB := ze7
    clear ze7
    obtain ⟨hP, hD, hK⟩ := z_after3 (wn := (zV218 tn_above cA_tn_above f_tn_above rd_stops cA_rd_stops f_rd_stops tx cA_tx f_tx rd n_rd_14 n_rd_15 tx rd_kinds rd_starts rd_stops rd_values rd_tokens n_rd_16 tn rd_strayCount rd_lawTold rd_falseTold rd_kinds cA_rd_kinds f_rd_kinds rd_starts cA_rd_starts f_rd_starts rd_values cA_rd_values f_rd_values tn tn_hours tn_courts tn_gateCount tn_people tn_lines tn_falseHours tn_strayers tn_deep tn_above tn_doors tn_degrees tn_neighbours tn_shows tn_oneEnd tn_otherEnd tn_told tn_strayParts tn_strayCourts)) hB ht hvm hP hD hK [3, 4, 5, 0, 1] [2, 6, 7] rfl 8 rfl (by decide +kernel) rfl (by decide +kernel) hk1 hFc
    generalize H1 = H at hP hS ⊢
    have hK : va_K (dC, dI) vwCl [(cA_rd_kinds, .int), (cA_rd_starts, .int), (cA_rd_stops, .int), (cA_rd_values, .int), (cA_tx, .byte), (cA_tn_above, .int)] s := hK
    have b_r_13 : 0 ≤ r_13.toInt ∧ r_13.toInt ≤ 9 := hw.1
    have sf_r_13 := hw.2
    replace hF := hF.trans (zL_eq rfl)
    replace hF := hF.trans (zL_eq sf_r_13)
    replace hF := hF.trans (zL_eq hf_17)
    replace hF := hF.trans (zL_eq hf_18)
    replace hF := hF.trans (zL_eq hf_19)
    refine lv_istore_n (lv' := [(1, .int r_13), (0, .ref rd)]) hx hb dX5_readCourt_32 rfl hl (by decide) rfl (fun ls hl => ?_)
    refine lv_aload_n hx hb dX5_readCourt_33 rfl (lv_at hl 1 rfl) ?_
    refine va_get (D := (dC, dI)) (ci := 5) (v := .int n_rd_14) (C := RX5) (T := TX5) (N := 13) hx hb hts zl_X5 hown hK hP 3 rfl rfl 0 (by decide) (hts _ zw_t1_193) (fun _ h9 => h9) rfl dX5_readCourt_34 ?_
    have nb_n_rd_14 := zi_nb n_rd_14
    refine lv_if_ne (tgt := 81) hx hb dX5_readCourt_37 (by decide) (fun c_21 => ?_) (fun c_21 => ?_)
    · have ic_21 := zz_ne rfl (show Int32.toInt 0 = 0 from by decide) c_21
      replace hF := hF.trans (if_neg c_21)
      have hF : RR = (n_rd_14, n_rd_15, n_rd_16, tn_courts, f_tn_above) := hF
      exact W.vret hx hb hr (fun t ht hW => by rw [← hQe]; exact ⟨⟨(), rfl, trivial, ⟨n_rd_14, n_rd_15, n_rd_16, tn_courts, f_tn_above, (by first | with_reducible assumption | omega), (by first | with_reducible assumption | omega), (by rw [← hRR, hF]), (by rw [← hRR, hF]), (by rw [← hRR, hF]), (by rw [← hRR, hF]), (by rw [← hRR, hF]), z_ret hP hK hD ht hW [3, 4, 5, 1, 6, 2, 7, 0] [] rfl (by decide) rfl⟩⟩, hS.F ht⟩) hS.2.2 dX5_readCourt_81
    · have ic_21 := zz_nne rfl (show Int32.toInt 0 = 0 from by decide) c_21
      replace hF := hF.trans (if_pos c_21)
      refine lv_aload_n hx hb dX5_readCourt_40 rfl (lv_at hl 1 rfl) ?_
      refine va_get (D := (dC, dI)) (ci := 5) (v := .ref tn) (C := RX5) (T := TX5) (N := 13) hx hb hts zl_X5 hown hK hP 3 rfl rfl 9 (by decide) (hts _ zw_t1_204) (fun _ h9 => h9) rfl dX5_readCourt_41 ?_
      refine va_get (D := (dC, dI)) (ci := 7) (v := .ref tn_above) (C := RX7) (T := TX7) (N := 18) hx hb hts zl_X7 hown hK hP 7 rfl rfl 8 (by decide) (hts _ zw_t1_81) (fun _ h9 => h9) rfl dX5_readCourt_44 ?_
      refine lv_aload_n hx hb dX5_readCourt_47 rfl (lv_at hl 1 rfl) ?_
      refine va_get (D := (dC, dI)) (ci := 5) (v := .ref tn) (C := RX5) (T := TX5) (N := 13) hx hb hts zl_X5 hown hK hP 3 rfl rfl 9 (by decide) (hts _ zw_t1_204) (fun _ h9 => h9) rfl dX5_readCourt_48 ?_
      refine va_get (D := (dC, dI)) (ci := 7) (v := .int tn_courts) (C := RX7) (T := TX7) (N := 18) hx hb hts zl_X7 hown hK hP 7 rfl rfl 1 (by decide) (hts _ zw_t1_51) (fun _ h9 => h9) rfl dX5_readCourt_51 ?_
      refine lv_aload_n hx hb dX5_readCourt_54 rfl (lv_at hl 1 rfl) ?_
      refine va_get (D := (dC, dI)) (ci := 5) (v := .ref tn) (C := RX5) (T := TX5) (N := 13) hx hb hts zl_X5 hown hK hP 3 rfl rfl 9 (by decide) (hts _ zw_t1_204) (fun _ h9 => h9) rfl dX5_readCourt_55 ?_
      refine va_get (D := (dC, dI)) (ci := 7) (v := .ref tn_above) (C := RX7) (T := TX7) (N := 18) hx hb hts zl_X7 hown hK hP 7 rfl rfl 8 (by decide) (hts _ zw_t1_81) (fun _ h9 => h9) rfl dX5_readCourt_58 ?_
      refine lv_iload_n hx hb dX5_readCourt_61 rfl (lv_at hl 0 rfl) ?_
      refine va_iald hx hb hK hP 0 5 rfl rfl (zi_in rfl (by first | exact z_rin b_r_13 (by decide) | omega)) dX5_readCourt_62 ?_
      refine lv_topi (fun x_22 ex_22 => ?_)
      replace hF := hF.trans (zL_eq ex_22)
      refine lv_iconst (v := 1) hx hb dX5_readCourt_63 (by decide) ?_
      refine lv_iload_n hx hb dX5_readCourt_64 rfl (lv_at hl 0 rfl) ?_
      refine lv_ishl hx hb dX5_readCourt_65 ?_
      refine lv_topi (fun x_23 ex_23 => ?_)
      replace hF := hF.trans (zL_eq ex_23)
      have b_x_23 : 1 ≤ x_23.toInt ∧ x_23.toInt ≤ 512 := by rw [ex_23]; exact zi_shl9 rfl (z_rle b_r_13 (by decide))
      refine lv_ior hx hb dX5_readCourt_66 ?_
      refine lv_topi (fun x_24 ex_24 => ?_)
      replace hF := hF.trans (zL_eq ex_24)
      refine va_iast hx hb hK hP hD hS 0 5 rfl rfl (zi_in rfl (by first | with_reducible assumption | omega)) dX5_readCourt_67 (fun H locs hP hD hS => ?_)
      obtain ⟨f_25, ef_25⟩ : ∃ g : Nat → Int32, g = upd f_tn_above (Int32.toNatClampNeg tn_courts) x_24 := ⟨_, rfl⟩
      replace hF := hF.trans (zL_eq ef_25)
      have hP : va_P (dC, dI) vwCl (zV218 tn_above cA_tn_above (upd f_tn_above (Int32.toNatClampNeg tn_courts) x_24) rd_stops cA_rd_stops f_rd_stops tx cA_tx f_tx rd n_rd_14 n_rd_15 tx rd_kinds rd_starts rd_stops rd_values rd_tokens n_rd_16 tn rd_strayCount rd_lawTold rd_falseTold rd_kinds cA_rd_kinds f_rd_kinds rd_starts cA_rd_starts f_rd_starts rd_values cA_rd_values f_rd_values tn tn_hours tn_courts tn_gateCount tn_people tn_lines tn_falseHours tn_strayers tn_deep tn_above tn_doors tn_degrees tn_neighbours tn_shows tn_oneEnd tn_otherEnd tn_told tn_strayParts tn_strayCourts) H := hP
      have hD : va_D A (zV218 tn_above cA_tn_above (upd f_tn_above (Int32.toNatClampNeg tn_courts) x_24) rd_stops cA_rd_stops f_rd_stops tx cA_tx f_tx rd n_rd_14 n_rd_15 tx rd_kinds rd_starts rd_stops rd_values rd_tokens n_rd_16 tn rd_strayCount rd_lawTold rd_falseTold rd_kinds cA_rd_kinds f_rd_kinds rd_starts cA_rd_starts f_rd_starts rd_values cA_rd_values f_rd_values tn tn_hours tn_courts tn_gateCount tn_people tn_lines tn_falseHours tn_strayers tn_deep tn_above tn_doors tn_degrees tn_neighbours tn_shows tn_oneEnd tn_otherEnd tn_told tn_strayParts tn_strayCourts) := hD
      rw [← ef_25] at hP hD
      refine lv_aload_n hx hb dX5_readCourt_68 rfl (lv_at hl 1 rfl) ?_
      refine va_get (D := (dC, dI)) (ci := 5) (v := .ref tn) (C := RX5) (T := TX5) (N := 13) hx hb hts zl_X5 hown hK hP 3 rfl rfl 9 (by decide) (hts _ zw_t1_204) (fun _ h9 => h9) rfl dX5_readCourt_69 ?_
      refine lv_dup hx hb dX5_readCourt_72 rfl ?_
      refine va_get (D := (dC, dI)) (ci := 7) (v := .int tn_courts) (C := RX7) (T := TX7) (N := 18) hx hb hts zl_X7 hown hK hP 7 rfl rfl 1 (by decide) (hts _ zw_t1_51) (fun _ h9 => h9) rfl dX5_readCourt_73 ?_
      refine lv_iconst (v := 1) hx hb dX5_readCourt_76 (by decide) ?_
      refine lv_iadd hx hb dX5_readCourt_77 ?_
      refine lv_topi (fun x_26 ex_26 => ?_)
      replace hF := hF.trans (zL_eq ex_26)
      have b_x_26 : x_26.toInt = tn_courts.toInt + 1 := by rw [ex_26]; exact zi_add rfl (show Int32.toInt 1 = 1 from by decide) (z_rac b_tn_courts (by decide))
      refine va_put (D := (dC, dI)) (ci := 7) (v := .int x_26) (ty := .int) (C := RX7) (T := TX7) (N := 18) hx hb hts zl_X7 tyX7 tyX7_ok nmX7 hown hK hP hD hS 7 rfl rfl 1 (by decide) (hts _ zw_t1_51) (fun _ h9 => h9) rfl (by decide +kernel) rfl rfl (Nat.le_of_ble_eq_true rfl) dX5_readCourt_78 (fun H locs hP hD hS => ?_)
      have hP : va_P (dC, dI) vwCl (zV218 tn_above cA_tn_above f_25 rd_stops cA_rd_stops f_rd_stops tx cA_tx f_tx rd n_rd_14 n_rd_15 tx rd_kinds rd_starts rd_stops rd_values rd_tokens n_rd_16 tn rd_strayCount rd_lawTold rd_falseTold rd_kinds cA_rd_kinds f_rd_kinds rd_starts cA_rd_starts f_rd_starts rd_values cA_rd_values f_rd_values tn tn_hours x_26 tn_gateCount tn_people tn_lines tn_falseHours tn_strayers tn_deep tn_above tn_doors tn_degrees tn_neighbours tn_shows tn_oneEnd tn_otherEnd tn_told tn_strayParts tn_strayCourts) H := hP
      have hD : va_D A (zV218 tn_above cA_tn_above f_25 rd_stops cA_rd_stops f_rd_stops tx cA_tx f_tx rd n_rd_14 n_rd_15 tx rd_kinds rd_starts rd_stops rd_values rd_tokens n_rd_16 tn rd_strayCount rd_lawTold rd_falseTold rd_kinds cA_rd_kinds f_rd_kinds rd_starts cA_rd_starts f_rd_starts rd_values cA_rd_values f_rd_values tn tn_hours x_26 tn_gateCount tn_people tn_lines tn_falseHours tn_strayers tn_deep tn_above tn_doors tn_degrees tn_neighbours tn_shows tn_oneEnd tn_otherEnd tn_told tn_strayParts tn_strayCourts) := hD
      have hF : RR = (n_rd_14, n_rd_15, n_rd_16, x_26, f_25) := hF
      exact W.vret hx hb hr (fun t ht hW => by rw [← hQe]; exact ⟨⟨(), rfl, trivial, ⟨n_rd_14, n_rd_15, n_rd_16, x_26, f_25, (by first | with_reducible assumption | omega), (by first | with_reducible assumption | omega), (by rw [← hRR, hF]), (by rw [← hRR, hF]), (by rw [← hRR, hF]), (by rw [← hRR, hF]), (by rw [← hRR, hF]), z_ret hP hK hD ht hW [3, 4, 5, 1, 6, 2, 7, 0] [] rfl (by decide) rfl⟩⟩, hS.F ht⟩) hS.2.2 dX5_readCourt_81
  · have ic_1 := zz_nlt rfl (show Int32.toInt 10 = 10 from by decide) c_1
    replace hF := hF.trans (if_neg c_1)
    refine lv_aload_n hx hb dX5_readCourt_12 rfl (lv_at hl 0 rfl) ?_
    refine lv_iconst (v := 3) hx hb dX5_readCourt_13 (by decide) ?_
    obtain ⟨hPc, hDc, hFc⟩ := z_cut (wc := (zV211 rd rd_fault rd_place tx rd_kinds rd_starts rd_stops rd_values rd_tokens rd_at tn rd_strayCount rd_lawTold rd_falseTold rd_starts cA_rd_starts f_rd_starts)) hP hD hS hA [0, 2] rfl (by decide +kernel)
    have hKc := hK.sub (tys' := [(cA_rd_starts, .int)]) [1] rfl
    refine va_callv (va_runV (As := [.int 3]) (rest := []) ⟨hx, hb, hml, hown, hts⟩ (kf_X5_blame l sa dC dI rd (3) rd_fault rd_place tx rd_kinds rd_starts rd_stops rd_values rd_tokens rd_at tn rd_strayCount rd_lawTold rd_falseTold cA_rd_starts f_rd_starts (by decide) b_rd_tokens b_rd_at b_rd_strayCount b_rd_lawTold b_rd_falseTold b_f_rd_starts s.heap.size) (cwV 1 hts (z_gV zw_t3_89 zw_t3_91 zw_s1_7 zw_t1_4 zw_t3_92) rfl rfl rfl (by decide +kernel) (by rw [← hRe]; exact ⟨(Nat.le_of_ble_eq_true rfl), (Nat.le_of_ble_eq_true rfl)⟩)) (z_preV hPc hKc hDc hN hXs hS hFc (q := (RX5, TX5, 13)) (ci := 5) (q0 := 0) rfl rfl) rfl rfl hl.1 rfl (lv_room (Nat.le_of_ble_eq_true rfl)) dX5_readCourt_14 (by rw [← hRe]; exact ⟨(Nat.le_of_ble_eq_true rfl), (Nat.le_of_ble_eq_true rfl)⟩)) hS (fun q _ h => hFc q h) hFc (fun u t H1 locs ht hvm hw hB hz1 hk1 hS => ?_)
    refine hB.elim fun n_rd_28 ze1 => ze1.elim fun n_rd_29 ze2 => ze2.elim fun hf_30 ze3 => ze3.elim fun hf_31 ze4 => ze4.elim fun hf_32 ze5 => ?_
    clear hB ze1 ze2 ze3 ze4
    have hB := ze5
    clear ze5
    obtain ⟨hP, hD, hK⟩ := z_after3 (wn := [(rd_kinds, .inl (cA_rd_kinds, 1601, .inl f_rd_kinds)), (rd_stops, .inl (cA_rd_stops, 1601, .inl f_rd_stops)), (rd_values, .inl (cA_rd_values, 1601, .inl f_rd_values)), (tx, .inl (cA_tx, 1600, .inl f_tx)), (tn, .inr (7, [.int tn_hours, .int tn_courts, .int tn_gateCount, .int tn_people, .int tn_lines, .int tn_falseHours, .int tn_strayers, .int tn_deep, .ref tn_above, .ref tn_doors, .ref tn_degrees, .ref tn_neighbours, .ref tn_shows, .ref tn_oneEnd, .ref tn_otherEnd, .ref tn_told, .ref tn_strayParts, .ref tn_strayCourts])), (tn_above, .inl (cA_tn_above, 10, .inl f_tn_above)), (rd, .inr (5, [.int n_rd_28, .int n_rd_29, .ref tx, .ref rd_kinds, .ref rd_starts, .ref rd_stops, .ref rd_values, .int rd_tokens, .int rd_at, .ref tn, .int rd_strayCount, .int rd_lawTold, .int rd_falseTold])), (rd_starts, .inl (cA_rd_starts, 1601, .inl f_rd_starts))]) hB ht hvm hP hD hK [0, 2] [1, 3, 4, 5, 6, 7] rfl 8 rfl (by decide +kernel) rfl (by decide +kernel) hk1 hFc
    generalize H1 = H at hP hS ⊢
    have hK : va_K (dC, dI) vwCl [(cA_rd_kinds, .int), (cA_rd_starts, .int), (cA_rd_stops, .int), (cA_rd_values, .int), (cA_tx, .byte), (cA_tn_above, .int)] s := hK
    replace hF := hF.trans (zL_eq rfl)
    replace hF := hF.trans (zL_eq hf_31)
    replace hF := hF.trans (zL_eq hf_32)
    have hF : RR = (n_rd_28, n_rd_29, rd_at, tn_courts, f_tn_above) := hF
    exact W.vret hx hb hr (fun t ht hW => by rw [← hQe]; exact ⟨⟨(), rfl, trivial, ⟨n_rd_28, n_rd_29, rd_at, tn_courts, f_tn_above, (by first | with_reducible assumption | omega), (by first | with_reducible assumption | omega), (by rw [← hRR, hF]), (by rw [← hRR, hF]), (by rw [← hRR, hF]), (by rw [← hRR, hF]), (by rw [← hRR, hF]), z_ret hP hK hD ht hW [6, 0, 7, 1, 2, 3, 4, 5] [] rfl (by decide) rfl⟩⟩, hS.F ht⟩) hS.2.2 dX5_readCourt_17
