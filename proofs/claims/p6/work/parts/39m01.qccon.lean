set_option linter.all false
set_option maxHeartbeats 4000000 in
set_option maxRecDepth 100000 in
theorem kf_X6_isThere (l : Launch) (sa : Nat → Nat) (dC : Nat → ClassId) (dI : Nat → Nat → Nat) (rw : Nat) (rw_width : Int32) (rw_size : Int32) (rw_numbers : Nat) (b_rw_size : 0 ≤ rw_size.toInt ∧ rw_size.toInt ≤ 60) (sz : Nat) : Met l yX6_isThere (.code yX6_isThere cX6_isThere 1 (some .boolean) :: zT) ({ frames := 0, cells := 0, slots := 0, locals := 0 }) (va_Pc [.ref rw] (zB sa dC dI (zV6 rw rw_width rw_size rw_numbers) [] sz)) (va_Qi (fun (r : Int32) (_ : Unit) => (0 ≤ r.toInt ∧ r.toInt ≤ 1) ∧ r = (F_X6_isThere rw_width)) (fun _ t => zW dC dI (zV6 rw rw_width rw_size rw_numbers) [] (va_A (zV6 rw rw_width rw_size rw_numbers) sz) t) (va_A (zV6 rw rw_width rw_size rw_numbers) sz)) 0 0 (va_A (zV6 rw rw_width rw_size rw_numbers) sz) := by
  refine z_enter (by decide) (by exact (Nat.le_of_ble_eq_true rfl)) ?_
  intro p e s m args below meth c ls A R Qc hargs hsz hQe hAe hRe hx hb hml hr hts hown hlocks hin hl hP hK hD hN hXs hA hS
  rw [hAe] at hQe
  have hown : s.vm.findClass RX6 = some m.cls := hown
  have hl : lv_has ls 1 [(0, .ref rw)] := hl
  obtain ⟨RR, hRR⟩ : ∃ z : Int32, z = (F_X6_isThere rw_width) := ⟨_, rfl⟩
  have hF : RR = (F_X6_isThere rw_width) := hRR
  refine lv_aload_n hx hb dX6_isThere_0 rfl (lv_at hl 0 rfl) ?_
  refine va_get (D := (dC, dI)) (ci := 6) (v := .int rw_width) (C := RX6) (T := TX6) (N := 3) hx hb hts zl_X6 hown hK hP 0 rfl rfl 0 (by decide) (hts _ zw_t2_175) (fun _ h9 => h9) rfl dX6_isThere_1 ?_
  refine lv_iconst (v := (-1)) hx hb dX6_isThere_4 (by decide) ?_
  have nb_rw_width := zi_nb rw_width
  refine lv_icmp_eq (tgt := 12) hx hb dX6_isThere_5 (by decide) (fun c_1 => ?_) (fun c_1 => ?_)
  · have ic_1 := zz_eq rfl (show Int32.toInt (-1) = (-1) from by decide) c_1
    replace hF := hF.trans (if_pos c_1)
    refine lv_iconst (v := 0) hx hb dX6_isThere_12 (by decide) ?_
    have hF : RR = (0 : Int32) := hF
    have zc : Int32.toInt 0 = 0 := by decide
    exact W.zret (v := 0) hx hb hr (by decide) (fun t ht hW => by rw [← hQe]; exact ⟨⟨0, (), rfl, ⟨by decide, (by rw [← hRR, hF])⟩, z_ret hP hK hD ht hW [0] [] rfl (by decide) rfl⟩, hS.F ht⟩) hS.2.2 dX6_isThere_13
  · have ic_1 := zz_neq rfl (show Int32.toInt (-1) = (-1) from by decide) c_1
    replace hF := hF.trans (if_neg c_1)
    refine lv_iconst (v := 1) hx hb dX6_isThere_8 (by decide) ?_
    refine lv_goto (tgt := 13) hx hb dX6_isThere_9 (by decide) ?_
    have hF : RR = (1 : Int32) := hF
    have zc : Int32.toInt 1 = 1 := by decide
    exact W.zret (v := 1) hx hb hr (by decide) (fun t ht hW => by rw [← hQe]; exact ⟨⟨1, (), rfl, ⟨by decide, (by rw [← hRR, hF])⟩, z_ret hP hK hD ht hW [0] [] rfl (by decide) rfl⟩, hS.F ht⟩) hS.2.2 dX6_isThere_13
set_option maxHeartbeats 4000000 in
set_option maxRecDepth 100000 in
theorem kf_X3_unsure (l : Launch) (sa : Nat → Nat) (dC : Nat → ClassId) (dI : Nat → Nat → Nat) (nw : Nat) (nw_isKept : Int32) (tn : Nat) (nw_strayed : Int32) (nw_names : Int32) (nw_known : Int32) (nw_gone : Int32) (tn_hours : Int32) (tn_courts : Int32) (tn_gateCount : Int32) (tn_people : Int32) (tn_lines : Int32) (tn_falseHours : Int32) (tn_strayers : Int32) (tn_deep : Int32) (tn_above : Nat) (tn_doors : Nat) (tn_degrees : Nat) (tn_neighbours : Nat) (tn_shows : Nat) (tn_oneEnd : Nat) (tn_otherEnd : Nat) (tn_told : Nat) (tn_strayParts : Nat) (tn_strayCourts : Nat) (b_nw_isKept : 0 ≤ nw_isKept.toInt ∧ nw_isKept.toInt ≤ 1) (b_nw_names : 0 ≤ nw_names.toInt ∧ nw_names.toInt ≤ 1023) (b_tn_hours : 0 ≤ tn_hours.toInt ∧ tn_hours.toInt ≤ 48) (b_tn_courts : 0 ≤ tn_courts.toInt ∧ tn_courts.toInt ≤ 10) (b_tn_gateCount : 0 ≤ tn_gateCount.toInt ∧ tn_gateCount.toInt ≤ 16) (b_tn_people : 0 ≤ tn_people.toInt ∧ tn_people.toInt ≤ 10) (b_tn_falseHours : 0 ≤ tn_falseHours.toInt ∧ tn_falseHours.toInt ≤ 9) (b_tn_deep : 0 ≤ tn_deep.toInt ∧ tn_deep.toInt ≤ 1) (sz : Nat) : Met l yX3_unsure (.code yX3_unsure cX3_unsure 1 (some .int) :: zT) ({ frames := 0, cells := 0, slots := 0, locals := 0 }) (va_Pc [.ref nw] (zB sa dC dI (zV9 nw nw_isKept tn nw_strayed nw_names nw_known nw_gone tn tn_hours tn_courts tn_gateCount tn_people tn_lines tn_falseHours tn_strayers tn_deep tn_above tn_doors tn_degrees tn_neighbours tn_shows tn_oneEnd tn_otherEnd tn_told tn_strayParts tn_strayCourts) [] sz)) (va_Qi (fun (r : Int32) (_ : Unit) => r = (F_X3_unsure nw_known tn_strayers)) (fun _ t => zW dC dI (zV9 nw nw_isKept tn nw_strayed nw_names nw_known nw_gone tn tn_hours tn_courts tn_gateCount tn_people tn_lines tn_falseHours tn_strayers tn_deep tn_above tn_doors tn_degrees tn_neighbours tn_shows tn_oneEnd tn_otherEnd tn_told tn_strayParts tn_strayCourts) [] (va_A (zV9 nw nw_isKept tn nw_strayed nw_names nw_known nw_gone tn tn_hours tn_courts tn_gateCount tn_people tn_lines tn_falseHours tn_strayers tn_deep tn_above tn_doors tn_degrees tn_neighbours tn_shows tn_oneEnd tn_otherEnd tn_told tn_strayParts tn_strayCourts) sz) t) (va_A (zV9 nw nw_isKept tn nw_strayed nw_names nw_known nw_gone tn tn_hours tn_courts tn_gateCount tn_people tn_lines tn_falseHours tn_strayers tn_deep tn_above tn_doors tn_degrees tn_neighbours tn_shows tn_oneEnd tn_otherEnd tn_told tn_strayParts tn_strayCourts) sz)) 0 0 (va_A (zV9 nw nw_isKept tn nw_strayed nw_names nw_known nw_gone tn tn_hours tn_courts tn_gateCount tn_people tn_lines tn_falseHours tn_strayers tn_deep tn_above tn_doors tn_degrees tn_neighbours tn_shows tn_oneEnd tn_otherEnd tn_told tn_strayParts tn_strayCourts) sz) := by
  refine z_enter (by decide) (by exact (Nat.le_of_ble_eq_true rfl)) ?_
  intro p e s m args below meth c ls A R Qc hargs hsz hQe hAe hRe hx hb hml hr hts hown hlocks hin hl hP hK hD hN hXs hA hS
  rw [hAe] at hQe
  have hown : s.vm.findClass RX3 = some m.cls := hown
  have hl : lv_has ls 1 [(0, .ref nw)] := hl
  obtain ⟨RR, hRR⟩ : ∃ z : Int32, z = (F_X3_unsure nw_known tn_strayers) := ⟨_, rfl⟩
  have hF : RR = (F_X3_unsure nw_known tn_strayers) := hRR
  refine lv_aload_n hx hb dX3_unsure_0 rfl (lv_at hl 0 rfl) ?_
  refine va_get (D := (dC, dI)) (ci := 3) (v := .ref tn) (C := RX3) (T := TX3) (N := 6) hx hb hts zl_X3 hown hK hP 0 rfl rfl 1 (by decide) (hts _ zw_t1_153) (fun _ h9 => h9) rfl dX3_unsure_1 ?_
  refine va_get (D := (dC, dI)) (ci := 7) (v := .int tn_strayers) (C := RX7) (T := TX7) (N := 18) hx hb hts zl_X7 hown hK hP 1 rfl rfl 6 (by decide) (hts _ zw_t1_73) (fun _ h9 => h9) rfl dX3_unsure_4 ?_
  refine lv_aload_n hx hb dX3_unsure_7 rfl (lv_at hl 0 rfl) ?_
  refine va_get (D := (dC, dI)) (ci := 3) (v := .int nw_known) (C := RX3) (T := TX3) (N := 6) hx hb hts zl_X3 hown hK hP 0 rfl rfl 4 (by decide) (hts _ zw_t1_164) (fun _ h9 => h9) rfl dX3_unsure_8 ?_
  refine lv_iconst (v := (-1)) hx hb dX3_unsure_11 (by decide) ?_
  refine lv_ixor hx hb dX3_unsure_12 ?_
  refine lv_topi (fun x_1 ex_1 => ?_)
  replace hF := hF.trans (zL_eq ex_1)
  refine lv_iand hx hb dX3_unsure_13 ?_
  refine lv_topi (fun x_2 ex_2 => ?_)
  replace hF := hF.trans (zL_eq ex_2)
  have hF : RR = x_2 := hF
  exact W.iret (v := x_2) hx hb hr (fun t ht hW => by rw [← hQe]; exact ⟨⟨x_2, (), rfl, (by rw [← hRR, hF]), z_ret hP hK hD ht hW [0, 1] [] rfl (by decide) rfl⟩, hS.F ht⟩) hS.2.2 dX3_unsure_14
set_option maxHeartbeats 4000000 in
set_option maxRecDepth 100000 in
theorem kf_X3_thought (l : Launch) (sa : Nat → Nat) (dC : Nat → ClassId) (dI : Nat → Nat → Nat) (nw : Nat) (p1 : Int32) (p2 : Int32) (p3 : Int32) (nw_isKept : Int32) (tn : Nat) (nw_strayed : Int32) (nw_names : Int32) (nw_known : Int32) (nw_gone : Int32) (tn_hours : Int32) (tn_courts : Int32) (tn_gateCount : Int32) (tn_people : Int32) (tn_lines : Int32) (tn_falseHours : Int32) (tn_strayers : Int32) (tn_deep : Int32) (tn_above : Nat) (tn_doors : Nat) (tn_degrees : Nat) (tn_neighbours : Nat) (tn_shows : Nat) (tn_oneEnd : Nat) (tn_otherEnd : Nat) (tn_told : Nat) (tn_strayParts : Nat) (tn_strayCourts : Nat) (cA_tn_shows : ClassId) (f_tn_shows : Nat → Int32) (cA_tn_told : ClassId) (f_tn_told : Nat → Int32) (cA_tn_strayParts : ClassId) (f_tn_strayParts : Nat → Int32) (cA_tn_strayCourts : ClassId) (f_tn_strayCourts : Nat → Int32) (b_p1 : 0 ≤ p1.toInt ∧ p1.toInt ≤ 9) (b_p3 : 0 ≤ p3.toInt ∧ p3.toInt ≤ 47) (b_nw_isKept : 0 ≤ nw_isKept.toInt ∧ nw_isKept.toInt ≤ 1) (b_nw_names : 0 ≤ nw_names.toInt ∧ nw_names.toInt ≤ 1023) (b_tn_hours : 0 ≤ tn_hours.toInt ∧ tn_hours.toInt ≤ 48) (b_tn_courts : 0 ≤ tn_courts.toInt ∧ tn_courts.toInt ≤ 10) (b_tn_gateCount : 0 ≤ tn_gateCount.toInt ∧ tn_gateCount.toInt ≤ 16) (b_tn_people : 0 ≤ tn_people.toInt ∧ tn_people.toInt ≤ 10) (b_tn_falseHours : 0 ≤ tn_falseHours.toInt ∧ tn_falseHours.toInt ≤ 9) (b_tn_deep : 0 ≤ tn_deep.toInt ∧ tn_deep.toInt ≤ 1) (b_f_tn_told : ∀ j : Nat, 0 ≤ (f_tn_told j).toInt ∧ (f_tn_told j).toInt ≤ 9) (b_f_tn_strayParts : ∀ j : Nat, 0 ≤ (f_tn_strayParts j).toInt ∧ (f_tn_strayParts j).toInt ≤ 99) (b_f_tn_strayCourts : ∀ j : Nat, 0 ≤ (f_tn_strayCourts j).toInt ∧ (f_tn_strayCourts j).toInt ≤ 9) (sz : Nat) : Met l yX3_thought (.code yX3_thought cX3_thought 6 (some .int) :: zT) ({ frames := 2, cells := 0, slots := 0, locals := 47 }) (va_Pc [.ref nw, .int p1, .int p2, .int p3] (zB sa dC dI (zV244 nw nw_isKept tn nw_strayed nw_names nw_known nw_gone tn tn_hours tn_courts tn_gateCount tn_people tn_lines tn_falseHours tn_strayers tn_deep tn_above tn_doors tn_degrees tn_neighbours tn_shows tn_oneEnd tn_otherEnd tn_told tn_strayParts tn_strayCourts tn_shows cA_tn_shows f_tn_shows tn_told cA_tn_told f_tn_told tn_strayParts cA_tn_strayParts f_tn_strayParts tn_strayCourts cA_tn_strayCourts f_tn_strayCourts) [(cA_tn_shows, .int), (cA_tn_told, .int), (cA_tn_strayParts, .int), (cA_tn_strayCourts, .int)] sz)) (va_Qi (fun (r : Int32) (_ : Unit) => (0 ≤ r.toInt ∧ r.toInt ≤ 199) ∧ r = (F_X3_thought p1 p2 p3 nw_known nw_gone tn_strayers f_tn_shows f_tn_told f_tn_strayParts f_tn_strayCourts)) (fun _ t => zW dC dI (zV244 nw nw_isKept tn nw_strayed nw_names nw_known nw_gone tn tn_hours tn_courts tn_gateCount tn_people tn_lines tn_falseHours tn_strayers tn_deep tn_above tn_doors tn_degrees tn_neighbours tn_shows tn_oneEnd tn_otherEnd tn_told tn_strayParts tn_strayCourts tn_shows cA_tn_shows f_tn_shows tn_told cA_tn_told f_tn_told tn_strayParts cA_tn_strayParts f_tn_strayParts tn_strayCourts cA_tn_strayCourts f_tn_strayCourts) [] (va_A (zV244 nw nw_isKept tn nw_strayed nw_names nw_known nw_gone tn tn_hours tn_courts tn_gateCount tn_people tn_lines tn_falseHours tn_strayers tn_deep tn_above tn_doors tn_degrees tn_neighbours tn_shows tn_oneEnd tn_otherEnd tn_told tn_strayParts tn_strayCourts tn_shows cA_tn_shows f_tn_shows tn_told cA_tn_told f_tn_told tn_strayParts cA_tn_strayParts f_tn_strayParts tn_strayCourts cA_tn_strayCourts f_tn_strayCourts) sz) t) (va_A (zV244 nw nw_isKept tn nw_strayed nw_names nw_known nw_gone tn tn_hours tn_courts tn_gateCount tn_people tn_lines tn_falseHours tn_strayers tn_deep tn_above tn_doors tn_degrees tn_neighbours tn_shows tn_oneEnd tn_otherEnd tn_told tn_strayParts tn_strayCourts tn_shows cA_tn_shows f_tn_shows tn_told cA_tn_told f_tn_told tn_strayParts cA_tn_strayParts f_tn_strayParts tn_strayCourts cA_tn_strayCourts f_tn_strayCourts) sz)) 0 0 (va_A (zV244 nw nw_isKept tn nw_strayed nw_names nw_known nw_gone tn tn_hours tn_courts tn_gateCount tn_people tn_lines tn_falseHours tn_strayers tn_deep tn_above tn_doors tn_degrees tn_neighbours tn_shows tn_oneEnd tn_otherEnd tn_told tn_strayParts tn_strayCourts tn_shows cA_tn_shows f_tn_shows tn_told cA_tn_told f_tn_told tn_strayParts cA_tn_strayParts f_tn_strayParts tn_strayCourts cA_tn_strayCourts f_tn_strayCourts) sz) := by
  refine z_enter (by decide) (by exact (Nat.le_of_ble_eq_true rfl)) ?_
  intro p e s m args below meth c ls A R Qc hargs hsz hQe hAe hRe hx hb hml hr hts hown hlocks hin hl hP hK hD hN hXs hA hS
  rw [hAe] at hQe
  have hown : s.vm.findClass RX3 = some m.cls := hown
  have hl : lv_has ls 6 [(0, .ref nw), (1, .int p1), (2, .int p2), (3, .int p3)] := hl
  obtain ⟨RR, hRR⟩ : ∃ z : Int32, z = (F_X3_thought p1 p2 p3 nw_known nw_gone tn_strayers f_tn_shows f_tn_told f_tn_strayParts f_tn_strayCourts) := ⟨_, rfl⟩
  have hF : RR = (F_X3_thought p1 p2 p3 nw_known nw_gone tn_strayers f_tn_shows f_tn_told f_tn_strayParts f_tn_strayCourts) := hRR
  refine lv_aload_n hx hb dX3_thought_0 rfl (lv_at hl 0 rfl) ?_
  obtain ⟨hPc, hDc, hFc⟩ := z_cut (wc := (zV9 nw nw_isKept tn nw_strayed nw_names nw_known nw_gone tn tn_hours tn_courts tn_gateCount tn_people tn_lines tn_falseHours tn_strayers tn_deep tn_above tn_doors tn_degrees tn_neighbours tn_shows tn_oneEnd tn_otherEnd tn_told tn_strayParts tn_strayCourts)) hP hD hS hA [0, 1] rfl (by decide +kernel)
  have hKc := hK.sub (tys' := []) [] rfl
  refine va_calli (va_runV (As := []) (rest := []) ⟨hx, hb, hml, hown, hts⟩ (kf_X3_unsure l sa dC dI nw nw_isKept tn nw_strayed nw_names nw_known nw_gone tn_hours tn_courts tn_gateCount tn_people tn_lines tn_falseHours tn_strayers tn_deep tn_above tn_doors tn_degrees tn_neighbours tn_shows tn_oneEnd tn_otherEnd tn_told tn_strayParts tn_strayCourts b_nw_isKept b_nw_names b_tn_hours b_tn_courts b_tn_gateCount b_tn_people b_tn_falseHours b_tn_deep s.heap.size) (cwV 0 hts (z_gV zw_t5_146 zw_t5_147 zw_t5_148 zw_t1_2 zw_t5_149) rfl rfl rfl (by decide +kernel) (by rw [← hRe]; exact ⟨(Nat.le_of_ble_eq_true rfl), (Nat.le_of_ble_eq_true rfl)⟩)) (z_preV hPc hKc hDc hN hXs hS hFc (q := (RX3, TX3, 6)) (ci := 3) (q0 := 0) rfl rfl) rfl rfl hl.1 rfl (lv_room (Nat.le_of_ble_eq_true rfl)) dX3_thought_1 (by rw [← hRe]; exact ⟨(Nat.le_of_ble_eq_true rfl), (Nat.le_of_ble_eq_true rfl)⟩)) hS (fun q _ h => hFc q h) hFc (fun r_1 u t H1 locs ht hvm hw hB hz1 hk1 hS => ?_)
  obtain ⟨hP, hD, hK⟩ := z_after3 (wn := [(tn_shows, .inl (cA_tn_shows, 10, .inl f_tn_shows)), (tn_told, .inl (cA_tn_told, 480, .inl f_tn_told)), (tn_strayParts, .inl (cA_tn_strayParts, 10, .inl f_tn_strayParts)), (tn_strayCourts, .inl (cA_tn_strayCourts, 10, .inl f_tn_strayCourts)), (nw, .inr (3, [.int nw_isKept, .ref tn, .int nw_strayed, .int nw_names, .int nw_known, .int nw_gone])), (tn, .inr (7, [.int tn_hours, .int tn_courts, .int tn_gateCount, .int tn_people, .int tn_lines, .int tn_falseHours, .int tn_strayers, .int tn_deep, .ref tn_above, .ref tn_doors, .ref tn_degrees, .ref tn_neighbours, .ref tn_shows, .ref tn_oneEnd, .ref tn_otherEnd, .ref tn_told, .ref tn_strayParts, .ref tn_strayCourts]))]) hB ht hvm hP hD hK [0, 1] [2, 3, 4, 5] rfl 6 rfl (by decide +kernel) rfl (by decide +kernel) hk1 hFc
  generalize H1 = H at hP hS ⊢
  have hK : va_K (dC, dI) vwCl [(cA_tn_shows, .int), (cA_tn_told, .int), (cA_tn_strayParts, .int), (cA_tn_strayCourts, .int)] s := hK
  have sf_r_1 := hw
  replace hF := hF.trans (zL_eq sf_r_1)
  refine lv_iload_n hx hb dX3_thought_4 rfl (lv_at hl 1 rfl) ?_
  obtain ⟨hPc, hDc, hFc⟩ := z_cut (wc := []) hP hD hS hA [] rfl (by decide +kernel)
  have hKc := hK.sub (tys' := []) [] rfl
  refine va_calli (va_runSN (As := [.int r_1, .int p1]) (rest := []) ⟨hx, hb, hml, hown, hts⟩ (kf_X9_has l sa dC dI r_1 p1 H.size) ⟨va_cnB 2 hts (z_gI zw_t3_124) rfl rfl rfl hN.2.2.2.2.2.2.1 (hts _ zw_t1_1) (by decide +kernel) (by rw [← hRe]; exact ⟨(Nat.le_of_ble_eq_true rfl), (Nat.le_of_ble_eq_true rfl)⟩), (hts _ zw_t3_123), trivial⟩ (z_preS hPc hKc hDc hN hXs hS hFc) rfl rfl hl.1 rfl (lv_room (Nat.le_of_ble_eq_true rfl)) dX3_thought_5 (by rw [← hRe]; exact ⟨(Nat.le_of_ble_eq_true rfl), (Nat.le_of_ble_eq_true rfl)⟩)) hS (fun q _ h => hFc q h) hFc (fun r_2 u t H1 locs ht hvm hw hB hz1 hk1 hS => ?_)
  obtain ⟨hP, hD, hK⟩ := z_after3 (wn := [(tn_shows, .inl (cA_tn_shows, 10, .inl f_tn_shows)), (tn_told, .inl (cA_tn_told, 480, .inl f_tn_told)), (tn_strayParts, .inl (cA_tn_strayParts, 10, .inl f_tn_strayParts)), (tn_strayCourts, .inl (cA_tn_strayCourts, 10, .inl f_tn_strayCourts)), (nw, .inr (3, [.int nw_isKept, .ref tn, .int nw_strayed, .int nw_names, .int nw_known, .int nw_gone])), (tn, .inr (7, [.int tn_hours, .int tn_courts, .int tn_gateCount, .int tn_people, .int tn_lines, .int tn_falseHours, .int tn_strayers, .int tn_deep, .ref tn_above, .ref tn_doors, .ref tn_degrees, .ref tn_neighbours, .ref tn_shows, .ref tn_oneEnd, .ref tn_otherEnd, .ref tn_told, .ref tn_strayParts, .ref tn_strayCourts]))]) hB ht hvm hP hD hK [] [0, 1, 2, 3, 4, 5] rfl 6 rfl (by decide +kernel) rfl (by decide +kernel) hk1 hFc
  generalize H1 = H at hP hS ⊢
  have hK : va_K (dC, dI) vwCl [(cA_tn_shows, .int), (cA_tn_told, .int), (cA_tn_strayParts, .int), (cA_tn_strayCourts, .int)] s := hK
  have b_r_2 : 0 ≤ r_2.toInt ∧ r_2.toInt ≤ 1 := hw.1
  have s_r_2 := hw.2.1
  have sf_r_2 := hw.2.2
  replace hF := hF.trans (zL_eq sf_r_2)
  refine lv_if_ne (tgt := 38) hx hb dX3_thought_8 (by decide) (fun c_3 => ?_) (fun c_3 => ?_)
  · have ic_3 := zz_ne rfl (show Int32.toInt 0 = 0 from by decide) c_3
    replace hF := hF.trans (if_neg c_3)
    refine lv_aload_n hx hb dX3_thought_38 rfl (lv_at hl 0 rfl) ?_
    refine va_get (D := (dC, dI)) (ci := 3) (v := .ref tn) (C := RX3) (T := TX3) (N := 6) hx hb hts zl_X3 hown hK hP 4 rfl rfl 1 (by decide) (hts _ zw_t1_153) (fun _ h9 => h9) rfl dX3_thought_39 ?_
    refine va_get (D := (dC, dI)) (ci := 7) (v := .ref tn_strayParts) (C := RX7) (T := TX7) (N := 18) hx hb hts zl_X7 hown hK hP 5 rfl rfl 16 (by decide) (hts _ zw_t1_108) (fun _ h9 => h9) rfl dX3_thought_42 ?_
    refine lv_iload_n hx hb dX3_thought_45 rfl (lv_at hl 1 rfl) ?_
    refine va_iald hx hb hK hP 2 2 rfl rfl (zi_in rfl (by first | exact z_rin b_p1 (by decide) | omega)) dX3_thought_46 ?_
    refine lv_topi (fun x_4 ex_4 => ?_)
    replace hF := hF.trans (zL_eq ex_4)
    have b_x_4 : 0 ≤ x_4.toInt ∧ x_4.toInt ≤ 99 := by rw [ex_4]; exact b_f_tn_strayParts _
    refine lv_istore (lv' := [(4, .int x_4), (0, .ref nw), (1, .int p1), (2, .int p2), (3, .int p3)]) hx hb dX3_thought_47 hl (by decide) rfl (fun ls hl => ?_)
    refine lv_aload_n hx hb dX3_thought_49 rfl (lv_at hl 1 rfl) ?_
    refine va_get (D := (dC, dI)) (ci := 3) (v := .ref tn) (C := RX3) (T := TX3) (N := 6) hx hb hts zl_X3 hown hK hP 4 rfl rfl 1 (by decide) (hts _ zw_t1_153) (fun _ h9 => h9) rfl dX3_thought_50 ?_
    refine lv_iload_n hx hb dX3_thought_53 rfl (lv_at hl 2 rfl) ?_
    refine lv_iload_n hx hb dX3_thought_54 rfl (lv_at hl 4 rfl) ?_
    refine lv_iconst (v := 0) hx hb dX3_thought_55 (by decide) ?_
    obtain ⟨hPc, hDc, hFc⟩ := z_cut (wc := (zV3 tn tn_hours tn_courts tn_gateCount tn_people tn_lines tn_falseHours tn_strayers tn_deep tn_above tn_doors tn_degrees tn_neighbours tn_shows tn_oneEnd tn_otherEnd tn_told tn_strayParts tn_strayCourts tn_shows cA_tn_shows f_tn_shows tn_told cA_tn_told f_tn_told tn_strayCourts cA_tn_strayCourts f_tn_strayCourts)) hP hD hS hA [5, 0, 1, 3] rfl (by decide +kernel)
    have hKc := hK.sub (tys' := [(cA_tn_shows, .int), (cA_tn_told, .int), (cA_tn_strayCourts, .int)]) [0, 1, 3] rfl
    refine va_calli (va_runV (As := [.int p1, .int p3, .int 0]) (rest := []) ⟨hx, hb, hml, hown, hts⟩ (kf_X7_showsOf l sa dC dI tn p1 p3 (0) tn_hours tn_courts tn_gateCount tn_people tn_lines tn_falseHours tn_strayers tn_deep tn_above tn_doors tn_degrees tn_neighbours tn_shows tn_oneEnd tn_otherEnd tn_told tn_strayParts tn_strayCourts cA_tn_shows f_tn_shows cA_tn_told f_tn_told cA_tn_strayCourts f_tn_strayCourts b_p1 b_p3 b_tn_hours b_tn_courts b_tn_gateCount b_tn_people b_tn_falseHours b_tn_deep b_f_tn_told b_f_tn_strayCourts H.size) (cwV 3 hts (z_gV zw_t5_151 zw_t3_206 zw_t3_207 zw_t1_3 zw_t3_208) rfl rfl rfl (by decide +kernel) (by rw [← hRe]; exact ⟨(Nat.le_of_ble_eq_true rfl), (Nat.le_of_ble_eq_true rfl)⟩)) (z_preV hPc hKc hDc hN hXs hS hFc (q := (RX7, TX7, 18)) (ci := 7) (q0 := 0) rfl rfl) rfl rfl hl.1 rfl (lv_room (Nat.le_of_ble_eq_true rfl)) dX3_thought_56 (by rw [← hRe]; exact ⟨(Nat.le_of_ble_eq_true rfl), (Nat.le_of_ble_eq_true rfl)⟩)) hS (fun q _ h => hFc q h) hFc (fun r_5 u t H1 locs ht hvm hw hB hz1 hk1 hS => ?_)
    obtain ⟨hP, hD, hK⟩ := z_after3 (wn := (zV245 tn_strayParts cA_tn_strayParts f_tn_strayParts nw nw_isKept tn nw_strayed nw_names nw_known nw_gone tn tn_hours tn_courts tn_gateCount tn_people tn_lines tn_falseHours tn_strayers tn_deep tn_above tn_doors tn_degrees tn_neighbours tn_shows tn_oneEnd tn_otherEnd tn_told tn_strayParts tn_strayCourts tn_shows cA_tn_shows f_tn_shows tn_told cA_tn_told f_tn_told tn_strayCourts cA_tn_strayCourts f_tn_strayCourts)) hB ht hvm hP hD hK [5, 0, 1, 3] [2, 4] rfl 6 rfl (by decide +kernel) rfl (by decide +kernel) hk1 hFc
    generalize H1 = H at hP hS ⊢
    have hK : va_K (dC, dI) vwCl [(cA_tn_shows, .int), (cA_tn_told, .int), (cA_tn_strayParts, .int), (cA_tn_strayCourts, .int)] s := hK
    have sf_r_5 := hw
    have za_0 : Int32.toInt 0 = 0 := by decide
    replace hF := hF.trans (zL_eq sf_r_5)
    refine lv_iload_n hx hb dX3_thought_59 rfl (lv_at hl 3 rfl) ?_
    obtain ⟨hPc, hDc, hFc⟩ := z_cut (wc := []) hP hD hS hA [] rfl (by decide +kernel)
    have hKc := hK.sub (tys' := []) [] rfl
    refine va_calli (va_runSN (As := [.int r_5, .int p2]) (rest := []) ⟨hx, hb, hml, hown, hts⟩ (kf_X9_has l sa dC dI r_5 p2 H.size) ⟨va_cnB 2 hts (z_gI zw_t3_124) rfl rfl rfl hN.2.2.2.2.2.2.1 (hts _ zw_t1_1) (by decide +kernel) (by rw [← hRe]; exact ⟨(Nat.le_of_ble_eq_true rfl), (Nat.le_of_ble_eq_true rfl)⟩), (hts _ zw_t3_123), trivial⟩ (z_preS hPc hKc hDc hN hXs hS hFc) rfl rfl hl.1 rfl (lv_room (Nat.le_of_ble_eq_true rfl)) dX3_thought_60 (by rw [← hRe]; exact ⟨(Nat.le_of_ble_eq_true rfl), (Nat.le_of_ble_eq_true rfl)⟩)) hS (fun q _ h => hFc q h) hFc (fun r_6 u t H1 locs ht hvm hw hB hz1 hk1 hS => ?_)
    obtain ⟨hP, hD, hK⟩ := z_after3 (wn := (zV245 tn_strayParts cA_tn_strayParts f_tn_strayParts nw nw_isKept tn nw_strayed nw_names nw_known nw_gone tn tn_hours tn_courts tn_gateCount tn_people tn_lines tn_falseHours tn_strayers tn_deep tn_above tn_doors tn_degrees tn_neighbours tn_shows tn_oneEnd tn_otherEnd tn_told tn_strayParts tn_strayCourts tn_shows cA_tn_shows f_tn_shows tn_told cA_tn_told f_tn_told tn_strayCourts cA_tn_strayCourts f_tn_strayCourts)) hB ht hvm hP hD hK [] [0, 1, 2, 3, 4, 5] rfl 6 rfl (by decide +kernel) rfl (by decide +kernel) hk1 hFc
    generalize H1 = H at hP hS ⊢
    have hK : va_K (dC, dI) vwCl [(cA_tn_shows, .int), (cA_tn_told, .int), (cA_tn_strayParts, .int), (cA_tn_strayCourts, .int)] s := hK
    have b_r_6 : 0 ≤ r_6.toInt ∧ r_6.toInt ≤ 1 := hw.1
    have s_r_6 := hw.2.1
    have sf_r_6 := hw.2.2
    replace hF := hF.trans (zL_eq sf_r_6)
    refine lv_if_eq (tgt := 74) hx hb dX3_thought_63 (by decide) (fun c_7 => ?_) (fun c_7 => ?_)
    · have ic_7 := zz_eq rfl (show Int32.toInt 0 = 0 from by decide) c_7
      replace hF := hF.trans (if_pos c_7)
      refine lv_iconst (v := 0) hx hb dX3_thought_74 (by decide) ?_
      refine lv_istore (lv' := [(5, .int 0), (4, .int x_4), (0, .ref nw), (1, .int p1), (2, .int p2), (3, .int p3)]) hx hb dX3_thought_75 hl (by decide) rfl (fun ls hl => ?_)
      refine lv_aload_n hx hb dX3_thought_77 rfl (lv_at hl 2 rfl) ?_
      refine va_get (D := (dC, dI)) (ci := 3) (v := .ref tn) (C := RX3) (T := TX3) (N := 6) hx hb hts zl_X3 hown hK hP 1 rfl rfl 1 (by decide) (hts _ zw_t1_153) (fun _ h9 => h9) rfl dX3_thought_78 ?_
      refine lv_iload_n hx hb dX3_thought_81 rfl (lv_at hl 3 rfl) ?_
      refine lv_iload_n hx hb dX3_thought_82 rfl (lv_at hl 5 rfl) ?_
      refine lv_iconst (v := 1) hx hb dX3_thought_83 (by decide) ?_
      refine lv_iload_n hx hb dX3_thought_84 rfl (lv_at hl 3 rfl) ?_
      refine lv_ishl hx hb dX3_thought_85 ?_
      refine lv_topi (fun x_8 ex_8 => ?_)
      replace hF := hF.trans (zL_eq ex_8)
      have b_x_8 : 1 ≤ x_8.toInt ∧ x_8.toInt ≤ 512 := by rw [ex_8]; exact zi_shl9 rfl (z_rle b_p1 (by decide))
      obtain ⟨hPc, hDc, hFc⟩ := z_cut (wc := (zV3 tn tn_hours tn_courts tn_gateCount tn_people tn_lines tn_falseHours tn_strayers tn_deep tn_above tn_doors tn_degrees tn_neighbours tn_shows tn_oneEnd tn_otherEnd tn_told tn_strayParts tn_strayCourts tn_shows cA_tn_shows f_tn_shows tn_told cA_tn_told f_tn_told tn_strayCourts cA_tn_strayCourts f_tn_strayCourts)) hP hD hS hA [2, 3, 4, 5] rfl (by decide +kernel)
      have hKc := hK.sub (tys' := [(cA_tn_shows, .int), (cA_tn_told, .int), (cA_tn_strayCourts, .int)]) [0, 1, 3] rfl
      refine va_calli (va_runV (As := [.int p1, .int p3, .int x_8]) (rest := []) ⟨hx, hb, hml, hown, hts⟩ (kf_X7_showsOf l sa dC dI tn p1 p3 x_8 tn_hours tn_courts tn_gateCount tn_people tn_lines tn_falseHours tn_strayers tn_deep tn_above tn_doors tn_degrees tn_neighbours tn_shows tn_oneEnd tn_otherEnd tn_told tn_strayParts tn_strayCourts cA_tn_shows f_tn_shows cA_tn_told f_tn_told cA_tn_strayCourts f_tn_strayCourts b_p1 b_p3 b_tn_hours b_tn_courts b_tn_gateCount b_tn_people b_tn_falseHours b_tn_deep b_f_tn_told b_f_tn_strayCourts H.size) (cwV 3 hts (z_gV zw_t5_151 zw_t3_206 zw_t3_207 zw_t1_3 zw_t3_208) rfl rfl rfl (by decide +kernel) (by rw [← hRe]; exact ⟨(Nat.le_of_ble_eq_true rfl), (Nat.le_of_ble_eq_true rfl)⟩)) (z_preV hPc hKc hDc hN hXs hS hFc (q := (RX7, TX7, 18)) (ci := 7) (q0 := 0) rfl rfl) rfl rfl hl.1 rfl (lv_room (Nat.le_of_ble_eq_true rfl)) dX3_thought_86 (by rw [← hRe]; exact ⟨(Nat.le_of_ble_eq_true rfl), (Nat.le_of_ble_eq_true rfl)⟩)) hS (fun q _ h => hFc q h) hFc (fun r_9 u t H1 locs ht hvm hw hB hz1 hk1 hS => ?_)
      obtain ⟨hP, hD, hK⟩ := z_after3 (wn := (zV245 tn_strayParts cA_tn_strayParts f_tn_strayParts nw nw_isKept tn nw_strayed nw_names nw_known nw_gone tn tn_hours tn_courts tn_gateCount tn_people tn_lines tn_falseHours tn_strayers tn_deep tn_above tn_doors tn_degrees tn_neighbours tn_shows tn_oneEnd tn_otherEnd tn_told tn_strayParts tn_strayCourts tn_shows cA_tn_shows f_tn_shows tn_told cA_tn_told f_tn_told tn_strayCourts cA_tn_strayCourts f_tn_strayCourts)) hB ht hvm hP hD hK [2, 3, 4, 5] [0, 1] rfl 6 rfl (by decide +kernel) rfl (by decide +kernel) hk1 hFc
      generalize H1 = H at hP hS ⊢
      have hK : va_K (dC, dI) vwCl [(cA_tn_shows, .int), (cA_tn_told, .int), (cA_tn_strayParts, .int), (cA_tn_strayCourts, .int)] s := hK
      have sf_r_9 := hw
      replace hF := hF.trans (zL_eq sf_r_9)
      refine lv_iload_n hx hb dX3_thought_89 rfl (lv_at hl 4 rfl) ?_
      obtain ⟨hPc, hDc, hFc⟩ := z_cut (wc := []) hP hD hS hA [] rfl (by decide +kernel)
      have hKc := hK.sub (tys' := []) [] rfl
      refine va_calli (va_runSN (As := [.int r_9, .int p2]) (rest := []) ⟨hx, hb, hml, hown, hts⟩ (kf_X9_has l sa dC dI r_9 p2 H.size) ⟨va_cnB 2 hts (z_gI zw_t3_124) rfl rfl rfl hN.2.2.2.2.2.2.1 (hts _ zw_t1_1) (by decide +kernel) (by rw [← hRe]; exact ⟨(Nat.le_of_ble_eq_true rfl), (Nat.le_of_ble_eq_true rfl)⟩), (hts _ zw_t3_123), trivial⟩ (z_preS hPc hKc hDc hN hXs hS hFc) rfl rfl hl.1 rfl (lv_room (Nat.le_of_ble_eq_true rfl)) dX3_thought_90 (by rw [← hRe]; exact ⟨(Nat.le_of_ble_eq_true rfl), (Nat.le_of_ble_eq_true rfl)⟩)) hS (fun q _ h => hFc q h) hFc (fun r_10 u t H1 locs ht hvm hw hB hz1 hk1 hS => ?_)
      obtain ⟨hP, hD, hK⟩ := z_after3 (wn := (zV245 tn_strayParts cA_tn_strayParts f_tn_strayParts nw nw_isKept tn nw_strayed nw_names nw_known nw_gone tn tn_hours tn_courts tn_gateCount tn_people tn_lines tn_falseHours tn_strayers tn_deep tn_above tn_doors tn_degrees tn_neighbours tn_shows tn_oneEnd tn_otherEnd tn_told tn_strayParts tn_strayCourts tn_shows cA_tn_shows f_tn_shows tn_told cA_tn_told f_tn_told tn_strayCourts cA_tn_strayCourts f_tn_strayCourts)) hB ht hvm hP hD hK [] [0, 1, 2, 3, 4, 5] rfl 6 rfl (by decide +kernel) rfl (by decide +kernel) hk1 hFc
      generalize H1 = H at hP hS ⊢
      have hK : va_K (dC, dI) vwCl [(cA_tn_shows, .int), (cA_tn_told, .int), (cA_tn_strayParts, .int), (cA_tn_strayCourts, .int)] s := hK
      have b_r_10 : 0 ≤ r_10.toInt ∧ r_10.toInt ≤ 1 := hw.1
      have s_r_10 := hw.2.1
      have sf_r_10 := hw.2.2
      replace hF := hF.trans (zL_eq sf_r_10)
      refine lv_if_eq (tgt := 104) hx hb dX3_thought_93 (by decide) (fun c_11 => ?_) (fun c_11 => ?_)
      · have ic_11 := zz_eq rfl (show Int32.toInt 0 = 0 from by decide) c_11
        replace hF := hF.trans (if_pos c_11)
        refine lv_iload hx hb dX3_thought_104 (lv_at hl 0 rfl) ?_
        have hF : RR = (0 : Int32) := hF
        have zc : Int32.toInt 0 = 0 := by decide
        exact W.iret (v := 0) hx hb hr (fun t ht hW => by rw [← hQe]; exact ⟨⟨0, (), rfl, ⟨by decide, (by rw [← hRR, hF])⟩, z_ret hP hK hD ht hW [1, 2, 3, 4, 0, 5] [] rfl (by decide) rfl⟩, hS.F ht⟩) hS.2.2 dX3_thought_106
      · have ic_11 := zz_neq rfl (show Int32.toInt 0 = 0 from by decide) c_11
        replace hF := hF.trans (if_neg c_11)
        refine lv_iload hx hb dX3_thought_96 (lv_at hl 0 rfl) ?_
        refine lv_iload hx hb dX3_thought_98 (lv_at hl 1 rfl) ?_
        refine lv_iadd hx hb dX3_thought_100 ?_
        refine lv_topi (fun x_12 ex_12 => ?_)
        replace hF := hF.trans (zL_eq ex_12)
        have b_x_12 : x_12.toInt = 0 + x_4.toInt := by rw [ex_12]; exact zi_add (show Int32.toInt 0 = 0 from by decide) rfl (by first | with_reducible assumption | omega)
        refine lv_goto (tgt := 106) hx hb dX3_thought_101 (by decide) ?_
        have hF : RR = x_12 := hF
        exact W.iret (v := x_12) hx hb hr (fun t ht hW => by rw [← hQe]; exact ⟨⟨x_12, (), rfl, ⟨by omega, (by rw [← hRR, hF])⟩, z_ret hP hK hD ht hW [1, 2, 3, 4, 0, 5] [] rfl (by decide) rfl⟩, hS.F ht⟩) hS.2.2 dX3_thought_106
    · have ic_7 := zz_neq rfl (show Int32.toInt 0 = 0 from by decide) c_7
      replace hF := hF.trans (if_neg c_7)
      refine lv_bipush (v := 100) hx hb dX3_thought_66 (by decide) ?_
      refine lv_iload hx hb dX3_thought_68 (lv_at hl 0 rfl) ?_
      refine lv_isub hx hb dX3_thought_70 ?_
      refine lv_topi (fun x_13 ex_13 => ?_)
      replace hF := hF.trans (zL_eq ex_13)
      have b_x_13 : x_13.toInt = 100 - x_4.toInt := by rw [ex_13]; exact zi_sub (show Int32.toInt 100 = 100 from by decide) rfl (by first | with_reducible assumption | omega)
      refine lv_goto (tgt := 75) hx hb dX3_thought_71 (by decide) ?_
      refine lv_istore (lv' := [(5, .int x_13), (4, .int x_4), (0, .ref nw), (1, .int p1), (2, .int p2), (3, .int p3)]) hx hb dX3_thought_75 hl (by decide) rfl (fun ls hl => ?_)
      refine lv_aload_n hx hb dX3_thought_77 rfl (lv_at hl 2 rfl) ?_
      refine va_get (D := (dC, dI)) (ci := 3) (v := .ref tn) (C := RX3) (T := TX3) (N := 6) hx hb hts zl_X3 hown hK hP 1 rfl rfl 1 (by decide) (hts _ zw_t1_153) (fun _ h9 => h9) rfl dX3_thought_78 ?_
      refine lv_iload_n hx hb dX3_thought_81 rfl (lv_at hl 3 rfl) ?_
      refine lv_iload_n hx hb dX3_thought_82 rfl (lv_at hl 5 rfl) ?_
      refine lv_iconst (v := 1) hx hb dX3_thought_83 (by decide) ?_
      refine lv_iload_n hx hb dX3_thought_84 rfl (lv_at hl 3 rfl) ?_
      refine lv_ishl hx hb dX3_thought_85 ?_
      refine lv_topi (fun x_14 ex_14 => ?_)
      replace hF := hF.trans (zL_eq ex_14)
      have b_x_14 : 1 ≤ x_14.toInt ∧ x_14.toInt ≤ 512 := by rw [ex_14]; exact zi_shl9 rfl (z_rle b_p1 (by decide))
      obtain ⟨hPc, hDc, hFc⟩ := z_cut (wc := (zV3 tn tn_hours tn_courts tn_gateCount tn_people tn_lines tn_falseHours tn_strayers tn_deep tn_above tn_doors tn_degrees tn_neighbours tn_shows tn_oneEnd tn_otherEnd tn_told tn_strayParts tn_strayCourts tn_shows cA_tn_shows f_tn_shows tn_told cA_tn_told f_tn_told tn_strayCourts cA_tn_strayCourts f_tn_strayCourts)) hP hD hS hA [2, 3, 4, 5] rfl (by decide +kernel)
      have hKc := hK.sub (tys' := [(cA_tn_shows, .int), (cA_tn_told, .int), (cA_tn_strayCourts, .int)]) [0, 1, 3] rfl
      refine va_calli (va_runV (As := [.int p1, .int p3, .int x_14]) (rest := []) ⟨hx, hb, hml, hown, hts⟩ (kf_X7_showsOf l sa dC dI tn p1 p3 x_14 tn_hours tn_courts tn_gateCount tn_people tn_lines tn_falseHours tn_strayers tn_deep tn_above tn_doors tn_degrees tn_neighbours tn_shows tn_oneEnd tn_otherEnd tn_told tn_strayParts tn_strayCourts cA_tn_shows f_tn_shows cA_tn_told f_tn_told cA_tn_strayCourts f_tn_strayCourts b_p1 b_p3 b_tn_hours b_tn_courts b_tn_gateCount b_tn_people b_tn_falseHours b_tn_deep b_f_tn_told b_f_tn_strayCourts H.size) (cwV 3 hts (z_gV zw_t5_151 zw_t3_206 zw_t3_207 zw_t1_3 zw_t3_208) rfl rfl rfl (by decide +kernel) (by rw [← hRe]; exact ⟨(Nat.le_of_ble_eq_true rfl), (Nat.le_of_ble_eq_true rfl)⟩)) (z_preV hPc hKc hDc hN hXs hS hFc (q := (RX7, TX7, 18)) (ci := 7) (q0 := 0) rfl rfl) rfl rfl hl.1 rfl (lv_room (Nat.le_of_ble_eq_true rfl)) dX3_thought_86 (by rw [← hRe]; exact ⟨(Nat.le_of_ble_eq_true rfl), (Nat.le_of_ble_eq_true rfl)⟩)) hS (fun q _ h => hFc q h) hFc (fun r_15 u t H1 locs ht hvm hw hB hz1 hk1 hS => ?_)
      obtain ⟨hP, hD, hK⟩ := z_after3 (wn := (zV245 tn_strayParts cA_tn_strayParts f_tn_strayParts nw nw_isKept tn nw_strayed nw_names nw_known nw_gone tn tn_hours tn_courts tn_gateCount tn_people tn_lines tn_falseHours tn_strayers tn_deep tn_above tn_doors tn_degrees tn_neighbours tn_shows tn_oneEnd tn_otherEnd tn_told tn_strayParts tn_strayCourts tn_shows cA_tn_shows f_tn_shows tn_told cA_tn_told f_tn_told tn_strayCourts cA_tn_strayCourts f_tn_strayCourts)) hB ht hvm hP hD hK [2, 3, 4, 5] [0, 1] rfl 6 rfl (by decide +kernel) rfl (by decide +kernel) hk1 hFc
      generalize H1 = H at hP hS ⊢
      have hK : va_K (dC, dI) vwCl [(cA_tn_shows, .int), (cA_tn_told, .int), (cA_tn_strayParts, .int), (cA_tn_strayCourts, .int)] s := hK
      have sf_r_15 := hw
      replace hF := hF.trans (zL_eq sf_r_15)
      refine lv_iload_n hx hb dX3_thought_89 rfl (lv_at hl 4 rfl) ?_
      obtain ⟨hPc, hDc, hFc⟩ := z_cut (wc := []) hP hD hS hA [] rfl (by decide +kernel)
      have hKc := hK.sub (tys' := []) [] rfl
      refine va_calli (va_runSN (As := [.int r_15, .int p2]) (rest := []) ⟨hx, hb, hml, hown, hts⟩ (kf_X9_has l sa dC dI r_15 p2 H.size) ⟨va_cnB 2 hts (z_gI zw_t3_124) rfl rfl rfl hN.2.2.2.2.2.2.1 (hts _ zw_t1_1) (by decide +kernel) (by rw [← hRe]; exact ⟨(Nat.le_of_ble_eq_true rfl), (Nat.le_of_ble_eq_true rfl)⟩), (hts _ zw_t3_123), trivial⟩ (z_preS hPc hKc hDc hN hXs hS hFc) rfl rfl hl.1 rfl (lv_room (Nat.le_of_ble_eq_true rfl)) dX3_thought_90 (by rw [← hRe]; exact ⟨(Nat.le_of_ble_eq_true rfl), (Nat.le_of_ble_eq_true rfl)⟩)) hS (fun q _ h => hFc q h) hFc (fun r_16 u t H1 locs ht hvm hw hB hz1 hk1 hS => ?_)
      obtain ⟨hP, hD, hK⟩ := z_after3 (wn := (zV245 tn_strayParts cA_tn_strayParts f_tn_strayParts nw nw_isKept tn nw_strayed nw_names nw_known nw_gone tn tn_hours tn_courts tn_gateCount tn_people tn_lines tn_falseHours tn_strayers tn_deep tn_above tn_doors tn_degrees tn_neighbours tn_shows tn_oneEnd tn_otherEnd tn_told tn_strayParts tn_strayCourts tn_shows cA_tn_shows f_tn_shows tn_told cA_tn_told f_tn_told tn_strayCourts cA_tn_strayCourts f_tn_strayCourts)) hB ht hvm hP hD hK [] [0, 1, 2, 3, 4, 5] rfl 6 rfl (by decide +kernel) rfl (by decide +kernel) hk1 hFc
      generalize H1 = H at hP hS ⊢
      have hK : va_K (dC, dI) vwCl [(cA_tn_shows, .int), (cA_tn_told, .int), (cA_tn_strayParts, .int), (cA_tn_strayCourts, .int)] s := hK
      have b_r_16 : 0 ≤ r_16.toInt ∧ r_16.toInt ≤ 1 := hw.1
      have s_r_16 := hw.2.1
      have sf_r_16 := hw.2.2
      replace hF := hF.trans (zL_eq sf_r_16)
      refine lv_if_eq (tgt := 104) hx hb dX3_thought_93 (by decide) (fun c_17 => ?_) (fun c_17 => ?_)
      · have ic_17 := zz_eq rfl (show Int32.toInt 0 = 0 from by decide) c_17
        replace hF := hF.trans (if_pos c_17)
        refine lv_iload hx hb dX3_thought_104 (lv_at hl 0 rfl) ?_
        have hF : RR = x_13 := hF
        exact W.iret (v := x_13) hx hb hr (fun t ht hW => by rw [← hQe]; exact ⟨⟨x_13, (), rfl, ⟨by omega, (by rw [← hRR, hF])⟩, z_ret hP hK hD ht hW [1, 2, 3, 4, 0, 5] [] rfl (by decide) rfl⟩, hS.F ht⟩) hS.2.2 dX3_thought_106
      · have ic_17 := zz_neq rfl (show Int32.toInt 0 = 0 from by decide) c_17
        replace hF := hF.trans (if_neg c_17)
        refine lv_iload hx hb dX3_thought_96 (lv_at hl 0 rfl) ?_
        refine lv_iload hx hb dX3_thought_98 (lv_at hl 1 rfl) ?_
        refine lv_iadd hx hb dX3_thought_100 ?_
        refine lv_topi (fun x_18 ex_18 => ?_)
        replace hF := hF.trans (zL_eq ex_18)
        have b_x_18 : x_18.toInt = x_13.toInt + x_4.toInt := by rw [ex_18]; exact zi_add rfl rfl (by first | with_reducible assumption | omega)
        refine lv_goto (tgt := 106) hx hb dX3_thought_101 (by decide) ?_
        have hF : RR = x_18 := hF
        exact W.iret (v := x_18) hx hb hr (fun t ht hW => by rw [← hQe]; exact ⟨⟨x_18, (), rfl, ⟨by omega, (by rw [← hRR, hF])⟩, z_ret hP hK hD ht hW [1, 2, 3, 4, 0, 5] [] rfl (by decide) rfl⟩, hS.F ht⟩) hS.2.2 dX3_thought_106
  · have ic_3 := zz_nne rfl (show Int32.toInt 0 = 0 from by decide) c_3
    replace hF := hF.trans (if_pos c_3)
    refine lv_aload_n hx hb dX3_thought_11 rfl (lv_at hl 0 rfl) ?_
    refine va_get (D := (dC, dI)) (ci := 3) (v := .ref tn) (C := RX3) (T := TX3) (N := 6) hx hb hts zl_X3 hown hK hP 4 rfl rfl 1 (by decide) (hts _ zw_t1_153) (fun _ h9 => h9) rfl dX3_thought_12 ?_
    refine lv_iload_n hx hb dX3_thought_15 rfl (lv_at hl 1 rfl) ?_
    refine lv_iload_n hx hb dX3_thought_16 rfl (lv_at hl 3 rfl) ?_
    refine lv_aload_n hx hb dX3_thought_17 rfl (lv_at hl 0 rfl) ?_
    refine va_get (D := (dC, dI)) (ci := 3) (v := .int nw_gone) (C := RX3) (T := TX3) (N := 6) hx hb hts zl_X3 hown hK hP 4 rfl rfl 5 (by decide) (hts _ zw_t1_166) (fun _ h9 => h9) rfl dX3_thought_18 ?_
    obtain ⟨hPc, hDc, hFc⟩ := z_cut (wc := (zV3 tn tn_hours tn_courts tn_gateCount tn_people tn_lines tn_falseHours tn_strayers tn_deep tn_above tn_doors tn_degrees tn_neighbours tn_shows tn_oneEnd tn_otherEnd tn_told tn_strayParts tn_strayCourts tn_shows cA_tn_shows f_tn_shows tn_told cA_tn_told f_tn_told tn_strayCourts cA_tn_strayCourts f_tn_strayCourts)) hP hD hS hA [5, 0, 1, 3] rfl (by decide +kernel)
    have hKc := hK.sub (tys' := [(cA_tn_shows, .int), (cA_tn_told, .int), (cA_tn_strayCourts, .int)]) [0, 1, 3] rfl
    refine va_calli (va_runV (As := [.int p1, .int p3, .int nw_gone]) (rest := []) ⟨hx, hb, hml, hown, hts⟩ (kf_X7_showsOf l sa dC dI tn p1 p3 nw_gone tn_hours tn_courts tn_gateCount tn_people tn_lines tn_falseHours tn_strayers tn_deep tn_above tn_doors tn_degrees tn_neighbours tn_shows tn_oneEnd tn_otherEnd tn_told tn_strayParts tn_strayCourts cA_tn_shows f_tn_shows cA_tn_told f_tn_told cA_tn_strayCourts f_tn_strayCourts b_p1 b_p3 b_tn_hours b_tn_courts b_tn_gateCount b_tn_people b_tn_falseHours b_tn_deep b_f_tn_told b_f_tn_strayCourts H.size) (cwV 3 hts (z_gV zw_t5_151 zw_t3_206 zw_t3_207 zw_t1_3 zw_t3_208) rfl rfl rfl (by decide +kernel) (by rw [← hRe]; exact ⟨(Nat.le_of_ble_eq_true rfl), (Nat.le_of_ble_eq_true rfl)⟩)) (z_preV hPc hKc hDc hN hXs hS hFc (q := (RX7, TX7, 18)) (ci := 7) (q0 := 0) rfl rfl) rfl rfl hl.1 rfl (lv_room (Nat.le_of_ble_eq_true rfl)) dX3_thought_21 (by rw [← hRe]; exact ⟨(Nat.le_of_ble_eq_true rfl), (Nat.le_of_ble_eq_true rfl)⟩)) hS (fun q _ h => hFc q h) hFc (fun r_19 u t H1 locs ht hvm hw hB hz1 hk1 hS => ?_)
    obtain ⟨hP, hD, hK⟩ := z_after3 (wn := (zV245 tn_strayParts cA_tn_strayParts f_tn_strayParts nw nw_isKept tn nw_strayed nw_names nw_known nw_gone tn tn_hours tn_courts tn_gateCount tn_people tn_lines tn_falseHours tn_strayers tn_deep tn_above tn_doors tn_degrees tn_neighbours tn_shows tn_oneEnd tn_otherEnd tn_told tn_strayParts tn_strayCourts tn_shows cA_tn_shows f_tn_shows tn_told cA_tn_told f_tn_told tn_strayCourts cA_tn_strayCourts f_tn_strayCourts)) hB ht hvm hP hD hK [5, 0, 1, 3] [2, 4] rfl 6 rfl (by decide +kernel) rfl (by decide +kernel) hk1 hFc
    generalize H1 = H at hP hS ⊢
    have hK : va_K (dC, dI) vwCl [(cA_tn_shows, .int), (cA_tn_told, .int), (cA_tn_strayParts, .int), (cA_tn_strayCourts, .int)] s := hK
    have sf_r_19 := hw
    replace hF := hF.trans (zL_eq sf_r_19)
    refine lv_iload_n hx hb dX3_thought_24 rfl (lv_at hl 2 rfl) ?_
    obtain ⟨hPc, hDc, hFc⟩ := z_cut (wc := []) hP hD hS hA [] rfl (by decide +kernel)
    have hKc := hK.sub (tys' := []) [] rfl
    refine va_calli (va_runSN (As := [.int r_19, .int p2]) (rest := []) ⟨hx, hb, hml, hown, hts⟩ (kf_X9_has l sa dC dI r_19 p2 H.size) ⟨va_cnB 2 hts (z_gI zw_t3_124) rfl rfl rfl hN.2.2.2.2.2.2.1 (hts _ zw_t1_1) (by decide +kernel) (by rw [← hRe]; exact ⟨(Nat.le_of_ble_eq_true rfl), (Nat.le_of_ble_eq_true rfl)⟩), (hts _ zw_t3_123), trivial⟩ (z_preS hPc hKc hDc hN hXs hS hFc) rfl rfl hl.1 rfl (lv_room (Nat.le_of_ble_eq_true rfl)) dX3_thought_25 (by rw [← hRe]; exact ⟨(Nat.le_of_ble_eq_true rfl), (Nat.le_of_ble_eq_true rfl)⟩)) hS (fun q _ h => hFc q h) hFc (fun r_20 u t H1 locs ht hvm hw hB hz1 hk1 hS => ?_)
    obtain ⟨hP, hD, hK⟩ := z_after3 (wn := (zV245 tn_strayParts cA_tn_strayParts f_tn_strayParts nw nw_isKept tn nw_strayed nw_names nw_known nw_gone tn tn_hours tn_courts tn_gateCount tn_people tn_lines tn_falseHours tn_strayers tn_deep tn_above tn_doors tn_degrees tn_neighbours tn_shows tn_oneEnd tn_otherEnd tn_told tn_strayParts tn_strayCourts tn_shows cA_tn_shows f_tn_shows tn_told cA_tn_told f_tn_told tn_strayCourts cA_tn_strayCourts f_tn_strayCourts)) hB ht hvm hP hD hK [] [0, 1, 2, 3, 4, 5] rfl 6 rfl (by decide +kernel) rfl (by decide +kernel) hk1 hFc
    generalize H1 = H at hP hS ⊢
    have hK : va_K (dC, dI) vwCl [(cA_tn_shows, .int), (cA_tn_told, .int), (cA_tn_strayParts, .int), (cA_tn_strayCourts, .int)] s := hK
    have b_r_20 : 0 ≤ r_20.toInt ∧ r_20.toInt ≤ 1 := hw.1
    have s_r_20 := hw.2.1
    have sf_r_20 := hw.2.2
    replace hF := hF.trans (zL_eq sf_r_20)
    refine lv_if_eq (tgt := 36) hx hb dX3_thought_28 (by decide) (fun c_21 => ?_) (fun c_21 => ?_)
    · have ic_21 := zz_eq rfl (show Int32.toInt 0 = 0 from by decide) c_21
      replace hF := hF.trans (if_pos c_21)
      refine lv_iconst (v := 0) hx hb dX3_thought_36 (by decide) ?_
      have hF : RR = (0 : Int32) := hF
      have zc : Int32.toInt 0 = 0 := by decide
      exact W.iret (v := 0) hx hb hr (fun t ht hW => by rw [← hQe]; exact ⟨⟨0, (), rfl, ⟨by decide, (by rw [← hRR, hF])⟩, z_ret hP hK hD ht hW [1, 2, 3, 4, 0, 5] [] rfl (by decide) rfl⟩, hS.F ht⟩) hS.2.2 dX3_thought_37
    · have ic_21 := zz_neq rfl (show Int32.toInt 0 = 0 from by decide) c_21
      replace hF := hF.trans (if_neg c_21)
      refine lv_bipush (v := 100) hx hb dX3_thought_31 (by decide) ?_
      refine lv_goto (tgt := 37) hx hb dX3_thought_33 (by decide) ?_
      have hF : RR = (100 : Int32) := hF
      have zc : Int32.toInt 100 = 100 := by decide
      exact W.iret (v := 100) hx hb hr (fun t ht hW => by rw [← hQe]; exact ⟨⟨100, (), rfl, ⟨by decide, (by rw [← hRR, hF])⟩, z_ret hP hK hD ht hW [1, 2, 3, 4, 0, 5] [] rfl (by decide) rfl⟩, hS.F ht⟩) hS.2.2 dX3_thought_37
set_option maxHeartbeats 4000000 in
set_option maxRecDepth 100000 in
theorem kf_X9_names (l : Launch) (sa : Nat → Nat) (dC : Nat → ClassId) (dI : Nat → Nat → Nat) (h0 : Nat) (p1 : Int32) (tp : Nat) (h0_tapeLength : Int32) (h0_faultKind : Int32) (h0_faultPlace : Int32) (nw : Nat) (im : Nat) (sl : Nat) (rd : Nat) (wk : Nat) (fm : Nat) (mt : Nat) (ch : Nat) (dy : Nat) (nw_isKept : Int32) (tn : Nat) (nw_strayed : Int32) (nw_names : Int32) (nw_known : Int32) (nw_gone : Int32) (tn_hours : Int32) (tn_courts : Int32) (tn_gateCount : Int32) (tn_people : Int32) (tn_lines : Int32) (tn_falseHours : Int32) (tn_strayers : Int32) (tn_deep : Int32) (tn_above : Nat) (tn_doors : Nat) (tn_degrees : Nat) (tn_neighbours : Nat) (tn_shows : Nat) (tn_oneEnd : Nat) (tn_otherEnd : Nat) (tn_told : Nat) (tn_strayParts : Nat) (tn_strayCourts : Nat) (b_h0_tapeLength : 0 ≤ h0_tapeLength.toInt ∧ h0_tapeLength.toInt ≤ 1600) (b_nw_isKept : 0 ≤ nw_isKept.toInt ∧ nw_isKept.toInt ≤ 1) (b_nw_names : 0 ≤ nw_names.toInt ∧ nw_names.toInt ≤ 1023) (b_tn_hours : 0 ≤ tn_hours.toInt ∧ tn_hours.toInt ≤ 48) (b_tn_courts : 0 ≤ tn_courts.toInt ∧ tn_courts.toInt ≤ 10) (b_tn_gateCount : 0 ≤ tn_gateCount.toInt ∧ tn_gateCount.toInt ≤ 16) (b_tn_people : 0 ≤ tn_people.toInt ∧ tn_people.toInt ≤ 10) (b_tn_falseHours : 0 ≤ tn_falseHours.toInt ∧ tn_falseHours.toInt ≤ 9) (b_tn_deep : 0 ≤ tn_deep.toInt ∧ tn_deep.toInt ≤ 1) (sz : Nat) : Met l yX9_names (.code yX9_names cX9_names 3 (some .int) :: zT) ({ frames := 1, cells := 0, slots := 0, locals := 21 }) (va_Pc [.ref h0, .int p1] (zB sa dC dI (zV70 h0 tp h0_tapeLength h0_faultKind h0_faultPlace nw im sl rd wk fm mt ch dy nw nw_isKept tn nw_strayed nw_names nw_known nw_gone tn tn_hours tn_courts tn_gateCount tn_people tn_lines tn_falseHours tn_strayers tn_deep tn_above tn_doors tn_degrees tn_neighbours tn_shows tn_oneEnd tn_otherEnd tn_told tn_strayParts tn_strayCourts) [] sz)) (va_Qi (fun (r : Int32) (_ : Unit) => ((-2) ≤ r.toInt ∧ r.toInt ≤ 1023) ∧ r = (F_X9_names p1 nw_names tn_people).1) (fun _ t => ∃ (n_nw_3 : Int32), (0 ≤ n_nw_3.toInt ∧ n_nw_3.toInt ≤ 1023) ∧ (n_nw_3 = (F_X9_names p1 nw_names tn_people).2) ∧ zW dC dI (zV70 h0 tp h0_tapeLength h0_faultKind h0_faultPlace nw im sl rd wk fm mt ch dy nw nw_isKept tn nw_strayed n_nw_3 nw_known nw_gone tn tn_hours tn_courts tn_gateCount tn_people tn_lines tn_falseHours tn_strayers tn_deep tn_above tn_doors tn_degrees tn_neighbours tn_shows tn_oneEnd tn_otherEnd tn_told tn_strayParts tn_strayCourts) [] (va_A (zV70 h0 tp h0_tapeLength h0_faultKind h0_faultPlace nw im sl rd wk fm mt ch dy nw nw_isKept tn nw_strayed nw_names nw_known nw_gone tn tn_hours tn_courts tn_gateCount tn_people tn_lines tn_falseHours tn_strayers tn_deep tn_above tn_doors tn_degrees tn_neighbours tn_shows tn_oneEnd tn_otherEnd tn_told tn_strayParts tn_strayCourts) sz) t) (va_A (zV70 h0 tp h0_tapeLength h0_faultKind h0_faultPlace nw im sl rd wk fm mt ch dy nw nw_isKept tn nw_strayed nw_names nw_known nw_gone tn tn_hours tn_courts tn_gateCount tn_people tn_lines tn_falseHours tn_strayers tn_deep tn_above tn_doors tn_degrees tn_neighbours tn_shows tn_oneEnd tn_otherEnd tn_told tn_strayParts tn_strayCourts) sz)) 0 0 (va_A (zV70 h0 tp h0_tapeLength h0_faultKind h0_faultPlace nw im sl rd wk fm mt ch dy nw nw_isKept tn nw_strayed nw_names nw_known nw_gone tn tn_hours tn_courts tn_gateCount tn_people tn_lines tn_falseHours tn_strayers tn_deep tn_above tn_doors tn_degrees tn_neighbours tn_shows tn_oneEnd tn_otherEnd tn_told tn_strayParts tn_strayCourts) sz) := by
  refine z_enter (by decide) (by exact (Nat.le_of_ble_eq_true rfl)) ?_
  intro p e s m args below meth c ls A R Qc hargs hsz hQe hAe hRe hx hb hml hr hts hown hlocks hin hl hP hK hD hN hXs hA hS
  rw [hAe] at hQe
  have hown : s.vm.findClass RX9 = some m.cls := hown
  have hl : lv_has ls 3 [(0, .ref h0), (1, .int p1)] := hl
  obtain ⟨RR, hRR⟩ : ∃ z : Int32 × Int32, z = (F_X9_names p1 nw_names tn_people) := ⟨_, rfl⟩
  have hF : RR = (F_X9_names p1 nw_names tn_people) := hRR
  refine lv_aload_n hx hb dX9_names_0 rfl (lv_at hl 0 rfl) ?_
  refine va_get (D := (dC, dI)) (ci := 9) (v := .ref nw) (C := RX9) (T := TX9) (N := 13) hx hb hts zl_X9 hown hK hP 0 rfl rfl 4 (by decide) (hts _ zw_t2_193) (fun _ h9 => h9) rfl dX9_names_1 ?_
  refine va_get (D := (dC, dI)) (ci := 3) (v := .ref tn) (C := RX3) (T := TX3) (N := 6) hx hb hts zl_X3 hown hK hP 1 rfl rfl 1 (by decide) (hts _ zw_t1_156) (fun _ h9 => h9) rfl dX9_names_4 ?_
  refine lv_iload_n hx hb dX9_names_7 rfl (lv_at hl 1 rfl) ?_
  obtain ⟨hPc, hDc, hFc⟩ := z_cut (wc := (zV1 tn tn_hours tn_courts tn_gateCount tn_people tn_lines tn_falseHours tn_strayers tn_deep tn_above tn_doors tn_degrees tn_neighbours tn_shows tn_oneEnd tn_otherEnd tn_told tn_strayParts tn_strayCourts)) hP hD hS hA [2] rfl (by decide +kernel)
  have hKc := hK.sub (tys' := []) [] rfl
  refine va_calli (va_runV (As := [.int p1]) (rest := []) ⟨hx, hb, hml, hown, hts⟩ (kf_X7_hasAll l sa dC dI tn p1 tn_hours tn_courts tn_gateCount tn_people tn_lines tn_falseHours tn_strayers tn_deep tn_above tn_doors tn_degrees tn_neighbours tn_shows tn_oneEnd tn_otherEnd tn_told tn_strayParts tn_strayCourts b_tn_hours b_tn_courts b_tn_gateCount b_tn_people b_tn_falseHours b_tn_deep s.heap.size) (cwV 1 hts (z_gV zw_t3_169 zw_t3_170 zw_t3_171 zw_t1_3 zw_t3_172) rfl rfl rfl (by decide +kernel) (by rw [← hRe]; exact ⟨(Nat.le_of_ble_eq_true rfl), (Nat.le_of_ble_eq_true rfl)⟩)) (z_preV hPc hKc hDc hN hXs hS hFc (q := (RX7, TX7, 18)) (ci := 7) (q0 := 0) rfl rfl) rfl rfl hl.1 rfl (lv_room (Nat.le_of_ble_eq_true rfl)) dX9_names_8 (by rw [← hRe]; exact ⟨(Nat.le_of_ble_eq_true rfl), (Nat.le_of_ble_eq_true rfl)⟩)) hS (fun q _ h => hFc q h) hFc (fun r_1 u t H1 locs ht hvm hw hB hz1 hk1 hS => ?_)
  obtain ⟨hP, hD, hK⟩ := z_after3 (wn := (zV70 h0 tp h0_tapeLength h0_faultKind h0_faultPlace nw im sl rd wk fm mt ch dy nw nw_isKept tn nw_strayed nw_names nw_known nw_gone tn tn_hours tn_courts tn_gateCount tn_people tn_lines tn_falseHours tn_strayers tn_deep tn_above tn_doors tn_degrees tn_neighbours tn_shows tn_oneEnd tn_otherEnd tn_told tn_strayParts tn_strayCourts)) hB ht hvm hP hD hK [2] [0, 1] rfl 3 rfl (by decide +kernel) rfl (by decide +kernel) hk1 hFc
  generalize H1 = H at hP hS ⊢
  have hK : va_K (dC, dI) vwCl [] s := hK
  have b_r_1 : 0 ≤ r_1.toInt ∧ r_1.toInt ≤ 1 := hw.1
  have s_r_1 := hw.2.1
  have sf_r_1 := hw.2.2
  replace hF := hF.trans (zL_eq sf_r_1)
  refine lv_if_ne (tgt := 17) hx hb dX9_names_11 (by decide) (fun c_2 => ?_) (fun c_2 => ?_)
  · have ic_2 := zz_ne rfl (show Int32.toInt 0 = 0 from by decide) c_2
    replace hF := hF.trans (if_neg c_2)
    refine lv_aload_n hx hb dX9_names_17 rfl (lv_at hl 0 rfl) ?_
    refine va_get (D := (dC, dI)) (ci := 9) (v := .ref nw) (C := RX9) (T := TX9) (N := 13) hx hb hts zl_X9 hown hK hP 0 rfl rfl 4 (by decide) (hts _ zw_t2_193) (fun _ h9 => h9) rfl dX9_names_18 ?_
    refine va_get (D := (dC, dI)) (ci := 3) (v := .int nw_names) (C := RX3) (T := TX3) (N := 6) hx hb hts zl_X3 hown hK hP 1 rfl rfl 3 (by decide) (hts _ zw_t1_163) (fun _ h9 => h9) rfl dX9_names_21 ?_
    refine lv_istore_n (lv' := [(2, .int nw_names), (0, .ref h0), (1, .int p1)]) hx hb dX9_names_24 rfl hl (by decide) rfl (fun ls hl => ?_)
    refine lv_aload_n hx hb dX9_names_25 rfl (lv_at hl 1 rfl) ?_
    refine va_get (D := (dC, dI)) (ci := 9) (v := .ref nw) (C := RX9) (T := TX9) (N := 13) hx hb hts zl_X9 hown hK hP 0 rfl rfl 4 (by decide) (hts _ zw_t2_193) (fun _ h9 => h9) rfl dX9_names_26 ?_
    refine lv_iload_n hx hb dX9_names_29 rfl (lv_at hl 2 rfl) ?_
    refine va_put (D := (dC, dI)) (ci := 3) (v := .int p1) (ty := .int) (C := RX3) (T := TX3) (N := 6) hx hb hts zl_X3 tyX3 tyX3_ok nmX3 hown hK hP hD hS 1 rfl rfl 3 (by decide) (hts _ zw_t1_163) (fun _ h9 => h9) rfl (by decide +kernel) rfl rfl (Nat.le_of_ble_eq_true rfl) dX9_names_30 (fun H locs hP hD hS => ?_)
    have hP : va_P (dC, dI) vwCl (zV70 h0 tp h0_tapeLength h0_faultKind h0_faultPlace nw im sl rd wk fm mt ch dy nw nw_isKept tn nw_strayed p1 nw_known nw_gone tn tn_hours tn_courts tn_gateCount tn_people tn_lines tn_falseHours tn_strayers tn_deep tn_above tn_doors tn_degrees tn_neighbours tn_shows tn_oneEnd tn_otherEnd tn_told tn_strayParts tn_strayCourts) H := hP
    have hD : va_D A (zV70 h0 tp h0_tapeLength h0_faultKind h0_faultPlace nw im sl rd wk fm mt ch dy nw nw_isKept tn nw_strayed p1 nw_known nw_gone tn tn_hours tn_courts tn_gateCount tn_people tn_lines tn_falseHours tn_strayers tn_deep tn_above tn_doors tn_degrees tn_neighbours tn_shows tn_oneEnd tn_otherEnd tn_told tn_strayParts tn_strayCourts) := hD
    refine lv_iload_n hx hb dX9_names_33 rfl (lv_at hl 0 rfl) ?_
    have hF : RR = (nw_names, p1) := hF
    exact W.iret (v := nw_names) hx hb hr (fun t ht hW => by rw [← hQe]; exact ⟨⟨nw_names, (), rfl, ⟨by omega, (by rw [← hRR, hF])⟩, ⟨p1, (by first | with_reducible assumption | omega), (by rw [← hRR, hF]), z_ret hP hK hD ht hW [0, 1, 2] [] rfl (by decide) rfl⟩⟩, hS.F ht⟩) hS.2.2 dX9_names_34
  · have ic_2 := zz_nne rfl (show Int32.toInt 0 = 0 from by decide) c_2
    replace hF := hF.trans (if_pos c_2)
    refine lv_bipush (v := (-2)) hx hb dX9_names_14 (by decide) ?_
    have hF : RR = ((-2 : Int32), nw_names) := hF
    have zc : Int32.toInt (-2) = (-2) := by decide
    exact W.iret (v := (-2)) hx hb hr (fun t ht hW => by rw [← hQe]; exact ⟨⟨(-2), (), rfl, ⟨by decide, (by rw [← hRR, hF])⟩, ⟨nw_names, (by first | with_reducible assumption | omega), (by rw [← hRR, hF]), z_ret hP hK hD ht hW [0, 1, 2] [] rfl (by decide) rfl⟩⟩, hS.F ht⟩) hS.2.2 dX9_names_16
set_option maxHeartbeats 4000000 in
set_option maxRecDepth 100000 in
theorem kf_X9_strayed (l : Launch) (sa : Nat → Nat) (dC : Nat → ClassId) (dI : Nat → Nat → Nat) (h0 : Nat) (p1 : Int32) (tp : Nat) (h0_tapeLength : Int32) (h0_faultKind : Int32) (h0_faultPlace : Int32) (nw : Nat) (im : Nat) (sl : Nat) (rd : Nat) (wk : Nat) (fm : Nat) (mt : Nat) (ch : Nat) (dy : Nat) (nw_isKept : Int32) (tn : Nat) (nw_strayed : Int32) (nw_names : Int32) (nw_known : Int32) (nw_gone : Int32) (tn_hours : Int32) (tn_courts : Int32) (tn_gateCount : Int32) (tn_people : Int32) (tn_lines : Int32) (tn_falseHours : Int32) (tn_strayers : Int32) (tn_deep : Int32) (tn_above : Nat) (tn_doors : Nat) (tn_degrees : Nat) (tn_neighbours : Nat) (tn_shows : Nat) (tn_oneEnd : Nat) (tn_otherEnd : Nat) (tn_told : Nat) (tn_strayParts : Nat) (tn_strayCourts : Nat) (b_h0_tapeLength : 0 ≤ h0_tapeLength.toInt ∧ h0_tapeLength.toInt ≤ 1600) (b_nw_isKept : 0 ≤ nw_isKept.toInt ∧ nw_isKept.toInt ≤ 1) (b_nw_names : 0 ≤ nw_names.toInt ∧ nw_names.toInt ≤ 1023) (b_tn_hours : 0 ≤ tn_hours.toInt ∧ tn_hours.toInt ≤ 48) (b_tn_courts : 0 ≤ tn_courts.toInt ∧ tn_courts.toInt ≤ 10) (b_tn_gateCount : 0 ≤ tn_gateCount.toInt ∧ tn_gateCount.toInt ≤ 16) (b_tn_people : 0 ≤ tn_people.toInt ∧ tn_people.toInt ≤ 10) (b_tn_falseHours : 0 ≤ tn_falseHours.toInt ∧ tn_falseHours.toInt ≤ 9) (b_tn_deep : 0 ≤ tn_deep.toInt ∧ tn_deep.toInt ≤ 1) (sz : Nat) : Met l yX9_strayed (.code yX9_strayed cX9_strayed 3 (some .int) :: zT) ({ frames := 0, cells := 0, slots := 0, locals := 0 }) (va_Pc [.ref h0, .int p1] (zB sa dC dI (zV70 h0 tp h0_tapeLength h0_faultKind h0_faultPlace nw im sl rd wk fm mt ch dy nw nw_isKept tn nw_strayed nw_names nw_known nw_gone tn tn_hours tn_courts tn_gateCount tn_people tn_lines tn_falseHours tn_strayers tn_deep tn_above tn_doors tn_degrees tn_neighbours tn_shows tn_oneEnd tn_otherEnd tn_told tn_strayParts tn_strayCourts) [] sz)) (va_Qi (fun (r : Int32) (_ : Unit) => r = (F_X9_strayed p1 nw_strayed tn_strayers).1) (fun _ t => ∃ (n_nw_2 : Int32), (n_nw_2 = (F_X9_strayed p1 nw_strayed tn_strayers).2) ∧ zW dC dI (zV70 h0 tp h0_tapeLength h0_faultKind h0_faultPlace nw im sl rd wk fm mt ch dy nw nw_isKept tn n_nw_2 nw_names nw_known nw_gone tn tn_hours tn_courts tn_gateCount tn_people tn_lines tn_falseHours tn_strayers tn_deep tn_above tn_doors tn_degrees tn_neighbours tn_shows tn_oneEnd tn_otherEnd tn_told tn_strayParts tn_strayCourts) [] (va_A (zV70 h0 tp h0_tapeLength h0_faultKind h0_faultPlace nw im sl rd wk fm mt ch dy nw nw_isKept tn nw_strayed nw_names nw_known nw_gone tn tn_hours tn_courts tn_gateCount tn_people tn_lines tn_falseHours tn_strayers tn_deep tn_above tn_doors tn_degrees tn_neighbours tn_shows tn_oneEnd tn_otherEnd tn_told tn_strayParts tn_strayCourts) sz) t) (va_A (zV70 h0 tp h0_tapeLength h0_faultKind h0_faultPlace nw im sl rd wk fm mt ch dy nw nw_isKept tn nw_strayed nw_names nw_known nw_gone tn tn_hours tn_courts tn_gateCount tn_people tn_lines tn_falseHours tn_strayers tn_deep tn_above tn_doors tn_degrees tn_neighbours tn_shows tn_oneEnd tn_otherEnd tn_told tn_strayParts tn_strayCourts) sz)) 0 0 (va_A (zV70 h0 tp h0_tapeLength h0_faultKind h0_faultPlace nw im sl rd wk fm mt ch dy nw nw_isKept tn nw_strayed nw_names nw_known nw_gone tn tn_hours tn_courts tn_gateCount tn_people tn_lines tn_falseHours tn_strayers tn_deep tn_above tn_doors tn_degrees tn_neighbours tn_shows tn_oneEnd tn_otherEnd tn_told tn_strayParts tn_strayCourts) sz) := by
  refine z_enter (by decide) (by exact (Nat.le_of_ble_eq_true rfl)) ?_
  intro p e s m args below meth c ls A R Qc hargs hsz hQe hAe hRe hx hb hml hr hts hown hlocks hin hl hP hK hD hN hXs hA hS
  rw [hAe] at hQe
  have hown : s.vm.findClass RX9 = some m.cls := hown
  have hl : lv_has ls 3 [(0, .ref h0), (1, .int p1)] := hl
  obtain ⟨RR, hRR⟩ : ∃ z : Int32 × Int32, z = (F_X9_strayed p1 nw_strayed tn_strayers) := ⟨_, rfl⟩
  have hF : RR = (F_X9_strayed p1 nw_strayed tn_strayers) := hRR
  refine lv_iload_n hx hb dX9_strayed_0 rfl (lv_at hl 1 rfl) ?_
  refine lv_aload_n hx hb dX9_strayed_1 rfl (lv_at hl 0 rfl) ?_
  refine va_get (D := (dC, dI)) (ci := 9) (v := .ref nw) (C := RX9) (T := TX9) (N := 13) hx hb hts zl_X9 hown hK hP 0 rfl rfl 4 (by decide) (hts _ zw_t2_193) (fun _ h9 => h9) rfl dX9_strayed_2 ?_
  refine va_get (D := (dC, dI)) (ci := 3) (v := .ref tn) (C := RX3) (T := TX3) (N := 6) hx hb hts zl_X3 hown hK hP 1 rfl rfl 1 (by decide) (hts _ zw_t1_156) (fun _ h9 => h9) rfl dX9_strayed_5 ?_
  refine va_get (D := (dC, dI)) (ci := 7) (v := .int tn_strayers) (C := RX7) (T := TX7) (N := 18) hx hb hts zl_X7 hown hK hP 2 rfl rfl 6 (by decide) (hts _ zw_t1_74) (fun _ h9 => h9) rfl dX9_strayed_8 ?_
  refine lv_iconst (v := (-1)) hx hb dX9_strayed_11 (by decide) ?_
  refine lv_ixor hx hb dX9_strayed_12 ?_
  refine lv_topi (fun x_1 ex_1 => ?_)
  replace hF := hF.trans (zL_eq ex_1)
  refine lv_iand hx hb dX9_strayed_13 ?_
  refine lv_topi (fun x_2 ex_2 => ?_)
  replace hF := hF.trans (zL_eq ex_2)
  have nb_x_2 := zi_nb x_2
  refine lv_if_eq (tgt := 20) hx hb dX9_strayed_14 (by decide) (fun c_3 => ?_) (fun c_3 => ?_)
  · have ic_3 := zz_eq rfl (show Int32.toInt 0 = 0 from by decide) c_3
    replace hF := hF.trans (if_pos c_3)
    refine lv_aload_n hx hb dX9_strayed_20 rfl (lv_at hl 0 rfl) ?_
    refine va_get (D := (dC, dI)) (ci := 9) (v := .ref nw) (C := RX9) (T := TX9) (N := 13) hx hb hts zl_X9 hown hK hP 0 rfl rfl 4 (by decide) (hts _ zw_t2_193) (fun _ h9 => h9) rfl dX9_strayed_21 ?_
    refine va_get (D := (dC, dI)) (ci := 3) (v := .int nw_strayed) (C := RX3) (T := TX3) (N := 6) hx hb hts zl_X3 hown hK hP 1 rfl rfl 2 (by decide) (hts _ zw_t1_159) (fun _ h9 => h9) rfl dX9_strayed_24 ?_
    refine lv_istore_n (lv' := [(2, .int nw_strayed), (0, .ref h0), (1, .int p1)]) hx hb dX9_strayed_27 rfl hl (by decide) rfl (fun ls hl => ?_)
    refine lv_aload_n hx hb dX9_strayed_28 rfl (lv_at hl 1 rfl) ?_
    refine va_get (D := (dC, dI)) (ci := 9) (v := .ref nw) (C := RX9) (T := TX9) (N := 13) hx hb hts zl_X9 hown hK hP 0 rfl rfl 4 (by decide) (hts _ zw_t2_193) (fun _ h9 => h9) rfl dX9_strayed_29 ?_
    refine lv_iload_n hx hb dX9_strayed_32 rfl (lv_at hl 2 rfl) ?_
    refine va_put (D := (dC, dI)) (ci := 3) (v := .int p1) (ty := .int) (C := RX3) (T := TX3) (N := 6) hx hb hts zl_X3 tyX3 tyX3_ok nmX3 hown hK hP hD hS 1 rfl rfl 2 (by decide) (hts _ zw_t1_159) (fun _ h9 => h9) rfl (by decide +kernel) rfl rfl (Nat.le_of_ble_eq_true rfl) dX9_strayed_33 (fun H locs hP hD hS => ?_)
    have hP : va_P (dC, dI) vwCl (zV70 h0 tp h0_tapeLength h0_faultKind h0_faultPlace nw im sl rd wk fm mt ch dy nw nw_isKept tn p1 nw_names nw_known nw_gone tn tn_hours tn_courts tn_gateCount tn_people tn_lines tn_falseHours tn_strayers tn_deep tn_above tn_doors tn_degrees tn_neighbours tn_shows tn_oneEnd tn_otherEnd tn_told tn_strayParts tn_strayCourts) H := hP
    have hD : va_D A (zV70 h0 tp h0_tapeLength h0_faultKind h0_faultPlace nw im sl rd wk fm mt ch dy nw nw_isKept tn p1 nw_names nw_known nw_gone tn tn_hours tn_courts tn_gateCount tn_people tn_lines tn_falseHours tn_strayers tn_deep tn_above tn_doors tn_degrees tn_neighbours tn_shows tn_oneEnd tn_otherEnd tn_told tn_strayParts tn_strayCourts) := hD
    refine lv_iload_n hx hb dX9_strayed_36 rfl (lv_at hl 0 rfl) ?_
    have hF : RR = (nw_strayed, p1) := hF
    exact W.iret (v := nw_strayed) hx hb hr (fun t ht hW => by rw [← hQe]; exact ⟨⟨nw_strayed, (), rfl, (by rw [← hRR, hF]), ⟨p1, (by rw [← hRR, hF]), z_ret hP hK hD ht hW [0, 1, 2] [] rfl (by decide) rfl⟩⟩, hS.F ht⟩) hS.2.2 dX9_strayed_37
  · have ic_3 := zz_neq rfl (show Int32.toInt 0 = 0 from by decide) c_3
    replace hF := hF.trans (if_neg c_3)
    refine lv_bipush (v := (-2)) hx hb dX9_strayed_17 (by decide) ?_
    have hF : RR = ((-2 : Int32), nw_strayed) := hF
    have zc : Int32.toInt (-2) = (-2) := by decide
    exact W.iret (v := (-2)) hx hb hr (fun t ht hW => by rw [← hQe]; exact ⟨⟨(-2), (), rfl, (by rw [← hRR, hF]), ⟨nw_strayed, (by rw [← hRR, hF]), z_ret hP hK hD ht hW [0, 1, 2] [] rfl (by decide) rfl⟩⟩, hS.F ht⟩) hS.2.2 dX9_strayed_19
set_option maxHeartbeats 4000000 in
set_option maxRecDepth 100000 in
theorem kf_X9_where (l : Launch) (sa : Nat → Nat) (dC : Nat → ClassId) (dI : Nat → Nat → Nat) (h0 : Nat) (p1 : Int32) (p2 : Int32) (tp : Nat) (h0_tapeLength : Int32) (h0_faultKind : Int32) (h0_faultPlace : Int32) (nw : Nat) (im : Nat) (sl : Nat) (rd : Nat) (wk : Nat) (fm : Nat) (mt : Nat) (ch : Nat) (dy : Nat) (nw_isKept : Int32) (tn : Nat) (nw_strayed : Int32) (nw_names : Int32) (nw_known : Int32) (nw_gone : Int32) (tn_hours : Int32) (tn_courts : Int32) (tn_gateCount : Int32) (tn_people : Int32) (tn_lines : Int32) (tn_falseHours : Int32) (tn_strayers : Int32) (tn_deep : Int32) (tn_above : Nat) (tn_doors : Nat) (tn_degrees : Nat) (tn_neighbours : Nat) (tn_shows : Nat) (tn_oneEnd : Nat) (tn_otherEnd : Nat) (tn_told : Nat) (tn_strayParts : Nat) (tn_strayCourts : Nat) (cA_tn_told : ClassId) (f_tn_told : Nat → Int32) (cA_tn_strayCourts : ClassId) (f_tn_strayCourts : Nat → Int32) (b_h0_tapeLength : 0 ≤ h0_tapeLength.toInt ∧ h0_tapeLength.toInt ≤ 1600) (b_nw_isKept : 0 ≤ nw_isKept.toInt ∧ nw_isKept.toInt ≤ 1) (b_nw_names : 0 ≤ nw_names.toInt ∧ nw_names.toInt ≤ 1023) (b_tn_hours : 0 ≤ tn_hours.toInt ∧ tn_hours.toInt ≤ 48) (b_tn_courts : 0 ≤ tn_courts.toInt ∧ tn_courts.toInt ≤ 10) (b_tn_gateCount : 0 ≤ tn_gateCount.toInt ∧ tn_gateCount.toInt ≤ 16) (b_tn_people : 0 ≤ tn_people.toInt ∧ tn_people.toInt ≤ 10) (b_tn_falseHours : 0 ≤ tn_falseHours.toInt ∧ tn_falseHours.toInt ≤ 9) (b_tn_deep : 0 ≤ tn_deep.toInt ∧ tn_deep.toInt ≤ 1) (b_f_tn_told : ∀ j : Nat, 0 ≤ (f_tn_told j).toInt ∧ (f_tn_told j).toInt ≤ 9) (b_f_tn_strayCourts : ∀ j : Nat, 0 ≤ (f_tn_strayCourts j).toInt ∧ (f_tn_strayCourts j).toInt ≤ 9) (sz : Nat) : Met l yX9_where (.code yX9_where cX9_where 4 (some .int) :: zT) ({ frames := 1, cells := 0, slots := 0, locals := 24 }) (va_Pc [.ref h0, .int p1, .int p2] (zB sa dC dI (zV246 h0 tp h0_tapeLength h0_faultKind h0_faultPlace nw im sl rd wk fm mt ch dy nw nw_isKept tn nw_strayed nw_names nw_known nw_gone tn tn_hours tn_courts tn_gateCount tn_people tn_lines tn_falseHours tn_strayers tn_deep tn_above tn_doors tn_degrees tn_neighbours tn_shows tn_oneEnd tn_otherEnd tn_told tn_strayParts tn_strayCourts tn_told cA_tn_told f_tn_told tn_strayCourts cA_tn_strayCourts f_tn_strayCourts) [(cA_tn_told, .int), (cA_tn_strayCourts, .int)] sz)) (va_Qi (fun (r : Int32) (_ : Unit) => ((-2) ≤ r.toInt ∧ r.toInt ≤ 9) ∧ r = (F_X9_where p1 p2 nw_strayed tn_hours tn_people f_tn_told f_tn_strayCourts)) (fun _ t => zW dC dI (zV246 h0 tp h0_tapeLength h0_faultKind h0_faultPlace nw im sl rd wk fm mt ch dy nw nw_isKept tn nw_strayed nw_names nw_known nw_gone tn tn_hours tn_courts tn_gateCount tn_people tn_lines tn_falseHours tn_strayers tn_deep tn_above tn_doors tn_degrees tn_neighbours tn_shows tn_oneEnd tn_otherEnd tn_told tn_strayParts tn_strayCourts tn_told cA_tn_told f_tn_told tn_strayCourts cA_tn_strayCourts f_tn_strayCourts) [] (va_A (zV246 h0 tp h0_tapeLength h0_faultKind h0_faultPlace nw im sl rd wk fm mt ch dy nw nw_isKept tn nw_strayed nw_names nw_known nw_gone tn tn_hours tn_courts tn_gateCount tn_people tn_lines tn_falseHours tn_strayers tn_deep tn_above tn_doors tn_degrees tn_neighbours tn_shows tn_oneEnd tn_otherEnd tn_told tn_strayParts tn_strayCourts tn_told cA_tn_told f_tn_told tn_strayCourts cA_tn_strayCourts f_tn_strayCourts) sz) t) (va_A (zV246 h0 tp h0_tapeLength h0_faultKind h0_faultPlace nw im sl rd wk fm mt ch dy nw nw_isKept tn nw_strayed nw_names nw_known nw_gone tn tn_hours tn_courts tn_gateCount tn_people tn_lines tn_falseHours tn_strayers tn_deep tn_above tn_doors tn_degrees tn_neighbours tn_shows tn_oneEnd tn_otherEnd tn_told tn_strayParts tn_strayCourts tn_told cA_tn_told f_tn_told tn_strayCourts cA_tn_strayCourts f_tn_strayCourts) sz)) 0 0 (va_A (zV246 h0 tp h0_tapeLength h0_faultKind h0_faultPlace nw im sl rd wk fm mt ch dy nw nw_isKept tn nw_strayed nw_names nw_known nw_gone tn tn_hours tn_courts tn_gateCount tn_people tn_lines tn_falseHours tn_strayers tn_deep tn_above tn_doors tn_degrees tn_neighbours tn_shows tn_oneEnd tn_otherEnd tn_told tn_strayParts tn_strayCourts tn_told cA_tn_told f_tn_told tn_strayCourts cA_tn_strayCourts f_tn_strayCourts) sz) := by
  refine z_enter (by decide) (by exact (Nat.le_of_ble_eq_true rfl)) ?_
  intro p e s m args below meth c ls A R Qc hargs hsz hQe hAe hRe hx hb hml hr hts hown hlocks hin hl hP hK hD hN hXs hA hS
  rw [hAe] at hQe
  have hown : s.vm.findClass RX9 = some m.cls := hown
  have hl : lv_has ls 4 [(0, .ref h0), (1, .int p1), (2, .int p2)] := hl
  obtain ⟨RR, hRR⟩ : ∃ z : Int32, z = (F_X9_where p1 p2 nw_strayed tn_hours tn_people f_tn_told f_tn_strayCourts) := ⟨_, rfl⟩
  have hF : RR = (F_X9_where p1 p2 nw_strayed tn_hours tn_people f_tn_told f_tn_strayCourts) := hRR
  refine lv_aload_n hx hb dX9_where_0 rfl (lv_at hl 0 rfl) ?_
  refine va_get (D := (dC, dI)) (ci := 9) (v := .ref nw) (C := RX9) (T := TX9) (N := 13) hx hb hts zl_X9 hown hK hP 0 rfl rfl 4 (by decide) (hts _ zw_t2_193) (fun _ h9 => h9) rfl dX9_where_1 ?_
  refine va_get (D := (dC, dI)) (ci := 3) (v := .ref tn) (C := RX3) (T := TX3) (N := 6) hx hb hts zl_X3 hown hK hP 1 rfl rfl 1 (by decide) (hts _ zw_t1_156) (fun _ h9 => h9) rfl dX9_where_4 ?_
  refine lv_astore_n (lv' := [(3, .ref tn), (0, .ref h0), (1, .int p1), (2, .int p2)]) hx hb dX9_where_7 rfl hl (by decide) rfl (fun ls hl => ?_)
  refine lv_aload_n hx hb dX9_where_8 rfl (lv_at hl 0 rfl) ?_
  refine lv_iload_n hx hb dX9_where_9 rfl (lv_at hl 2 rfl) ?_
  obtain ⟨hPc, hDc, hFc⟩ := z_cut (wc := (zV1 tn tn_hours tn_courts tn_gateCount tn_people tn_lines tn_falseHours tn_strayers tn_deep tn_above tn_doors tn_degrees tn_neighbours tn_shows tn_oneEnd tn_otherEnd tn_told tn_strayParts tn_strayCourts)) hP hD hS hA [2] rfl (by decide +kernel)
  have hKc := hK.sub (tys' := []) [] rfl
  refine va_calli (va_runV (As := [.int p1]) (rest := []) ⟨hx, hb, hml, hown, hts⟩ (kf_X7_hasPerson l sa dC dI tn p1 tn_hours tn_courts tn_gateCount tn_people tn_lines tn_falseHours tn_strayers tn_deep tn_above tn_doors tn_degrees tn_neighbours tn_shows tn_oneEnd tn_otherEnd tn_told tn_strayParts tn_strayCourts b_tn_hours b_tn_courts b_tn_gateCount b_tn_people b_tn_falseHours b_tn_deep s.heap.size) (cwV 1 hts (z_gV zw_t3_181 zw_t3_182 zw_t3_183 zw_t1_3 zw_t3_184) rfl rfl rfl (by decide +kernel) (by rw [← hRe]; exact ⟨(Nat.le_of_ble_eq_true rfl), (Nat.le_of_ble_eq_true rfl)⟩)) (z_preV hPc hKc hDc hN hXs hS hFc (q := (RX7, TX7, 18)) (ci := 7) (q0 := 0) rfl rfl) rfl rfl hl.1 rfl (lv_room (Nat.le_of_ble_eq_true rfl)) dX9_where_10 (by rw [← hRe]; exact ⟨(Nat.le_of_ble_eq_true rfl), (Nat.le_of_ble_eq_true rfl)⟩)) hS (fun q _ h => hFc q h) hFc (fun r_1 u t H1 locs ht hvm hw hB hz1 hk1 hS => ?_)
  obtain ⟨hP, hD, hK⟩ := z_after3 (wn := [(h0, .inr (9, [.ref tp, .int h0_tapeLength, .int h0_faultKind, .int h0_faultPlace, .ref nw, .ref im, .ref sl, .ref rd, .ref wk, .ref fm, .ref mt, .ref ch, .ref dy])), (nw, .inr (3, [.int nw_isKept, .ref tn, .int nw_strayed, .int nw_names, .int nw_known, .int nw_gone])), (tn_told, .inl (cA_tn_told, 480, .inl f_tn_told)), (tn_strayCourts, .inl (cA_tn_strayCourts, 10, .inl f_tn_strayCourts)), (tn, .inr (7, [.int tn_hours, .int tn_courts, .int tn_gateCount, .int tn_people, .int tn_lines, .int tn_falseHours, .int tn_strayers, .int tn_deep, .ref tn_above, .ref tn_doors, .ref tn_degrees, .ref tn_neighbours, .ref tn_shows, .ref tn_oneEnd, .ref tn_otherEnd, .ref tn_told, .ref tn_strayParts, .ref tn_strayCourts]))]) hB ht hvm hP hD hK [2] [0, 1, 3, 4] rfl 5 rfl (by decide +kernel) rfl (by decide +kernel) hk1 hFc
  generalize H1 = H at hP hS ⊢
  have hK : va_K (dC, dI) vwCl [(cA_tn_told, .int), (cA_tn_strayCourts, .int)] s := hK
  have b_r_1 : 0 ≤ r_1.toInt ∧ r_1.toInt ≤ 1 := hw.1
  have s_r_1 := hw.2.1
  have sf_r_1 := hw.2.2
  replace hF := hF.trans (zL_eq sf_r_1)
  refine lv_if_eq (tgt := 24) hx hb dX9_where_13 (by decide) (fun c_2 => ?_) (fun c_2 => ?_)
  · have ic_2 := zz_eq rfl (show Int32.toInt 0 = 0 from by decide) c_2
    replace hF := hF.trans (if_pos c_2)
    refine lv_bipush (v := (-2)) hx hb dX9_where_24 (by decide) ?_
    have hF : RR = (-2 : Int32) := hF
    have zc : Int32.toInt (-2) = (-2) := by decide
    exact W.iret (v := (-2)) hx hb hr (fun t ht hW => by rw [← hQe]; exact ⟨⟨(-2), (), rfl, ⟨by decide, (by rw [← hRR, hF])⟩, z_ret hP hK hD ht hW [0, 1, 4, 2, 3] [] rfl (by decide) rfl⟩, hS.F ht⟩) hS.2.2 dX9_where_26
  · have ic_2 := zz_neq rfl (show Int32.toInt 0 = 0 from by decide) c_2
    replace hF := hF.trans (if_neg c_2)
    refine lv_aload_n hx hb dX9_where_16 rfl (lv_at hl 0 rfl) ?_
    refine lv_iload_n hx hb dX9_where_17 rfl (lv_at hl 3 rfl) ?_
    obtain ⟨hPc, hDc, hFc⟩ := z_cut (wc := (zV1 tn tn_hours tn_courts tn_gateCount tn_people tn_lines tn_falseHours tn_strayers tn_deep tn_above tn_doors tn_degrees tn_neighbours tn_shows tn_oneEnd tn_otherEnd tn_told tn_strayParts tn_strayCourts)) hP hD hS hA [4] rfl (by decide +kernel)
    have hKc := hK.sub (tys' := []) [] rfl
    refine va_calli (va_runV (As := [.int p2]) (rest := []) ⟨hx, hb, hml, hown, hts⟩ (kf_X7_hasHour l sa dC dI tn p2 tn_hours tn_courts tn_gateCount tn_people tn_lines tn_falseHours tn_strayers tn_deep tn_above tn_doors tn_degrees tn_neighbours tn_shows tn_oneEnd tn_otherEnd tn_told tn_strayParts tn_strayCourts b_tn_hours b_tn_courts b_tn_gateCount b_tn_people b_tn_falseHours b_tn_deep H.size) (cwV 1 hts (z_gV zw_t3_185 zw_t3_186 zw_t3_187 zw_t1_3 zw_t3_188) rfl rfl rfl (by decide +kernel) (by rw [← hRe]; exact ⟨(Nat.le_of_ble_eq_true rfl), (Nat.le_of_ble_eq_true rfl)⟩)) (z_preV hPc hKc hDc hN hXs hS hFc (q := (RX7, TX7, 18)) (ci := 7) (q0 := 0) rfl rfl) rfl rfl hl.1 rfl (lv_room (Nat.le_of_ble_eq_true rfl)) dX9_where_18 (by rw [← hRe]; exact ⟨(Nat.le_of_ble_eq_true rfl), (Nat.le_of_ble_eq_true rfl)⟩)) hS (fun q _ h => hFc q h) hFc (fun r_3 u t H1 locs ht hvm hw hB hz1 hk1 hS => ?_)
    obtain ⟨hP, hD, hK⟩ := z_after3 (wn := [(h0, .inr (9, [.ref tp, .int h0_tapeLength, .int h0_faultKind, .int h0_faultPlace, .ref nw, .ref im, .ref sl, .ref rd, .ref wk, .ref fm, .ref mt, .ref ch, .ref dy])), (nw, .inr (3, [.int nw_isKept, .ref tn, .int nw_strayed, .int nw_names, .int nw_known, .int nw_gone])), (tn_told, .inl (cA_tn_told, 480, .inl f_tn_told)), (tn_strayCourts, .inl (cA_tn_strayCourts, 10, .inl f_tn_strayCourts)), (tn, .inr (7, [.int tn_hours, .int tn_courts, .int tn_gateCount, .int tn_people, .int tn_lines, .int tn_falseHours, .int tn_strayers, .int tn_deep, .ref tn_above, .ref tn_doors, .ref tn_degrees, .ref tn_neighbours, .ref tn_shows, .ref tn_oneEnd, .ref tn_otherEnd, .ref tn_told, .ref tn_strayParts, .ref tn_strayCourts]))]) hB ht hvm hP hD hK [4] [0, 1, 2, 3] rfl 5 rfl (by decide +kernel) rfl (by decide +kernel) hk1 hFc
    generalize H1 = H at hP hS ⊢
    have hK : va_K (dC, dI) vwCl [(cA_tn_told, .int), (cA_tn_strayCourts, .int)] s := hK
    have b_r_3 : 0 ≤ r_3.toInt ∧ r_3.toInt ≤ 1 := hw.1
    have s_r_3 := hw.2.1
    have sf_r_3 := hw.2.2
    replace hF := hF.trans (zL_eq sf_r_3)
    refine lv_if_ne (tgt := 27) hx hb dX9_where_21 (by decide) (fun c_4 => ?_) (fun c_4 => ?_)
    · have ic_4 := zz_ne rfl (show Int32.toInt 0 = 0 from by decide) c_4
      replace hF := hF.trans (if_neg c_4)
      refine lv_aload_n hx hb dX9_where_27 rfl (lv_at hl 0 rfl) ?_
      refine lv_iload_n hx hb dX9_where_28 rfl (lv_at hl 2 rfl) ?_
      refine lv_iload_n hx hb dX9_where_29 rfl (lv_at hl 3 rfl) ?_
      refine lv_aload_n hx hb dX9_where_30 rfl (lv_at hl 1 rfl) ?_
      refine va_get (D := (dC, dI)) (ci := 9) (v := .ref nw) (C := RX9) (T := TX9) (N := 13) hx hb hts zl_X9 hown hK hP 0 rfl rfl 4 (by decide) (hts _ zw_t2_193) (fun _ h9 => h9) rfl dX9_where_31 ?_
      refine va_get (D := (dC, dI)) (ci := 3) (v := .int nw_strayed) (C := RX3) (T := TX3) (N := 6) hx hb hts zl_X3 hown hK hP 1 rfl rfl 2 (by decide) (hts _ zw_t1_159) (fun _ h9 => h9) rfl dX9_where_34 ?_
      obtain ⟨hPc, hDc, hFc⟩ := z_cut (wc := (zV2 tn tn_hours tn_courts tn_gateCount tn_people tn_lines tn_falseHours tn_strayers tn_deep tn_above tn_doors tn_degrees tn_neighbours tn_shows tn_oneEnd tn_otherEnd tn_told tn_strayParts tn_strayCourts tn_told cA_tn_told f_tn_told tn_strayCourts cA_tn_strayCourts f_tn_strayCourts)) hP hD hS hA [4, 2, 3] rfl (by decide +kernel)
      have hKc := hK.sub (tys' := [(cA_tn_told, .int), (cA_tn_strayCourts, .int)]) [0, 1] rfl
      refine va_calli (va_runV (As := [.int p1, .int p2, .int nw_strayed]) (rest := []) ⟨hx, hb, hml, hown, hts⟩ (kf_X7_courtOf l sa dC dI tn p1 p2 nw_strayed tn_hours tn_courts tn_gateCount tn_people tn_lines tn_falseHours tn_strayers tn_deep tn_above tn_doors tn_degrees tn_neighbours tn_shows tn_oneEnd tn_otherEnd tn_told tn_strayParts tn_strayCourts cA_tn_told f_tn_told cA_tn_strayCourts f_tn_strayCourts (by first | with_reducible assumption | omega) (by first | with_reducible assumption | omega) b_tn_hours b_tn_courts b_tn_gateCount b_tn_people b_tn_falseHours b_tn_deep b_f_tn_told b_f_tn_strayCourts H.size) (cwV 3 hts (z_gV zw_t3_189 zw_t3_190 zw_t3_191 zw_t1_3 zw_t3_192) rfl rfl rfl (by decide +kernel) (by rw [← hRe]; exact ⟨(Nat.le_of_ble_eq_true rfl), (Nat.le_of_ble_eq_true rfl)⟩)) (z_preV hPc hKc hDc hN hXs hS hFc (q := (RX7, TX7, 18)) (ci := 7) (q0 := 0) rfl rfl) rfl rfl hl.1 rfl (lv_room (Nat.le_of_ble_eq_true rfl)) dX9_where_37 (by rw [← hRe]; exact ⟨(Nat.le_of_ble_eq_true rfl), (Nat.le_of_ble_eq_true rfl)⟩)) hS (fun q _ h => hFc q h) hFc (fun r_5 u t H1 locs ht hvm hw hB hz1 hk1 hS => ?_)
      obtain ⟨hP, hD, hK⟩ := z_after3 (wn := (zV246 h0 tp h0_tapeLength h0_faultKind h0_faultPlace nw im sl rd wk fm mt ch dy nw nw_isKept tn nw_strayed nw_names nw_known nw_gone tn tn_hours tn_courts tn_gateCount tn_people tn_lines tn_falseHours tn_strayers tn_deep tn_above tn_doors tn_degrees tn_neighbours tn_shows tn_oneEnd tn_otherEnd tn_told tn_strayParts tn_strayCourts tn_told cA_tn_told f_tn_told tn_strayCourts cA_tn_strayCourts f_tn_strayCourts)) hB ht hvm hP hD hK [4, 2, 3] [0, 1] rfl 5 rfl (by decide +kernel) rfl (by decide +kernel) hk1 hFc
      generalize H1 = H at hP hS ⊢
      have hK : va_K (dC, dI) vwCl [(cA_tn_told, .int), (cA_tn_strayCourts, .int)] s := hK
      have b_r_5 : 0 ≤ r_5.toInt ∧ r_5.toInt ≤ 9 := hw.1
      have sf_r_5 := hw.2
      replace hF := hF.trans (zL_eq sf_r_5)
      have hF : RR = r_5 := hF
      exact W.iret (v := r_5) hx hb hr (fun t ht hW => by rw [← hQe]; exact ⟨⟨r_5, (), rfl, ⟨by omega, (by rw [← hRR, hF])⟩, z_ret hP hK hD ht hW [0, 1, 2, 3, 4] [] rfl (by decide) rfl⟩, hS.F ht⟩) hS.2.2 dX9_where_40
    · have ic_4 := zz_nne rfl (show Int32.toInt 0 = 0 from by decide) c_4
      replace hF := hF.trans (if_pos c_4)
      refine lv_bipush (v := (-2)) hx hb dX9_where_24 (by decide) ?_
      have hF : RR = (-2 : Int32) := hF
      have zc : Int32.toInt (-2) = (-2) := by decide
      exact W.iret (v := (-2)) hx hb hr (fun t ht hW => by rw [← hQe]; exact ⟨⟨(-2), (), rfl, ⟨by decide, (by rw [← hRR, hF])⟩, z_ret hP hK hD ht hW [0, 1, 4, 2, 3] [] rfl (by decide) rfl⟩, hS.F ht⟩) hS.2.2 dX9_where_26
set_option maxHeartbeats 4000000 in
set_option maxRecDepth 100000 in
theorem kf_X9_within (l : Launch) (sa : Nat → Nat) (dC : Nat → ClassId) (dI : Nat → Nat → Nat) (h0 : Nat) (p1 : Int32) (p2 : Int32) (tp : Nat) (h0_tapeLength : Int32) (h0_faultKind : Int32) (h0_faultPlace : Int32) (nw : Nat) (im : Nat) (sl : Nat) (rd : Nat) (wk : Nat) (fm : Nat) (mt : Nat) (ch : Nat) (dy : Nat) (nw_isKept : Int32) (tn : Nat) (nw_strayed : Int32) (nw_names : Int32) (nw_known : Int32) (nw_gone : Int32) (tn_hours : Int32) (tn_courts : Int32) (tn_gateCount : Int32) (tn_people : Int32) (tn_lines : Int32) (tn_falseHours : Int32) (tn_strayers : Int32) (tn_deep : Int32) (tn_above : Nat) (tn_doors : Nat) (tn_degrees : Nat) (tn_neighbours : Nat) (tn_shows : Nat) (tn_oneEnd : Nat) (tn_otherEnd : Nat) (tn_told : Nat) (tn_strayParts : Nat) (tn_strayCourts : Nat) (cA_tn_shows : ClassId) (f_tn_shows : Nat → Int32) (cA_tn_told : ClassId) (f_tn_told : Nat → Int32) (cA_tn_strayCourts : ClassId) (f_tn_strayCourts : Nat → Int32) (b_h0_tapeLength : 0 ≤ h0_tapeLength.toInt ∧ h0_tapeLength.toInt ≤ 1600) (b_nw_isKept : 0 ≤ nw_isKept.toInt ∧ nw_isKept.toInt ≤ 1) (b_nw_names : 0 ≤ nw_names.toInt ∧ nw_names.toInt ≤ 1023) (b_tn_hours : 0 ≤ tn_hours.toInt ∧ tn_hours.toInt ≤ 48) (b_tn_courts : 0 ≤ tn_courts.toInt ∧ tn_courts.toInt ≤ 10) (b_tn_gateCount : 0 ≤ tn_gateCount.toInt ∧ tn_gateCount.toInt ≤ 16) (b_tn_people : 0 ≤ tn_people.toInt ∧ tn_people.toInt ≤ 10) (b_tn_falseHours : 0 ≤ tn_falseHours.toInt ∧ tn_falseHours.toInt ≤ 9) (b_tn_deep : 0 ≤ tn_deep.toInt ∧ tn_deep.toInt ≤ 1) (b_f_tn_told : ∀ j : Nat, 0 ≤ (f_tn_told j).toInt ∧ (f_tn_told j).toInt ≤ 9) (b_f_tn_strayCourts : ∀ j : Nat, 0 ≤ (f_tn_strayCourts j).toInt ∧ (f_tn_strayCourts j).toInt ≤ 9) (sz : Nat) : Met l yX9_within (.code yX9_within cX9_within 4 (some .int) :: zT) ({ frames := 3, cells := 0, slots := 0, locals := 72 }) (va_Pc [.ref h0, .int p1, .int p2] (zB sa dC dI (zV247 h0 tp h0_tapeLength h0_faultKind h0_faultPlace nw im sl rd wk fm mt ch dy nw nw_isKept tn nw_strayed nw_names nw_known nw_gone tn tn_hours tn_courts tn_gateCount tn_people tn_lines tn_falseHours tn_strayers tn_deep tn_above tn_doors tn_degrees tn_neighbours tn_shows tn_oneEnd tn_otherEnd tn_told tn_strayParts tn_strayCourts tn_shows cA_tn_shows f_tn_shows tn_told cA_tn_told f_tn_told tn_strayCourts cA_tn_strayCourts f_tn_strayCourts) [(cA_tn_shows, .int), (cA_tn_told, .int), (cA_tn_strayCourts, .int)] sz)) (va_Qi (fun (r : Int32) (_ : Unit) => ((-2) ≤ r.toInt ∧ r.toInt ≤ 1023) ∧ r = (F_X9_within p1 p2 nw_strayed tn_hours tn_courts tn_people f_tn_shows f_tn_told f_tn_strayCourts)) (fun _ t => zW dC dI (zV247 h0 tp h0_tapeLength h0_faultKind h0_faultPlace nw im sl rd wk fm mt ch dy nw nw_isKept tn nw_strayed nw_names nw_known nw_gone tn tn_hours tn_courts tn_gateCount tn_people tn_lines tn_falseHours tn_strayers tn_deep tn_above tn_doors tn_degrees tn_neighbours tn_shows tn_oneEnd tn_otherEnd tn_told tn_strayParts tn_strayCourts tn_shows cA_tn_shows f_tn_shows tn_told cA_tn_told f_tn_told tn_strayCourts cA_tn_strayCourts f_tn_strayCourts) [] (va_A (zV247 h0 tp h0_tapeLength h0_faultKind h0_faultPlace nw im sl rd wk fm mt ch dy nw nw_isKept tn nw_strayed nw_names nw_known nw_gone tn tn_hours tn_courts tn_gateCount tn_people tn_lines tn_falseHours tn_strayers tn_deep tn_above tn_doors tn_degrees tn_neighbours tn_shows tn_oneEnd tn_otherEnd tn_told tn_strayParts tn_strayCourts tn_shows cA_tn_shows f_tn_shows tn_told cA_tn_told f_tn_told tn_strayCourts cA_tn_strayCourts f_tn_strayCourts) sz) t) (va_A (zV247 h0 tp h0_tapeLength h0_faultKind h0_faultPlace nw im sl rd wk fm mt ch dy nw nw_isKept tn nw_strayed nw_names nw_known nw_gone tn tn_hours tn_courts tn_gateCount tn_people tn_lines tn_falseHours tn_strayers tn_deep tn_above tn_doors tn_degrees tn_neighbours tn_shows tn_oneEnd tn_otherEnd tn_told tn_strayParts tn_strayCourts tn_shows cA_tn_shows f_tn_shows tn_told cA_tn_told f_tn_told tn_strayCourts cA_tn_strayCourts f_tn_strayCourts) sz)) 0 0 (va_A (zV247 h0 tp h0_tapeLength h0_faultKind h0_faultPlace nw im sl rd wk fm mt ch dy nw nw_isKept tn nw_strayed nw_names nw_known nw_gone tn tn_hours tn_courts tn_gateCount tn_people tn_lines tn_falseHours tn_strayers tn_deep tn_above tn_doors tn_degrees tn_neighbours tn_shows tn_oneEnd tn_otherEnd tn_told tn_strayParts tn_strayCourts tn_shows cA_tn_shows f_tn_shows tn_told cA_tn_told f_tn_told tn_strayCourts cA_tn_strayCourts f_tn_strayCourts) sz) := by
  refine z_enter (by decide) (by exact (Nat.le_of_ble_eq_true rfl)) ?_
  intro p e s m args below meth c ls A R Qc hargs hsz hQe hAe hRe hx hb hml hr hts hown hlocks hin hl hP hK hD hN hXs hA hS
  rw [hAe] at hQe
  have hown : s.vm.findClass RX9 = some m.cls := hown
  have hl : lv_has ls 4 [(0, .ref h0), (1, .int p1), (2, .int p2)] := hl
  obtain ⟨RR, hRR⟩ : ∃ z : Int32, z = (F_X9_within p1 p2 nw_strayed tn_hours tn_courts tn_people f_tn_shows f_tn_told f_tn_strayCourts) := ⟨_, rfl⟩
  have hF : RR = (F_X9_within p1 p2 nw_strayed tn_hours tn_courts tn_people f_tn_shows f_tn_told f_tn_strayCourts) := hRR
  refine lv_aload_n hx hb dX9_within_0 rfl (lv_at hl 0 rfl) ?_
  refine va_get (D := (dC, dI)) (ci := 9) (v := .ref nw) (C := RX9) (T := TX9) (N := 13) hx hb hts zl_X9 hown hK hP 0 rfl rfl 4 (by decide) (hts _ zw_t2_193) (fun _ h9 => h9) rfl dX9_within_1 ?_
  refine va_get (D := (dC, dI)) (ci := 3) (v := .ref tn) (C := RX3) (T := TX3) (N := 6) hx hb hts zl_X3 hown hK hP 1 rfl rfl 1 (by decide) (hts _ zw_t1_156) (fun _ h9 => h9) rfl dX9_within_4 ?_
  refine lv_astore_n (lv' := [(3, .ref tn), (0, .ref h0), (1, .int p1), (2, .int p2)]) hx hb dX9_within_7 rfl hl (by decide) rfl (fun ls hl => ?_)
  refine lv_aload_n hx hb dX9_within_8 rfl (lv_at hl 0 rfl) ?_
  refine lv_iload_n hx hb dX9_within_9 rfl (lv_at hl 2 rfl) ?_
  obtain ⟨hPc, hDc, hFc⟩ := z_cut (wc := (zV1 tn tn_hours tn_courts tn_gateCount tn_people tn_lines tn_falseHours tn_strayers tn_deep tn_above tn_doors tn_degrees tn_neighbours tn_shows tn_oneEnd tn_otherEnd tn_told tn_strayParts tn_strayCourts)) hP hD hS hA [2] rfl (by decide +kernel)
  have hKc := hK.sub (tys' := []) [] rfl
  refine va_calli (va_runV (As := [.int p1]) (rest := []) ⟨hx, hb, hml, hown, hts⟩ (kf_X7_hasCourt l sa dC dI tn p1 tn_hours tn_courts tn_gateCount tn_people tn_lines tn_falseHours tn_strayers tn_deep tn_above tn_doors tn_degrees tn_neighbours tn_shows tn_oneEnd tn_otherEnd tn_told tn_strayParts tn_strayCourts b_tn_hours b_tn_courts b_tn_gateCount b_tn_people b_tn_falseHours b_tn_deep s.heap.size) (cwV 1 hts (z_gV zw_t3_197 zw_t3_198 zw_t3_199 zw_t1_3 zw_t3_200) rfl rfl rfl (by decide +kernel) (by rw [← hRe]; exact ⟨(Nat.le_of_ble_eq_true rfl), (Nat.le_of_ble_eq_true rfl)⟩)) (z_preV hPc hKc hDc hN hXs hS hFc (q := (RX7, TX7, 18)) (ci := 7) (q0 := 0) rfl rfl) rfl rfl hl.1 rfl (lv_room (Nat.le_of_ble_eq_true rfl)) dX9_within_10 (by rw [← hRe]; exact ⟨(Nat.le_of_ble_eq_true rfl), (Nat.le_of_ble_eq_true rfl)⟩)) hS (fun q _ h => hFc q h) hFc (fun r_1 u t H1 locs ht hvm hw hB hz1 hk1 hS => ?_)
  obtain ⟨hP, hD, hK⟩ := z_after3 (wn := (zV248 h0 tp h0_tapeLength h0_faultKind h0_faultPlace nw im sl rd wk fm mt ch dy nw nw_isKept tn nw_strayed nw_names nw_known nw_gone tn_shows cA_tn_shows f_tn_shows tn_told cA_tn_told f_tn_told tn_strayCourts cA_tn_strayCourts f_tn_strayCourts tn tn_hours tn_courts tn_gateCount tn_people tn_lines tn_falseHours tn_strayers tn_deep tn_above tn_doors tn_degrees tn_neighbours tn_shows tn_oneEnd tn_otherEnd tn_told tn_strayParts tn_strayCourts)) hB ht hvm hP hD hK [2] [0, 1, 3, 4, 5] rfl 6 rfl (by decide +kernel) rfl (by decide +kernel) hk1 hFc
  generalize H1 = H at hP hS ⊢
  have hK : va_K (dC, dI) vwCl [(cA_tn_shows, .int), (cA_tn_told, .int), (cA_tn_strayCourts, .int)] s := hK
  have b_r_1 : 0 ≤ r_1.toInt ∧ r_1.toInt ≤ 1 := hw.1
  have s_r_1 := hw.2.1
  have sf_r_1 := hw.2.2
  replace hF := hF.trans (zL_eq sf_r_1)
  refine lv_if_eq (tgt := 24) hx hb dX9_within_13 (by decide) (fun c_2 => ?_) (fun c_2 => ?_)
  · have ic_2 := zz_eq rfl (show Int32.toInt 0 = 0 from by decide) c_2
    replace hF := hF.trans (if_pos c_2)
    refine lv_bipush (v := (-2)) hx hb dX9_within_24 (by decide) ?_
    have hF : RR = (-2 : Int32) := hF
    have zc : Int32.toInt (-2) = (-2) := by decide
    exact W.iret (v := (-2)) hx hb hr (fun t ht hW => by rw [← hQe]; exact ⟨⟨(-2), (), rfl, ⟨by decide, (by rw [← hRR, hF])⟩, z_ret hP hK hD ht hW [0, 1, 5, 2, 3, 4] [] rfl (by decide) rfl⟩, hS.F ht⟩) hS.2.2 dX9_within_26
  · have ic_2 := zz_neq rfl (show Int32.toInt 0 = 0 from by decide) c_2
    replace hF := hF.trans (if_neg c_2)
    refine lv_aload_n hx hb dX9_within_16 rfl (lv_at hl 0 rfl) ?_
    refine lv_iload_n hx hb dX9_within_17 rfl (lv_at hl 3 rfl) ?_
    obtain ⟨hPc, hDc, hFc⟩ := z_cut (wc := (zV1 tn tn_hours tn_courts tn_gateCount tn_people tn_lines tn_falseHours tn_strayers tn_deep tn_above tn_doors tn_degrees tn_neighbours tn_shows tn_oneEnd tn_otherEnd tn_told tn_strayParts tn_strayCourts)) hP hD hS hA [5] rfl (by decide +kernel)
    have hKc := hK.sub (tys' := []) [] rfl
    refine va_calli (va_runV (As := [.int p2]) (rest := []) ⟨hx, hb, hml, hown, hts⟩ (kf_X7_hasHour l sa dC dI tn p2 tn_hours tn_courts tn_gateCount tn_people tn_lines tn_falseHours tn_strayers tn_deep tn_above tn_doors tn_degrees tn_neighbours tn_shows tn_oneEnd tn_otherEnd tn_told tn_strayParts tn_strayCourts b_tn_hours b_tn_courts b_tn_gateCount b_tn_people b_tn_falseHours b_tn_deep H.size) (cwV 1 hts (z_gV zw_t3_185 zw_t3_186 zw_t3_187 zw_t1_3 zw_t3_188) rfl rfl rfl (by decide +kernel) (by rw [← hRe]; exact ⟨(Nat.le_of_ble_eq_true rfl), (Nat.le_of_ble_eq_true rfl)⟩)) (z_preV hPc hKc hDc hN hXs hS hFc (q := (RX7, TX7, 18)) (ci := 7) (q0 := 0) rfl rfl) rfl rfl hl.1 rfl (lv_room (Nat.le_of_ble_eq_true rfl)) dX9_within_18 (by rw [← hRe]; exact ⟨(Nat.le_of_ble_eq_true rfl), (Nat.le_of_ble_eq_true rfl)⟩)) hS (fun q _ h => hFc q h) hFc (fun r_3 u t H1 locs ht hvm hw hB hz1 hk1 hS => ?_)
    obtain ⟨hP, hD, hK⟩ := z_after3 (wn := (zV248 h0 tp h0_tapeLength h0_faultKind h0_faultPlace nw im sl rd wk fm mt ch dy nw nw_isKept tn nw_strayed nw_names nw_known nw_gone tn_shows cA_tn_shows f_tn_shows tn_told cA_tn_told f_tn_told tn_strayCourts cA_tn_strayCourts f_tn_strayCourts tn tn_hours tn_courts tn_gateCount tn_people tn_lines tn_falseHours tn_strayers tn_deep tn_above tn_doors tn_degrees tn_neighbours tn_shows tn_oneEnd tn_otherEnd tn_told tn_strayParts tn_strayCourts)) hB ht hvm hP hD hK [5] [0, 1, 2, 3, 4] rfl 6 rfl (by decide +kernel) rfl (by decide +kernel) hk1 hFc
    generalize H1 = H at hP hS ⊢
    have hK : va_K (dC, dI) vwCl [(cA_tn_shows, .int), (cA_tn_told, .int), (cA_tn_strayCourts, .int)] s := hK
    have b_r_3 : 0 ≤ r_3.toInt ∧ r_3.toInt ≤ 1 := hw.1
    have s_r_3 := hw.2.1
    have sf_r_3 := hw.2.2
    replace hF := hF.trans (zL_eq sf_r_3)
    refine lv_if_ne (tgt := 27) hx hb dX9_within_21 (by decide) (fun c_4 => ?_) (fun c_4 => ?_)
    · have ic_4 := zz_ne rfl (show Int32.toInt 0 = 0 from by decide) c_4
      replace hF := hF.trans (if_neg c_4)
      refine lv_aload_n hx hb dX9_within_27 rfl (lv_at hl 0 rfl) ?_
      refine lv_iload_n hx hb dX9_within_28 rfl (lv_at hl 2 rfl) ?_
      refine lv_iload_n hx hb dX9_within_29 rfl (lv_at hl 3 rfl) ?_
      refine lv_aload_n hx hb dX9_within_30 rfl (lv_at hl 1 rfl) ?_
      refine va_get (D := (dC, dI)) (ci := 9) (v := .ref nw) (C := RX9) (T := TX9) (N := 13) hx hb hts zl_X9 hown hK hP 0 rfl rfl 4 (by decide) (hts _ zw_t2_193) (fun _ h9 => h9) rfl dX9_within_31 ?_
      refine va_get (D := (dC, dI)) (ci := 3) (v := .int nw_strayed) (C := RX3) (T := TX3) (N := 6) hx hb hts zl_X3 hown hK hP 1 rfl rfl 2 (by decide) (hts _ zw_t1_159) (fun _ h9 => h9) rfl dX9_within_34 ?_
      obtain ⟨hPc, hDc, hFc⟩ := z_cut (wc := (zV3 tn tn_hours tn_courts tn_gateCount tn_people tn_lines tn_falseHours tn_strayers tn_deep tn_above tn_doors tn_degrees tn_neighbours tn_shows tn_oneEnd tn_otherEnd tn_told tn_strayParts tn_strayCourts tn_shows cA_tn_shows f_tn_shows tn_told cA_tn_told f_tn_told tn_strayCourts cA_tn_strayCourts f_tn_strayCourts)) hP hD hS hA [5, 2, 3, 4] rfl (by decide +kernel)
      have hKc := hK.sub (tys' := [(cA_tn_shows, .int), (cA_tn_told, .int), (cA_tn_strayCourts, .int)]) [0, 1, 2] rfl
      refine va_calli (va_runV (As := [.int p1, .int p2, .int nw_strayed]) (rest := []) ⟨hx, hb, hml, hown, hts⟩ (kf_X7_inside l sa dC dI tn p1 p2 nw_strayed tn_hours tn_courts tn_gateCount tn_people tn_lines tn_falseHours tn_strayers tn_deep tn_above tn_doors tn_degrees tn_neighbours tn_shows tn_oneEnd tn_otherEnd tn_told tn_strayParts tn_strayCourts cA_tn_shows f_tn_shows cA_tn_told f_tn_told cA_tn_strayCourts f_tn_strayCourts (by first | with_reducible assumption | omega) b_tn_hours b_tn_courts b_tn_gateCount b_tn_people b_tn_falseHours b_tn_deep b_f_tn_told b_f_tn_strayCourts H.size) (cwV 3 hts (z_gV zw_t3_201 zw_t3_202 zw_t3_203 zw_t1_3 zw_t3_204) rfl rfl rfl (by decide +kernel) (by rw [← hRe]; exact ⟨(Nat.le_of_ble_eq_true rfl), (Nat.le_of_ble_eq_true rfl)⟩)) (z_preV hPc hKc hDc hN hXs hS hFc (q := (RX7, TX7, 18)) (ci := 7) (q0 := 0) rfl rfl) rfl rfl hl.1 rfl (lv_room (Nat.le_of_ble_eq_true rfl)) dX9_within_37 (by rw [← hRe]; exact ⟨(Nat.le_of_ble_eq_true rfl), (Nat.le_of_ble_eq_true rfl)⟩)) hS (fun q _ h => hFc q h) hFc (fun r_5 u t H1 locs ht hvm hw hB hz1 hk1 hS => ?_)
      obtain ⟨hP, hD, hK⟩ := z_after3 (wn := (zV247 h0 tp h0_tapeLength h0_faultKind h0_faultPlace nw im sl rd wk fm mt ch dy nw nw_isKept tn nw_strayed nw_names nw_known nw_gone tn tn_hours tn_courts tn_gateCount tn_people tn_lines tn_falseHours tn_strayers tn_deep tn_above tn_doors tn_degrees tn_neighbours tn_shows tn_oneEnd tn_otherEnd tn_told tn_strayParts tn_strayCourts tn_shows cA_tn_shows f_tn_shows tn_told cA_tn_told f_tn_told tn_strayCourts cA_tn_strayCourts f_tn_strayCourts)) hB ht hvm hP hD hK [5, 2, 3, 4] [0, 1] rfl 6 rfl (by decide +kernel) rfl (by decide +kernel) hk1 hFc
      generalize H1 = H at hP hS ⊢
      have hK : va_K (dC, dI) vwCl [(cA_tn_shows, .int), (cA_tn_told, .int), (cA_tn_strayCourts, .int)] s := hK
      have b_r_5 : 0 ≤ r_5.toInt ∧ r_5.toInt ≤ 1023 := hw.1
      have sf_r_5 := hw.2
      replace hF := hF.trans (zL_eq sf_r_5)
      have hF : RR = r_5 := hF
      exact W.iret (v := r_5) hx hb hr (fun t ht hW => by rw [← hQe]; exact ⟨⟨r_5, (), rfl, ⟨by omega, (by rw [← hRR, hF])⟩, z_ret hP hK hD ht hW [0, 1, 2, 3, 4, 5] [] rfl (by decide) rfl⟩, hS.F ht⟩) hS.2.2 dX9_within_40
    · have ic_4 := zz_nne rfl (show Int32.toInt 0 = 0 from by decide) c_4
      replace hF := hF.trans (if_pos c_4)
      refine lv_bipush (v := (-2)) hx hb dX9_within_24 (by decide) ?_
      have hF : RR = (-2 : Int32) := hF
      have zc : Int32.toInt (-2) = (-2) := by decide
      exact W.iret (v := (-2)) hx hb hr (fun t ht hW => by rw [← hQe]; exact ⟨⟨(-2), (), rfl, ⟨by decide, (by rw [← hRR, hF])⟩, z_ret hP hK hD ht hW [0, 1, 5, 2, 3, 4] [] rfl (by decide) rfl⟩, hS.F ht⟩) hS.2.2 dX9_within_26
set_option maxHeartbeats 4000000 in
set_option maxRecDepth 100000 in
theorem kf_X9_depth (l : Launch) (sa : Nat → Nat) (dC : Nat → ClassId) (dI : Nat → Nat → Nat) (h0 : Nat) (p1 : Int32) (tp : Nat) (h0_tapeLength : Int32) (h0_faultKind : Int32) (h0_faultPlace : Int32) (nw : Nat) (im : Nat) (sl : Nat) (rd : Nat) (wk : Nat) (fm : Nat) (mt : Nat) (ch : Nat) (dy : Nat) (nw_isKept : Int32) (tn : Nat) (nw_strayed : Int32) (nw_names : Int32) (nw_known : Int32) (nw_gone : Int32) (tn_hours : Int32) (tn_courts : Int32) (tn_gateCount : Int32) (tn_people : Int32) (tn_lines : Int32) (tn_falseHours : Int32) (tn_strayers : Int32) (tn_deep : Int32) (tn_above : Nat) (tn_doors : Nat) (tn_degrees : Nat) (tn_neighbours : Nat) (tn_shows : Nat) (tn_oneEnd : Nat) (tn_otherEnd : Nat) (tn_told : Nat) (tn_strayParts : Nat) (tn_strayCourts : Nat) (cA_tn_above : ClassId) (f_tn_above : Nat → Int32) (b_h0_tapeLength : 0 ≤ h0_tapeLength.toInt ∧ h0_tapeLength.toInt ≤ 1600) (b_nw_isKept : 0 ≤ nw_isKept.toInt ∧ nw_isKept.toInt ≤ 1) (b_nw_names : 0 ≤ nw_names.toInt ∧ nw_names.toInt ≤ 1023) (b_tn_hours : 0 ≤ tn_hours.toInt ∧ tn_hours.toInt ≤ 48) (b_tn_courts : 0 ≤ tn_courts.toInt ∧ tn_courts.toInt ≤ 10) (b_tn_gateCount : 0 ≤ tn_gateCount.toInt ∧ tn_gateCount.toInt ≤ 16) (b_tn_people : 0 ≤ tn_people.toInt ∧ tn_people.toInt ≤ 10) (b_tn_falseHours : 0 ≤ tn_falseHours.toInt ∧ tn_falseHours.toInt ≤ 9) (b_tn_deep : 0 ≤ tn_deep.toInt ∧ tn_deep.toInt ≤ 1) (sz : Nat) : Met l yX9_depth (.code yX9_depth cX9_depth 2 (some .int) :: zT) ({ frames := 1, cells := 0, slots := 0, locals := 21 }) (va_Pc [.ref h0, .int p1] (zB sa dC dI (zV249 h0 tp h0_tapeLength h0_faultKind h0_faultPlace nw im sl rd wk fm mt ch dy nw nw_isKept tn nw_strayed nw_names nw_known nw_gone tn tn_hours tn_courts tn_gateCount tn_people tn_lines tn_falseHours tn_strayers tn_deep tn_above tn_doors tn_degrees tn_neighbours tn_shows tn_oneEnd tn_otherEnd tn_told tn_strayParts tn_strayCourts tn_above cA_tn_above f_tn_above) [(cA_tn_above, .int)] sz)) (va_Qi (fun (r : Int32) (_ : Unit) => ((-2) ≤ r.toInt ∧ r.toInt ≤ 63) ∧ r = (F_X9_depth p1 tn_courts f_tn_above)) (fun _ t => zW dC dI (zV249 h0 tp h0_tapeLength h0_faultKind h0_faultPlace nw im sl rd wk fm mt ch dy nw nw_isKept tn nw_strayed nw_names nw_known nw_gone tn tn_hours tn_courts tn_gateCount tn_people tn_lines tn_falseHours tn_strayers tn_deep tn_above tn_doors tn_degrees tn_neighbours tn_shows tn_oneEnd tn_otherEnd tn_told tn_strayParts tn_strayCourts tn_above cA_tn_above f_tn_above) [] (va_A (zV249 h0 tp h0_tapeLength h0_faultKind h0_faultPlace nw im sl rd wk fm mt ch dy nw nw_isKept tn nw_strayed nw_names nw_known nw_gone tn tn_hours tn_courts tn_gateCount tn_people tn_lines tn_falseHours tn_strayers tn_deep tn_above tn_doors tn_degrees tn_neighbours tn_shows tn_oneEnd tn_otherEnd tn_told tn_strayParts tn_strayCourts tn_above cA_tn_above f_tn_above) sz) t) (va_A (zV249 h0 tp h0_tapeLength h0_faultKind h0_faultPlace nw im sl rd wk fm mt ch dy nw nw_isKept tn nw_strayed nw_names nw_known nw_gone tn tn_hours tn_courts tn_gateCount tn_people tn_lines tn_falseHours tn_strayers tn_deep tn_above tn_doors tn_degrees tn_neighbours tn_shows tn_oneEnd tn_otherEnd tn_told tn_strayParts tn_strayCourts tn_above cA_tn_above f_tn_above) sz)) 0 0 (va_A (zV249 h0 tp h0_tapeLength h0_faultKind h0_faultPlace nw im sl rd wk fm mt ch dy nw nw_isKept tn nw_strayed nw_names nw_known nw_gone tn tn_hours tn_courts tn_gateCount tn_people tn_lines tn_falseHours tn_strayers tn_deep tn_above tn_doors tn_degrees tn_neighbours tn_shows tn_oneEnd tn_otherEnd tn_told tn_strayParts tn_strayCourts tn_above cA_tn_above f_tn_above) sz) := by
  refine z_enter (by decide) (by exact (Nat.le_of_ble_eq_true rfl)) ?_
  intro p e s m args below meth c ls A R Qc hargs hsz hQe hAe hRe hx hb hml hr hts hown hlocks hin hl hP hK hD hN hXs hA hS
  rw [hAe] at hQe
  have hown : s.vm.findClass RX9 = some m.cls := hown
  have hl : lv_has ls 2 [(0, .ref h0), (1, .int p1)] := hl
  obtain ⟨RR, hRR⟩ : ∃ z : Int32, z = (F_X9_depth p1 tn_courts f_tn_above) := ⟨_, rfl⟩
  have hF : RR = (F_X9_depth p1 tn_courts f_tn_above) := hRR
  refine lv_aload_n hx hb dX9_depth_0 rfl (lv_at hl 0 rfl) ?_
  refine va_get (D := (dC, dI)) (ci := 9) (v := .ref nw) (C := RX9) (T := TX9) (N := 13) hx hb hts zl_X9 hown hK hP 0 rfl rfl 4 (by decide) (hts _ zw_t2_193) (fun _ h9 => h9) rfl dX9_depth_1 ?_
  refine va_get (D := (dC, dI)) (ci := 3) (v := .ref tn) (C := RX3) (T := TX3) (N := 6) hx hb hts zl_X3 hown hK hP 1 rfl rfl 1 (by decide) (hts _ zw_t1_156) (fun _ h9 => h9) rfl dX9_depth_4 ?_
  refine lv_iload_n hx hb dX9_depth_7 rfl (lv_at hl 1 rfl) ?_
  obtain ⟨hPc, hDc, hFc⟩ := z_cut (wc := (zV1 tn tn_hours tn_courts tn_gateCount tn_people tn_lines tn_falseHours tn_strayers tn_deep tn_above tn_doors tn_degrees tn_neighbours tn_shows tn_oneEnd tn_otherEnd tn_told tn_strayParts tn_strayCourts)) hP hD hS hA [2] rfl (by decide +kernel)
  have hKc := hK.sub (tys' := []) [] rfl
  refine va_calli (va_runV (As := [.int p1]) (rest := []) ⟨hx, hb, hml, hown, hts⟩ (kf_X7_hasCourt l sa dC dI tn p1 tn_hours tn_courts tn_gateCount tn_people tn_lines tn_falseHours tn_strayers tn_deep tn_above tn_doors tn_degrees tn_neighbours tn_shows tn_oneEnd tn_otherEnd tn_told tn_strayParts tn_strayCourts b_tn_hours b_tn_courts b_tn_gateCount b_tn_people b_tn_falseHours b_tn_deep s.heap.size) (cwV 1 hts (z_gV zw_t3_197 zw_t3_198 zw_t3_199 zw_t1_3 zw_t3_200) rfl rfl rfl (by decide +kernel) (by rw [← hRe]; exact ⟨(Nat.le_of_ble_eq_true rfl), (Nat.le_of_ble_eq_true rfl)⟩)) (z_preV hPc hKc hDc hN hXs hS hFc (q := (RX7, TX7, 18)) (ci := 7) (q0 := 0) rfl rfl) rfl rfl hl.1 rfl (lv_room (Nat.le_of_ble_eq_true rfl)) dX9_depth_8 (by rw [← hRe]; exact ⟨(Nat.le_of_ble_eq_true rfl), (Nat.le_of_ble_eq_true rfl)⟩)) hS (fun q _ h => hFc q h) hFc (fun r_1 u t H1 locs ht hvm hw hB hz1 hk1 hS => ?_)
  obtain ⟨hP, hD, hK⟩ := z_after3 (wn := (zV250 h0 tp h0_tapeLength h0_faultKind h0_faultPlace nw im sl rd wk fm mt ch dy nw nw_isKept tn nw_strayed nw_names nw_known nw_gone tn_above cA_tn_above f_tn_above tn tn_hours tn_courts tn_gateCount tn_people tn_lines tn_falseHours tn_strayers tn_deep tn_above tn_doors tn_degrees tn_neighbours tn_shows tn_oneEnd tn_otherEnd tn_told tn_strayParts tn_strayCourts)) hB ht hvm hP hD hK [2] [0, 1, 3] rfl 4 rfl (by decide +kernel) rfl (by decide +kernel) hk1 hFc
  generalize H1 = H at hP hS ⊢
  have hK : va_K (dC, dI) vwCl [(cA_tn_above, .int)] s := hK
  have b_r_1 : 0 ≤ r_1.toInt ∧ r_1.toInt ≤ 1 := hw.1
  have s_r_1 := hw.2.1
  have sf_r_1 := hw.2.2
  replace hF := hF.trans (zL_eq sf_r_1)
  refine lv_if_eq (tgt := 32) hx hb dX9_depth_11 (by decide) (fun c_2 => ?_) (fun c_2 => ?_)
  · have ic_2 := zz_eq rfl (show Int32.toInt 0 = 0 from by decide) c_2
    replace hF := hF.trans (if_pos c_2)
    refine lv_bipush (v := (-2)) hx hb dX9_depth_32 (by decide) ?_
    have hF : RR = (-2 : Int32) := hF
    have zc : Int32.toInt (-2) = (-2) := by decide
    exact W.iret (v := (-2)) hx hb hr (fun t ht hW => by rw [← hQe]; exact ⟨⟨(-2), (), rfl, ⟨by decide, (by rw [← hRR, hF])⟩, z_ret hP hK hD ht hW [0, 1, 3, 2] [] rfl (by decide) rfl⟩, hS.F ht⟩) hS.2.2 dX9_depth_34
  · have ic_2 := zz_neq rfl (show Int32.toInt 0 = 0 from by decide) c_2
    replace hF := hF.trans (if_neg c_2)
    refine lv_aload_n hx hb dX9_depth_14 rfl (lv_at hl 0 rfl) ?_
    refine va_get (D := (dC, dI)) (ci := 9) (v := .ref nw) (C := RX9) (T := TX9) (N := 13) hx hb hts zl_X9 hown hK hP 0 rfl rfl 4 (by decide) (hts _ zw_t2_193) (fun _ h9 => h9) rfl dX9_depth_15 ?_
    refine va_get (D := (dC, dI)) (ci := 3) (v := .ref tn) (C := RX3) (T := TX3) (N := 6) hx hb hts zl_X3 hown hK hP 1 rfl rfl 1 (by decide) (hts _ zw_t1_156) (fun _ h9 => h9) rfl dX9_depth_18 ?_
    refine va_get (D := (dC, dI)) (ci := 7) (v := .ref tn_above) (C := RX7) (T := TX7) (N := 18) hx hb hts zl_X7 hown hK hP 3 rfl rfl 8 (by decide) (hts _ zw_t1_83) (fun _ h9 => h9) rfl dX9_depth_21 ?_
    refine lv_iload_n hx hb dX9_depth_24 rfl (lv_at hl 1 rfl) ?_
    refine va_iald hx hb hK hP 2 0 rfl rfl (zi_in rfl (by first | with_reducible assumption | omega)) dX9_depth_25 ?_
    refine lv_topi (fun x_3 ex_3 => ?_)
    replace hF := hF.trans (zL_eq ex_3)
    obtain ⟨hPc, hDc, hFc⟩ := z_cut (wc := []) hP hD hS hA [] rfl (by decide +kernel)
    have hKc := hK.sub (tys' := []) [] rfl
    refine va_calli (va_runS (As := [.int x_3]) (rest := []) ⟨hx, hb, hml, hown, hts⟩ (kf_J6_bitCount_0f7a4 l sa dC dI x_3 H.size) (va_cwS 1 hts (z_gS zw_t3_215 zw_t3_216 zw_t1_17 zw_t3_217) rfl rfl rfl (by decide +kernel) (by rw [← hRe]; exact ⟨(Nat.le_of_ble_eq_true rfl), (Nat.le_of_ble_eq_true rfl)⟩)) (z_preS hPc hKc hDc hN hXs hS hFc) rfl rfl hl.1 rfl (lv_room (Nat.le_of_ble_eq_true rfl)) dX9_depth_26 (by rw [← hRe]; exact ⟨(Nat.le_of_ble_eq_true rfl), (Nat.le_of_ble_eq_true rfl)⟩)) hS (fun q _ h => hFc q h) hFc (fun r_4 u t H1 locs ht hvm hw hB hz1 hk1 hS => ?_)
    obtain ⟨hP, hD, hK⟩ := z_after3 (wn := (zV250 h0 tp h0_tapeLength h0_faultKind h0_faultPlace nw im sl rd wk fm mt ch dy nw nw_isKept tn nw_strayed nw_names nw_known nw_gone tn_above cA_tn_above f_tn_above tn tn_hours tn_courts tn_gateCount tn_people tn_lines tn_falseHours tn_strayers tn_deep tn_above tn_doors tn_degrees tn_neighbours tn_shows tn_oneEnd tn_otherEnd tn_told tn_strayParts tn_strayCourts)) hB ht hvm hP hD hK [] [0, 1, 2, 3] rfl 4 rfl (by decide +kernel) rfl (by decide +kernel) hk1 hFc
    generalize H1 = H at hP hS ⊢
    have hK : va_K (dC, dI) vwCl [(cA_tn_above, .int)] s := hK
    have b_r_4 : 0 ≤ r_4.toInt ∧ r_4.toInt ≤ 63 := hw.1
    have sf_r_4 := hw.2
    replace hF := hF.trans (zL_eq sf_r_4)
    refine lv_goto (tgt := 34) hx hb dX9_depth_29 (by decide) ?_
    have hF : RR = r_4 := hF
    exact W.iret (v := r_4) hx hb hr (fun t ht hW => by rw [← hQe]; exact ⟨⟨r_4, (), rfl, ⟨by omega, (by rw [← hRR, hF])⟩, z_ret hP hK hD ht hW [0, 1, 3, 2] [] rfl (by decide) rfl⟩, hS.F ht⟩) hS.2.2 dX9_depth_34
