set_option linter.all false
set_option maxHeartbeats 4000000 in
set_option maxRecDepth 100000 in
theorem kf_X7_hasCourt (l : Launch) (sa : Nat → Nat) (dC : Nat → ClassId) (dI : Nat → Nat → Nat) (tn : Nat) (p1 : Int32) (tn_hours : Int32) (tn_courts : Int32) (tn_gateCount : Int32) (tn_people : Int32) (tn_lines : Int32) (tn_falseHours : Int32) (tn_strayers : Int32) (tn_deep : Int32) (tn_above : Nat) (tn_doors : Nat) (tn_degrees : Nat) (tn_neighbours : Nat) (tn_shows : Nat) (tn_oneEnd : Nat) (tn_otherEnd : Nat) (tn_told : Nat) (tn_strayParts : Nat) (tn_strayCourts : Nat) (b_tn_hours : 0 ≤ tn_hours.toInt ∧ tn_hours.toInt ≤ 48) (b_tn_courts : 0 ≤ tn_courts.toInt ∧ tn_courts.toInt ≤ 10) (b_tn_gateCount : 0 ≤ tn_gateCount.toInt ∧ tn_gateCount.toInt ≤ 16) (b_tn_people : 0 ≤ tn_people.toInt ∧ tn_people.toInt ≤ 10) (b_tn_falseHours : 0 ≤ tn_falseHours.toInt ∧ tn_falseHours.toInt ≤ 9) (b_tn_deep : 0 ≤ tn_deep.toInt ∧ tn_deep.toInt ≤ 1) (sz : Nat) : Met l yX7_hasCourt (.code yX7_hasCourt cX7_hasCourt 2 (some .boolean) :: zT) ({ frames := 0, cells := 0, slots := 0, locals := 0 }) (va_Pc [.ref tn, .int p1] (zB sa dC dI [(tn, .inr (7, [.int tn_hours, .int tn_courts, .int tn_gateCount, .int tn_people, .int tn_lines, .int tn_falseHours, .int tn_strayers, .int tn_deep, .ref tn_above, .ref tn_doors, .ref tn_degrees, .ref tn_neighbours, .ref tn_shows, .ref tn_oneEnd, .ref tn_otherEnd, .ref tn_told, .ref tn_strayParts, .ref tn_strayCourts]))] [] sz)) (va_Qi (fun (r : Int32) (_ : Unit) => (0 ≤ r.toInt ∧ r.toInt ≤ 1) ∧ (r.toInt = 0 ∨ (0 ≤ p1.toInt ∧ p1.toInt ≤ 9)) ∧ r = (F_X7_hasCourt p1 tn_courts)) (fun _ t => zW dC dI [(tn, .inr (7, [.int tn_hours, .int tn_courts, .int tn_gateCount, .int tn_people, .int tn_lines, .int tn_falseHours, .int tn_strayers, .int tn_deep, .ref tn_above, .ref tn_doors, .ref tn_degrees, .ref tn_neighbours, .ref tn_shows, .ref tn_oneEnd, .ref tn_otherEnd, .ref tn_told, .ref tn_strayParts, .ref tn_strayCourts]))] [] (va_A [(tn, .inr (7, [.int tn_hours, .int tn_courts, .int tn_gateCount, .int tn_people, .int tn_lines, .int tn_falseHours, .int tn_strayers, .int tn_deep, .ref tn_above, .ref tn_doors, .ref tn_degrees, .ref tn_neighbours, .ref tn_shows, .ref tn_oneEnd, .ref tn_otherEnd, .ref tn_told, .ref tn_strayParts, .ref tn_strayCourts]))] sz) t) (va_A [(tn, .inr (7, [.int tn_hours, .int tn_courts, .int tn_gateCount, .int tn_people, .int tn_lines, .int tn_falseHours, .int tn_strayers, .int tn_deep, .ref tn_above, .ref tn_doors, .ref tn_degrees, .ref tn_neighbours, .ref tn_shows, .ref tn_oneEnd, .ref tn_otherEnd, .ref tn_told, .ref tn_strayParts, .ref tn_strayCourts]))] sz)) 0 0 (va_A [(tn, .inr (7, [.int tn_hours, .int tn_courts, .int tn_gateCount, .int tn_people, .int tn_lines, .int tn_falseHours, .int tn_strayers, .int tn_deep, .ref tn_above, .ref tn_doors, .ref tn_degrees, .ref tn_neighbours, .ref tn_shows, .ref tn_oneEnd, .ref tn_otherEnd, .ref tn_told, .ref tn_strayParts, .ref tn_strayCourts]))] sz) := by
  refine z_enter (by decide) (by exact (Nat.le_of_ble_eq_true rfl)) ?_
  intro p e s m args below meth c ls A R Qc hargs hsz hQe hAe hRe hx hb hml hr hts hown hlocks hin hl hP hK hD hN hXs hA hS
  rw [hAe] at hQe
  have hown : s.vm.findClass RX7 = some m.cls := hown
  have hl : lv_has ls 2 [(0, .ref tn), (1, .int p1)] := hl
  obtain ⟨RR, hRR⟩ : ∃ z : Int32, z = (F_X7_hasCourt p1 tn_courts) := ⟨_, rfl⟩
  have hF : RR = (F_X7_hasCourt p1 tn_courts) := hRR
  refine lv_iload_n hx hb dX7_hasCourt_0 rfl (lv_at hl 1 rfl) ?_
  have nb_p1 := zi_nb p1
  refine lv_if_lt (tgt := 16) hx hb dX7_hasCourt_1 (by decide) (fun c_1 => ?_) (fun c_1 => ?_)
  · have ic_1 := zz_lt rfl (show Int32.toInt 0 = 0 from by decide) c_1
    replace hF := hF.trans (if_pos c_1)
    refine lv_iconst (v := 0) hx hb dX7_hasCourt_16 (by decide) ?_
    have hF : RR = (0 : Int32) := hF
    have zc : Int32.toInt 0 = 0 := by decide
    exact W.zret (v := 0) hx hb hr (by decide) (fun t ht hW => by rw [← hQe]; exact ⟨⟨0, (), rfl, ⟨by decide, ⟨by omega, (by rw [← hRR, hF])⟩⟩, z_ret hP hK hD ht hW [0] [] rfl (by decide) rfl⟩, hS.F ht⟩) hS.2.2 dX7_hasCourt_17
  · have ic_1 := zz_nlt rfl (show Int32.toInt 0 = 0 from by decide) c_1
    replace hF := hF.trans (if_neg c_1)
    refine lv_iload_n hx hb dX7_hasCourt_4 rfl (lv_at hl 1 rfl) ?_
    refine lv_aload_n hx hb dX7_hasCourt_5 rfl (lv_at hl 0 rfl) ?_
    refine va_get (D := (dC, dI)) (ci := 7) (v := .int tn_courts) (C := RX7) (T := TX7) (N := 18) hx hb hts zl_X7 hown hK hP 0 rfl rfl 1 (by decide) (hts _ zw_t1_47) (fun _ h9 => h9) rfl dX7_hasCourt_6 ?_
    refine lv_icmp_ge (tgt := 16) hx hb dX7_hasCourt_9 (by decide) (fun c_2 => ?_) (fun c_2 => ?_)
    · have ic_2 := zz_ge rfl rfl c_2
      replace hF := hF.trans (if_pos c_2)
      refine lv_iconst (v := 0) hx hb dX7_hasCourt_16 (by decide) ?_
      have hF : RR = (0 : Int32) := hF
      have zc : Int32.toInt 0 = 0 := by decide
      exact W.zret (v := 0) hx hb hr (by decide) (fun t ht hW => by rw [← hQe]; exact ⟨⟨0, (), rfl, ⟨by decide, ⟨by omega, (by rw [← hRR, hF])⟩⟩, z_ret hP hK hD ht hW [0] [] rfl (by decide) rfl⟩, hS.F ht⟩) hS.2.2 dX7_hasCourt_17
    · have ic_2 := zz_nge rfl rfl c_2
      replace hF := hF.trans (if_neg c_2)
      refine lv_iconst (v := 1) hx hb dX7_hasCourt_12 (by decide) ?_
      refine lv_goto (tgt := 17) hx hb dX7_hasCourt_13 (by decide) ?_
      have hF : RR = (1 : Int32) := hF
      have zc : Int32.toInt 1 = 1 := by decide
      exact W.zret (v := 1) hx hb hr (by decide) (fun t ht hW => by rw [← hQe]; exact ⟨⟨1, (), rfl, ⟨by decide, ⟨by omega, (by rw [← hRR, hF])⟩⟩, z_ret hP hK hD ht hW [0] [] rfl (by decide) rfl⟩, hS.F ht⟩) hS.2.2 dX7_hasCourt_17
set_option maxHeartbeats 4000000 in
set_option maxRecDepth 100000 in
theorem kf_X7_hasHour (l : Launch) (sa : Nat → Nat) (dC : Nat → ClassId) (dI : Nat → Nat → Nat) (tn : Nat) (p1 : Int32) (tn_hours : Int32) (tn_courts : Int32) (tn_gateCount : Int32) (tn_people : Int32) (tn_lines : Int32) (tn_falseHours : Int32) (tn_strayers : Int32) (tn_deep : Int32) (tn_above : Nat) (tn_doors : Nat) (tn_degrees : Nat) (tn_neighbours : Nat) (tn_shows : Nat) (tn_oneEnd : Nat) (tn_otherEnd : Nat) (tn_told : Nat) (tn_strayParts : Nat) (tn_strayCourts : Nat) (b_tn_hours : 0 ≤ tn_hours.toInt ∧ tn_hours.toInt ≤ 48) (b_tn_courts : 0 ≤ tn_courts.toInt ∧ tn_courts.toInt ≤ 10) (b_tn_gateCount : 0 ≤ tn_gateCount.toInt ∧ tn_gateCount.toInt ≤ 16) (b_tn_people : 0 ≤ tn_people.toInt ∧ tn_people.toInt ≤ 10) (b_tn_falseHours : 0 ≤ tn_falseHours.toInt ∧ tn_falseHours.toInt ≤ 9) (b_tn_deep : 0 ≤ tn_deep.toInt ∧ tn_deep.toInt ≤ 1) (sz : Nat) : Met l yX7_hasHour (.code yX7_hasHour cX7_hasHour 2 (some .boolean) :: zT) ({ frames := 0, cells := 0, slots := 0, locals := 0 }) (va_Pc [.ref tn, .int p1] (zB sa dC dI [(tn, .inr (7, [.int tn_hours, .int tn_courts, .int tn_gateCount, .int tn_people, .int tn_lines, .int tn_falseHours, .int tn_strayers, .int tn_deep, .ref tn_above, .ref tn_doors, .ref tn_degrees, .ref tn_neighbours, .ref tn_shows, .ref tn_oneEnd, .ref tn_otherEnd, .ref tn_told, .ref tn_strayParts, .ref tn_strayCourts]))] [] sz)) (va_Qi (fun (r : Int32) (_ : Unit) => (0 ≤ r.toInt ∧ r.toInt ≤ 1) ∧ (r.toInt = 0 ∨ (0 ≤ p1.toInt ∧ p1.toInt ≤ 47)) ∧ r = (F_X7_hasHour p1 tn_hours)) (fun _ t => zW dC dI [(tn, .inr (7, [.int tn_hours, .int tn_courts, .int tn_gateCount, .int tn_people, .int tn_lines, .int tn_falseHours, .int tn_strayers, .int tn_deep, .ref tn_above, .ref tn_doors, .ref tn_degrees, .ref tn_neighbours, .ref tn_shows, .ref tn_oneEnd, .ref tn_otherEnd, .ref tn_told, .ref tn_strayParts, .ref tn_strayCourts]))] [] (va_A [(tn, .inr (7, [.int tn_hours, .int tn_courts, .int tn_gateCount, .int tn_people, .int tn_lines, .int tn_falseHours, .int tn_strayers, .int tn_deep, .ref tn_above, .ref tn_doors, .ref tn_degrees, .ref tn_neighbours, .ref tn_shows, .ref tn_oneEnd, .ref tn_otherEnd, .ref tn_told, .ref tn_strayParts, .ref tn_strayCourts]))] sz) t) (va_A [(tn, .inr (7, [.int tn_hours, .int tn_courts, .int tn_gateCount, .int tn_people, .int tn_lines, .int tn_falseHours, .int tn_strayers, .int tn_deep, .ref tn_above, .ref tn_doors, .ref tn_degrees, .ref tn_neighbours, .ref tn_shows, .ref tn_oneEnd, .ref tn_otherEnd, .ref tn_told, .ref tn_strayParts, .ref tn_strayCourts]))] sz)) 0 0 (va_A [(tn, .inr (7, [.int tn_hours, .int tn_courts, .int tn_gateCount, .int tn_people, .int tn_lines, .int tn_falseHours, .int tn_strayers, .int tn_deep, .ref tn_above, .ref tn_doors, .ref tn_degrees, .ref tn_neighbours, .ref tn_shows, .ref tn_oneEnd, .ref tn_otherEnd, .ref tn_told, .ref tn_strayParts, .ref tn_strayCourts]))] sz) := by
  refine z_enter (by decide) (by exact (Nat.le_of_ble_eq_true rfl)) ?_
  intro p e s m args below meth c ls A R Qc hargs hsz hQe hAe hRe hx hb hml hr hts hown hlocks hin hl hP hK hD hN hXs hA hS
  rw [hAe] at hQe
  have hown : s.vm.findClass RX7 = some m.cls := hown
  have hl : lv_has ls 2 [(0, .ref tn), (1, .int p1)] := hl
  obtain ⟨RR, hRR⟩ : ∃ z : Int32, z = (F_X7_hasHour p1 tn_hours) := ⟨_, rfl⟩
  have hF : RR = (F_X7_hasHour p1 tn_hours) := hRR
  refine lv_iload_n hx hb dX7_hasHour_0 rfl (lv_at hl 1 rfl) ?_
  have nb_p1 := zi_nb p1
  refine lv_if_lt (tgt := 16) hx hb dX7_hasHour_1 (by decide) (fun c_1 => ?_) (fun c_1 => ?_)
  · have ic_1 := zz_lt rfl (show Int32.toInt 0 = 0 from by decide) c_1
    replace hF := hF.trans (if_pos c_1)
    refine lv_iconst (v := 0) hx hb dX7_hasHour_16 (by decide) ?_
    have hF : RR = (0 : Int32) := hF
    have zc : Int32.toInt 0 = 0 := by decide
    exact W.zret (v := 0) hx hb hr (by decide) (fun t ht hW => by rw [← hQe]; exact ⟨⟨0, (), rfl, ⟨by decide, ⟨by omega, (by rw [← hRR, hF])⟩⟩, z_ret hP hK hD ht hW [0] [] rfl (by decide) rfl⟩, hS.F ht⟩) hS.2.2 dX7_hasHour_17
  · have ic_1 := zz_nlt rfl (show Int32.toInt 0 = 0 from by decide) c_1
    replace hF := hF.trans (if_neg c_1)
    refine lv_iload_n hx hb dX7_hasHour_4 rfl (lv_at hl 1 rfl) ?_
    refine lv_aload_n hx hb dX7_hasHour_5 rfl (lv_at hl 0 rfl) ?_
    refine va_get (D := (dC, dI)) (ci := 7) (v := .int tn_hours) (C := RX7) (T := TX7) (N := 18) hx hb hts zl_X7 hown hK hP 0 rfl rfl 0 (by decide) (hts _ zw_t1_42) (fun _ h9 => h9) rfl dX7_hasHour_6 ?_
    refine lv_icmp_ge (tgt := 16) hx hb dX7_hasHour_9 (by decide) (fun c_2 => ?_) (fun c_2 => ?_)
    · have ic_2 := zz_ge rfl rfl c_2
      replace hF := hF.trans (if_pos c_2)
      refine lv_iconst (v := 0) hx hb dX7_hasHour_16 (by decide) ?_
      have hF : RR = (0 : Int32) := hF
      have zc : Int32.toInt 0 = 0 := by decide
      exact W.zret (v := 0) hx hb hr (by decide) (fun t ht hW => by rw [← hQe]; exact ⟨⟨0, (), rfl, ⟨by decide, ⟨by omega, (by rw [← hRR, hF])⟩⟩, z_ret hP hK hD ht hW [0] [] rfl (by decide) rfl⟩, hS.F ht⟩) hS.2.2 dX7_hasHour_17
    · have ic_2 := zz_nge rfl rfl c_2
      replace hF := hF.trans (if_neg c_2)
      refine lv_iconst (v := 1) hx hb dX7_hasHour_12 (by decide) ?_
      refine lv_goto (tgt := 17) hx hb dX7_hasHour_13 (by decide) ?_
      have hF : RR = (1 : Int32) := hF
      have zc : Int32.toInt 1 = 1 := by decide
      exact W.zret (v := 1) hx hb hr (by decide) (fun t ht hW => by rw [← hQe]; exact ⟨⟨1, (), rfl, ⟨by decide, ⟨by omega, (by rw [← hRR, hF])⟩⟩, z_ret hP hK hD ht hW [0] [] rfl (by decide) rfl⟩, hS.F ht⟩) hS.2.2 dX7_hasHour_17
set_option maxHeartbeats 4000000 in
set_option maxRecDepth 100000 in
theorem kf_X7_hasGate (l : Launch) (sa : Nat → Nat) (dC : Nat → ClassId) (dI : Nat → Nat → Nat) (tn : Nat) (p1 : Int32) (tn_hours : Int32) (tn_courts : Int32) (tn_gateCount : Int32) (tn_people : Int32) (tn_lines : Int32) (tn_falseHours : Int32) (tn_strayers : Int32) (tn_deep : Int32) (tn_above : Nat) (tn_doors : Nat) (tn_degrees : Nat) (tn_neighbours : Nat) (tn_shows : Nat) (tn_oneEnd : Nat) (tn_otherEnd : Nat) (tn_told : Nat) (tn_strayParts : Nat) (tn_strayCourts : Nat) (b_tn_hours : 0 ≤ tn_hours.toInt ∧ tn_hours.toInt ≤ 48) (b_tn_courts : 0 ≤ tn_courts.toInt ∧ tn_courts.toInt ≤ 10) (b_tn_gateCount : 0 ≤ tn_gateCount.toInt ∧ tn_gateCount.toInt ≤ 16) (b_tn_people : 0 ≤ tn_people.toInt ∧ tn_people.toInt ≤ 10) (b_tn_falseHours : 0 ≤ tn_falseHours.toInt ∧ tn_falseHours.toInt ≤ 9) (b_tn_deep : 0 ≤ tn_deep.toInt ∧ tn_deep.toInt ≤ 1) (sz : Nat) : Met l yX7_hasGate (.code yX7_hasGate cX7_hasGate 2 (some .boolean) :: zT) ({ frames := 0, cells := 0, slots := 0, locals := 0 }) (va_Pc [.ref tn, .int p1] (zB sa dC dI [(tn, .inr (7, [.int tn_hours, .int tn_courts, .int tn_gateCount, .int tn_people, .int tn_lines, .int tn_falseHours, .int tn_strayers, .int tn_deep, .ref tn_above, .ref tn_doors, .ref tn_degrees, .ref tn_neighbours, .ref tn_shows, .ref tn_oneEnd, .ref tn_otherEnd, .ref tn_told, .ref tn_strayParts, .ref tn_strayCourts]))] [] sz)) (va_Qi (fun (r : Int32) (_ : Unit) => (0 ≤ r.toInt ∧ r.toInt ≤ 1) ∧ (r.toInt = 0 ∨ (0 ≤ p1.toInt ∧ p1.toInt ≤ 15)) ∧ r = (F_X7_hasGate p1 tn_gateCount)) (fun _ t => zW dC dI [(tn, .inr (7, [.int tn_hours, .int tn_courts, .int tn_gateCount, .int tn_people, .int tn_lines, .int tn_falseHours, .int tn_strayers, .int tn_deep, .ref tn_above, .ref tn_doors, .ref tn_degrees, .ref tn_neighbours, .ref tn_shows, .ref tn_oneEnd, .ref tn_otherEnd, .ref tn_told, .ref tn_strayParts, .ref tn_strayCourts]))] [] (va_A [(tn, .inr (7, [.int tn_hours, .int tn_courts, .int tn_gateCount, .int tn_people, .int tn_lines, .int tn_falseHours, .int tn_strayers, .int tn_deep, .ref tn_above, .ref tn_doors, .ref tn_degrees, .ref tn_neighbours, .ref tn_shows, .ref tn_oneEnd, .ref tn_otherEnd, .ref tn_told, .ref tn_strayParts, .ref tn_strayCourts]))] sz) t) (va_A [(tn, .inr (7, [.int tn_hours, .int tn_courts, .int tn_gateCount, .int tn_people, .int tn_lines, .int tn_falseHours, .int tn_strayers, .int tn_deep, .ref tn_above, .ref tn_doors, .ref tn_degrees, .ref tn_neighbours, .ref tn_shows, .ref tn_oneEnd, .ref tn_otherEnd, .ref tn_told, .ref tn_strayParts, .ref tn_strayCourts]))] sz)) 0 0 (va_A [(tn, .inr (7, [.int tn_hours, .int tn_courts, .int tn_gateCount, .int tn_people, .int tn_lines, .int tn_falseHours, .int tn_strayers, .int tn_deep, .ref tn_above, .ref tn_doors, .ref tn_degrees, .ref tn_neighbours, .ref tn_shows, .ref tn_oneEnd, .ref tn_otherEnd, .ref tn_told, .ref tn_strayParts, .ref tn_strayCourts]))] sz) := by
  refine z_enter (by decide) (by exact (Nat.le_of_ble_eq_true rfl)) ?_
  intro p e s m args below meth c ls A R Qc hargs hsz hQe hAe hRe hx hb hml hr hts hown hlocks hin hl hP hK hD hN hXs hA hS
  rw [hAe] at hQe
  have hown : s.vm.findClass RX7 = some m.cls := hown
  have hl : lv_has ls 2 [(0, .ref tn), (1, .int p1)] := hl
  obtain ⟨RR, hRR⟩ : ∃ z : Int32, z = (F_X7_hasGate p1 tn_gateCount) := ⟨_, rfl⟩
  have hF : RR = (F_X7_hasGate p1 tn_gateCount) := hRR
  refine lv_iload_n hx hb dX7_hasGate_0 rfl (lv_at hl 1 rfl) ?_
  have nb_p1 := zi_nb p1
  refine lv_if_lt (tgt := 16) hx hb dX7_hasGate_1 (by decide) (fun c_1 => ?_) (fun c_1 => ?_)
  · have ic_1 := zz_lt rfl (show Int32.toInt 0 = 0 from by decide) c_1
    replace hF := hF.trans (if_pos c_1)
    refine lv_iconst (v := 0) hx hb dX7_hasGate_16 (by decide) ?_
    have hF : RR = (0 : Int32) := hF
    have zc : Int32.toInt 0 = 0 := by decide
    exact W.zret (v := 0) hx hb hr (by decide) (fun t ht hW => by rw [← hQe]; exact ⟨⟨0, (), rfl, ⟨by decide, ⟨by omega, (by rw [← hRR, hF])⟩⟩, z_ret hP hK hD ht hW [0] [] rfl (by decide) rfl⟩, hS.F ht⟩) hS.2.2 dX7_hasGate_17
  · have ic_1 := zz_nlt rfl (show Int32.toInt 0 = 0 from by decide) c_1
    replace hF := hF.trans (if_neg c_1)
    refine lv_iload_n hx hb dX7_hasGate_4 rfl (lv_at hl 1 rfl) ?_
    refine lv_aload_n hx hb dX7_hasGate_5 rfl (lv_at hl 0 rfl) ?_
    refine va_get (D := (dC, dI)) (ci := 7) (v := .int tn_gateCount) (C := RX7) (T := TX7) (N := 18) hx hb hts zl_X7 hown hK hP 0 rfl rfl 2 (by decide) (hts _ zw_t1_55) (fun _ h9 => h9) rfl dX7_hasGate_6 ?_
    refine lv_icmp_ge (tgt := 16) hx hb dX7_hasGate_9 (by decide) (fun c_2 => ?_) (fun c_2 => ?_)
    · have ic_2 := zz_ge rfl rfl c_2
      replace hF := hF.trans (if_pos c_2)
      refine lv_iconst (v := 0) hx hb dX7_hasGate_16 (by decide) ?_
      have hF : RR = (0 : Int32) := hF
      have zc : Int32.toInt 0 = 0 := by decide
      exact W.zret (v := 0) hx hb hr (by decide) (fun t ht hW => by rw [← hQe]; exact ⟨⟨0, (), rfl, ⟨by decide, ⟨by omega, (by rw [← hRR, hF])⟩⟩, z_ret hP hK hD ht hW [0] [] rfl (by decide) rfl⟩, hS.F ht⟩) hS.2.2 dX7_hasGate_17
    · have ic_2 := zz_nge rfl rfl c_2
      replace hF := hF.trans (if_neg c_2)
      refine lv_iconst (v := 1) hx hb dX7_hasGate_12 (by decide) ?_
      refine lv_goto (tgt := 17) hx hb dX7_hasGate_13 (by decide) ?_
      have hF : RR = (1 : Int32) := hF
      have zc : Int32.toInt 1 = 1 := by decide
      exact W.zret (v := 1) hx hb hr (by decide) (fun t ht hW => by rw [← hQe]; exact ⟨⟨1, (), rfl, ⟨by decide, ⟨by omega, (by rw [← hRR, hF])⟩⟩, z_ret hP hK hD ht hW [0] [] rfl (by decide) rfl⟩, hS.F ht⟩) hS.2.2 dX7_hasGate_17
set_option maxHeartbeats 4000000 in
set_option maxRecDepth 100000 in
theorem kf_X7_hasPerson (l : Launch) (sa : Nat → Nat) (dC : Nat → ClassId) (dI : Nat → Nat → Nat) (tn : Nat) (p1 : Int32) (tn_hours : Int32) (tn_courts : Int32) (tn_gateCount : Int32) (tn_people : Int32) (tn_lines : Int32) (tn_falseHours : Int32) (tn_strayers : Int32) (tn_deep : Int32) (tn_above : Nat) (tn_doors : Nat) (tn_degrees : Nat) (tn_neighbours : Nat) (tn_shows : Nat) (tn_oneEnd : Nat) (tn_otherEnd : Nat) (tn_told : Nat) (tn_strayParts : Nat) (tn_strayCourts : Nat) (b_tn_hours : 0 ≤ tn_hours.toInt ∧ tn_hours.toInt ≤ 48) (b_tn_courts : 0 ≤ tn_courts.toInt ∧ tn_courts.toInt ≤ 10) (b_tn_gateCount : 0 ≤ tn_gateCount.toInt ∧ tn_gateCount.toInt ≤ 16) (b_tn_people : 0 ≤ tn_people.toInt ∧ tn_people.toInt ≤ 10) (b_tn_falseHours : 0 ≤ tn_falseHours.toInt ∧ tn_falseHours.toInt ≤ 9) (b_tn_deep : 0 ≤ tn_deep.toInt ∧ tn_deep.toInt ≤ 1) (sz : Nat) : Met l yX7_hasPerson (.code yX7_hasPerson cX7_hasPerson 2 (some .boolean) :: zT) ({ frames := 0, cells := 0, slots := 0, locals := 0 }) (va_Pc [.ref tn, .int p1] (zB sa dC dI [(tn, .inr (7, [.int tn_hours, .int tn_courts, .int tn_gateCount, .int tn_people, .int tn_lines, .int tn_falseHours, .int tn_strayers, .int tn_deep, .ref tn_above, .ref tn_doors, .ref tn_degrees, .ref tn_neighbours, .ref tn_shows, .ref tn_oneEnd, .ref tn_otherEnd, .ref tn_told, .ref tn_strayParts, .ref tn_strayCourts]))] [] sz)) (va_Qi (fun (r : Int32) (_ : Unit) => (0 ≤ r.toInt ∧ r.toInt ≤ 1) ∧ (r.toInt = 0 ∨ (0 ≤ p1.toInt ∧ p1.toInt ≤ 9)) ∧ r = (F_X7_hasPerson p1 tn_people)) (fun _ t => zW dC dI [(tn, .inr (7, [.int tn_hours, .int tn_courts, .int tn_gateCount, .int tn_people, .int tn_lines, .int tn_falseHours, .int tn_strayers, .int tn_deep, .ref tn_above, .ref tn_doors, .ref tn_degrees, .ref tn_neighbours, .ref tn_shows, .ref tn_oneEnd, .ref tn_otherEnd, .ref tn_told, .ref tn_strayParts, .ref tn_strayCourts]))] [] (va_A [(tn, .inr (7, [.int tn_hours, .int tn_courts, .int tn_gateCount, .int tn_people, .int tn_lines, .int tn_falseHours, .int tn_strayers, .int tn_deep, .ref tn_above, .ref tn_doors, .ref tn_degrees, .ref tn_neighbours, .ref tn_shows, .ref tn_oneEnd, .ref tn_otherEnd, .ref tn_told, .ref tn_strayParts, .ref tn_strayCourts]))] sz) t) (va_A [(tn, .inr (7, [.int tn_hours, .int tn_courts, .int tn_gateCount, .int tn_people, .int tn_lines, .int tn_falseHours, .int tn_strayers, .int tn_deep, .ref tn_above, .ref tn_doors, .ref tn_degrees, .ref tn_neighbours, .ref tn_shows, .ref tn_oneEnd, .ref tn_otherEnd, .ref tn_told, .ref tn_strayParts, .ref tn_strayCourts]))] sz)) 0 0 (va_A [(tn, .inr (7, [.int tn_hours, .int tn_courts, .int tn_gateCount, .int tn_people, .int tn_lines, .int tn_falseHours, .int tn_strayers, .int tn_deep, .ref tn_above, .ref tn_doors, .ref tn_degrees, .ref tn_neighbours, .ref tn_shows, .ref tn_oneEnd, .ref tn_otherEnd, .ref tn_told, .ref tn_strayParts, .ref tn_strayCourts]))] sz) := by
  refine z_enter (by decide) (by exact (Nat.le_of_ble_eq_true rfl)) ?_
  intro p e s m args below meth c ls A R Qc hargs hsz hQe hAe hRe hx hb hml hr hts hown hlocks hin hl hP hK hD hN hXs hA hS
  rw [hAe] at hQe
  have hown : s.vm.findClass RX7 = some m.cls := hown
  have hl : lv_has ls 2 [(0, .ref tn), (1, .int p1)] := hl
  obtain ⟨RR, hRR⟩ : ∃ z : Int32, z = (F_X7_hasPerson p1 tn_people) := ⟨_, rfl⟩
  have hF : RR = (F_X7_hasPerson p1 tn_people) := hRR
  refine lv_iload_n hx hb dX7_hasPerson_0 rfl (lv_at hl 1 rfl) ?_
  have nb_p1 := zi_nb p1
  refine lv_if_lt (tgt := 16) hx hb dX7_hasPerson_1 (by decide) (fun c_1 => ?_) (fun c_1 => ?_)
  · have ic_1 := zz_lt rfl (show Int32.toInt 0 = 0 from by decide) c_1
    replace hF := hF.trans (if_pos c_1)
    refine lv_iconst (v := 0) hx hb dX7_hasPerson_16 (by decide) ?_
    have hF : RR = (0 : Int32) := hF
    have zc : Int32.toInt 0 = 0 := by decide
    exact W.zret (v := 0) hx hb hr (by decide) (fun t ht hW => by rw [← hQe]; exact ⟨⟨0, (), rfl, ⟨by decide, ⟨by omega, (by rw [← hRR, hF])⟩⟩, z_ret hP hK hD ht hW [0] [] rfl (by decide) rfl⟩, hS.F ht⟩) hS.2.2 dX7_hasPerson_17
  · have ic_1 := zz_nlt rfl (show Int32.toInt 0 = 0 from by decide) c_1
    replace hF := hF.trans (if_neg c_1)
    refine lv_iload_n hx hb dX7_hasPerson_4 rfl (lv_at hl 1 rfl) ?_
    refine lv_aload_n hx hb dX7_hasPerson_5 rfl (lv_at hl 0 rfl) ?_
    refine va_get (D := (dC, dI)) (ci := 7) (v := .int tn_people) (C := RX7) (T := TX7) (N := 18) hx hb hts zl_X7 hown hK hP 0 rfl rfl 3 (by decide) (hts _ zw_t1_62) (fun _ h9 => h9) rfl dX7_hasPerson_6 ?_
    refine lv_icmp_ge (tgt := 16) hx hb dX7_hasPerson_9 (by decide) (fun c_2 => ?_) (fun c_2 => ?_)
    · have ic_2 := zz_ge rfl rfl c_2
      replace hF := hF.trans (if_pos c_2)
      refine lv_iconst (v := 0) hx hb dX7_hasPerson_16 (by decide) ?_
      have hF : RR = (0 : Int32) := hF
      have zc : Int32.toInt 0 = 0 := by decide
      exact W.zret (v := 0) hx hb hr (by decide) (fun t ht hW => by rw [← hQe]; exact ⟨⟨0, (), rfl, ⟨by decide, ⟨by omega, (by rw [← hRR, hF])⟩⟩, z_ret hP hK hD ht hW [0] [] rfl (by decide) rfl⟩, hS.F ht⟩) hS.2.2 dX7_hasPerson_17
    · have ic_2 := zz_nge rfl rfl c_2
      replace hF := hF.trans (if_neg c_2)
      refine lv_iconst (v := 1) hx hb dX7_hasPerson_12 (by decide) ?_
      refine lv_goto (tgt := 17) hx hb dX7_hasPerson_13 (by decide) ?_
      have hF : RR = (1 : Int32) := hF
      have zc : Int32.toInt 1 = 1 := by decide
      exact W.zret (v := 1) hx hb hr (by decide) (fun t ht hW => by rw [← hQe]; exact ⟨⟨1, (), rfl, ⟨by decide, ⟨by omega, (by rw [← hRR, hF])⟩⟩, z_ret hP hK hD ht hW [0] [] rfl (by decide) rfl⟩, hS.F ht⟩) hS.2.2 dX7_hasPerson_17
set_option maxHeartbeats 4000000 in
set_option maxRecDepth 100000 in
theorem kf_X7_hasAll (l : Launch) (sa : Nat → Nat) (dC : Nat → ClassId) (dI : Nat → Nat → Nat) (tn : Nat) (p1 : Int32) (tn_hours : Int32) (tn_courts : Int32) (tn_gateCount : Int32) (tn_people : Int32) (tn_lines : Int32) (tn_falseHours : Int32) (tn_strayers : Int32) (tn_deep : Int32) (tn_above : Nat) (tn_doors : Nat) (tn_degrees : Nat) (tn_neighbours : Nat) (tn_shows : Nat) (tn_oneEnd : Nat) (tn_otherEnd : Nat) (tn_told : Nat) (tn_strayParts : Nat) (tn_strayCourts : Nat) (b_tn_hours : 0 ≤ tn_hours.toInt ∧ tn_hours.toInt ≤ 48) (b_tn_courts : 0 ≤ tn_courts.toInt ∧ tn_courts.toInt ≤ 10) (b_tn_gateCount : 0 ≤ tn_gateCount.toInt ∧ tn_gateCount.toInt ≤ 16) (b_tn_people : 0 ≤ tn_people.toInt ∧ tn_people.toInt ≤ 10) (b_tn_falseHours : 0 ≤ tn_falseHours.toInt ∧ tn_falseHours.toInt ≤ 9) (b_tn_deep : 0 ≤ tn_deep.toInt ∧ tn_deep.toInt ≤ 1) (sz : Nat) : Met l yX7_hasAll (.code yX7_hasAll cX7_hasAll 2 (some .boolean) :: zT) ({ frames := 0, cells := 0, slots := 0, locals := 0 }) (va_Pc [.ref tn, .int p1] (zB sa dC dI [(tn, .inr (7, [.int tn_hours, .int tn_courts, .int tn_gateCount, .int tn_people, .int tn_lines, .int tn_falseHours, .int tn_strayers, .int tn_deep, .ref tn_above, .ref tn_doors, .ref tn_degrees, .ref tn_neighbours, .ref tn_shows, .ref tn_oneEnd, .ref tn_otherEnd, .ref tn_told, .ref tn_strayParts, .ref tn_strayCourts]))] [] sz)) (va_Qi (fun (r : Int32) (_ : Unit) => (0 ≤ r.toInt ∧ r.toInt ≤ 1) ∧ (r.toInt = 0 ∨ (0 ≤ p1.toInt ∧ p1.toInt ≤ 1023)) ∧ r = (F_X7_hasAll p1 tn_people)) (fun _ t => zW dC dI [(tn, .inr (7, [.int tn_hours, .int tn_courts, .int tn_gateCount, .int tn_people, .int tn_lines, .int tn_falseHours, .int tn_strayers, .int tn_deep, .ref tn_above, .ref tn_doors, .ref tn_degrees, .ref tn_neighbours, .ref tn_shows, .ref tn_oneEnd, .ref tn_otherEnd, .ref tn_told, .ref tn_strayParts, .ref tn_strayCourts]))] [] (va_A [(tn, .inr (7, [.int tn_hours, .int tn_courts, .int tn_gateCount, .int tn_people, .int tn_lines, .int tn_falseHours, .int tn_strayers, .int tn_deep, .ref tn_above, .ref tn_doors, .ref tn_degrees, .ref tn_neighbours, .ref tn_shows, .ref tn_oneEnd, .ref tn_otherEnd, .ref tn_told, .ref tn_strayParts, .ref tn_strayCourts]))] sz) t) (va_A [(tn, .inr (7, [.int tn_hours, .int tn_courts, .int tn_gateCount, .int tn_people, .int tn_lines, .int tn_falseHours, .int tn_strayers, .int tn_deep, .ref tn_above, .ref tn_doors, .ref tn_degrees, .ref tn_neighbours, .ref tn_shows, .ref tn_oneEnd, .ref tn_otherEnd, .ref tn_told, .ref tn_strayParts, .ref tn_strayCourts]))] sz)) 0 0 (va_A [(tn, .inr (7, [.int tn_hours, .int tn_courts, .int tn_gateCount, .int tn_people, .int tn_lines, .int tn_falseHours, .int tn_strayers, .int tn_deep, .ref tn_above, .ref tn_doors, .ref tn_degrees, .ref tn_neighbours, .ref tn_shows, .ref tn_oneEnd, .ref tn_otherEnd, .ref tn_told, .ref tn_strayParts, .ref tn_strayCourts]))] sz) := by
  refine z_enter (by decide) (by exact (Nat.le_of_ble_eq_true rfl)) ?_
  intro p e s m args below meth c ls A R Qc hargs hsz hQe hAe hRe hx hb hml hr hts hown hlocks hin hl hP hK hD hN hXs hA hS
  rw [hAe] at hQe
  have hown : s.vm.findClass RX7 = some m.cls := hown
  have hl : lv_has ls 2 [(0, .ref tn), (1, .int p1)] := hl
  obtain ⟨RR, hRR⟩ : ∃ z : Int32, z = (F_X7_hasAll p1 tn_people) := ⟨_, rfl⟩
  have hF : RR = (F_X7_hasAll p1 tn_people) := hRR
  refine lv_iload_n hx hb dX7_hasAll_0 rfl (lv_at hl 1 rfl) ?_
  have nb_p1 := zi_nb p1
  refine lv_if_lt (tgt := 18) hx hb dX7_hasAll_1 (by decide) (fun c_1 => ?_) (fun c_1 => ?_)
  · have ic_1 := zz_lt rfl (show Int32.toInt 0 = 0 from by decide) c_1
    replace hF := hF.trans (if_pos c_1)
    refine lv_iconst (v := 0) hx hb dX7_hasAll_18 (by decide) ?_
    have hF : RR = (0 : Int32) := hF
    have zc : Int32.toInt 0 = 0 := by decide
    exact W.zret (v := 0) hx hb hr (by decide) (fun t ht hW => by rw [← hQe]; exact ⟨⟨0, (), rfl, ⟨by decide, ⟨by omega, (by rw [← hRR, hF])⟩⟩, z_ret hP hK hD ht hW [0] [] rfl (by decide) rfl⟩, hS.F ht⟩) hS.2.2 dX7_hasAll_19
  · have ic_1 := zz_nlt rfl (show Int32.toInt 0 = 0 from by decide) c_1
    replace hF := hF.trans (if_neg c_1)
    refine lv_iload_n hx hb dX7_hasAll_4 rfl (lv_at hl 1 rfl) ?_
    refine lv_iconst (v := 1) hx hb dX7_hasAll_5 (by decide) ?_
    refine lv_aload_n hx hb dX7_hasAll_6 rfl (lv_at hl 0 rfl) ?_
    refine va_get (D := (dC, dI)) (ci := 7) (v := .int tn_people) (C := RX7) (T := TX7) (N := 18) hx hb hts zl_X7 hown hK hP 0 rfl rfl 3 (by decide) (hts _ zw_t1_62) (fun _ h9 => h9) rfl dX7_hasAll_7 ?_
    refine lv_ishl hx hb dX7_hasAll_10 ?_
    refine lv_topi (fun x_2 ex_2 => ?_)
    replace hF := hF.trans (zL_eq ex_2)
    have b_x_2 : 1 ≤ x_2.toInt ∧ x_2.toInt ≤ 1024 := by rw [ex_2]; exact zi_shl1 rfl (by first | with_reducible assumption | omega)
    refine lv_icmp_ge (tgt := 18) hx hb dX7_hasAll_11 (by decide) (fun c_3 => ?_) (fun c_3 => ?_)
    · have ic_3 := zz_ge rfl rfl c_3
      replace hF := hF.trans (if_pos c_3)
      refine lv_iconst (v := 0) hx hb dX7_hasAll_18 (by decide) ?_
      have hF : RR = (0 : Int32) := hF
      have zc : Int32.toInt 0 = 0 := by decide
      exact W.zret (v := 0) hx hb hr (by decide) (fun t ht hW => by rw [← hQe]; exact ⟨⟨0, (), rfl, ⟨by decide, ⟨by omega, (by rw [← hRR, hF])⟩⟩, z_ret hP hK hD ht hW [0] [] rfl (by decide) rfl⟩, hS.F ht⟩) hS.2.2 dX7_hasAll_19
    · have ic_3 := zz_nge rfl rfl c_3
      replace hF := hF.trans (if_neg c_3)
      refine lv_iconst (v := 1) hx hb dX7_hasAll_14 (by decide) ?_
      refine lv_goto (tgt := 19) hx hb dX7_hasAll_15 (by decide) ?_
      have hF : RR = (1 : Int32) := hF
      have zc : Int32.toInt 1 = 1 := by decide
      exact W.zret (v := 1) hx hb hr (by decide) (fun t ht hW => by rw [← hQe]; exact ⟨⟨1, (), rfl, ⟨by decide, ⟨by omega, (by rw [← hRR, hF])⟩⟩, z_ret hP hK hD ht hW [0] [] rfl (by decide) rfl⟩, hS.F ht⟩) hS.2.2 dX7_hasAll_19
set_option maxHeartbeats 4000000 in
set_option maxRecDepth 100000 in
theorem kf_X7_hasPassage (l : Launch) (sa : Nat → Nat) (dC : Nat → ClassId) (dI : Nat → Nat → Nat) (tn : Nat) (p1 : Int32) (p2 : Int32) (p3 : Int32) (tn_hours : Int32) (tn_courts : Int32) (tn_gateCount : Int32) (tn_people : Int32) (tn_lines : Int32) (tn_falseHours : Int32) (tn_strayers : Int32) (tn_deep : Int32) (tn_above : Nat) (tn_doors : Nat) (tn_degrees : Nat) (tn_neighbours : Nat) (tn_shows : Nat) (tn_oneEnd : Nat) (tn_otherEnd : Nat) (tn_told : Nat) (tn_strayParts : Nat) (tn_strayCourts : Nat) (b_tn_hours : 0 ≤ tn_hours.toInt ∧ tn_hours.toInt ≤ 48) (b_tn_courts : 0 ≤ tn_courts.toInt ∧ tn_courts.toInt ≤ 10) (b_tn_gateCount : 0 ≤ tn_gateCount.toInt ∧ tn_gateCount.toInt ≤ 16) (b_tn_people : 0 ≤ tn_people.toInt ∧ tn_people.toInt ≤ 10) (b_tn_falseHours : 0 ≤ tn_falseHours.toInt ∧ tn_falseHours.toInt ≤ 9) (b_tn_deep : 0 ≤ tn_deep.toInt ∧ tn_deep.toInt ≤ 1) (sz : Nat) : Met l yX7_hasPassage (.code yX7_hasPassage cX7_hasPassage 4 (some .boolean) :: zT) ({ frames := 1, cells := 0, slots := 0, locals := 21 }) (va_Pc [.ref tn, .int p1, .int p2, .int p3] (zB sa dC dI [(tn, .inr (7, [.int tn_hours, .int tn_courts, .int tn_gateCount, .int tn_people, .int tn_lines, .int tn_falseHours, .int tn_strayers, .int tn_deep, .ref tn_above, .ref tn_doors, .ref tn_degrees, .ref tn_neighbours, .ref tn_shows, .ref tn_oneEnd, .ref tn_otherEnd, .ref tn_told, .ref tn_strayParts, .ref tn_strayCourts]))] [] sz)) (va_Qi (fun (r : Int32) (_ : Unit) => (0 ≤ r.toInt ∧ r.toInt ≤ 1) ∧ (r.toInt = 0 ∨ (0 ≤ p1.toInt ∧ p1.toInt ≤ 15 ∧ 0 ≤ p2.toInt ∧ p2.toInt ≤ 9 ∧ 0 ≤ p3.toInt ∧ p3.toInt ≤ 47)) ∧ r = (F_X7_hasPassage p1 p2 p3 tn_hours tn_courts tn_gateCount)) (fun _ t => zW dC dI [(tn, .inr (7, [.int tn_hours, .int tn_courts, .int tn_gateCount, .int tn_people, .int tn_lines, .int tn_falseHours, .int tn_strayers, .int tn_deep, .ref tn_above, .ref tn_doors, .ref tn_degrees, .ref tn_neighbours, .ref tn_shows, .ref tn_oneEnd, .ref tn_otherEnd, .ref tn_told, .ref tn_strayParts, .ref tn_strayCourts]))] [] (va_A [(tn, .inr (7, [.int tn_hours, .int tn_courts, .int tn_gateCount, .int tn_people, .int tn_lines, .int tn_falseHours, .int tn_strayers, .int tn_deep, .ref tn_above, .ref tn_doors, .ref tn_degrees, .ref tn_neighbours, .ref tn_shows, .ref tn_oneEnd, .ref tn_otherEnd, .ref tn_told, .ref tn_strayParts, .ref tn_strayCourts]))] sz) t) (va_A [(tn, .inr (7, [.int tn_hours, .int tn_courts, .int tn_gateCount, .int tn_people, .int tn_lines, .int tn_falseHours, .int tn_strayers, .int tn_deep, .ref tn_above, .ref tn_doors, .ref tn_degrees, .ref tn_neighbours, .ref tn_shows, .ref tn_oneEnd, .ref tn_otherEnd, .ref tn_told, .ref tn_strayParts, .ref tn_strayCourts]))] sz)) 0 0 (va_A [(tn, .inr (7, [.int tn_hours, .int tn_courts, .int tn_gateCount, .int tn_people, .int tn_lines, .int tn_falseHours, .int tn_strayers, .int tn_deep, .ref tn_above, .ref tn_doors, .ref tn_degrees, .ref tn_neighbours, .ref tn_shows, .ref tn_oneEnd, .ref tn_otherEnd, .ref tn_told, .ref tn_strayParts, .ref tn_strayCourts]))] sz) := by
  refine z_enter (by decide) (by exact (Nat.le_of_ble_eq_true rfl)) ?_
  intro p e s m args below meth c ls A R Qc hargs hsz hQe hAe hRe hx hb hml hr hts hown hlocks hin hl hP hK hD hN hXs hA hS
  rw [hAe] at hQe
  have hown : s.vm.findClass RX7 = some m.cls := hown
  have hl : lv_has ls 4 [(0, .ref tn), (1, .int p1), (2, .int p2), (3, .int p3)] := hl
  obtain ⟨RR, hRR⟩ : ∃ z : Int32, z = (F_X7_hasPassage p1 p2 p3 tn_hours tn_courts tn_gateCount) := ⟨_, rfl⟩
  have hF : RR = (F_X7_hasPassage p1 p2 p3 tn_hours tn_courts tn_gateCount) := hRR
  refine lv_aload_n hx hb dX7_hasPassage_0 rfl (lv_at hl 0 rfl) ?_
  refine lv_iload_n hx hb dX7_hasPassage_1 rfl (lv_at hl 1 rfl) ?_
  obtain ⟨hPc, hDc, hFc⟩ := z_cut (wc := [(tn, .inr (7, [.int tn_hours, .int tn_courts, .int tn_gateCount, .int tn_people, .int tn_lines, .int tn_falseHours, .int tn_strayers, .int tn_deep, .ref tn_above, .ref tn_doors, .ref tn_degrees, .ref tn_neighbours, .ref tn_shows, .ref tn_oneEnd, .ref tn_otherEnd, .ref tn_told, .ref tn_strayParts, .ref tn_strayCourts]))]) hP hD hS hA [0] rfl (by decide +kernel)
  have hKc := hK.sub (tys' := []) [] rfl
  refine va_calli (va_runV (As := [.int p1]) (rest := []) ⟨hx, hb, hml, hown, hts⟩ (kf_X7_hasGate l sa dC dI tn p1 tn_hours tn_courts tn_gateCount tn_people tn_lines tn_falseHours tn_strayers tn_deep tn_above tn_doors tn_degrees tn_neighbours tn_shows tn_oneEnd tn_otherEnd tn_told tn_strayParts tn_strayCourts (by first | with_reducible assumption | omega) (by first | with_reducible assumption | omega) (by first | with_reducible assumption | omega) (by first | with_reducible assumption | omega) (by first | with_reducible assumption | omega) (by first | with_reducible assumption | omega) s.heap.size) (cwV 1 hts (z_gV zw_t4_9 zw_t3_234 zw_t3_235 zw_t1_3 zw_t3_236) rfl rfl rfl (by decide +kernel) (by rw [← hRe]; exact ⟨(Nat.le_of_ble_eq_true rfl), (Nat.le_of_ble_eq_true rfl)⟩)) (z_preV hPc hKc hDc hN hXs hS hFc (q := (RX7, TX7, 18)) (ci := 7) (q0 := 0) rfl rfl) rfl rfl hl.1 rfl (lv_room (Nat.le_of_ble_eq_true rfl)) dX7_hasPassage_2 (by rw [← hRe]; exact ⟨(Nat.le_of_ble_eq_true rfl), (Nat.le_of_ble_eq_true rfl)⟩)) hS (fun q _ h => hFc q h) hFc (fun r_1 u t H1 locs ht hvm hw hB hz1 hk1 hS => ?_)
  obtain ⟨hP, hD, hK⟩ := z_after3 (wn := [(tn, .inr (7, [.int tn_hours, .int tn_courts, .int tn_gateCount, .int tn_people, .int tn_lines, .int tn_falseHours, .int tn_strayers, .int tn_deep, .ref tn_above, .ref tn_doors, .ref tn_degrees, .ref tn_neighbours, .ref tn_shows, .ref tn_oneEnd, .ref tn_otherEnd, .ref tn_told, .ref tn_strayParts, .ref tn_strayCourts]))]) hB ht hvm hP hD hK [0] [] rfl 1 rfl (by decide +kernel) rfl (by decide +kernel) hk1 hFc
  generalize H1 = H at hP hS ⊢
  have hK : va_K (dC, dI) vwCl [] s := hK
  have b_r_1 : 0 ≤ r_1.toInt ∧ r_1.toInt ≤ 1 := hw.1
  have s_r_1 := hw.2.1
  have sf_r_1 := hw.2.2
  replace hF := hF.trans (zL_eq sf_r_1)
  refine lv_if_eq (tgt := 28) hx hb dX7_hasPassage_5 (by decide) (fun c_2 => ?_) (fun c_2 => ?_)
  · have ic_2 := zz_eq rfl (show Int32.toInt 0 = 0 from by decide) c_2
    replace hF := hF.trans (if_pos c_2)
    refine lv_iconst (v := 0) hx hb dX7_hasPassage_28 (by decide) ?_
    have hF : RR = (0 : Int32) := hF
    have zc : Int32.toInt 0 = 0 := by decide
    exact W.zret (v := 0) hx hb hr (by decide) (fun t ht hW => by rw [← hQe]; exact ⟨⟨0, (), rfl, ⟨by decide, ⟨by omega, (by rw [← hRR, hF])⟩⟩, z_ret hP hK hD ht hW [0] [] rfl (by decide) rfl⟩, hS.F ht⟩) hS.2.2 dX7_hasPassage_29
  · have ic_2 := zz_neq rfl (show Int32.toInt 0 = 0 from by decide) c_2
    replace hF := hF.trans (if_neg c_2)
    refine lv_aload_n hx hb dX7_hasPassage_8 rfl (lv_at hl 0 rfl) ?_
    refine lv_iload_n hx hb dX7_hasPassage_9 rfl (lv_at hl 2 rfl) ?_
    obtain ⟨hPc, hDc, hFc⟩ := z_cut (wc := [(tn, .inr (7, [.int tn_hours, .int tn_courts, .int tn_gateCount, .int tn_people, .int tn_lines, .int tn_falseHours, .int tn_strayers, .int tn_deep, .ref tn_above, .ref tn_doors, .ref tn_degrees, .ref tn_neighbours, .ref tn_shows, .ref tn_oneEnd, .ref tn_otherEnd, .ref tn_told, .ref tn_strayParts, .ref tn_strayCourts]))]) hP hD hS hA [0] rfl (by decide +kernel)
    have hKc := hK.sub (tys' := []) [] rfl
    refine va_calli (va_runV (As := [.int p2]) (rest := []) ⟨hx, hb, hml, hown, hts⟩ (kf_X7_hasCourt l sa dC dI tn p2 tn_hours tn_courts tn_gateCount tn_people tn_lines tn_falseHours tn_strayers tn_deep tn_above tn_doors tn_degrees tn_neighbours tn_shows tn_oneEnd tn_otherEnd tn_told tn_strayParts tn_strayCourts (by first | with_reducible assumption | omega) (by first | with_reducible assumption | omega) (by first | with_reducible assumption | omega) (by first | with_reducible assumption | omega) (by first | with_reducible assumption | omega) (by first | with_reducible assumption | omega) H.size) (cwV 1 hts (z_gV zw_t4_10 zw_t3_198 zw_t3_199 zw_t1_3 zw_t3_200) rfl rfl rfl (by decide +kernel) (by rw [← hRe]; exact ⟨(Nat.le_of_ble_eq_true rfl), (Nat.le_of_ble_eq_true rfl)⟩)) (z_preV hPc hKc hDc hN hXs hS hFc (q := (RX7, TX7, 18)) (ci := 7) (q0 := 0) rfl rfl) rfl rfl hl.1 rfl (lv_room (Nat.le_of_ble_eq_true rfl)) dX7_hasPassage_10 (by rw [← hRe]; exact ⟨(Nat.le_of_ble_eq_true rfl), (Nat.le_of_ble_eq_true rfl)⟩)) hS (fun q _ h => hFc q h) hFc (fun r_3 u t H1 locs ht hvm hw hB hz1 hk1 hS => ?_)
    obtain ⟨hP, hD, hK⟩ := z_after3 (wn := [(tn, .inr (7, [.int tn_hours, .int tn_courts, .int tn_gateCount, .int tn_people, .int tn_lines, .int tn_falseHours, .int tn_strayers, .int tn_deep, .ref tn_above, .ref tn_doors, .ref tn_degrees, .ref tn_neighbours, .ref tn_shows, .ref tn_oneEnd, .ref tn_otherEnd, .ref tn_told, .ref tn_strayParts, .ref tn_strayCourts]))]) hB ht hvm hP hD hK [0] [] rfl 1 rfl (by decide +kernel) rfl (by decide +kernel) hk1 hFc
    generalize H1 = H at hP hS ⊢
    have hK : va_K (dC, dI) vwCl [] s := hK
    have b_r_3 : 0 ≤ r_3.toInt ∧ r_3.toInt ≤ 1 := hw.1
    have s_r_3 := hw.2.1
    have sf_r_3 := hw.2.2
    replace hF := hF.trans (zL_eq sf_r_3)
    refine lv_if_eq (tgt := 28) hx hb dX7_hasPassage_13 (by decide) (fun c_4 => ?_) (fun c_4 => ?_)
    · have ic_4 := zz_eq rfl (show Int32.toInt 0 = 0 from by decide) c_4
      replace hF := hF.trans (if_pos c_4)
      refine lv_iconst (v := 0) hx hb dX7_hasPassage_28 (by decide) ?_
      have hF : RR = (0 : Int32) := hF
      have zc : Int32.toInt 0 = 0 := by decide
      exact W.zret (v := 0) hx hb hr (by decide) (fun t ht hW => by rw [← hQe]; exact ⟨⟨0, (), rfl, ⟨by decide, ⟨by omega, (by rw [← hRR, hF])⟩⟩, z_ret hP hK hD ht hW [0] [] rfl (by decide) rfl⟩, hS.F ht⟩) hS.2.2 dX7_hasPassage_29
    · have ic_4 := zz_neq rfl (show Int32.toInt 0 = 0 from by decide) c_4
      replace hF := hF.trans (if_neg c_4)
      refine lv_aload_n hx hb dX7_hasPassage_16 rfl (lv_at hl 0 rfl) ?_
      refine lv_iload_n hx hb dX7_hasPassage_17 rfl (lv_at hl 3 rfl) ?_
      obtain ⟨hPc, hDc, hFc⟩ := z_cut (wc := [(tn, .inr (7, [.int tn_hours, .int tn_courts, .int tn_gateCount, .int tn_people, .int tn_lines, .int tn_falseHours, .int tn_strayers, .int tn_deep, .ref tn_above, .ref tn_doors, .ref tn_degrees, .ref tn_neighbours, .ref tn_shows, .ref tn_oneEnd, .ref tn_otherEnd, .ref tn_told, .ref tn_strayParts, .ref tn_strayCourts]))]) hP hD hS hA [0] rfl (by decide +kernel)
      have hKc := hK.sub (tys' := []) [] rfl
      refine va_calli (va_runV (As := [.int p3]) (rest := []) ⟨hx, hb, hml, hown, hts⟩ (kf_X7_hasHour l sa dC dI tn p3 tn_hours tn_courts tn_gateCount tn_people tn_lines tn_falseHours tn_strayers tn_deep tn_above tn_doors tn_degrees tn_neighbours tn_shows tn_oneEnd tn_otherEnd tn_told tn_strayParts tn_strayCourts (by first | with_reducible assumption | omega) (by first | with_reducible assumption | omega) (by first | with_reducible assumption | omega) (by first | with_reducible assumption | omega) (by first | with_reducible assumption | omega) (by first | with_reducible assumption | omega) H.size) (cwV 1 hts (z_gV zw_t4_11 zw_t3_186 zw_t3_187 zw_t1_3 zw_t3_188) rfl rfl rfl (by decide +kernel) (by rw [← hRe]; exact ⟨(Nat.le_of_ble_eq_true rfl), (Nat.le_of_ble_eq_true rfl)⟩)) (z_preV hPc hKc hDc hN hXs hS hFc (q := (RX7, TX7, 18)) (ci := 7) (q0 := 0) rfl rfl) rfl rfl hl.1 rfl (lv_room (Nat.le_of_ble_eq_true rfl)) dX7_hasPassage_18 (by rw [← hRe]; exact ⟨(Nat.le_of_ble_eq_true rfl), (Nat.le_of_ble_eq_true rfl)⟩)) hS (fun q _ h => hFc q h) hFc (fun r_5 u t H1 locs ht hvm hw hB hz1 hk1 hS => ?_)
      obtain ⟨hP, hD, hK⟩ := z_after3 (wn := [(tn, .inr (7, [.int tn_hours, .int tn_courts, .int tn_gateCount, .int tn_people, .int tn_lines, .int tn_falseHours, .int tn_strayers, .int tn_deep, .ref tn_above, .ref tn_doors, .ref tn_degrees, .ref tn_neighbours, .ref tn_shows, .ref tn_oneEnd, .ref tn_otherEnd, .ref tn_told, .ref tn_strayParts, .ref tn_strayCourts]))]) hB ht hvm hP hD hK [0] [] rfl 1 rfl (by decide +kernel) rfl (by decide +kernel) hk1 hFc
      generalize H1 = H at hP hS ⊢
      have hK : va_K (dC, dI) vwCl [] s := hK
      have b_r_5 : 0 ≤ r_5.toInt ∧ r_5.toInt ≤ 1 := hw.1
      have s_r_5 := hw.2.1
      have sf_r_5 := hw.2.2
      replace hF := hF.trans (zL_eq sf_r_5)
      refine lv_if_eq (tgt := 28) hx hb dX7_hasPassage_21 (by decide) (fun c_6 => ?_) (fun c_6 => ?_)
      · have ic_6 := zz_eq rfl (show Int32.toInt 0 = 0 from by decide) c_6
        replace hF := hF.trans (if_pos c_6)
        refine lv_iconst (v := 0) hx hb dX7_hasPassage_28 (by decide) ?_
        have hF : RR = (0 : Int32) := hF
        have zc : Int32.toInt 0 = 0 := by decide
        exact W.zret (v := 0) hx hb hr (by decide) (fun t ht hW => by rw [← hQe]; exact ⟨⟨0, (), rfl, ⟨by decide, ⟨by omega, (by rw [← hRR, hF])⟩⟩, z_ret hP hK hD ht hW [0] [] rfl (by decide) rfl⟩, hS.F ht⟩) hS.2.2 dX7_hasPassage_29
      · have ic_6 := zz_neq rfl (show Int32.toInt 0 = 0 from by decide) c_6
        replace hF := hF.trans (if_neg c_6)
        refine lv_iconst (v := 1) hx hb dX7_hasPassage_24 (by decide) ?_
        refine lv_goto (tgt := 29) hx hb dX7_hasPassage_25 (by decide) ?_
        have hF : RR = (1 : Int32) := hF
        have zc : Int32.toInt 1 = 1 := by decide
        exact W.zret (v := 1) hx hb hr (by decide) (fun t ht hW => by rw [← hQe]; exact ⟨⟨1, (), rfl, ⟨by decide, ⟨by omega, (by rw [← hRR, hF])⟩⟩, z_ret hP hK hD ht hW [0] [] rfl (by decide) rfl⟩, hS.F ht⟩) hS.2.2 dX7_hasPassage_29
set_option maxHeartbeats 4000000 in
set_option maxRecDepth 100000 in
theorem kf_X7_courtOf (l : Launch) (sa : Nat → Nat) (dC : Nat → ClassId) (dI : Nat → Nat → Nat) (tn : Nat) (p1 : Int32) (p2 : Int32) (p3 : Int32) (tn_hours : Int32) (tn_courts : Int32) (tn_gateCount : Int32) (tn_people : Int32) (tn_lines : Int32) (tn_falseHours : Int32) (tn_strayers : Int32) (tn_deep : Int32) (tn_above : Nat) (tn_doors : Nat) (tn_degrees : Nat) (tn_neighbours : Nat) (tn_shows : Nat) (tn_oneEnd : Nat) (tn_otherEnd : Nat) (tn_told : Nat) (tn_strayParts : Nat) (tn_strayCourts : Nat) (cA_tn_told : ClassId) (f_tn_told : Nat → Int32) (cA_tn_strayCourts : ClassId) (f_tn_strayCourts : Nat → Int32) (b_p1 : 0 ≤ p1.toInt ∧ p1.toInt ≤ 9) (b_p2 : 0 ≤ p2.toInt ∧ p2.toInt ≤ 47) (b_tn_hours : 0 ≤ tn_hours.toInt ∧ tn_hours.toInt ≤ 48) (b_tn_courts : 0 ≤ tn_courts.toInt ∧ tn_courts.toInt ≤ 10) (b_tn_gateCount : 0 ≤ tn_gateCount.toInt ∧ tn_gateCount.toInt ≤ 16) (b_tn_people : 0 ≤ tn_people.toInt ∧ tn_people.toInt ≤ 10) (b_tn_falseHours : 0 ≤ tn_falseHours.toInt ∧ tn_falseHours.toInt ≤ 9) (b_tn_deep : 0 ≤ tn_deep.toInt ∧ tn_deep.toInt ≤ 1) (b_f_tn_told : ∀ j : Nat, 0 ≤ (f_tn_told j).toInt ∧ (f_tn_told j).toInt ≤ 9) (b_f_tn_strayCourts : ∀ j : Nat, 0 ≤ (f_tn_strayCourts j).toInt ∧ (f_tn_strayCourts j).toInt ≤ 9) (sz : Nat) : Met l yX7_courtOf (.code yX7_courtOf cX7_courtOf 5 (some .int) :: zT) ({ frames := 0, cells := 0, slots := 0, locals := 0 }) (va_Pc [.ref tn, .int p1, .int p2, .int p3] (zB sa dC dI [(tn, .inr (7, [.int tn_hours, .int tn_courts, .int tn_gateCount, .int tn_people, .int tn_lines, .int tn_falseHours, .int tn_strayers, .int tn_deep, .ref tn_above, .ref tn_doors, .ref tn_degrees, .ref tn_neighbours, .ref tn_shows, .ref tn_oneEnd, .ref tn_otherEnd, .ref tn_told, .ref tn_strayParts, .ref tn_strayCourts])), (tn_told, .inl (cA_tn_told, 480, .inl f_tn_told)), (tn_strayCourts, .inl (cA_tn_strayCourts, 10, .inl f_tn_strayCourts))] [(cA_tn_told, .int), (cA_tn_strayCourts, .int)] sz)) (va_Qi (fun (r : Int32) (_ : Unit) => (0 ≤ r.toInt ∧ r.toInt ≤ 9) ∧ r = (F_X7_courtOf p1 p2 p3 f_tn_told f_tn_strayCourts)) (fun _ t => zW dC dI [(tn, .inr (7, [.int tn_hours, .int tn_courts, .int tn_gateCount, .int tn_people, .int tn_lines, .int tn_falseHours, .int tn_strayers, .int tn_deep, .ref tn_above, .ref tn_doors, .ref tn_degrees, .ref tn_neighbours, .ref tn_shows, .ref tn_oneEnd, .ref tn_otherEnd, .ref tn_told, .ref tn_strayParts, .ref tn_strayCourts])), (tn_told, .inl (cA_tn_told, 480, .inl f_tn_told)), (tn_strayCourts, .inl (cA_tn_strayCourts, 10, .inl f_tn_strayCourts))] [] (va_A [(tn, .inr (7, [.int tn_hours, .int tn_courts, .int tn_gateCount, .int tn_people, .int tn_lines, .int tn_falseHours, .int tn_strayers, .int tn_deep, .ref tn_above, .ref tn_doors, .ref tn_degrees, .ref tn_neighbours, .ref tn_shows, .ref tn_oneEnd, .ref tn_otherEnd, .ref tn_told, .ref tn_strayParts, .ref tn_strayCourts])), (tn_told, .inl (cA_tn_told, 480, .inl f_tn_told)), (tn_strayCourts, .inl (cA_tn_strayCourts, 10, .inl f_tn_strayCourts))] sz) t) (va_A [(tn, .inr (7, [.int tn_hours, .int tn_courts, .int tn_gateCount, .int tn_people, .int tn_lines, .int tn_falseHours, .int tn_strayers, .int tn_deep, .ref tn_above, .ref tn_doors, .ref tn_degrees, .ref tn_neighbours, .ref tn_shows, .ref tn_oneEnd, .ref tn_otherEnd, .ref tn_told, .ref tn_strayParts, .ref tn_strayCourts])), (tn_told, .inl (cA_tn_told, 480, .inl f_tn_told)), (tn_strayCourts, .inl (cA_tn_strayCourts, 10, .inl f_tn_strayCourts))] sz)) 0 0 (va_A [(tn, .inr (7, [.int tn_hours, .int tn_courts, .int tn_gateCount, .int tn_people, .int tn_lines, .int tn_falseHours, .int tn_strayers, .int tn_deep, .ref tn_above, .ref tn_doors, .ref tn_degrees, .ref tn_neighbours, .ref tn_shows, .ref tn_oneEnd, .ref tn_otherEnd, .ref tn_told, .ref tn_strayParts, .ref tn_strayCourts])), (tn_told, .inl (cA_tn_told, 480, .inl f_tn_told)), (tn_strayCourts, .inl (cA_tn_strayCourts, 10, .inl f_tn_strayCourts))] sz) := by
  refine z_enter (by decide) (by exact (Nat.le_of_ble_eq_true rfl)) ?_
  intro p e s m args below meth c ls A R Qc hargs hsz hQe hAe hRe hx hb hml hr hts hown hlocks hin hl hP hK hD hN hXs hA hS
  rw [hAe] at hQe
  have hown : s.vm.findClass RX7 = some m.cls := hown
  have hl : lv_has ls 5 [(0, .ref tn), (1, .int p1), (2, .int p2), (3, .int p3)] := hl
  obtain ⟨RR, hRR⟩ : ∃ z : Int32, z = (F_X7_courtOf p1 p2 p3 f_tn_told f_tn_strayCourts) := ⟨_, rfl⟩
  have hF : RR = (F_X7_courtOf p1 p2 p3 f_tn_told f_tn_strayCourts) := hRR
  refine lv_iload_n hx hb dX7_courtOf_0 rfl (lv_at hl 3 rfl) ?_
  refine lv_iload_n hx hb dX7_courtOf_1 rfl (lv_at hl 1 rfl) ?_
  refine lv_ishr hx hb dX7_courtOf_2 ?_
  refine lv_topi (fun x_1 ex_1 => ?_)
  replace hF := hF.trans (zL_eq ex_1)
  refine lv_iconst (v := 1) hx hb dX7_courtOf_3 (by decide) ?_
  refine lv_iand hx hb dX7_courtOf_4 ?_
  refine lv_topi (fun x_2 ex_2 => ?_)
  replace hF := hF.trans (zL_eq ex_2)
  have b_x_2 : 0 ≤ x_2.toInt ∧ x_2.toInt ≤ 1 := by rw [ex_2]; exact zi_andR (show Int32.toInt 1 = 1 from by decide) (by first | with_reducible assumption | omega) (by first | with_reducible assumption | omega)
  refine lv_if_eq (tgt := 12) hx hb dX7_courtOf_5 (by decide) (fun c_3 => ?_) (fun c_3 => ?_)
  · have ic_3 := zz_eq rfl (show Int32.toInt 0 = 0 from by decide) c_3
    replace hF := hF.trans (if_pos c_3)
    refine lv_iconst (v := 0) hx hb dX7_courtOf_12 (by decide) ?_
    refine lv_istore (lv' := [(4, .int 0), (0, .ref tn), (1, .int p1), (2, .int p2), (3, .int p3)]) hx hb dX7_courtOf_13 hl (by decide) rfl (fun ls hl => ?_)
    refine lv_iload hx hb dX7_courtOf_15 (lv_at hl 0 rfl) ?_
    refine lv_if_eq (tgt := 29) hx hb dX7_courtOf_17 (by decide) (fun _ => ?_) (fun q => absurd q (by decide))
    refine lv_aload_n hx hb dX7_courtOf_29 rfl (lv_at hl 1 rfl) ?_
    refine va_get (D := (dC, dI)) (ci := 7) (v := .ref tn_told) (C := RX7) (T := TX7) (N := 18) hx hb hts zl_X7 hown hK hP 0 rfl rfl 15 (by decide) (hts _ zw_t1_105) (fun _ h9 => h9) rfl dX7_courtOf_30 ?_
    refine lv_iload_n hx hb dX7_courtOf_33 rfl (lv_at hl 2 rfl) ?_
    refine lv_bipush (v := 48) hx hb dX7_courtOf_34 (by decide) ?_
    refine lv_imul hx hb dX7_courtOf_36 ?_
    refine lv_topi (fun x_4 ex_4 => ?_)
    replace hF := hF.trans (zL_eq ex_4)
    have b_x_4 : x_4.toInt = p1.toInt * 48 := by rw [ex_4]; exact zi_mul rfl (show Int32.toInt 48 = 48 from by decide) (by first | with_reducible assumption | omega)
    refine lv_iload_n hx hb dX7_courtOf_37 rfl (lv_at hl 3 rfl) ?_
    refine lv_iadd hx hb dX7_courtOf_38 ?_
    refine lv_topi (fun x_5 ex_5 => ?_)
    replace hF := hF.trans (zL_eq ex_5)
    have b_x_5 : x_5.toInt = x_4.toInt + p2.toInt := by rw [ex_5]; exact zi_add rfl rfl (by first | with_reducible assumption | omega)
    refine va_iald hx hb hK hP 1 0 rfl rfl (zi_in rfl (by first | with_reducible assumption | omega)) dX7_courtOf_39 ?_
    refine lv_topi (fun x_6 ex_6 => ?_)
    replace hF := hF.trans (zL_eq ex_6)
    have b_x_6 : 0 ≤ x_6.toInt ∧ x_6.toInt ≤ 9 := by rw [ex_6]; exact b_f_tn_told _
    have hF : RR = x_6 := hF
    exact W.iret (v := x_6) hx hb hr (fun t ht hW => by rw [← hQe]; exact ⟨⟨x_6, (), rfl, ⟨by omega, (by rw [← hRR, hF])⟩, z_ret hP hK hD ht hW [0, 1, 2] [] rfl (by decide) rfl⟩, hS.F ht⟩) hS.2.2 dX7_courtOf_40
  · have ic_3 := zz_neq rfl (show Int32.toInt 0 = 0 from by decide) c_3
    replace hF := hF.trans (if_neg c_3)
    refine lv_iconst (v := 1) hx hb dX7_courtOf_8 (by decide) ?_
    refine lv_goto (tgt := 13) hx hb dX7_courtOf_9 (by decide) ?_
    refine lv_istore (lv' := [(4, .int 1), (0, .ref tn), (1, .int p1), (2, .int p2), (3, .int p3)]) hx hb dX7_courtOf_13 hl (by decide) rfl (fun ls hl => ?_)
    refine lv_iload hx hb dX7_courtOf_15 (lv_at hl 0 rfl) ?_
    refine lv_if_eq (tgt := 29) hx hb dX7_courtOf_17 (by decide) (fun q => absurd q (by decide)) (fun _ => ?_)
    refine lv_aload_n hx hb dX7_courtOf_20 rfl (lv_at hl 1 rfl) ?_
    refine va_get (D := (dC, dI)) (ci := 7) (v := .ref tn_strayCourts) (C := RX7) (T := TX7) (N := 18) hx hb hts zl_X7 hown hK hP 0 rfl rfl 17 (by decide) (hts _ zw_t1_111) (fun _ h9 => h9) rfl dX7_courtOf_21 ?_
    refine lv_iload_n hx hb dX7_courtOf_24 rfl (lv_at hl 2 rfl) ?_
    refine va_iald hx hb hK hP 2 1 rfl rfl (zi_in rfl (by first | with_reducible assumption | omega)) dX7_courtOf_25 ?_
    refine lv_topi (fun x_7 ex_7 => ?_)
    replace hF := hF.trans (zL_eq ex_7)
    have b_x_7 : 0 ≤ x_7.toInt ∧ x_7.toInt ≤ 9 := by rw [ex_7]; exact b_f_tn_strayCourts _
    refine lv_goto (tgt := 40) hx hb dX7_courtOf_26 (by decide) ?_
    have hF : RR = x_7 := hF
    exact W.iret (v := x_7) hx hb hr (fun t ht hW => by rw [← hQe]; exact ⟨⟨x_7, (), rfl, ⟨by omega, (by rw [← hRR, hF])⟩, z_ret hP hK hD ht hW [0, 1, 2] [] rfl (by decide) rfl⟩, hS.F ht⟩) hS.2.2 dX7_courtOf_40
set_option maxHeartbeats 4000000 in
set_option maxRecDepth 100000 in
theorem kf_X7_showsOf (l : Launch) (sa : Nat → Nat) (dC : Nat → ClassId) (dI : Nat → Nat → Nat) (tn : Nat) (p1 : Int32) (p2 : Int32) (p3 : Int32) (tn_hours : Int32) (tn_courts : Int32) (tn_gateCount : Int32) (tn_people : Int32) (tn_lines : Int32) (tn_falseHours : Int32) (tn_strayers : Int32) (tn_deep : Int32) (tn_above : Nat) (tn_doors : Nat) (tn_degrees : Nat) (tn_neighbours : Nat) (tn_shows : Nat) (tn_oneEnd : Nat) (tn_otherEnd : Nat) (tn_told : Nat) (tn_strayParts : Nat) (tn_strayCourts : Nat) (cA_tn_shows : ClassId) (f_tn_shows : Nat → Int32) (cA_tn_told : ClassId) (f_tn_told : Nat → Int32) (cA_tn_strayCourts : ClassId) (f_tn_strayCourts : Nat → Int32) (b_p1 : 0 ≤ p1.toInt ∧ p1.toInt ≤ 9) (b_p2 : 0 ≤ p2.toInt ∧ p2.toInt ≤ 47) (b_tn_hours : 0 ≤ tn_hours.toInt ∧ tn_hours.toInt ≤ 48) (b_tn_courts : 0 ≤ tn_courts.toInt ∧ tn_courts.toInt ≤ 10) (b_tn_gateCount : 0 ≤ tn_gateCount.toInt ∧ tn_gateCount.toInt ≤ 16) (b_tn_people : 0 ≤ tn_people.toInt ∧ tn_people.toInt ≤ 10) (b_tn_falseHours : 0 ≤ tn_falseHours.toInt ∧ tn_falseHours.toInt ≤ 9) (b_tn_deep : 0 ≤ tn_deep.toInt ∧ tn_deep.toInt ≤ 1) (b_f_tn_told : ∀ j : Nat, 0 ≤ (f_tn_told j).toInt ∧ (f_tn_told j).toInt ≤ 9) (b_f_tn_strayCourts : ∀ j : Nat, 0 ≤ (f_tn_strayCourts j).toInt ∧ (f_tn_strayCourts j).toInt ≤ 9) (sz : Nat) : Met l yX7_showsOf (.code yX7_showsOf cX7_showsOf 4 (some .int) :: zT) ({ frames := 1, cells := 0, slots := 0, locals := 24 }) (va_Pc [.ref tn, .int p1, .int p2, .int p3] (zB sa dC dI [(tn, .inr (7, [.int tn_hours, .int tn_courts, .int tn_gateCount, .int tn_people, .int tn_lines, .int tn_falseHours, .int tn_strayers, .int tn_deep, .ref tn_above, .ref tn_doors, .ref tn_degrees, .ref tn_neighbours, .ref tn_shows, .ref tn_oneEnd, .ref tn_otherEnd, .ref tn_told, .ref tn_strayParts, .ref tn_strayCourts])), (tn_shows, .inl (cA_tn_shows, 10, .inl f_tn_shows)), (tn_told, .inl (cA_tn_told, 480, .inl f_tn_told)), (tn_strayCourts, .inl (cA_tn_strayCourts, 10, .inl f_tn_strayCourts))] [(cA_tn_shows, .int), (cA_tn_told, .int), (cA_tn_strayCourts, .int)] sz)) (va_Qi (fun (r : Int32) (_ : Unit) => r = (F_X7_showsOf p1 p2 p3 f_tn_shows f_tn_told f_tn_strayCourts)) (fun _ t => zW dC dI [(tn, .inr (7, [.int tn_hours, .int tn_courts, .int tn_gateCount, .int tn_people, .int tn_lines, .int tn_falseHours, .int tn_strayers, .int tn_deep, .ref tn_above, .ref tn_doors, .ref tn_degrees, .ref tn_neighbours, .ref tn_shows, .ref tn_oneEnd, .ref tn_otherEnd, .ref tn_told, .ref tn_strayParts, .ref tn_strayCourts])), (tn_shows, .inl (cA_tn_shows, 10, .inl f_tn_shows)), (tn_told, .inl (cA_tn_told, 480, .inl f_tn_told)), (tn_strayCourts, .inl (cA_tn_strayCourts, 10, .inl f_tn_strayCourts))] [] (va_A [(tn, .inr (7, [.int tn_hours, .int tn_courts, .int tn_gateCount, .int tn_people, .int tn_lines, .int tn_falseHours, .int tn_strayers, .int tn_deep, .ref tn_above, .ref tn_doors, .ref tn_degrees, .ref tn_neighbours, .ref tn_shows, .ref tn_oneEnd, .ref tn_otherEnd, .ref tn_told, .ref tn_strayParts, .ref tn_strayCourts])), (tn_shows, .inl (cA_tn_shows, 10, .inl f_tn_shows)), (tn_told, .inl (cA_tn_told, 480, .inl f_tn_told)), (tn_strayCourts, .inl (cA_tn_strayCourts, 10, .inl f_tn_strayCourts))] sz) t) (va_A [(tn, .inr (7, [.int tn_hours, .int tn_courts, .int tn_gateCount, .int tn_people, .int tn_lines, .int tn_falseHours, .int tn_strayers, .int tn_deep, .ref tn_above, .ref tn_doors, .ref tn_degrees, .ref tn_neighbours, .ref tn_shows, .ref tn_oneEnd, .ref tn_otherEnd, .ref tn_told, .ref tn_strayParts, .ref tn_strayCourts])), (tn_shows, .inl (cA_tn_shows, 10, .inl f_tn_shows)), (tn_told, .inl (cA_tn_told, 480, .inl f_tn_told)), (tn_strayCourts, .inl (cA_tn_strayCourts, 10, .inl f_tn_strayCourts))] sz)) 0 0 (va_A [(tn, .inr (7, [.int tn_hours, .int tn_courts, .int tn_gateCount, .int tn_people, .int tn_lines, .int tn_falseHours, .int tn_strayers, .int tn_deep, .ref tn_above, .ref tn_doors, .ref tn_degrees, .ref tn_neighbours, .ref tn_shows, .ref tn_oneEnd, .ref tn_otherEnd, .ref tn_told, .ref tn_strayParts, .ref tn_strayCourts])), (tn_shows, .inl (cA_tn_shows, 10, .inl f_tn_shows)), (tn_told, .inl (cA_tn_told, 480, .inl f_tn_told)), (tn_strayCourts, .inl (cA_tn_strayCourts, 10, .inl f_tn_strayCourts))] sz) := by
  refine z_enter (by decide) (by exact (Nat.le_of_ble_eq_true rfl)) ?_
  intro p e s m args below meth c ls A R Qc hargs hsz hQe hAe hRe hx hb hml hr hts hown hlocks hin hl hP hK hD hN hXs hA hS
  rw [hAe] at hQe
  have hown : s.vm.findClass RX7 = some m.cls := hown
  have hl : lv_has ls 4 [(0, .ref tn), (1, .int p1), (2, .int p2), (3, .int p3)] := hl
  obtain ⟨RR, hRR⟩ : ∃ z : Int32, z = (F_X7_showsOf p1 p2 p3 f_tn_shows f_tn_told f_tn_strayCourts) := ⟨_, rfl⟩
  have hF : RR = (F_X7_showsOf p1 p2 p3 f_tn_shows f_tn_told f_tn_strayCourts) := hRR
  refine lv_aload_n hx hb dX7_showsOf_0 rfl (lv_at hl 0 rfl) ?_
  refine va_get (D := (dC, dI)) (ci := 7) (v := .ref tn_shows) (C := RX7) (T := TX7) (N := 18) hx hb hts zl_X7 hown hK hP 0 rfl rfl 12 (by decide) (hts _ zw_t1_95) (fun _ h9 => h9) rfl dX7_showsOf_1 ?_
  refine lv_aload_n hx hb dX7_showsOf_4 rfl (lv_at hl 0 rfl) ?_
  refine lv_iload_n hx hb dX7_showsOf_5 rfl (lv_at hl 1 rfl) ?_
  refine lv_iload_n hx hb dX7_showsOf_6 rfl (lv_at hl 2 rfl) ?_
  refine lv_iload_n hx hb dX7_showsOf_7 rfl (lv_at hl 3 rfl) ?_
  obtain ⟨hPc, hDc, hFc⟩ := z_cut (wc := [(tn, .inr (7, [.int tn_hours, .int tn_courts, .int tn_gateCount, .int tn_people, .int tn_lines, .int tn_falseHours, .int tn_strayers, .int tn_deep, .ref tn_above, .ref tn_doors, .ref tn_degrees, .ref tn_neighbours, .ref tn_shows, .ref tn_oneEnd, .ref tn_otherEnd, .ref tn_told, .ref tn_strayParts, .ref tn_strayCourts])), (tn_told, .inl (cA_tn_told, 480, .inl f_tn_told)), (tn_strayCourts, .inl (cA_tn_strayCourts, 10, .inl f_tn_strayCourts))]) hP hD hS hA [0, 2, 3] rfl (by decide +kernel)
  have hKc := hK.sub (tys' := [(cA_tn_told, .int), (cA_tn_strayCourts, .int)]) [1, 2] rfl
  refine va_calli (va_runV (As := [.int p1, .int p2, .int p3]) (rest := [.ref tn_shows]) ⟨hx, hb, hml, hown, hts⟩ (kf_X7_courtOf l sa dC dI tn p1 p2 p3 tn_hours tn_courts tn_gateCount tn_people tn_lines tn_falseHours tn_strayers tn_deep tn_above tn_doors tn_degrees tn_neighbours tn_shows tn_oneEnd tn_otherEnd tn_told tn_strayParts tn_strayCourts cA_tn_told f_tn_told cA_tn_strayCourts f_tn_strayCourts (by first | with_reducible assumption | omega) (by first | with_reducible assumption | omega) (by first | with_reducible assumption | omega) (by first | with_reducible assumption | omega) (by first | with_reducible assumption | omega) (by first | with_reducible assumption | omega) (by first | with_reducible assumption | omega) (by first | with_reducible assumption | omega) b_f_tn_told b_f_tn_strayCourts s.heap.size) (cwV 3 hts (z_gV zw_t3_209 zw_t3_190 zw_t3_191 zw_t1_3 zw_t3_192) rfl rfl rfl (by decide +kernel) (by rw [← hRe]; exact ⟨(Nat.le_of_ble_eq_true rfl), (Nat.le_of_ble_eq_true rfl)⟩)) (z_preV hPc hKc hDc hN hXs hS hFc (q := (RX7, TX7, 18)) (ci := 7) (q0 := 0) rfl rfl) rfl rfl hl.1 rfl (lv_room (Nat.le_of_ble_eq_true rfl)) dX7_showsOf_8 (by rw [← hRe]; exact ⟨(Nat.le_of_ble_eq_true rfl), (Nat.le_of_ble_eq_true rfl)⟩)) hS (fun q _ h => hFc q h) hFc (fun r_1 u t H1 locs ht hvm hw hB hz1 hk1 hS => ?_)
  obtain ⟨hP, hD, hK⟩ := z_after3 (wn := [(tn_shows, .inl (cA_tn_shows, 10, .inl f_tn_shows)), (tn, .inr (7, [.int tn_hours, .int tn_courts, .int tn_gateCount, .int tn_people, .int tn_lines, .int tn_falseHours, .int tn_strayers, .int tn_deep, .ref tn_above, .ref tn_doors, .ref tn_degrees, .ref tn_neighbours, .ref tn_shows, .ref tn_oneEnd, .ref tn_otherEnd, .ref tn_told, .ref tn_strayParts, .ref tn_strayCourts])), (tn_told, .inl (cA_tn_told, 480, .inl f_tn_told)), (tn_strayCourts, .inl (cA_tn_strayCourts, 10, .inl f_tn_strayCourts))]) hB ht hvm hP hD hK [0, 2, 3] [1] rfl 4 rfl (by decide +kernel) rfl (by decide +kernel) hk1 hFc
  generalize H1 = H at hP hS ⊢
  have hK : va_K (dC, dI) vwCl [(cA_tn_shows, .int), (cA_tn_told, .int), (cA_tn_strayCourts, .int)] s := hK
  have b_r_1 : 0 ≤ r_1.toInt ∧ r_1.toInt ≤ 9 := hw.1
  have sf_r_1 := hw.2
  replace hF := hF.trans (zL_eq sf_r_1)
  refine va_iald hx hb hK hP 0 0 rfl rfl (zi_in rfl (by first | with_reducible assumption | omega)) dX7_showsOf_11 ?_
  refine lv_topi (fun x_2 ex_2 => ?_)
  replace hF := hF.trans (zL_eq ex_2)
  have hF : RR = x_2 := hF
  exact W.iret (v := x_2) hx hb hr (fun t ht hW => by rw [← hQe]; exact ⟨⟨x_2, (), rfl, (by rw [← hRR, hF]), z_ret hP hK hD ht hW [1, 0, 2, 3] [] rfl (by decide) rfl⟩, hS.F ht⟩) hS.2.2 dX7_showsOf_12
set_option maxHeartbeats 4000000 in
set_option maxRecDepth 100000 in
theorem kf_X7_inside (l : Launch) (sa : Nat → Nat) (dC : Nat → ClassId) (dI : Nat → Nat → Nat) (tn : Nat) (p1 : Int32) (p2 : Int32) (p3 : Int32) (tn_hours : Int32) (tn_courts : Int32) (tn_gateCount : Int32) (tn_people : Int32) (tn_lines : Int32) (tn_falseHours : Int32) (tn_strayers : Int32) (tn_deep : Int32) (tn_above : Nat) (tn_doors : Nat) (tn_degrees : Nat) (tn_neighbours : Nat) (tn_shows : Nat) (tn_oneEnd : Nat) (tn_otherEnd : Nat) (tn_told : Nat) (tn_strayParts : Nat) (tn_strayCourts : Nat) (cA_tn_shows : ClassId) (f_tn_shows : Nat → Int32) (cA_tn_told : ClassId) (f_tn_told : Nat → Int32) (cA_tn_strayCourts : ClassId) (f_tn_strayCourts : Nat → Int32) (b_p2 : 0 ≤ p2.toInt ∧ p2.toInt ≤ 47) (b_tn_hours : 0 ≤ tn_hours.toInt ∧ tn_hours.toInt ≤ 48) (b_tn_courts : 0 ≤ tn_courts.toInt ∧ tn_courts.toInt ≤ 10) (b_tn_gateCount : 0 ≤ tn_gateCount.toInt ∧ tn_gateCount.toInt ≤ 16) (b_tn_people : 0 ≤ tn_people.toInt ∧ tn_people.toInt ≤ 10) (b_tn_falseHours : 0 ≤ tn_falseHours.toInt ∧ tn_falseHours.toInt ≤ 9) (b_tn_deep : 0 ≤ tn_deep.toInt ∧ tn_deep.toInt ≤ 1) (b_f_tn_told : ∀ j : Nat, 0 ≤ (f_tn_told j).toInt ∧ (f_tn_told j).toInt ≤ 9) (b_f_tn_strayCourts : ∀ j : Nat, 0 ≤ (f_tn_strayCourts j).toInt ∧ (f_tn_strayCourts j).toInt ≤ 9) (sz : Nat) : Met l yX7_inside (.code yX7_inside cX7_inside 6 (some .int) :: zT) ({ frames := 2, cells := 0, slots := 0, locals := 47 }) (va_Pc [.ref tn, .int p1, .int p2, .int p3] (zB sa dC dI [(tn, .inr (7, [.int tn_hours, .int tn_courts, .int tn_gateCount, .int tn_people, .int tn_lines, .int tn_falseHours, .int tn_strayers, .int tn_deep, .ref tn_above, .ref tn_doors, .ref tn_degrees, .ref tn_neighbours, .ref tn_shows, .ref tn_oneEnd, .ref tn_otherEnd, .ref tn_told, .ref tn_strayParts, .ref tn_strayCourts])), (tn_shows, .inl (cA_tn_shows, 10, .inl f_tn_shows)), (tn_told, .inl (cA_tn_told, 480, .inl f_tn_told)), (tn_strayCourts, .inl (cA_tn_strayCourts, 10, .inl f_tn_strayCourts))] [(cA_tn_shows, .int), (cA_tn_told, .int), (cA_tn_strayCourts, .int)] sz)) (va_Qi (fun (r : Int32) (_ : Unit) => (0 ≤ r.toInt ∧ r.toInt ≤ 1023) ∧ r = (F_X7_inside p1 p2 p3 tn_people f_tn_shows f_tn_told f_tn_strayCourts)) (fun _ t => zW dC dI [(tn, .inr (7, [.int tn_hours, .int tn_courts, .int tn_gateCount, .int tn_people, .int tn_lines, .int tn_falseHours, .int tn_strayers, .int tn_deep, .ref tn_above, .ref tn_doors, .ref tn_degrees, .ref tn_neighbours, .ref tn_shows, .ref tn_oneEnd, .ref tn_otherEnd, .ref tn_told, .ref tn_strayParts, .ref tn_strayCourts])), (tn_shows, .inl (cA_tn_shows, 10, .inl f_tn_shows)), (tn_told, .inl (cA_tn_told, 480, .inl f_tn_told)), (tn_strayCourts, .inl (cA_tn_strayCourts, 10, .inl f_tn_strayCourts))] [] (va_A [(tn, .inr (7, [.int tn_hours, .int tn_courts, .int tn_gateCount, .int tn_people, .int tn_lines, .int tn_falseHours, .int tn_strayers, .int tn_deep, .ref tn_above, .ref tn_doors, .ref tn_degrees, .ref tn_neighbours, .ref tn_shows, .ref tn_oneEnd, .ref tn_otherEnd, .ref tn_told, .ref tn_strayParts, .ref tn_strayCourts])), (tn_shows, .inl (cA_tn_shows, 10, .inl f_tn_shows)), (tn_told, .inl (cA_tn_told, 480, .inl f_tn_told)), (tn_strayCourts, .inl (cA_tn_strayCourts, 10, .inl f_tn_strayCourts))] sz) t) (va_A [(tn, .inr (7, [.int tn_hours, .int tn_courts, .int tn_gateCount, .int tn_people, .int tn_lines, .int tn_falseHours, .int tn_strayers, .int tn_deep, .ref tn_above, .ref tn_doors, .ref tn_degrees, .ref tn_neighbours, .ref tn_shows, .ref tn_oneEnd, .ref tn_otherEnd, .ref tn_told, .ref tn_strayParts, .ref tn_strayCourts])), (tn_shows, .inl (cA_tn_shows, 10, .inl f_tn_shows)), (tn_told, .inl (cA_tn_told, 480, .inl f_tn_told)), (tn_strayCourts, .inl (cA_tn_strayCourts, 10, .inl f_tn_strayCourts))] sz)) 0 0 (va_A [(tn, .inr (7, [.int tn_hours, .int tn_courts, .int tn_gateCount, .int tn_people, .int tn_lines, .int tn_falseHours, .int tn_strayers, .int tn_deep, .ref tn_above, .ref tn_doors, .ref tn_degrees, .ref tn_neighbours, .ref tn_shows, .ref tn_oneEnd, .ref tn_otherEnd, .ref tn_told, .ref tn_strayParts, .ref tn_strayCourts])), (tn_shows, .inl (cA_tn_shows, 10, .inl f_tn_shows)), (tn_told, .inl (cA_tn_told, 480, .inl f_tn_told)), (tn_strayCourts, .inl (cA_tn_strayCourts, 10, .inl f_tn_strayCourts))] sz) := by
  refine z_enter (by decide) (by exact (Nat.le_of_ble_eq_true rfl)) ?_
  intro p e s m args below meth c ls A R Qc hargs hsz hQe hAe hRe hx hb hml hr hts hown hlocks hin hl hP hK hD hN hXs hA hS
  rw [hAe] at hQe
  have hown : s.vm.findClass RX7 = some m.cls := hown
  have hl : lv_has ls 6 [(0, .ref tn), (1, .int p1), (2, .int p2), (3, .int p3)] := hl
  obtain ⟨RR, hRR⟩ : ∃ z : Int32, z = (F_X7_inside p1 p2 p3 tn_people f_tn_shows f_tn_told f_tn_strayCourts) := ⟨_, rfl⟩
  have hF : RR = (F_X7_inside p1 p2 p3 tn_people f_tn_shows f_tn_told f_tn_strayCourts) := hRR
  refine lv_iconst (v := 0) hx hb dX7_inside_0 (by decide) ?_
  refine lv_istore (lv' := [(4, .int 0), (0, .ref tn), (1, .int p1), (2, .int p2), (3, .int p3)]) hx hb dX7_inside_1 hl (by decide) rfl (fun ls hl => ?_)
  refine lv_iconst (v := 0) hx hb dX7_inside_3 (by decide) ?_
  refine lv_istore (lv' := [(5, .int 0), (4, .int 0), (0, .ref tn), (1, .int p1), (2, .int p2), (3, .int p3)]) hx hb dX7_inside_4 hl (by decide) rfl (fun ls hl => ?_)
  have loop_1 : ∀ (t_1 : Nat) (v4_2 : Int32) (v5_1 : Int32) (b_v4_2 : 0 ≤ v4_2.toInt ∧ v4_2.toInt ≤ 1023) (b_v5_1 : 0 ≤ v5_1.toInt ∧ v5_1.toInt ≤ 10) (H : Heap) (locs : List Loc) (ls : Array Slot), 10 - v5_1.toInt < (t_1 : Int) → RR = L_X7_inside_1 tn_people p2 p3 f_tn_shows f_tn_told f_tn_strayCourts p1 K_X7_inside_1_0 t_1 v4_2 v5_1 → va_P (dC, dI) vwCl [(tn, .inr (7, [.int tn_hours, .int tn_courts, .int tn_gateCount, .int tn_people, .int tn_lines, .int tn_falseHours, .int tn_strayers, .int tn_deep, .ref tn_above, .ref tn_doors, .ref tn_degrees, .ref tn_neighbours, .ref tn_shows, .ref tn_oneEnd, .ref tn_otherEnd, .ref tn_told, .ref tn_strayParts, .ref tn_strayCourts])), (tn_shows, .inl (cA_tn_shows, 10, .inl f_tn_shows)), (tn_told, .inl (cA_tn_told, 480, .inl f_tn_told)), (tn_strayCourts, .inl (cA_tn_strayCourts, 10, .inl f_tn_strayCourts))] H → va_D A [(tn, .inr (7, [.int tn_hours, .int tn_courts, .int tn_gateCount, .int tn_people, .int tn_lines, .int tn_falseHours, .int tn_strayers, .int tn_deep, .ref tn_above, .ref tn_doors, .ref tn_degrees, .ref tn_neighbours, .ref tn_shows, .ref tn_oneEnd, .ref tn_otherEnd, .ref tn_told, .ref tn_strayParts, .ref tn_strayCourts])), (tn_shows, .inl (cA_tn_shows, 10, .inl f_tn_shows)), (tn_told, .inl (cA_tn_told, 480, .inl f_tn_told)), (tn_strayCourts, .inl (cA_tn_strayCourts, 10, .inl f_tn_strayCourts))] → va_S A s.heap H locs → lv_has ls 6 [(0, .ref tn), (1, .int p1), (2, .int p2), (3, .int p3), (4, .int v4_2), (5, .int v5_1)] → W p l e R s m args below meth c H locs 0 0 (MQ below Qc args s 0 0 A) (F0 m 6 ls []) := by
    intro t_1
    induction t_1 with
    | zero => intro v4_2 v5_1 b_v4_2 b_v5_1 H locs ls hmu _ _ _ _ _; exact absurd hmu (by first | with_reducible assumption | omega)
    | succ t_1 ih_1 =>
      intro v4_2 v5_1 b_v4_2 b_v5_1 H locs ls hmu hF hP hD hS hl
      replace hF := hF.trans L_X7_inside_1_s
      refine lv_iload hx hb dX7_inside_6 (lv_at hl 5 rfl) ?_
      refine lv_aload_n hx hb dX7_inside_8 rfl (lv_at hl 0 rfl) ?_
      refine va_get (D := (dC, dI)) (ci := 7) (v := .int tn_people) (C := RX7) (T := TX7) (N := 18) hx hb hts zl_X7 hown hK hP 0 rfl rfl 3 (by decide) (hts _ zw_t1_62) (fun _ h9 => h9) rfl dX7_inside_9 ?_
      refine lv_icmp_ge (tgt := 45) hx hb dX7_inside_12 (by decide) (fun c_3 => ?_) (fun c_3 => ?_)
      · have ic_3 := zz_ge rfl rfl c_3
        replace hF := hF.trans (if_pos c_3)
        refine lv_iload hx hb dX7_inside_45 (lv_at hl 4 rfl) ?_
        have hF : RR = v4_2 := hF
        exact W.iret (v := v4_2) hx hb hr (fun t ht hW => by rw [← hQe]; exact ⟨⟨v4_2, (), rfl, ⟨by omega, (by rw [← hRR, hF])⟩, z_ret hP hK hD ht hW [0, 1, 2, 3] [] rfl (by decide) rfl⟩, hS.F ht⟩) hS.2.2 dX7_inside_47
      · have ic_3 := zz_nge rfl rfl c_3
        replace hF := hF.trans (if_neg c_3)
        refine lv_aload_n hx hb dX7_inside_15 rfl (lv_at hl 0 rfl) ?_
        refine lv_iload hx hb dX7_inside_16 (lv_at hl 5 rfl) ?_
        refine lv_iload_n hx hb dX7_inside_18 rfl (lv_at hl 2 rfl) ?_
        refine lv_iload_n hx hb dX7_inside_19 rfl (lv_at hl 3 rfl) ?_
        obtain ⟨hPc, hDc, hFc⟩ := z_cut (wc := [(tn, .inr (7, [.int tn_hours, .int tn_courts, .int tn_gateCount, .int tn_people, .int tn_lines, .int tn_falseHours, .int tn_strayers, .int tn_deep, .ref tn_above, .ref tn_doors, .ref tn_degrees, .ref tn_neighbours, .ref tn_shows, .ref tn_oneEnd, .ref tn_otherEnd, .ref tn_told, .ref tn_strayParts, .ref tn_strayCourts])), (tn_shows, .inl (cA_tn_shows, 10, .inl f_tn_shows)), (tn_told, .inl (cA_tn_told, 480, .inl f_tn_told)), (tn_strayCourts, .inl (cA_tn_strayCourts, 10, .inl f_tn_strayCourts))]) hP hD hS hA [0, 1, 2, 3] rfl (by decide +kernel)
        have hKc := hK.sub (tys' := [(cA_tn_shows, .int), (cA_tn_told, .int), (cA_tn_strayCourts, .int)]) [0, 1, 2] rfl
        refine va_calli (va_runV (As := [.int v5_1, .int p2, .int p3]) (rest := []) ⟨hx, hb, hml, hown, hts⟩ (kf_X7_showsOf l sa dC dI tn v5_1 p2 p3 tn_hours tn_courts tn_gateCount tn_people tn_lines tn_falseHours tn_strayers tn_deep tn_above tn_doors tn_degrees tn_neighbours tn_shows tn_oneEnd tn_otherEnd tn_told tn_strayParts tn_strayCourts cA_tn_shows f_tn_shows cA_tn_told f_tn_told cA_tn_strayCourts f_tn_strayCourts (by first | with_reducible assumption | omega) (by first | with_reducible assumption | omega) (by first | with_reducible assumption | omega) (by first | with_reducible assumption | omega) (by first | with_reducible assumption | omega) (by first | with_reducible assumption | omega) (by first | with_reducible assumption | omega) (by first | with_reducible assumption | omega) b_f_tn_told b_f_tn_strayCourts H.size) (cwV 3 hts (z_gV zw_t3_205 zw_t3_206 zw_t3_207 zw_t1_3 zw_t3_208) rfl rfl rfl (by decide +kernel) (by rw [← hRe]; exact ⟨(Nat.le_of_ble_eq_true rfl), (Nat.le_of_ble_eq_true rfl)⟩)) (z_preV hPc hKc hDc hN hXs hS hFc (q := (RX7, TX7, 18)) (ci := 7) (q0 := 0) rfl rfl) rfl rfl hl.1 rfl (lv_room (Nat.le_of_ble_eq_true rfl)) dX7_inside_20 (by rw [← hRe]; exact ⟨(Nat.le_of_ble_eq_true rfl), (Nat.le_of_ble_eq_true rfl)⟩)) hS (fun q _ h => hFc q h) hFc (fun r_4 u t H1 locs ht hvm hw hB hz1 hk1 hS => ?_)
        obtain ⟨hP, hD, hK⟩ := z_after3 (wn := [(tn, .inr (7, [.int tn_hours, .int tn_courts, .int tn_gateCount, .int tn_people, .int tn_lines, .int tn_falseHours, .int tn_strayers, .int tn_deep, .ref tn_above, .ref tn_doors, .ref tn_degrees, .ref tn_neighbours, .ref tn_shows, .ref tn_oneEnd, .ref tn_otherEnd, .ref tn_told, .ref tn_strayParts, .ref tn_strayCourts])), (tn_shows, .inl (cA_tn_shows, 10, .inl f_tn_shows)), (tn_told, .inl (cA_tn_told, 480, .inl f_tn_told)), (tn_strayCourts, .inl (cA_tn_strayCourts, 10, .inl f_tn_strayCourts))]) hB ht hvm hP hD hK [0, 1, 2, 3] [] rfl 4 rfl (by decide +kernel) rfl (by decide +kernel) hk1 hFc
        generalize H1 = H at hP hS ⊢
        have hK : va_K (dC, dI) vwCl [(cA_tn_shows, .int), (cA_tn_told, .int), (cA_tn_strayCourts, .int)] s := hK
        have sf_r_4 := hw
        replace hF := hF.trans (zL_eq sf_r_4)
        refine lv_iload_n hx hb dX7_inside_23 rfl (lv_at hl 1 rfl) ?_
        obtain ⟨hPc, hDc, hFc⟩ := z_cut (wc := []) hP hD hS hA [] rfl (by decide +kernel)
        have hKc := hK.sub (tys' := []) [] rfl
        refine va_calli (va_runSN (As := [.int r_4, .int p1]) (rest := []) ⟨hx, hb, hml, hown, hts⟩ (kf_X9_has l sa dC dI r_4 p1 H.size) ⟨va_cnB 2 hts (z_gI zw_t3_124) rfl rfl rfl hN.2.1 (hts _ zw_t1_1) (by decide +kernel) (by rw [← hRe]; exact ⟨(Nat.le_of_ble_eq_true rfl), (Nat.le_of_ble_eq_true rfl)⟩), (hts _ zw_t3_123), trivial⟩ (z_preS hPc hKc hDc hN hXs hS hFc) rfl rfl hl.1 rfl (lv_room (Nat.le_of_ble_eq_true rfl)) dX7_inside_24 (by rw [← hRe]; exact ⟨(Nat.le_of_ble_eq_true rfl), (Nat.le_of_ble_eq_true rfl)⟩)) hS (fun q _ h => hFc q h) hFc (fun r_5 u t H1 locs ht hvm hw hB hz1 hk1 hS => ?_)
        obtain ⟨hP, hD, hK⟩ := z_after3 (wn := [(tn, .inr (7, [.int tn_hours, .int tn_courts, .int tn_gateCount, .int tn_people, .int tn_lines, .int tn_falseHours, .int tn_strayers, .int tn_deep, .ref tn_above, .ref tn_doors, .ref tn_degrees, .ref tn_neighbours, .ref tn_shows, .ref tn_oneEnd, .ref tn_otherEnd, .ref tn_told, .ref tn_strayParts, .ref tn_strayCourts])), (tn_shows, .inl (cA_tn_shows, 10, .inl f_tn_shows)), (tn_told, .inl (cA_tn_told, 480, .inl f_tn_told)), (tn_strayCourts, .inl (cA_tn_strayCourts, 10, .inl f_tn_strayCourts))]) hB ht hvm hP hD hK [] [0, 1, 2, 3] rfl 4 rfl (by decide +kernel) rfl (by decide +kernel) hk1 hFc
        generalize H1 = H at hP hS ⊢
        have hK : va_K (dC, dI) vwCl [(cA_tn_shows, .int), (cA_tn_told, .int), (cA_tn_strayCourts, .int)] s := hK
        have b_r_5 : 0 ≤ r_5.toInt ∧ r_5.toInt ≤ 1 := hw.1
        have sf_r_5 := hw.2
        replace hF := hF.trans (zL_eq sf_r_5)
        refine lv_if_eq (tgt := 39) hx hb dX7_inside_27 (by decide) (fun c_6 => ?_) (fun c_6 => ?_)
        · have ic_6 := zz_eq rfl (show Int32.toInt 0 = 0 from by decide) c_6
          replace hF := hF.trans (if_pos c_6)
          obtain ⟨x_7, ex_7⟩ : ∃ z : Int32, z = v5_1 + Int32.ofInt 1 := ⟨_, rfl⟩
          have b_x_7 : x_7.toInt = v5_1.toInt + 1 := by rw [ex_7]; exact zi_add rfl (show (Int32.ofInt 1).toInt = 1 from by decide) (by first | with_reducible assumption | omega)
          refine lv_iinc (v := x_7) (lv' := [(5, .int x_7), (0, .ref tn), (1, .int p1), (2, .int p2), (3, .int p3), (4, .int v4_2)]) hx hb dX7_inside_39 hl (k := 5) rfl ex_7.symm (by decide) rfl (fun ls hl => ?_)
          replace hF := hF.trans (zL_eq ex_7)
          refine lv_goto (tgt := 6) hx hb dX7_inside_42 (by decide) ?_
          exact ih_1 v4_2 x_7 (by first | with_reducible assumption | omega) (by first | with_reducible assumption | omega) _ _ _ (by first | with_reducible assumption | omega) hF (hP.sub (ws' := [(tn, .inr (7, [.int tn_hours, .int tn_courts, .int tn_gateCount, .int tn_people, .int tn_lines, .int tn_falseHours, .int tn_strayers, .int tn_deep, .ref tn_above, .ref tn_doors, .ref tn_degrees, .ref tn_neighbours, .ref tn_shows, .ref tn_oneEnd, .ref tn_otherEnd, .ref tn_told, .ref tn_strayParts, .ref tn_strayCourts])), (tn_shows, .inl (cA_tn_shows, 10, .inl f_tn_shows)), (tn_told, .inl (cA_tn_told, 480, .inl f_tn_told)), (tn_strayCourts, .inl (cA_tn_strayCourts, 10, .inl f_tn_strayCourts))]) [0, 1, 2, 3] rfl) (hD.sub (ws' := [(tn, .inr (7, [.int tn_hours, .int tn_courts, .int tn_gateCount, .int tn_people, .int tn_lines, .int tn_falseHours, .int tn_strayers, .int tn_deep, .ref tn_above, .ref tn_doors, .ref tn_degrees, .ref tn_neighbours, .ref tn_shows, .ref tn_oneEnd, .ref tn_otherEnd, .ref tn_told, .ref tn_strayParts, .ref tn_strayCourts])), (tn_shows, .inl (cA_tn_shows, 10, .inl f_tn_shows)), (tn_told, .inl (cA_tn_told, 480, .inl f_tn_told)), (tn_strayCourts, .inl (cA_tn_strayCourts, 10, .inl f_tn_strayCourts))]) [0, 1, 2, 3] (by decide) rfl) hS (lv_sub hl [1, 2, 3, 4, 5, 0] rfl)
        · have ic_6 := zz_neq rfl (show Int32.toInt 0 = 0 from by decide) c_6
          replace hF := hF.trans (if_neg c_6)
          refine lv_iload hx hb dX7_inside_30 (lv_at hl 4 rfl) ?_
          refine lv_iconst (v := 1) hx hb dX7_inside_32 (by decide) ?_
          refine lv_iload hx hb dX7_inside_33 (lv_at hl 5 rfl) ?_
          refine lv_ishl hx hb dX7_inside_35 ?_
          refine lv_topi (fun x_8 ex_8 => ?_)
          replace hF := hF.trans (zL_eq ex_8)
          have b_x_8 : 1 ≤ x_8.toInt ∧ x_8.toInt ≤ 512 := by rw [ex_8]; exact zi_shl9 rfl (by first | with_reducible assumption | omega)
          refine lv_ior hx hb dX7_inside_36 ?_
          refine lv_topi (fun x_9 ex_9 => ?_)
          replace hF := hF.trans (zL_eq ex_9)
          have b_x_9 : 0 ≤ x_9.toInt ∧ x_9.toInt ≤ 1023 := by rw [ex_9]; exact zi_or 10 rfl rfl (by first | with_reducible assumption | omega) (by first | with_reducible assumption | omega) (by decide)
          refine lv_istore (lv' := [(4, .int x_9), (0, .ref tn), (1, .int p1), (2, .int p2), (3, .int p3), (5, .int v5_1)]) hx hb dX7_inside_37 hl (by decide) rfl (fun ls hl => ?_)
          obtain ⟨x_10, ex_10⟩ : ∃ z : Int32, z = v5_1 + Int32.ofInt 1 := ⟨_, rfl⟩
          have b_x_10 : x_10.toInt = v5_1.toInt + 1 := by rw [ex_10]; exact zi_add rfl (show (Int32.ofInt 1).toInt = 1 from by decide) (by first | with_reducible assumption | omega)
          refine lv_iinc (v := x_10) (lv' := [(5, .int x_10), (4, .int x_9), (0, .ref tn), (1, .int p1), (2, .int p2), (3, .int p3)]) hx hb dX7_inside_39 hl (k := 5) rfl ex_10.symm (by decide) rfl (fun ls hl => ?_)
          replace hF := hF.trans (zL_eq ex_10)
          refine lv_goto (tgt := 6) hx hb dX7_inside_42 (by decide) ?_
          exact ih_1 x_9 x_10 (by first | with_reducible assumption | omega) (by first | with_reducible assumption | omega) _ _ _ (by first | with_reducible assumption | omega) hF (hP.sub (ws' := [(tn, .inr (7, [.int tn_hours, .int tn_courts, .int tn_gateCount, .int tn_people, .int tn_lines, .int tn_falseHours, .int tn_strayers, .int tn_deep, .ref tn_above, .ref tn_doors, .ref tn_degrees, .ref tn_neighbours, .ref tn_shows, .ref tn_oneEnd, .ref tn_otherEnd, .ref tn_told, .ref tn_strayParts, .ref tn_strayCourts])), (tn_shows, .inl (cA_tn_shows, 10, .inl f_tn_shows)), (tn_told, .inl (cA_tn_told, 480, .inl f_tn_told)), (tn_strayCourts, .inl (cA_tn_strayCourts, 10, .inl f_tn_strayCourts))]) [0, 1, 2, 3] rfl) (hD.sub (ws' := [(tn, .inr (7, [.int tn_hours, .int tn_courts, .int tn_gateCount, .int tn_people, .int tn_lines, .int tn_falseHours, .int tn_strayers, .int tn_deep, .ref tn_above, .ref tn_doors, .ref tn_degrees, .ref tn_neighbours, .ref tn_shows, .ref tn_oneEnd, .ref tn_otherEnd, .ref tn_told, .ref tn_strayParts, .ref tn_strayCourts])), (tn_shows, .inl (cA_tn_shows, 10, .inl f_tn_shows)), (tn_told, .inl (cA_tn_told, 480, .inl f_tn_told)), (tn_strayCourts, .inl (cA_tn_strayCourts, 10, .inl f_tn_strayCourts))]) [0, 1, 2, 3] (by decide) rfl) hS (lv_sub hl [2, 3, 4, 5, 1, 0] rfl)
  exact loop_1 12 (0) (0) (by decide) (by decide) _ _ _ (by decide) hF hP hD hS (lv_sub hl [2, 3, 4, 5, 1, 0] rfl)
set_option maxHeartbeats 4000000 in
set_option maxRecDepth 100000 in
theorem kf_X7_beyond (l : Launch) (sa : Nat → Nat) (dC : Nat → ClassId) (dI : Nat → Nat → Nat) (tn : Nat) (p1 : Int32) (p2 : Int32) (tn_hours : Int32) (tn_courts : Int32) (tn_gateCount : Int32) (tn_people : Int32) (tn_lines : Int32) (tn_falseHours : Int32) (tn_strayers : Int32) (tn_deep : Int32) (tn_above : Nat) (tn_doors : Nat) (tn_degrees : Nat) (tn_neighbours : Nat) (tn_shows : Nat) (tn_oneEnd : Nat) (tn_otherEnd : Nat) (tn_told : Nat) (tn_strayParts : Nat) (tn_strayCourts : Nat) (cA_tn_oneEnd : ClassId) (f_tn_oneEnd : Nat → Int32) (cA_tn_otherEnd : ClassId) (f_tn_otherEnd : Nat → Int32) (b_p1 : 0 ≤ p1.toInt ∧ p1.toInt ≤ 15) (b_tn_hours : 0 ≤ tn_hours.toInt ∧ tn_hours.toInt ≤ 48) (b_tn_courts : 0 ≤ tn_courts.toInt ∧ tn_courts.toInt ≤ 10) (b_tn_gateCount : 0 ≤ tn_gateCount.toInt ∧ tn_gateCount.toInt ≤ 16) (b_tn_people : 0 ≤ tn_people.toInt ∧ tn_people.toInt ≤ 10) (b_tn_falseHours : 0 ≤ tn_falseHours.toInt ∧ tn_falseHours.toInt ≤ 9) (b_tn_deep : 0 ≤ tn_deep.toInt ∧ tn_deep.toInt ≤ 1) (b_f_tn_oneEnd : ∀ j : Nat, 0 ≤ (f_tn_oneEnd j).toInt ∧ (f_tn_oneEnd j).toInt ≤ 9) (b_f_tn_otherEnd : ∀ j : Nat, 0 ≤ (f_tn_otherEnd j).toInt ∧ (f_tn_otherEnd j).toInt ≤ 9) (sz : Nat) : Met l yX7_beyond (.code yX7_beyond cX7_beyond 3 (some .int) :: zT) ({ frames := 0, cells := 0, slots := 0, locals := 0 }) (va_Pc [.ref tn, .int p1, .int p2] (zB sa dC dI [(tn, .inr (7, [.int tn_hours, .int tn_courts, .int tn_gateCount, .int tn_people, .int tn_lines, .int tn_falseHours, .int tn_strayers, .int tn_deep, .ref tn_above, .ref tn_doors, .ref tn_degrees, .ref tn_neighbours, .ref tn_shows, .ref tn_oneEnd, .ref tn_otherEnd, .ref tn_told, .ref tn_strayParts, .ref tn_strayCourts])), (tn_oneEnd, .inl (cA_tn_oneEnd, 16, .inl f_tn_oneEnd)), (tn_otherEnd, .inl (cA_tn_otherEnd, 16, .inl f_tn_otherEnd))] [(cA_tn_oneEnd, .int), (cA_tn_otherEnd, .int)] sz)) (va_Qi (fun (r : Int32) (_ : Unit) => ((-1) ≤ r.toInt ∧ r.toInt ≤ 9) ∧ ((r.toInt = -1 ∧ zJ f_tn_oneEnd f_tn_otherEnd p1.toInt p2.toInt = 0) ∨ (0 ≤ r.toInt ∧ zJ f_tn_oneEnd f_tn_otherEnd p1.toInt p2.toInt = 1)) ∧ r = (F_X7_beyond p1 p2 f_tn_oneEnd f_tn_otherEnd)) (fun _ t => zW dC dI [(tn, .inr (7, [.int tn_hours, .int tn_courts, .int tn_gateCount, .int tn_people, .int tn_lines, .int tn_falseHours, .int tn_strayers, .int tn_deep, .ref tn_above, .ref tn_doors, .ref tn_degrees, .ref tn_neighbours, .ref tn_shows, .ref tn_oneEnd, .ref tn_otherEnd, .ref tn_told, .ref tn_strayParts, .ref tn_strayCourts])), (tn_oneEnd, .inl (cA_tn_oneEnd, 16, .inl f_tn_oneEnd)), (tn_otherEnd, .inl (cA_tn_otherEnd, 16, .inl f_tn_otherEnd))] [] (va_A [(tn, .inr (7, [.int tn_hours, .int tn_courts, .int tn_gateCount, .int tn_people, .int tn_lines, .int tn_falseHours, .int tn_strayers, .int tn_deep, .ref tn_above, .ref tn_doors, .ref tn_degrees, .ref tn_neighbours, .ref tn_shows, .ref tn_oneEnd, .ref tn_otherEnd, .ref tn_told, .ref tn_strayParts, .ref tn_strayCourts])), (tn_oneEnd, .inl (cA_tn_oneEnd, 16, .inl f_tn_oneEnd)), (tn_otherEnd, .inl (cA_tn_otherEnd, 16, .inl f_tn_otherEnd))] sz) t) (va_A [(tn, .inr (7, [.int tn_hours, .int tn_courts, .int tn_gateCount, .int tn_people, .int tn_lines, .int tn_falseHours, .int tn_strayers, .int tn_deep, .ref tn_above, .ref tn_doors, .ref tn_degrees, .ref tn_neighbours, .ref tn_shows, .ref tn_oneEnd, .ref tn_otherEnd, .ref tn_told, .ref tn_strayParts, .ref tn_strayCourts])), (tn_oneEnd, .inl (cA_tn_oneEnd, 16, .inl f_tn_oneEnd)), (tn_otherEnd, .inl (cA_tn_otherEnd, 16, .inl f_tn_otherEnd))] sz)) 0 0 (va_A [(tn, .inr (7, [.int tn_hours, .int tn_courts, .int tn_gateCount, .int tn_people, .int tn_lines, .int tn_falseHours, .int tn_strayers, .int tn_deep, .ref tn_above, .ref tn_doors, .ref tn_degrees, .ref tn_neighbours, .ref tn_shows, .ref tn_oneEnd, .ref tn_otherEnd, .ref tn_told, .ref tn_strayParts, .ref tn_strayCourts])), (tn_oneEnd, .inl (cA_tn_oneEnd, 16, .inl f_tn_oneEnd)), (tn_otherEnd, .inl (cA_tn_otherEnd, 16, .inl f_tn_otherEnd))] sz) := by
  refine z_enter (by decide) (by exact (Nat.le_of_ble_eq_true rfl)) ?_
  intro p e s m args below meth c ls A R Qc hargs hsz hQe hAe hRe hx hb hml hr hts hown hlocks hin hl hP hK hD hN hXs hA hS
  rw [hAe] at hQe
  have hown : s.vm.findClass RX7 = some m.cls := hown
  have hl : lv_has ls 3 [(0, .ref tn), (1, .int p1), (2, .int p2)] := hl
  obtain ⟨RR, hRR⟩ : ∃ z : Int32, z = (F_X7_beyond p1 p2 f_tn_oneEnd f_tn_otherEnd) := ⟨_, rfl⟩
  have hF : RR = (F_X7_beyond p1 p2 f_tn_oneEnd f_tn_otherEnd) := hRR
  refine lv_aload_n hx hb dX7_beyond_0 rfl (lv_at hl 0 rfl) ?_
  refine va_get (D := (dC, dI)) (ci := 7) (v := .ref tn_oneEnd) (C := RX7) (T := TX7) (N := 18) hx hb hts zl_X7 hown hK hP 0 rfl rfl 13 (by decide) (hts _ zw_t1_99) (fun _ h9 => h9) rfl dX7_beyond_1 ?_
  refine lv_iload_n hx hb dX7_beyond_4 rfl (lv_at hl 1 rfl) ?_
  refine va_iald hx hb hK hP 1 0 rfl rfl (zi_in rfl (by first | with_reducible assumption | omega)) dX7_beyond_5 ?_
  refine lv_topi (fun x_1 ex_1 => ?_)
  replace hF := hF.trans (zL_eq ex_1)
  have b_x_1 : 0 ≤ x_1.toInt ∧ x_1.toInt ≤ 9 := by rw [ex_1]; exact b_f_tn_oneEnd _
  have t_x_1 : x_1.toInt = (f_tn_oneEnd (Int32.toNatClampNeg p1)).toInt := by rw [ex_1]
  refine lv_iload_n hx hb dX7_beyond_6 rfl (lv_at hl 2 rfl) ?_
  have nb_p2 := zi_nb p2
  refine lv_icmp_ne (tgt := 17) hx hb dX7_beyond_7 (by decide) (fun c_2 => ?_) (fun c_2 => ?_)
  · have ic_2 := zz_ne rfl rfl c_2
    replace hF := hF.trans (if_neg c_2)
    refine lv_aload_n hx hb dX7_beyond_17 rfl (lv_at hl 0 rfl) ?_
    refine va_get (D := (dC, dI)) (ci := 7) (v := .ref tn_otherEnd) (C := RX7) (T := TX7) (N := 18) hx hb hts zl_X7 hown hK hP 0 rfl rfl 14 (by decide) (hts _ zw_t1_102) (fun _ h9 => h9) rfl dX7_beyond_18 ?_
    refine lv_iload_n hx hb dX7_beyond_21 rfl (lv_at hl 1 rfl) ?_
    refine va_iald hx hb hK hP 2 1 rfl rfl (zi_in rfl (by first | with_reducible assumption | omega)) dX7_beyond_22 ?_
    refine lv_topi (fun x_3 ex_3 => ?_)
    replace hF := hF.trans (zL_eq ex_3)
    have b_x_3 : 0 ≤ x_3.toInt ∧ x_3.toInt ≤ 9 := by rw [ex_3]; exact b_f_tn_otherEnd _
    have t_x_3 : x_3.toInt = (f_tn_otherEnd (Int32.toNatClampNeg p1)).toInt := by rw [ex_3]
    refine lv_iload_n hx hb dX7_beyond_23 rfl (lv_at hl 2 rfl) ?_
    refine lv_icmp_ne (tgt := 36) hx hb dX7_beyond_24 (by decide) (fun c_4 => ?_) (fun c_4 => ?_)
    · have ic_4 := zz_ne rfl rfl c_4
      replace hF := hF.trans (if_neg c_4)
      refine lv_iconst (v := (-1)) hx hb dX7_beyond_36 (by decide) ?_
      have hj := zJ_no (f := f_tn_oneEnd) (g := f_tn_otherEnd) (x := p1) (c := p2.toInt) rfl (by first | with_reducible assumption | omega) (by first | with_reducible assumption | omega)
      have hF : RR = (-1 : Int32) := hF
      have zc : Int32.toInt (-1) = (-1) := by decide
      exact W.iret (v := (-1)) hx hb hr (fun t ht hW => by rw [← hQe]; exact ⟨⟨(-1), (), rfl, ⟨by decide, ⟨by omega, (by rw [← hRR, hF])⟩⟩, z_ret hP hK hD ht hW [0, 1, 2] [] rfl (by decide) rfl⟩, hS.F ht⟩) hS.2.2 dX7_beyond_37
    · have ic_4 := zz_nne rfl rfl c_4
      replace hF := hF.trans (if_pos c_4)
      refine lv_aload_n hx hb dX7_beyond_27 rfl (lv_at hl 0 rfl) ?_
      refine va_get (D := (dC, dI)) (ci := 7) (v := .ref tn_oneEnd) (C := RX7) (T := TX7) (N := 18) hx hb hts zl_X7 hown hK hP 0 rfl rfl 13 (by decide) (hts _ zw_t1_99) (fun _ h9 => h9) rfl dX7_beyond_28 ?_
      refine lv_iload_n hx hb dX7_beyond_31 rfl (lv_at hl 1 rfl) ?_
      refine va_iald hx hb hK hP 1 0 rfl rfl (zi_in rfl (by first | with_reducible assumption | omega)) dX7_beyond_32 ?_
      refine lv_topi (fun x_5 ex_5 => ?_)
      replace hF := hF.trans (zL_eq ex_5)
      obtain rfl : x_1 = x_5 := ex_1.trans ex_5.symm
      refine lv_goto (tgt := 37) hx hb dX7_beyond_33 (by decide) ?_
      have hj := zJ_yes (f := f_tn_oneEnd) (g := f_tn_otherEnd) (x := p1) (c := p2.toInt) rfl (by first | with_reducible assumption | omega) (by first | with_reducible assumption | omega)
      have hF : RR = x_1 := hF
      exact W.iret (v := x_1) hx hb hr (fun t ht hW => by rw [← hQe]; exact ⟨⟨x_1, (), rfl, ⟨by omega, ⟨by omega, (by rw [← hRR, hF])⟩⟩, z_ret hP hK hD ht hW [0, 1, 2] [] rfl (by decide) rfl⟩, hS.F ht⟩) hS.2.2 dX7_beyond_37
  · have ic_2 := zz_nne rfl rfl c_2
    replace hF := hF.trans (if_pos c_2)
    refine lv_aload_n hx hb dX7_beyond_10 rfl (lv_at hl 0 rfl) ?_
    refine va_get (D := (dC, dI)) (ci := 7) (v := .ref tn_otherEnd) (C := RX7) (T := TX7) (N := 18) hx hb hts zl_X7 hown hK hP 0 rfl rfl 14 (by decide) (hts _ zw_t1_102) (fun _ h9 => h9) rfl dX7_beyond_11 ?_
    refine lv_iload_n hx hb dX7_beyond_14 rfl (lv_at hl 1 rfl) ?_
    refine va_iald hx hb hK hP 2 1 rfl rfl (zi_in rfl (by first | with_reducible assumption | omega)) dX7_beyond_15 ?_
    refine lv_topi (fun x_6 ex_6 => ?_)
    replace hF := hF.trans (zL_eq ex_6)
    have b_x_6 : 0 ≤ x_6.toInt ∧ x_6.toInt ≤ 9 := by rw [ex_6]; exact b_f_tn_otherEnd _
    have t_x_6 : x_6.toInt = (f_tn_otherEnd (Int32.toNatClampNeg p1)).toInt := by rw [ex_6]
    have hj := zJ_yes (f := f_tn_oneEnd) (g := f_tn_otherEnd) (x := p1) (c := p2.toInt) rfl (by first | with_reducible assumption | omega) (by first | with_reducible assumption | omega)
    have hF : RR = x_6 := hF
    exact W.iret (v := x_6) hx hb hr (fun t ht hW => by rw [← hQe]; exact ⟨⟨x_6, (), rfl, ⟨by omega, ⟨by omega, (by rw [← hRR, hF])⟩⟩, z_ret hP hK hD ht hW [0, 1, 2] [] rfl (by decide) rfl⟩, hS.F ht⟩) hS.2.2 dX7_beyond_16
set_option maxHeartbeats 4000000 in
set_option maxRecDepth 100000 in
theorem kf_X7_isFree (l : Launch) (sa : Nat → Nat) (dC : Nat → ClassId) (dI : Nat → Nat → Nat) (tn : Nat) (p1 : Int32) (p2 : Int32) (tn_hours : Int32) (tn_courts : Int32) (tn_gateCount : Int32) (tn_people : Int32) (tn_lines : Int32) (tn_falseHours : Int32) (tn_strayers : Int32) (tn_deep : Int32) (tn_above : Nat) (tn_doors : Nat) (tn_degrees : Nat) (tn_neighbours : Nat) (tn_shows : Nat) (tn_oneEnd : Nat) (tn_otherEnd : Nat) (tn_told : Nat) (tn_strayParts : Nat) (tn_strayCourts : Nat) (cA_tn_above : ClassId) (f_tn_above : Nat → Int32) (b_p1 : 0 ≤ p1.toInt ∧ p1.toInt ≤ 9) (b_tn_hours : 0 ≤ tn_hours.toInt ∧ tn_hours.toInt ≤ 48) (b_tn_courts : 0 ≤ tn_courts.toInt ∧ tn_courts.toInt ≤ 10) (b_tn_gateCount : 0 ≤ tn_gateCount.toInt ∧ tn_gateCount.toInt ≤ 16) (b_tn_people : 0 ≤ tn_people.toInt ∧ tn_people.toInt ≤ 10) (b_tn_falseHours : 0 ≤ tn_falseHours.toInt ∧ tn_falseHours.toInt ≤ 9) (b_tn_deep : 0 ≤ tn_deep.toInt ∧ tn_deep.toInt ≤ 1) (sz : Nat) : Met l yX7_isFree (.code yX7_isFree cX7_isFree 3 (some .boolean) :: zT) ({ frames := 1, cells := 0, slots := 0, locals := 21 }) (va_Pc [.ref tn, .int p1, .int p2] (zB sa dC dI [(tn, .inr (7, [.int tn_hours, .int tn_courts, .int tn_gateCount, .int tn_people, .int tn_lines, .int tn_falseHours, .int tn_strayers, .int tn_deep, .ref tn_above, .ref tn_doors, .ref tn_degrees, .ref tn_neighbours, .ref tn_shows, .ref tn_oneEnd, .ref tn_otherEnd, .ref tn_told, .ref tn_strayParts, .ref tn_strayCourts])), (tn_above, .inl (cA_tn_above, 10, .inl f_tn_above))] [(cA_tn_above, .int)] sz)) (va_Qi (fun (r : Int32) (_ : Unit) => (0 ≤ r.toInt ∧ r.toInt ≤ 1) ∧ r = (F_X7_isFree p1 p2 f_tn_above)) (fun _ t => zW dC dI [(tn, .inr (7, [.int tn_hours, .int tn_courts, .int tn_gateCount, .int tn_people, .int tn_lines, .int tn_falseHours, .int tn_strayers, .int tn_deep, .ref tn_above, .ref tn_doors, .ref tn_degrees, .ref tn_neighbours, .ref tn_shows, .ref tn_oneEnd, .ref tn_otherEnd, .ref tn_told, .ref tn_strayParts, .ref tn_strayCourts])), (tn_above, .inl (cA_tn_above, 10, .inl f_tn_above))] [] (va_A [(tn, .inr (7, [.int tn_hours, .int tn_courts, .int tn_gateCount, .int tn_people, .int tn_lines, .int tn_falseHours, .int tn_strayers, .int tn_deep, .ref tn_above, .ref tn_doors, .ref tn_degrees, .ref tn_neighbours, .ref tn_shows, .ref tn_oneEnd, .ref tn_otherEnd, .ref tn_told, .ref tn_strayParts, .ref tn_strayCourts])), (tn_above, .inl (cA_tn_above, 10, .inl f_tn_above))] sz) t) (va_A [(tn, .inr (7, [.int tn_hours, .int tn_courts, .int tn_gateCount, .int tn_people, .int tn_lines, .int tn_falseHours, .int tn_strayers, .int tn_deep, .ref tn_above, .ref tn_doors, .ref tn_degrees, .ref tn_neighbours, .ref tn_shows, .ref tn_oneEnd, .ref tn_otherEnd, .ref tn_told, .ref tn_strayParts, .ref tn_strayCourts])), (tn_above, .inl (cA_tn_above, 10, .inl f_tn_above))] sz)) 0 0 (va_A [(tn, .inr (7, [.int tn_hours, .int tn_courts, .int tn_gateCount, .int tn_people, .int tn_lines, .int tn_falseHours, .int tn_strayers, .int tn_deep, .ref tn_above, .ref tn_doors, .ref tn_degrees, .ref tn_neighbours, .ref tn_shows, .ref tn_oneEnd, .ref tn_otherEnd, .ref tn_told, .ref tn_strayParts, .ref tn_strayCourts])), (tn_above, .inl (cA_tn_above, 10, .inl f_tn_above))] sz) := by
  refine z_enter (by decide) (by exact (Nat.le_of_ble_eq_true rfl)) ?_
  intro p e s m args below meth c ls A R Qc hargs hsz hQe hAe hRe hx hb hml hr hts hown hlocks hin hl hP hK hD hN hXs hA hS
  rw [hAe] at hQe
  have hown : s.vm.findClass RX7 = some m.cls := hown
  have hl : lv_has ls 3 [(0, .ref tn), (1, .int p1), (2, .int p2)] := hl
  obtain ⟨RR, hRR⟩ : ∃ z : Int32, z = (F_X7_isFree p1 p2 f_tn_above) := ⟨_, rfl⟩
  have hF : RR = (F_X7_isFree p1 p2 f_tn_above) := hRR
  refine lv_aload_n hx hb dX7_isFree_0 rfl (lv_at hl 0 rfl) ?_
  refine va_get (D := (dC, dI)) (ci := 7) (v := .ref tn_above) (C := RX7) (T := TX7) (N := 18) hx hb hts zl_X7 hown hK hP 0 rfl rfl 8 (by decide) (hts _ zw_t1_79) (fun _ h9 => h9) rfl dX7_isFree_1 ?_
  refine lv_iload_n hx hb dX7_isFree_4 rfl (lv_at hl 1 rfl) ?_
  refine va_iald hx hb hK hP 1 0 rfl rfl (zi_in rfl (by first | with_reducible assumption | omega)) dX7_isFree_5 ?_
  refine lv_topi (fun x_1 ex_1 => ?_)
  replace hF := hF.trans (zL_eq ex_1)
  refine lv_iload_n hx hb dX7_isFree_6 rfl (lv_at hl 2 rfl) ?_
  obtain ⟨hPc, hDc, hFc⟩ := z_cut (wc := []) hP hD hS hA [] rfl (by decide +kernel)
  have hKc := hK.sub (tys' := []) [] rfl
  refine va_calli (va_runSN (As := [.int x_1, .int p2]) (rest := []) ⟨hx, hb, hml, hown, hts⟩ (kf_X9_has l sa dC dI x_1 p2 s.heap.size) ⟨va_cnB 2 hts (z_gI zw_t3_124) rfl rfl rfl hN.2.1 (hts _ zw_t1_1) (by decide +kernel) (by rw [← hRe]; exact ⟨(Nat.le_of_ble_eq_true rfl), (Nat.le_of_ble_eq_true rfl)⟩), (hts _ zw_t3_123), trivial⟩ (z_preS hPc hKc hDc hN hXs hS hFc) rfl rfl hl.1 rfl (lv_room (Nat.le_of_ble_eq_true rfl)) dX7_isFree_7 (by rw [← hRe]; exact ⟨(Nat.le_of_ble_eq_true rfl), (Nat.le_of_ble_eq_true rfl)⟩)) hS (fun q _ h => hFc q h) hFc (fun r_2 u t H1 locs ht hvm hw hB hz1 hk1 hS => ?_)
  obtain ⟨hP, hD, hK⟩ := z_after3 (wn := [(tn, .inr (7, [.int tn_hours, .int tn_courts, .int tn_gateCount, .int tn_people, .int tn_lines, .int tn_falseHours, .int tn_strayers, .int tn_deep, .ref tn_above, .ref tn_doors, .ref tn_degrees, .ref tn_neighbours, .ref tn_shows, .ref tn_oneEnd, .ref tn_otherEnd, .ref tn_told, .ref tn_strayParts, .ref tn_strayCourts])), (tn_above, .inl (cA_tn_above, 10, .inl f_tn_above))]) hB ht hvm hP hD hK [] [0, 1] rfl 2 rfl (by decide +kernel) rfl (by decide +kernel) hk1 hFc
  generalize H1 = H at hP hS ⊢
  have hK : va_K (dC, dI) vwCl [(cA_tn_above, .int)] s := hK
  have b_r_2 : 0 ≤ r_2.toInt ∧ r_2.toInt ≤ 1 := hw.1
  have sf_r_2 := hw.2
  replace hF := hF.trans (zL_eq sf_r_2)
  have hF : RR = r_2 := hF
  exact W.zret (v := r_2) hx hb hr (zi_bool (by first | with_reducible assumption | omega)) (fun t ht hW => by rw [← hQe]; exact ⟨⟨r_2, (), rfl, ⟨by omega, (by rw [← hRR, hF])⟩, z_ret hP hK hD ht hW [0, 1] [] rfl (by decide) rfl⟩, hS.F ht⟩) hS.2.2 dX7_isFree_10
set_option maxHeartbeats 4000000 in
set_option maxRecDepth 100000 in
theorem kf_X7_drawn (l : Launch) (sa : Nat → Nat) (dC : Nat → ClassId) (dI : Nat → Nat → Nat) (tn : Nat) (p1 : Int64) (tn_hours : Int32) (tn_courts : Int32) (tn_gateCount : Int32) (tn_people : Int32) (tn_lines : Int32) (tn_falseHours : Int32) (tn_strayers : Int32) (tn_deep : Int32) (tn_above : Nat) (tn_doors : Nat) (tn_degrees : Nat) (tn_neighbours : Nat) (tn_shows : Nat) (tn_oneEnd : Nat) (tn_otherEnd : Nat) (tn_told : Nat) (tn_strayParts : Nat) (tn_strayCourts : Nat) (cA_tn_strayParts : ClassId) (f_tn_strayParts : Nat → Int32) (b_tn_hours : 0 ≤ tn_hours.toInt ∧ tn_hours.toInt ≤ 48) (b_tn_courts : 0 ≤ tn_courts.toInt ∧ tn_courts.toInt ≤ 10) (b_tn_gateCount : 0 ≤ tn_gateCount.toInt ∧ tn_gateCount.toInt ≤ 16) (b_tn_people : 0 ≤ tn_people.toInt ∧ tn_people.toInt ≤ 10) (b_tn_falseHours : 0 ≤ tn_falseHours.toInt ∧ tn_falseHours.toInt ≤ 9) (b_tn_deep : 0 ≤ tn_deep.toInt ∧ tn_deep.toInt ≤ 1) (b_f_tn_strayParts : ∀ j : Nat, 0 ≤ (f_tn_strayParts j).toInt ∧ (f_tn_strayParts j).toInt ≤ 99) (sz : Nat) : Met l yX7_drawn (.code yX7_drawn cX7_drawn 7 (some .int) :: zT) ({ frames := 1, cells := 0, slots := 0, locals := 21 }) (va_Pc [.ref tn, .long p1] (zB sa dC dI [(tn, .inr (7, [.int tn_hours, .int tn_courts, .int tn_gateCount, .int tn_people, .int tn_lines, .int tn_falseHours, .int tn_strayers, .int tn_deep, .ref tn_above, .ref tn_doors, .ref tn_degrees, .ref tn_neighbours, .ref tn_shows, .ref tn_oneEnd, .ref tn_otherEnd, .ref tn_told, .ref tn_strayParts, .ref tn_strayCourts])), (tn_strayParts, .inl (cA_tn_strayParts, 10, .inl f_tn_strayParts))] [(cA_tn_strayParts, .int)] sz)) (va_Qi (fun (r : Int32) (_ : Unit) => (0 ≤ r.toInt ∧ r.toInt ≤ 1023) ∧ r = (F_X7_drawn p1 tn_people tn_strayers f_tn_strayParts)) (fun _ t => zW dC dI [(tn, .inr (7, [.int tn_hours, .int tn_courts, .int tn_gateCount, .int tn_people, .int tn_lines, .int tn_falseHours, .int tn_strayers, .int tn_deep, .ref tn_above, .ref tn_doors, .ref tn_degrees, .ref tn_neighbours, .ref tn_shows, .ref tn_oneEnd, .ref tn_otherEnd, .ref tn_told, .ref tn_strayParts, .ref tn_strayCourts])), (tn_strayParts, .inl (cA_tn_strayParts, 10, .inl f_tn_strayParts))] [] (va_A [(tn, .inr (7, [.int tn_hours, .int tn_courts, .int tn_gateCount, .int tn_people, .int tn_lines, .int tn_falseHours, .int tn_strayers, .int tn_deep, .ref tn_above, .ref tn_doors, .ref tn_degrees, .ref tn_neighbours, .ref tn_shows, .ref tn_oneEnd, .ref tn_otherEnd, .ref tn_told, .ref tn_strayParts, .ref tn_strayCourts])), (tn_strayParts, .inl (cA_tn_strayParts, 10, .inl f_tn_strayParts))] sz) t) (va_A [(tn, .inr (7, [.int tn_hours, .int tn_courts, .int tn_gateCount, .int tn_people, .int tn_lines, .int tn_falseHours, .int tn_strayers, .int tn_deep, .ref tn_above, .ref tn_doors, .ref tn_degrees, .ref tn_neighbours, .ref tn_shows, .ref tn_oneEnd, .ref tn_otherEnd, .ref tn_told, .ref tn_strayParts, .ref tn_strayCourts])), (tn_strayParts, .inl (cA_tn_strayParts, 10, .inl f_tn_strayParts))] sz)) 0 0 (va_A [(tn, .inr (7, [.int tn_hours, .int tn_courts, .int tn_gateCount, .int tn_people, .int tn_lines, .int tn_falseHours, .int tn_strayers, .int tn_deep, .ref tn_above, .ref tn_doors, .ref tn_degrees, .ref tn_neighbours, .ref tn_shows, .ref tn_oneEnd, .ref tn_otherEnd, .ref tn_told, .ref tn_strayParts, .ref tn_strayCourts])), (tn_strayParts, .inl (cA_tn_strayParts, 10, .inl f_tn_strayParts))] sz) := by
  refine z_enter (by decide) (by exact (Nat.le_of_ble_eq_true rfl)) ?_
  intro p e s m args below meth c ls A R Qc hargs hsz hQe hAe hRe hx hb hml hr hts hown hlocks hin hl hP hK hD hN hXs hA hS
  rw [hAe] at hQe
  have hown : s.vm.findClass RX7 = some m.cls := hown
  have hl : lv_has ls 7 [(0, .ref tn), (1, .long p1)] := hl
  obtain ⟨RR, hRR⟩ : ∃ z : Int32, z = (F_X7_drawn p1 tn_people tn_strayers f_tn_strayParts) := ⟨_, rfl⟩
  have hF : RR = (F_X7_drawn p1 tn_people tn_strayers f_tn_strayParts) := hRR
  refine lv_lload_n hx hb dX7_drawn_0 rfl (lv_at hl 1 rfl) ?_
  refine lv_lstore_n (lv' := [(3, .long p1), (0, .ref tn), (1, .long p1)]) hx hb dX7_drawn_1 rfl hl (by decide) rfl (fun ls hl => ?_)
  refine lv_iconst (v := 0) hx hb dX7_drawn_2 (by decide) ?_
  refine lv_istore (lv' := [(5, .int 0), (3, .long p1), (0, .ref tn), (1, .long p1)]) hx hb dX7_drawn_3 hl (by decide) rfl (fun ls hl => ?_)
  refine lv_iconst (v := 0) hx hb dX7_drawn_5 (by decide) ?_
  refine lv_istore (lv' := [(6, .int 0), (5, .int 0), (3, .long p1), (0, .ref tn), (1, .long p1)]) hx hb dX7_drawn_6 hl (by decide) rfl (fun ls hl => ?_)
  have loop_1 : ∀ (t_1 : Nat) (v3_2 : Int64) (v5_3 : Int32) (v6_1 : Int32) (b_v5_3 : 0 ≤ v5_3.toInt ∧ v5_3.toInt ≤ 1023) (b_v6_1 : 0 ≤ v6_1.toInt ∧ v6_1.toInt ≤ 10) (H : Heap) (locs : List Loc) (ls : Array Slot), 10 - v6_1.toInt < (t_1 : Int) → RR = L_X7_drawn_1 tn_people tn_strayers f_tn_strayParts K_X7_drawn_1_0 t_1 v3_2 v5_3 v6_1 → va_P (dC, dI) vwCl [(tn, .inr (7, [.int tn_hours, .int tn_courts, .int tn_gateCount, .int tn_people, .int tn_lines, .int tn_falseHours, .int tn_strayers, .int tn_deep, .ref tn_above, .ref tn_doors, .ref tn_degrees, .ref tn_neighbours, .ref tn_shows, .ref tn_oneEnd, .ref tn_otherEnd, .ref tn_told, .ref tn_strayParts, .ref tn_strayCourts])), (tn_strayParts, .inl (cA_tn_strayParts, 10, .inl f_tn_strayParts))] H → va_D A [(tn, .inr (7, [.int tn_hours, .int tn_courts, .int tn_gateCount, .int tn_people, .int tn_lines, .int tn_falseHours, .int tn_strayers, .int tn_deep, .ref tn_above, .ref tn_doors, .ref tn_degrees, .ref tn_neighbours, .ref tn_shows, .ref tn_oneEnd, .ref tn_otherEnd, .ref tn_told, .ref tn_strayParts, .ref tn_strayCourts])), (tn_strayParts, .inl (cA_tn_strayParts, 10, .inl f_tn_strayParts))] → va_S A s.heap H locs → lv_has ls 7 [(0, .ref tn), (1, .long p1), (3, .long v3_2), (5, .int v5_3), (6, .int v6_1)] → W p l e R s m args below meth c H locs 0 0 (MQ below Qc args s 0 0 A) (F0 m 8 ls []) := by
    intro t_1
    induction t_1 with
    | zero => intro v3_2 v5_3 v6_1 b_v5_3 b_v6_1 H locs ls hmu _ _ _ _ _; exact absurd hmu (by first | with_reducible assumption | omega)
    | succ t_1 ih_1 =>
      intro v3_2 v5_3 v6_1 b_v5_3 b_v6_1 H locs ls hmu hF hP hD hS hl
      replace hF := hF.trans L_X7_drawn_1_s
      refine lv_iload hx hb dX7_drawn_8 (lv_at hl 4 rfl) ?_
      refine lv_aload_n hx hb dX7_drawn_10 rfl (lv_at hl 0 rfl) ?_
      refine va_get (D := (dC, dI)) (ci := 7) (v := .int tn_people) (C := RX7) (T := TX7) (N := 18) hx hb hts zl_X7 hown hK hP 0 rfl rfl 3 (by decide) (hts _ zw_t1_62) (fun _ h9 => h9) rfl dX7_drawn_11 ?_
      refine lv_icmp_ge (tgt := 79) hx hb dX7_drawn_14 (by decide) (fun c_4 => ?_) (fun c_4 => ?_)
      · have ic_4 := zz_ge rfl rfl c_4
        replace hF := hF.trans (if_pos c_4)
        refine lv_iload hx hb dX7_drawn_79 (lv_at hl 3 rfl) ?_
        have hF : RR = v5_3 := hF
        exact W.iret (v := v5_3) hx hb hr (fun t ht hW => by rw [← hQe]; exact ⟨⟨v5_3, (), rfl, ⟨by omega, (by rw [← hRR, hF])⟩, z_ret hP hK hD ht hW [0, 1] [] rfl (by decide) rfl⟩, hS.F ht⟩) hS.2.2 dX7_drawn_81
      · have ic_4 := zz_nge rfl rfl c_4
        replace hF := hF.trans (if_neg c_4)
        refine lv_aload_n hx hb dX7_drawn_17 rfl (lv_at hl 0 rfl) ?_
        refine va_get (D := (dC, dI)) (ci := 7) (v := .int tn_strayers) (C := RX7) (T := TX7) (N := 18) hx hb hts zl_X7 hown hK hP 0 rfl rfl 6 (by decide) (hts _ zw_t1_75) (fun _ h9 => h9) rfl dX7_drawn_18 ?_
        refine lv_iload hx hb dX7_drawn_21 (lv_at hl 4 rfl) ?_
        obtain ⟨hPc, hDc, hFc⟩ := z_cut (wc := []) hP hD hS hA [] rfl (by decide +kernel)
        have hKc := hK.sub (tys' := []) [] rfl
        refine va_calli (va_runSN (As := [.int tn_strayers, .int v6_1]) (rest := []) ⟨hx, hb, hml, hown, hts⟩ (kf_X9_has l sa dC dI tn_strayers v6_1 H.size) ⟨va_cnB 2 hts (z_gI zw_t3_124) rfl rfl rfl hN.2.1 (hts _ zw_t1_1) (by decide +kernel) (by rw [← hRe]; exact ⟨(Nat.le_of_ble_eq_true rfl), (Nat.le_of_ble_eq_true rfl)⟩), (hts _ zw_t3_123), trivial⟩ (z_preS hPc hKc hDc hN hXs hS hFc) rfl rfl hl.1 rfl (lv_room (Nat.le_of_ble_eq_true rfl)) dX7_drawn_23 (by rw [← hRe]; exact ⟨(Nat.le_of_ble_eq_true rfl), (Nat.le_of_ble_eq_true rfl)⟩)) hS (fun q _ h => hFc q h) hFc (fun r_5 u t H1 locs ht hvm hw hB hz1 hk1 hS => ?_)
        obtain ⟨hP, hD, hK⟩ := z_after3 (wn := [(tn, .inr (7, [.int tn_hours, .int tn_courts, .int tn_gateCount, .int tn_people, .int tn_lines, .int tn_falseHours, .int tn_strayers, .int tn_deep, .ref tn_above, .ref tn_doors, .ref tn_degrees, .ref tn_neighbours, .ref tn_shows, .ref tn_oneEnd, .ref tn_otherEnd, .ref tn_told, .ref tn_strayParts, .ref tn_strayCourts])), (tn_strayParts, .inl (cA_tn_strayParts, 10, .inl f_tn_strayParts))]) hB ht hvm hP hD hK [] [0, 1] rfl 2 rfl (by decide +kernel) rfl (by decide +kernel) hk1 hFc
        generalize H1 = H at hP hS ⊢
        have hK : va_K (dC, dI) vwCl [(cA_tn_strayParts, .int)] s := hK
        have b_r_5 : 0 ≤ r_5.toInt ∧ r_5.toInt ≤ 1 := hw.1
        have sf_r_5 := hw.2
        replace hF := hF.trans (zL_eq sf_r_5)
        refine lv_if_eq (tgt := 73) hx hb dX7_drawn_26 (by decide) (fun c_6 => ?_) (fun c_6 => ?_)
        · have ic_6 := zz_eq rfl (show Int32.toInt 0 = 0 from by decide) c_6
          replace hF := hF.trans (if_pos c_6)
          obtain ⟨x_7, ex_7⟩ : ∃ z : Int32, z = v6_1 + Int32.ofInt 1 := ⟨_, rfl⟩
          have b_x_7 : x_7.toInt = v6_1.toInt + 1 := by rw [ex_7]; exact zi_add rfl (show (Int32.ofInt 1).toInt = 1 from by decide) (by first | with_reducible assumption | omega)
          refine lv_iinc (v := x_7) (lv' := [(6, .int x_7), (0, .ref tn), (1, .long p1), (3, .long v3_2), (5, .int v5_3)]) hx hb dX7_drawn_73 hl (k := 4) rfl ex_7.symm (by decide) rfl (fun ls hl => ?_)
          replace hF := hF.trans (zL_eq ex_7)
          refine lv_goto (tgt := 8) hx hb dX7_drawn_76 (by decide) ?_
          exact ih_1 v3_2 v5_3 x_7 (by first | with_reducible assumption | omega) (by first | with_reducible assumption | omega) _ _ _ (by first | with_reducible assumption | omega) hF (hP.sub (ws' := [(tn, .inr (7, [.int tn_hours, .int tn_courts, .int tn_gateCount, .int tn_people, .int tn_lines, .int tn_falseHours, .int tn_strayers, .int tn_deep, .ref tn_above, .ref tn_doors, .ref tn_degrees, .ref tn_neighbours, .ref tn_shows, .ref tn_oneEnd, .ref tn_otherEnd, .ref tn_told, .ref tn_strayParts, .ref tn_strayCourts])), (tn_strayParts, .inl (cA_tn_strayParts, 10, .inl f_tn_strayParts))]) [0, 1] rfl) (hD.sub (ws' := [(tn, .inr (7, [.int tn_hours, .int tn_courts, .int tn_gateCount, .int tn_people, .int tn_lines, .int tn_falseHours, .int tn_strayers, .int tn_deep, .ref tn_above, .ref tn_doors, .ref tn_degrees, .ref tn_neighbours, .ref tn_shows, .ref tn_oneEnd, .ref tn_otherEnd, .ref tn_told, .ref tn_strayParts, .ref tn_strayCourts])), (tn_strayParts, .inl (cA_tn_strayParts, 10, .inl f_tn_strayParts))]) [0, 1] (by decide) rfl) hS (lv_sub hl [1, 2, 3, 4, 0] rfl)
        · have ic_6 := zz_neq rfl (show Int32.toInt 0 = 0 from by decide) c_6
          replace hF := hF.trans (if_neg c_6)
          refine lv_ldc2 (v := 1103515245) hx hb hown (hts _ zw_t6_19) dX7_drawn_29 ?_
          refine lv_lload_n hx hb dX7_drawn_32 rfl (lv_at hl 2 rfl) ?_
          refine lv_lmul hx hb dX7_drawn_33 ?_
          refine lv_topl (fun x_8 ex_8 => ?_)
          replace hF := hF.trans (zL_eq ex_8)
          refine lv_ldc2 (v := 12345) hx hb hown (hts _ zw_t6_20) dX7_drawn_34 ?_
          refine lv_ladd hx hb dX7_drawn_37 ?_
          refine lv_topl (fun x_9 ex_9 => ?_)
          replace hF := hF.trans (zL_eq ex_9)
          refine lv_ldc2 (v := 2147483648) hx hb hown (hts _ zw_t6_21) dX7_drawn_38 ?_
          refine lv_lrem hx hb dX7_drawn_41 (by decide) ?_
          refine lv_topl (fun x_10 ex_10 => ?_)
          replace hF := hF.trans (zL_eq ex_10)
          refine lv_lstore_n (lv' := [(3, .long x_10), (0, .ref tn), (1, .long p1), (5, .int v5_3), (6, .int v6_1)]) hx hb dX7_drawn_42 rfl hl (by decide) rfl (fun ls hl => ?_)
          refine lv_lload_n hx hb dX7_drawn_43 rfl (lv_at hl 0 rfl) ?_
          refine lv_ldc2 (v := 65536) hx hb hown (hts _ zw_t6_22) dX7_drawn_44 ?_
          refine lv_ldiv hx hb dX7_drawn_47 (by decide) ?_
          refine lv_topl (fun x_11 ex_11 => ?_)
          replace hF := hF.trans (zL_eq ex_11)
          refine lv_ldc2 (v := 100) hx hb hown (hts _ zw_t5_201) dX7_drawn_48 ?_
          refine lv_lrem hx hb dX7_drawn_51 (by decide) ?_
          refine lv_topl (fun x_12 ex_12 => ?_)
          replace hF := hF.trans (zL_eq ex_12)
          refine lv_aload_n hx hb dX7_drawn_52 rfl (lv_at hl 1 rfl) ?_
          refine va_get (D := (dC, dI)) (ci := 7) (v := .ref tn_strayParts) (C := RX7) (T := TX7) (N := 18) hx hb hts zl_X7 hown hK hP 0 rfl rfl 16 (by decide) (hts _ zw_t1_107) (fun _ h9 => h9) rfl dX7_drawn_53 ?_
          refine lv_iload hx hb dX7_drawn_56 (lv_at hl 4 rfl) ?_
          refine va_iald hx hb hK hP 1 0 rfl rfl (zi_in rfl (by first | with_reducible assumption | omega)) dX7_drawn_58 ?_
          refine lv_topi (fun x_13 ex_13 => ?_)
          replace hF := hF.trans (zL_eq ex_13)
          have b_x_13 : 0 ≤ x_13.toInt ∧ x_13.toInt ≤ 99 := by rw [ex_13]; exact b_f_tn_strayParts _
          refine lv_i2l (v := _) hx hb dX7_drawn_59 rfl ?_
          refine lv_topl (fun x_14 ex_14 => ?_)
          replace hF := hF.trans (zL_eq ex_14)
          have b_x_14 : x_14.toInt = x_13.toInt := by rw [ex_14]; exact z_l64 _
          refine W.lcmp hx hb dX7_drawn_60 ?_
          refine lv_if_ge (tgt := 73) hx hb dX7_drawn_61 (by decide) (fun c_15 => ?_) (fun c_15 => ?_)
          · have ic_15 := zl_ge rfl rfl c_15
            replace hF := hF.trans (if_pos c_15)
            obtain ⟨x_16, ex_16⟩ : ∃ z : Int32, z = v6_1 + Int32.ofInt 1 := ⟨_, rfl⟩
            have b_x_16 : x_16.toInt = v6_1.toInt + 1 := by rw [ex_16]; exact zi_add rfl (show (Int32.ofInt 1).toInt = 1 from by decide) (by first | with_reducible assumption | omega)
            refine lv_iinc (v := x_16) (lv' := [(6, .int x_16), (3, .long x_10), (0, .ref tn), (1, .long p1), (5, .int v5_3)]) hx hb dX7_drawn_73 hl (k := 4) rfl ex_16.symm (by decide) rfl (fun ls hl => ?_)
            replace hF := hF.trans (zL_eq ex_16)
            refine lv_goto (tgt := 8) hx hb dX7_drawn_76 (by decide) ?_
            exact ih_1 x_10 v5_3 x_16 (by first | with_reducible assumption | omega) (by first | with_reducible assumption | omega) _ _ _ (by first | with_reducible assumption | omega) hF (hP.sub (ws' := [(tn, .inr (7, [.int tn_hours, .int tn_courts, .int tn_gateCount, .int tn_people, .int tn_lines, .int tn_falseHours, .int tn_strayers, .int tn_deep, .ref tn_above, .ref tn_doors, .ref tn_degrees, .ref tn_neighbours, .ref tn_shows, .ref tn_oneEnd, .ref tn_otherEnd, .ref tn_told, .ref tn_strayParts, .ref tn_strayCourts])), (tn_strayParts, .inl (cA_tn_strayParts, 10, .inl f_tn_strayParts))]) [0, 1] rfl) (hD.sub (ws' := [(tn, .inr (7, [.int tn_hours, .int tn_courts, .int tn_gateCount, .int tn_people, .int tn_lines, .int tn_falseHours, .int tn_strayers, .int tn_deep, .ref tn_above, .ref tn_doors, .ref tn_degrees, .ref tn_neighbours, .ref tn_shows, .ref tn_oneEnd, .ref tn_otherEnd, .ref tn_told, .ref tn_strayParts, .ref tn_strayCourts])), (tn_strayParts, .inl (cA_tn_strayParts, 10, .inl f_tn_strayParts))]) [0, 1] (by decide) rfl) hS (lv_sub hl [2, 3, 1, 4, 0] rfl)
          · have ic_15 := zl_nge rfl rfl c_15
            replace hF := hF.trans (if_neg c_15)
            refine lv_iload hx hb dX7_drawn_64 (lv_at hl 3 rfl) ?_
            refine lv_iconst (v := 1) hx hb dX7_drawn_66 (by decide) ?_
            refine lv_iload hx hb dX7_drawn_67 (lv_at hl 4 rfl) ?_
            refine lv_ishl hx hb dX7_drawn_69 ?_
            refine lv_topi (fun x_17 ex_17 => ?_)
            replace hF := hF.trans (zL_eq ex_17)
            have b_x_17 : 1 ≤ x_17.toInt ∧ x_17.toInt ≤ 512 := by rw [ex_17]; exact zi_shl9 rfl (by first | with_reducible assumption | omega)
            refine lv_ior hx hb dX7_drawn_70 ?_
            refine lv_topi (fun x_18 ex_18 => ?_)
            replace hF := hF.trans (zL_eq ex_18)
            have b_x_18 : 0 ≤ x_18.toInt ∧ x_18.toInt ≤ 1023 := by rw [ex_18]; exact zi_or 10 rfl rfl (by first | with_reducible assumption | omega) (by first | with_reducible assumption | omega) (by decide)
            refine lv_istore (lv' := [(5, .int x_18), (3, .long x_10), (0, .ref tn), (1, .long p1), (6, .int v6_1)]) hx hb dX7_drawn_71 hl (by decide) rfl (fun ls hl => ?_)
            obtain ⟨x_19, ex_19⟩ : ∃ z : Int32, z = v6_1 + Int32.ofInt 1 := ⟨_, rfl⟩
            have b_x_19 : x_19.toInt = v6_1.toInt + 1 := by rw [ex_19]; exact zi_add rfl (show (Int32.ofInt 1).toInt = 1 from by decide) (by first | with_reducible assumption | omega)
            refine lv_iinc (v := x_19) (lv' := [(6, .int x_19), (5, .int x_18), (3, .long x_10), (0, .ref tn), (1, .long p1)]) hx hb dX7_drawn_73 hl (k := 4) rfl ex_19.symm (by decide) rfl (fun ls hl => ?_)
            replace hF := hF.trans (zL_eq ex_19)
            refine lv_goto (tgt := 8) hx hb dX7_drawn_76 (by decide) ?_
            exact ih_1 x_10 x_18 x_19 (by first | with_reducible assumption | omega) (by first | with_reducible assumption | omega) _ _ _ (by first | with_reducible assumption | omega) hF (hP.sub (ws' := [(tn, .inr (7, [.int tn_hours, .int tn_courts, .int tn_gateCount, .int tn_people, .int tn_lines, .int tn_falseHours, .int tn_strayers, .int tn_deep, .ref tn_above, .ref tn_doors, .ref tn_degrees, .ref tn_neighbours, .ref tn_shows, .ref tn_oneEnd, .ref tn_otherEnd, .ref tn_told, .ref tn_strayParts, .ref tn_strayCourts])), (tn_strayParts, .inl (cA_tn_strayParts, 10, .inl f_tn_strayParts))]) [0, 1] rfl) (hD.sub (ws' := [(tn, .inr (7, [.int tn_hours, .int tn_courts, .int tn_gateCount, .int tn_people, .int tn_lines, .int tn_falseHours, .int tn_strayers, .int tn_deep, .ref tn_above, .ref tn_doors, .ref tn_degrees, .ref tn_neighbours, .ref tn_shows, .ref tn_oneEnd, .ref tn_otherEnd, .ref tn_told, .ref tn_strayParts, .ref tn_strayCourts])), (tn_strayParts, .inl (cA_tn_strayParts, 10, .inl f_tn_strayParts))]) [0, 1] (by decide) rfl) hS (lv_sub hl [3, 4, 2, 1, 0] rfl)
  exact loop_1 12 p1 (0) (0) (by decide) (by decide) _ _ _ (by decide) hF hP hD hS (lv_sub hl [3, 4, 2, 1, 0] rfl)
set_option maxHeartbeats 4000000 in
set_option maxRecDepth 100000 in
theorem kf_J6_bitCount_0f7a4 (l : Launch) (sa : Nat → Nat) (dC : Nat → ClassId) (dI : Nat → Nat → Nat) (p0 : Int32)  (sz : Nat) : Met l yJ6_bitCount_0f7a4 (.code yJ6_bitCount_0f7a4 cJ6_bitCount_0f7a4 1 (some .int) :: zT) ({ frames := 0, cells := 0, slots := 0, locals := 0 }) (va_Pc [.int p0] (zB sa dC dI [] [] sz)) (va_Qi (fun (r : Int32) (_ : Unit) => (0 ≤ r.toInt ∧ r.toInt ≤ 63) ∧ r = (F_J6_bitCount_0f7a4 p0)) (fun _ t => zW dC dI [] [] (va_A [] sz) t) (va_A [] sz)) 0 0 (va_A [] sz) := by
  refine z_enter (by decide) (by exact (Nat.le_of_ble_eq_true rfl)) ?_
  intro p e s m args below meth c ls A R Qc hargs hsz hQe hAe hRe hx hb hml hr hts hown hlocks hin hl hP hK hD hN hXs hA hS
  rw [hAe] at hQe
  have hown : s.vm.findClass RJ6 = some m.cls := hown
  have hl : lv_has ls 1 [(0, .int p0)] := hl
  obtain ⟨RR, hRR⟩ : ∃ z : Int32, z = (F_J6_bitCount_0f7a4 p0) := ⟨_, rfl⟩
  have hF : RR = (F_J6_bitCount_0f7a4 p0) := hRR
  refine lv_iload_n hx hb dJ6_bitCount_0f7a4_0 rfl (lv_at hl 0 rfl) ?_
  refine lv_iload_n hx hb dJ6_bitCount_0f7a4_1 rfl (lv_at hl 0 rfl) ?_
  refine lv_iconst (v := 1) hx hb dJ6_bitCount_0f7a4_2 (by decide) ?_
  refine lv_iushr (v := _) hx hb dJ6_bitCount_0f7a4_3 rfl ?_
  refine lv_topi (fun x_1 ex_1 => ?_)
  replace hF := hF.trans (zL_eq ex_1)
  refine lv_ldcw (v := 1431655765) hx hb hown (hts _ zw_t3_218) dJ6_bitCount_0f7a4_4 ?_
  refine lv_iand hx hb dJ6_bitCount_0f7a4_7 ?_
  refine lv_topi (fun x_2 ex_2 => ?_)
  replace hF := hF.trans (zL_eq ex_2)
  have b_x_2 : 0 ≤ x_2.toInt ∧ x_2.toInt ≤ 1431655765 := by rw [ex_2]; exact zi_andR (show Int32.toInt 1431655765 = 1431655765 from by decide) (by first | with_reducible assumption | omega) (by first | with_reducible assumption | omega)
  refine lv_isub hx hb dJ6_bitCount_0f7a4_8 ?_
  refine lv_topi (fun x_3 ex_3 => ?_)
  replace hF := hF.trans (zL_eq ex_3)
  refine lv_istore_n (lv' := [(0, .int x_3)]) hx hb dJ6_bitCount_0f7a4_9 rfl hl (by decide) rfl (fun ls hl => ?_)
  refine lv_iload_n hx hb dJ6_bitCount_0f7a4_10 rfl (lv_at hl 0 rfl) ?_
  refine lv_ldcw (v := 858993459) hx hb hown (hts _ zw_t3_219) dJ6_bitCount_0f7a4_11 ?_
  refine lv_iand hx hb dJ6_bitCount_0f7a4_14 ?_
  refine lv_topi (fun x_4 ex_4 => ?_)
  replace hF := hF.trans (zL_eq ex_4)
  have b_x_4 : 0 ≤ x_4.toInt ∧ x_4.toInt ≤ 858993459 := by rw [ex_4]; exact zi_andR (show Int32.toInt 858993459 = 858993459 from by decide) (by first | with_reducible assumption | omega) (by first | with_reducible assumption | omega)
  refine lv_iload_n hx hb dJ6_bitCount_0f7a4_15 rfl (lv_at hl 0 rfl) ?_
  refine lv_iconst (v := 2) hx hb dJ6_bitCount_0f7a4_16 (by decide) ?_
  refine lv_iushr (v := _) hx hb dJ6_bitCount_0f7a4_17 rfl ?_
  refine lv_topi (fun x_5 ex_5 => ?_)
  replace hF := hF.trans (zL_eq ex_5)
  refine lv_ldcw (v := 858993459) hx hb hown (hts _ zw_t3_219) dJ6_bitCount_0f7a4_18 ?_
  refine lv_iand hx hb dJ6_bitCount_0f7a4_21 ?_
  refine lv_topi (fun x_6 ex_6 => ?_)
  replace hF := hF.trans (zL_eq ex_6)
  have b_x_6 : 0 ≤ x_6.toInt ∧ x_6.toInt ≤ 858993459 := by rw [ex_6]; exact zi_andR (show Int32.toInt 858993459 = 858993459 from by decide) (by first | with_reducible assumption | omega) (by first | with_reducible assumption | omega)
  refine lv_iadd hx hb dJ6_bitCount_0f7a4_22 ?_
  refine lv_topi (fun x_7 ex_7 => ?_)
  replace hF := hF.trans (zL_eq ex_7)
  have b_x_7 : x_7.toInt = x_4.toInt + x_6.toInt := by rw [ex_7]; exact zi_add rfl rfl (by first | with_reducible assumption | omega)
  refine lv_istore_n (lv' := [(0, .int x_7)]) hx hb dJ6_bitCount_0f7a4_23 rfl hl (by decide) rfl (fun ls hl => ?_)
  refine lv_iload_n hx hb dJ6_bitCount_0f7a4_24 rfl (lv_at hl 0 rfl) ?_
  refine lv_iload_n hx hb dJ6_bitCount_0f7a4_25 rfl (lv_at hl 0 rfl) ?_
  refine lv_iconst (v := 4) hx hb dJ6_bitCount_0f7a4_26 (by decide) ?_
  refine lv_iushr (v := _) hx hb dJ6_bitCount_0f7a4_27 rfl ?_
  refine lv_topi (fun x_8 ex_8 => ?_)
  replace hF := hF.trans (zL_eq ex_8)
  refine lv_iadd hx hb dJ6_bitCount_0f7a4_28 ?_
  refine lv_topi (fun x_9 ex_9 => ?_)
  replace hF := hF.trans (zL_eq ex_9)
  refine lv_ldcw (v := 252645135) hx hb hown (hts _ zw_t3_220) dJ6_bitCount_0f7a4_29 ?_
  refine lv_iand hx hb dJ6_bitCount_0f7a4_32 ?_
  refine lv_topi (fun x_10 ex_10 => ?_)
  replace hF := hF.trans (zL_eq ex_10)
  have b_x_10 : 0 ≤ x_10.toInt ∧ x_10.toInt ≤ 252645135 := by rw [ex_10]; exact zi_andR (show Int32.toInt 252645135 = 252645135 from by decide) (by first | with_reducible assumption | omega) (by first | with_reducible assumption | omega)
  refine lv_istore_n (lv' := [(0, .int x_10)]) hx hb dJ6_bitCount_0f7a4_33 rfl hl (by decide) rfl (fun ls hl => ?_)
  refine lv_iload_n hx hb dJ6_bitCount_0f7a4_34 rfl (lv_at hl 0 rfl) ?_
  refine lv_iload_n hx hb dJ6_bitCount_0f7a4_35 rfl (lv_at hl 0 rfl) ?_
  refine lv_bipush (v := 8) hx hb dJ6_bitCount_0f7a4_36 (by decide) ?_
  refine lv_iushr (v := _) hx hb dJ6_bitCount_0f7a4_38 rfl ?_
  refine lv_topi (fun x_11 ex_11 => ?_)
  replace hF := hF.trans (zL_eq ex_11)
  refine lv_iadd hx hb dJ6_bitCount_0f7a4_39 ?_
  refine lv_topi (fun x_12 ex_12 => ?_)
  replace hF := hF.trans (zL_eq ex_12)
  refine lv_istore_n (lv' := [(0, .int x_12)]) hx hb dJ6_bitCount_0f7a4_40 rfl hl (by decide) rfl (fun ls hl => ?_)
  refine lv_iload_n hx hb dJ6_bitCount_0f7a4_41 rfl (lv_at hl 0 rfl) ?_
  refine lv_iload_n hx hb dJ6_bitCount_0f7a4_42 rfl (lv_at hl 0 rfl) ?_
  refine lv_bipush (v := 16) hx hb dJ6_bitCount_0f7a4_43 (by decide) ?_
  refine lv_iushr (v := _) hx hb dJ6_bitCount_0f7a4_45 rfl ?_
  refine lv_topi (fun x_13 ex_13 => ?_)
  replace hF := hF.trans (zL_eq ex_13)
  refine lv_iadd hx hb dJ6_bitCount_0f7a4_46 ?_
  refine lv_topi (fun x_14 ex_14 => ?_)
  replace hF := hF.trans (zL_eq ex_14)
  refine lv_istore_n (lv' := [(0, .int x_14)]) hx hb dJ6_bitCount_0f7a4_47 rfl hl (by decide) rfl (fun ls hl => ?_)
  refine lv_iload_n hx hb dJ6_bitCount_0f7a4_48 rfl (lv_at hl 0 rfl) ?_
  refine lv_bipush (v := 63) hx hb dJ6_bitCount_0f7a4_49 (by decide) ?_
  refine lv_iand hx hb dJ6_bitCount_0f7a4_51 ?_
  refine lv_topi (fun x_15 ex_15 => ?_)
  replace hF := hF.trans (zL_eq ex_15)
  have b_x_15 : 0 ≤ x_15.toInt ∧ x_15.toInt ≤ 63 := by rw [ex_15]; exact zi_andR (show Int32.toInt 63 = 63 from by decide) (by first | with_reducible assumption | omega) (by first | with_reducible assumption | omega)
  have hF : RR = x_15 := hF
  exact W.iret (v := x_15) hx hb hr (fun t ht hW => by rw [← hQe]; exact ⟨⟨x_15, (), rfl, ⟨by omega, (by rw [← hRR, hF])⟩, z_ret hP hK hD ht hW [] [] rfl (by decide) rfl⟩, hS.F ht⟩) hS.2.2 dJ6_bitCount_0f7a4_52
