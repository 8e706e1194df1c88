set_option linter.all false
set_option maxHeartbeats 4000000 in
set_option maxRecDepth 100000 in
theorem kf_X9_lies (l : Launch) (sa : Nat → Nat) (dC : Nat → ClassId) (dI : Nat → Nat → Nat) (h0 : Nat) (p1 : Int32) (p2 : Int32) (tp : Nat) (h0_tapeLength : Int32) (h0_faultKind : Int32) (h0_faultPlace : Int32) (nw : Nat) (im : Nat) (sl : Nat) (rd : Nat) (wk : Nat) (fm : Nat) (mt : Nat) (ch : Nat) (dy : Nat) (nw_isKept : Int32) (tn : Nat) (nw_strayed : Int32) (nw_names : Int32) (nw_known : Int32) (nw_gone : Int32) (tn_hours : Int32) (tn_courts : Int32) (tn_gateCount : Int32) (tn_people : Int32) (tn_lines : Int32) (tn_falseHours : Int32) (tn_strayers : Int32) (tn_deep : Int32) (tn_above : Nat) (tn_doors : Nat) (tn_degrees : Nat) (tn_neighbours : Nat) (tn_shows : Nat) (tn_oneEnd : Nat) (tn_otherEnd : Nat) (tn_told : Nat) (tn_strayParts : Nat) (tn_strayCourts : Nat) (cA_tn_above : ClassId) (f_tn_above : Nat → Int32) (b_h0_tapeLength : 0 ≤ h0_tapeLength.toInt ∧ h0_tapeLength.toInt ≤ 1600) (b_nw_isKept : 0 ≤ nw_isKept.toInt ∧ nw_isKept.toInt ≤ 1) (b_nw_names : 0 ≤ nw_names.toInt ∧ nw_names.toInt ≤ 1023) (b_tn_hours : 0 ≤ tn_hours.toInt ∧ tn_hours.toInt ≤ 48) (b_tn_courts : 0 ≤ tn_courts.toInt ∧ tn_courts.toInt ≤ 10) (b_tn_gateCount : 0 ≤ tn_gateCount.toInt ∧ tn_gateCount.toInt ≤ 16) (b_tn_people : 0 ≤ tn_people.toInt ∧ tn_people.toInt ≤ 10) (b_tn_falseHours : 0 ≤ tn_falseHours.toInt ∧ tn_falseHours.toInt ≤ 9) (b_tn_deep : 0 ≤ tn_deep.toInt ∧ tn_deep.toInt ≤ 1) (sz : Nat) : Met l yX9_lies (.code yX9_lies cX9_lies 4 (some .int) :: zT) ({ frames := 2, cells := 0, slots := 0, locals := 43 }) (va_Pc [.ref h0, .int p1, .int p2] (zB sa dC dI [(h0, .inr (9, [.ref tp, .int h0_tapeLength, .int h0_faultKind, .int h0_faultPlace, .ref nw, .ref im, .ref sl, .ref rd, .ref wk, .ref fm, .ref mt, .ref ch, .ref dy])), (nw, .inr (3, [.int nw_isKept, .ref tn, .int nw_strayed, .int nw_names, .int nw_known, .int nw_gone])), (tn, .inr (7, [.int tn_hours, .int tn_courts, .int tn_gateCount, .int tn_people, .int tn_lines, .int tn_falseHours, .int tn_strayers, .int tn_deep, .ref tn_above, .ref tn_doors, .ref tn_degrees, .ref tn_neighbours, .ref tn_shows, .ref tn_oneEnd, .ref tn_otherEnd, .ref tn_told, .ref tn_strayParts, .ref tn_strayCourts])), (tn_above, .inl (cA_tn_above, 10, .inl f_tn_above))] [(cA_tn_above, .int)] sz)) (va_Qi (fun (r : Int32) (_ : Unit) => ((-2) ≤ r.toInt ∧ r.toInt ≤ 1) ∧ r = (F_X9_lies p1 p2 tn_courts f_tn_above)) (fun _ t => zW dC dI [(h0, .inr (9, [.ref tp, .int h0_tapeLength, .int h0_faultKind, .int h0_faultPlace, .ref nw, .ref im, .ref sl, .ref rd, .ref wk, .ref fm, .ref mt, .ref ch, .ref dy])), (nw, .inr (3, [.int nw_isKept, .ref tn, .int nw_strayed, .int nw_names, .int nw_known, .int nw_gone])), (tn, .inr (7, [.int tn_hours, .int tn_courts, .int tn_gateCount, .int tn_people, .int tn_lines, .int tn_falseHours, .int tn_strayers, .int tn_deep, .ref tn_above, .ref tn_doors, .ref tn_degrees, .ref tn_neighbours, .ref tn_shows, .ref tn_oneEnd, .ref tn_otherEnd, .ref tn_told, .ref tn_strayParts, .ref tn_strayCourts])), (tn_above, .inl (cA_tn_above, 10, .inl f_tn_above))] [] (va_A [(h0, .inr (9, [.ref tp, .int h0_tapeLength, .int h0_faultKind, .int h0_faultPlace, .ref nw, .ref im, .ref sl, .ref rd, .ref wk, .ref fm, .ref mt, .ref ch, .ref dy])), (nw, .inr (3, [.int nw_isKept, .ref tn, .int nw_strayed, .int nw_names, .int nw_known, .int nw_gone])), (tn, .inr (7, [.int tn_hours, .int tn_courts, .int tn_gateCount, .int tn_people, .int tn_lines, .int tn_falseHours, .int tn_strayers, .int tn_deep, .ref tn_above, .ref tn_doors, .ref tn_degrees, .ref tn_neighbours, .ref tn_shows, .ref tn_oneEnd, .ref tn_otherEnd, .ref tn_told, .ref tn_strayParts, .ref tn_strayCourts])), (tn_above, .inl (cA_tn_above, 10, .inl f_tn_above))] sz) t) (va_A [(h0, .inr (9, [.ref tp, .int h0_tapeLength, .int h0_faultKind, .int h0_faultPlace, .ref nw, .ref im, .ref sl, .ref rd, .ref wk, .ref fm, .ref mt, .ref ch, .ref dy])), (nw, .inr (3, [.int nw_isKept, .ref tn, .int nw_strayed, .int nw_names, .int nw_known, .int nw_gone])), (tn, .inr (7, [.int tn_hours, .int tn_courts, .int tn_gateCount, .int tn_people, .int tn_lines, .int tn_falseHours, .int tn_strayers, .int tn_deep, .ref tn_above, .ref tn_doors, .ref tn_degrees, .ref tn_neighbours, .ref tn_shows, .ref tn_oneEnd, .ref tn_otherEnd, .ref tn_told, .ref tn_strayParts, .ref tn_strayCourts])), (tn_above, .inl (cA_tn_above, 10, .inl f_tn_above))] sz)) 0 0 (va_A [(h0, .inr (9, [.ref tp, .int h0_tapeLength, .int h0_faultKind, .int h0_faultPlace, .ref nw, .ref im, .ref sl, .ref rd, .ref wk, .ref fm, .ref mt, .ref ch, .ref dy])), (nw, .inr (3, [.int nw_isKept, .ref tn, .int nw_strayed, .int nw_names, .int nw_known, .int nw_gone])), (tn, .inr (7, [.int tn_hours, .int tn_courts, .int tn_gateCount, .int tn_people, .int tn_lines, .int tn_falseHours, .int tn_strayers, .int tn_deep, .ref tn_above, .ref tn_doors, .ref tn_degrees, .ref tn_neighbours, .ref tn_shows, .ref tn_oneEnd, .ref tn_otherEnd, .ref tn_told, .ref tn_strayParts, .ref tn_strayCourts])), (tn_above, .inl (cA_tn_above, 10, .inl f_tn_above))] sz) := by
  refine z_enter (by decide) (by exact (Nat.le_of_ble_eq_true rfl)) ?_
  intro p e s m args below meth c ls A R Qc hargs hsz hQe hAe hRe hx hb hml hr hts hown hlocks hin hl hP hK hD hN hXs hA hS
  rw [hAe] at hQe
  have hown : s.vm.findClass RX9 = some m.cls := hown
  have hl : lv_has ls 4 [(0, .ref h0), (1, .int p1), (2, .int p2)] := hl
  obtain ⟨RR, hRR⟩ : ∃ z : Int32, z = (F_X9_lies p1 p2 tn_courts f_tn_above) := ⟨_, rfl⟩
  have hF : RR = (F_X9_lies p1 p2 tn_courts f_tn_above) := hRR
  refine lv_aload_n hx hb dX9_lies_0 rfl (lv_at hl 0 rfl) ?_
  refine va_get (D := (dC, dI)) (ci := 9) (v := .ref nw) (C := RX9) (T := TX9) (N := 13) hx hb hts zl_X9 hown hK hP 0 rfl rfl 4 (by decide) (hts _ zw_t2_193) (fun _ h9 => h9) rfl dX9_lies_1 ?_
  refine va_get (D := (dC, dI)) (ci := 3) (v := .ref tn) (C := RX3) (T := TX3) (N := 6) hx hb hts zl_X3 hown hK hP 1 rfl rfl 1 (by decide) (hts _ zw_t1_156) (fun _ h9 => h9) rfl dX9_lies_4 ?_
  refine lv_astore_n (lv' := [(3, .ref tn), (0, .ref h0), (1, .int p1), (2, .int p2)]) hx hb dX9_lies_7 rfl hl (by decide) rfl (fun ls hl => ?_)
  refine lv_aload_n hx hb dX9_lies_8 rfl (lv_at hl 0 rfl) ?_
  refine lv_iload_n hx hb dX9_lies_9 rfl (lv_at hl 2 rfl) ?_
  obtain ⟨hPc, hDc, hFc⟩ := z_cut (wc := [(tn, .inr (7, [.int tn_hours, .int tn_courts, .int tn_gateCount, .int tn_people, .int tn_lines, .int tn_falseHours, .int tn_strayers, .int tn_deep, .ref tn_above, .ref tn_doors, .ref tn_degrees, .ref tn_neighbours, .ref tn_shows, .ref tn_oneEnd, .ref tn_otherEnd, .ref tn_told, .ref tn_strayParts, .ref tn_strayCourts]))]) hP hD hS hA [2] rfl (by decide +kernel)
  have hKc := hK.sub (tys' := []) [] rfl
  refine va_calli (va_runV (As := [.int p1]) (rest := []) ⟨hx, hb, hml, hown, hts⟩ (kf_X7_hasCourt l sa dC dI tn p1 tn_hours tn_courts tn_gateCount tn_people tn_lines tn_falseHours tn_strayers tn_deep tn_above tn_doors tn_degrees tn_neighbours tn_shows tn_oneEnd tn_otherEnd tn_told tn_strayParts tn_strayCourts (by first | with_reducible assumption | omega) (by first | with_reducible assumption | omega) (by first | with_reducible assumption | omega) (by first | with_reducible assumption | omega) (by first | with_reducible assumption | omega) (by first | with_reducible assumption | omega) s.heap.size) (cwV 1 hts (z_gV zw_t3_197 zw_t3_198 zw_t3_199 zw_t1_3 zw_t3_200) rfl rfl rfl (by decide +kernel) (by rw [← hRe]; exact ⟨(Nat.le_of_ble_eq_true rfl), (Nat.le_of_ble_eq_true rfl)⟩)) (z_preV hPc hKc hDc hN hXs hS hFc (q := (RX7, TX7, 18)) (ci := 7) (q0 := 0) rfl rfl) rfl rfl hl.1 rfl (lv_room (Nat.le_of_ble_eq_true rfl)) dX9_lies_10 (by rw [← hRe]; exact ⟨(Nat.le_of_ble_eq_true rfl), (Nat.le_of_ble_eq_true rfl)⟩)) hS (fun q _ h => hFc q h) hFc (fun r_1 u t H1 locs ht hvm hw hB hz1 hk1 hS => ?_)
  obtain ⟨hP, hD, hK⟩ := z_after3 (wn := [(h0, .inr (9, [.ref tp, .int h0_tapeLength, .int h0_faultKind, .int h0_faultPlace, .ref nw, .ref im, .ref sl, .ref rd, .ref wk, .ref fm, .ref mt, .ref ch, .ref dy])), (nw, .inr (3, [.int nw_isKept, .ref tn, .int nw_strayed, .int nw_names, .int nw_known, .int nw_gone])), (tn_above, .inl (cA_tn_above, 10, .inl f_tn_above)), (tn, .inr (7, [.int tn_hours, .int tn_courts, .int tn_gateCount, .int tn_people, .int tn_lines, .int tn_falseHours, .int tn_strayers, .int tn_deep, .ref tn_above, .ref tn_doors, .ref tn_degrees, .ref tn_neighbours, .ref tn_shows, .ref tn_oneEnd, .ref tn_otherEnd, .ref tn_told, .ref tn_strayParts, .ref tn_strayCourts]))]) hB ht hvm hP hD hK [2] [0, 1, 3] rfl 4 rfl (by decide +kernel) rfl (by decide +kernel) hk1 hFc
  generalize H1 = H at hP hS ⊢
  have hK : va_K (dC, dI) vwCl [(cA_tn_above, .int)] s := hK
  have b_r_1 : 0 ≤ r_1.toInt ∧ r_1.toInt ≤ 1 := hw.1
  have s_r_1 := hw.2.1
  have sf_r_1 := hw.2.2
  replace hF := hF.trans (zL_eq sf_r_1)
  refine lv_if_eq (tgt := 24) hx hb dX9_lies_13 (by decide) (fun c_2 => ?_) (fun c_2 => ?_)
  · have ic_2 := zz_eq rfl (show Int32.toInt 0 = 0 from by decide) c_2
    replace hF := hF.trans (if_pos c_2)
    refine lv_bipush (v := (-2)) hx hb dX9_lies_24 (by decide) ?_
    have hF : RR = (-2 : Int32) := hF
    have zc : Int32.toInt (-2) = (-2) := by decide
    exact W.iret (v := (-2)) hx hb hr (fun t ht hW => by rw [← hQe]; exact ⟨⟨(-2), (), rfl, ⟨by decide, (by rw [← hRR, hF])⟩, z_ret hP hK hD ht hW [0, 1, 3, 2] [] rfl (by decide) rfl⟩, hS.F ht⟩) hS.2.2 dX9_lies_26
  · have ic_2 := zz_neq rfl (show Int32.toInt 0 = 0 from by decide) c_2
    replace hF := hF.trans (if_neg c_2)
    refine lv_aload_n hx hb dX9_lies_16 rfl (lv_at hl 0 rfl) ?_
    refine lv_iload_n hx hb dX9_lies_17 rfl (lv_at hl 3 rfl) ?_
    obtain ⟨hPc, hDc, hFc⟩ := z_cut (wc := [(tn, .inr (7, [.int tn_hours, .int tn_courts, .int tn_gateCount, .int tn_people, .int tn_lines, .int tn_falseHours, .int tn_strayers, .int tn_deep, .ref tn_above, .ref tn_doors, .ref tn_degrees, .ref tn_neighbours, .ref tn_shows, .ref tn_oneEnd, .ref tn_otherEnd, .ref tn_told, .ref tn_strayParts, .ref tn_strayCourts]))]) hP hD hS hA [3] rfl (by decide +kernel)
    have hKc := hK.sub (tys' := []) [] rfl
    refine va_calli (va_runV (As := [.int p2]) (rest := []) ⟨hx, hb, hml, hown, hts⟩ (kf_X7_hasCourt l sa dC dI tn p2 tn_hours tn_courts tn_gateCount tn_people tn_lines tn_falseHours tn_strayers tn_deep tn_above tn_doors tn_degrees tn_neighbours tn_shows tn_oneEnd tn_otherEnd tn_told tn_strayParts tn_strayCourts (by first | with_reducible assumption | omega) (by first | with_reducible assumption | omega) (by first | with_reducible assumption | omega) (by first | with_reducible assumption | omega) (by first | with_reducible assumption | omega) (by first | with_reducible assumption | omega) H.size) (cwV 1 hts (z_gV zw_t3_197 zw_t3_198 zw_t3_199 zw_t1_3 zw_t3_200) rfl rfl rfl (by decide +kernel) (by rw [← hRe]; exact ⟨(Nat.le_of_ble_eq_true rfl), (Nat.le_of_ble_eq_true rfl)⟩)) (z_preV hPc hKc hDc hN hXs hS hFc (q := (RX7, TX7, 18)) (ci := 7) (q0 := 0) rfl rfl) rfl rfl hl.1 rfl (lv_room (Nat.le_of_ble_eq_true rfl)) dX9_lies_18 (by rw [← hRe]; exact ⟨(Nat.le_of_ble_eq_true rfl), (Nat.le_of_ble_eq_true rfl)⟩)) hS (fun q _ h => hFc q h) hFc (fun r_3 u t H1 locs ht hvm hw hB hz1 hk1 hS => ?_)
    obtain ⟨hP, hD, hK⟩ := z_after3 (wn := [(h0, .inr (9, [.ref tp, .int h0_tapeLength, .int h0_faultKind, .int h0_faultPlace, .ref nw, .ref im, .ref sl, .ref rd, .ref wk, .ref fm, .ref mt, .ref ch, .ref dy])), (nw, .inr (3, [.int nw_isKept, .ref tn, .int nw_strayed, .int nw_names, .int nw_known, .int nw_gone])), (tn_above, .inl (cA_tn_above, 10, .inl f_tn_above)), (tn, .inr (7, [.int tn_hours, .int tn_courts, .int tn_gateCount, .int tn_people, .int tn_lines, .int tn_falseHours, .int tn_strayers, .int tn_deep, .ref tn_above, .ref tn_doors, .ref tn_degrees, .ref tn_neighbours, .ref tn_shows, .ref tn_oneEnd, .ref tn_otherEnd, .ref tn_told, .ref tn_strayParts, .ref tn_strayCourts]))]) hB ht hvm hP hD hK [3] [0, 1, 2] rfl 4 rfl (by decide +kernel) rfl (by decide +kernel) hk1 hFc
    generalize H1 = H at hP hS ⊢
    have hK : va_K (dC, dI) vwCl [(cA_tn_above, .int)] s := hK
    have b_r_3 : 0 ≤ r_3.toInt ∧ r_3.toInt ≤ 1 := hw.1
    have s_r_3 := hw.2.1
    have sf_r_3 := hw.2.2
    replace hF := hF.trans (zL_eq sf_r_3)
    refine lv_if_ne (tgt := 27) hx hb dX9_lies_21 (by decide) (fun c_4 => ?_) (fun c_4 => ?_)
    · have ic_4 := zz_ne rfl (show Int32.toInt 0 = 0 from by decide) c_4
      replace hF := hF.trans (if_neg c_4)
      refine lv_aload_n hx hb dX9_lies_27 rfl (lv_at hl 0 rfl) ?_
      refine lv_iload_n hx hb dX9_lies_28 rfl (lv_at hl 2 rfl) ?_
      refine lv_iload_n hx hb dX9_lies_29 rfl (lv_at hl 3 rfl) ?_
      obtain ⟨hPc, hDc, hFc⟩ := z_cut (wc := [(tn, .inr (7, [.int tn_hours, .int tn_courts, .int tn_gateCount, .int tn_people, .int tn_lines, .int tn_falseHours, .int tn_strayers, .int tn_deep, .ref tn_above, .ref tn_doors, .ref tn_degrees, .ref tn_neighbours, .ref tn_shows, .ref tn_oneEnd, .ref tn_otherEnd, .ref tn_told, .ref tn_strayParts, .ref tn_strayCourts])), (tn_above, .inl (cA_tn_above, 10, .inl f_tn_above))]) hP hD hS hA [3, 2] rfl (by decide +kernel)
      have hKc := hK.sub (tys' := [(cA_tn_above, .int)]) [0] rfl
      refine va_calli (va_runV (As := [.int p1, .int p2]) (rest := []) ⟨hx, hb, hml, hown, hts⟩ (kf_X7_isFree l sa dC dI tn p1 p2 tn_hours tn_courts tn_gateCount tn_people tn_lines tn_falseHours tn_strayers tn_deep tn_above tn_doors tn_degrees tn_neighbours tn_shows tn_oneEnd tn_otherEnd tn_told tn_strayParts tn_strayCourts cA_tn_above f_tn_above (by first | with_reducible assumption | omega) (by first | with_reducible assumption | omega) (by first | with_reducible assumption | omega) (by first | with_reducible assumption | omega) (by first | with_reducible assumption | omega) (by first | with_reducible assumption | omega) (by first | with_reducible assumption | omega) H.size) (cwV 2 hts (z_gV zw_t3_225 zw_t3_226 zw_t3_227 zw_t1_3 zw_t3_228) rfl rfl rfl (by decide +kernel) (by rw [← hRe]; exact ⟨(Nat.le_of_ble_eq_true rfl), (Nat.le_of_ble_eq_true rfl)⟩)) (z_preV hPc hKc hDc hN hXs hS hFc (q := (RX7, TX7, 18)) (ci := 7) (q0 := 0) rfl rfl) rfl rfl hl.1 rfl (lv_room (Nat.le_of_ble_eq_true rfl)) dX9_lies_30 (by rw [← hRe]; exact ⟨(Nat.le_of_ble_eq_true rfl), (Nat.le_of_ble_eq_true rfl)⟩)) hS (fun q _ h => hFc q h) hFc (fun r_5 u t H1 locs ht hvm hw hB hz1 hk1 hS => ?_)
      obtain ⟨hP, hD, hK⟩ := z_after3 (wn := [(h0, .inr (9, [.ref tp, .int h0_tapeLength, .int h0_faultKind, .int h0_faultPlace, .ref nw, .ref im, .ref sl, .ref rd, .ref wk, .ref fm, .ref mt, .ref ch, .ref dy])), (nw, .inr (3, [.int nw_isKept, .ref tn, .int nw_strayed, .int nw_names, .int nw_known, .int nw_gone])), (tn, .inr (7, [.int tn_hours, .int tn_courts, .int tn_gateCount, .int tn_people, .int tn_lines, .int tn_falseHours, .int tn_strayers, .int tn_deep, .ref tn_above, .ref tn_doors, .ref tn_degrees, .ref tn_neighbours, .ref tn_shows, .ref tn_oneEnd, .ref tn_otherEnd, .ref tn_told, .ref tn_strayParts, .ref tn_strayCourts])), (tn_above, .inl (cA_tn_above, 10, .inl f_tn_above))]) hB ht hvm hP hD hK [3, 2] [0, 1] rfl 4 rfl (by decide +kernel) rfl (by decide +kernel) hk1 hFc
      generalize H1 = H at hP hS ⊢
      have hK : va_K (dC, dI) vwCl [(cA_tn_above, .int)] s := hK
      have b_r_5 : 0 ≤ r_5.toInt ∧ r_5.toInt ≤ 1 := hw.1
      have sf_r_5 := hw.2
      replace hF := hF.trans (zL_eq sf_r_5)
      refine lv_if_eq (tgt := 40) hx hb dX9_lies_33 (by decide) (fun c_6 => ?_) (fun c_6 => ?_)
      · have ic_6 := zz_eq rfl (show Int32.toInt 0 = 0 from by decide) c_6
        replace hF := hF.trans (if_pos c_6)
        refine lv_iconst (v := 0) hx hb dX9_lies_40 (by decide) ?_
        have hF : RR = (0 : Int32) := hF
        have zc : Int32.toInt 0 = 0 := by decide
        exact W.iret (v := 0) hx hb hr (fun t ht hW => by rw [← hQe]; exact ⟨⟨0, (), rfl, ⟨by decide, (by rw [← hRR, hF])⟩, z_ret hP hK hD ht hW [0, 1, 2, 3] [] rfl (by decide) rfl⟩, hS.F ht⟩) hS.2.2 dX9_lies_41
      · have ic_6 := zz_neq rfl (show Int32.toInt 0 = 0 from by decide) c_6
        replace hF := hF.trans (if_neg c_6)
        refine lv_iconst (v := 1) hx hb dX9_lies_36 (by decide) ?_
        refine lv_goto (tgt := 41) hx hb dX9_lies_37 (by decide) ?_
        have hF : RR = (1 : Int32) := hF
        have zc : Int32.toInt 1 = 1 := by decide
        exact W.iret (v := 1) hx hb hr (fun t ht hW => by rw [← hQe]; exact ⟨⟨1, (), rfl, ⟨by decide, (by rw [← hRR, hF])⟩, z_ret hP hK hD ht hW [0, 1, 2, 3] [] rfl (by decide) rfl⟩, hS.F ht⟩) hS.2.2 dX9_lies_41
    · have ic_4 := zz_nne rfl (show Int32.toInt 0 = 0 from by decide) c_4
      replace hF := hF.trans (if_pos c_4)
      refine lv_bipush (v := (-2)) hx hb dX9_lies_24 (by decide) ?_
      have hF : RR = (-2 : Int32) := hF
      have zc : Int32.toInt (-2) = (-2) := by decide
      exact W.iret (v := (-2)) hx hb hr (fun t ht hW => by rw [← hQe]; exact ⟨⟨(-2), (), rfl, ⟨by decide, (by rw [← hRR, hF])⟩, z_ret hP hK hD ht hW [0, 1, 3, 2] [] rfl (by decide) rfl⟩, hS.F ht⟩) hS.2.2 dX9_lies_26
set_option maxHeartbeats 4000000 in
set_option maxRecDepth 100000 in
theorem kf_X9_leads (l : Launch) (sa : Nat → Nat) (dC : Nat → ClassId) (dI : Nat → Nat → Nat) (h0 : Nat) (p1 : Int32) (p2 : Int32) (tp : Nat) (h0_tapeLength : Int32) (h0_faultKind : Int32) (h0_faultPlace : Int32) (nw : Nat) (im : Nat) (sl : Nat) (rd : Nat) (wk : Nat) (fm : Nat) (mt : Nat) (ch : Nat) (dy : Nat) (nw_isKept : Int32) (tn : Nat) (nw_strayed : Int32) (nw_names : Int32) (nw_known : Int32) (nw_gone : Int32) (tn_hours : Int32) (tn_courts : Int32) (tn_gateCount : Int32) (tn_people : Int32) (tn_lines : Int32) (tn_falseHours : Int32) (tn_strayers : Int32) (tn_deep : Int32) (tn_above : Nat) (tn_doors : Nat) (tn_degrees : Nat) (tn_neighbours : Nat) (tn_shows : Nat) (tn_oneEnd : Nat) (tn_otherEnd : Nat) (tn_told : Nat) (tn_strayParts : Nat) (tn_strayCourts : Nat) (cA_tn_oneEnd : ClassId) (f_tn_oneEnd : Nat → Int32) (cA_tn_otherEnd : ClassId) (f_tn_otherEnd : Nat → Int32) (b_h0_tapeLength : 0 ≤ h0_tapeLength.toInt ∧ h0_tapeLength.toInt ≤ 1600) (b_nw_isKept : 0 ≤ nw_isKept.toInt ∧ nw_isKept.toInt ≤ 1) (b_nw_names : 0 ≤ nw_names.toInt ∧ nw_names.toInt ≤ 1023) (b_tn_hours : 0 ≤ tn_hours.toInt ∧ tn_hours.toInt ≤ 48) (b_tn_courts : 0 ≤ tn_courts.toInt ∧ tn_courts.toInt ≤ 10) (b_tn_gateCount : 0 ≤ tn_gateCount.toInt ∧ tn_gateCount.toInt ≤ 16) (b_tn_people : 0 ≤ tn_people.toInt ∧ tn_people.toInt ≤ 10) (b_tn_falseHours : 0 ≤ tn_falseHours.toInt ∧ tn_falseHours.toInt ≤ 9) (b_tn_deep : 0 ≤ tn_deep.toInt ∧ tn_deep.toInt ≤ 1) (b_f_tn_oneEnd : ∀ j : Nat, 0 ≤ (f_tn_oneEnd j).toInt ∧ (f_tn_oneEnd j).toInt ≤ 9) (b_f_tn_otherEnd : ∀ j : Nat, 0 ≤ (f_tn_otherEnd j).toInt ∧ (f_tn_otherEnd j).toInt ≤ 9) (sz : Nat) : Met l yX9_leads (.code yX9_leads cX9_leads 4 (some .int) :: zT) ({ frames := 1, cells := 0, slots := 0, locals := 22 }) (va_Pc [.ref h0, .int p1, .int p2] (zB sa dC dI [(h0, .inr (9, [.ref tp, .int h0_tapeLength, .int h0_faultKind, .int h0_faultPlace, .ref nw, .ref im, .ref sl, .ref rd, .ref wk, .ref fm, .ref mt, .ref ch, .ref dy])), (nw, .inr (3, [.int nw_isKept, .ref tn, .int nw_strayed, .int nw_names, .int nw_known, .int nw_gone])), (tn, .inr (7, [.int tn_hours, .int tn_courts, .int tn_gateCount, .int tn_people, .int tn_lines, .int tn_falseHours, .int tn_strayers, .int tn_deep, .ref tn_above, .ref tn_doors, .ref tn_degrees, .ref tn_neighbours, .ref tn_shows, .ref tn_oneEnd, .ref tn_otherEnd, .ref tn_told, .ref tn_strayParts, .ref tn_strayCourts])), (tn_oneEnd, .inl (cA_tn_oneEnd, 16, .inl f_tn_oneEnd)), (tn_otherEnd, .inl (cA_tn_otherEnd, 16, .inl f_tn_otherEnd))] [(cA_tn_oneEnd, .int), (cA_tn_otherEnd, .int)] sz)) (va_Qi (fun (r : Int32) (_ : Unit) => ((-2) ≤ r.toInt ∧ r.toInt ≤ 9) ∧ r = (F_X9_leads p1 p2 tn_courts tn_gateCount f_tn_oneEnd f_tn_otherEnd)) (fun _ t => zW dC dI [(h0, .inr (9, [.ref tp, .int h0_tapeLength, .int h0_faultKind, .int h0_faultPlace, .ref nw, .ref im, .ref sl, .ref rd, .ref wk, .ref fm, .ref mt, .ref ch, .ref dy])), (nw, .inr (3, [.int nw_isKept, .ref tn, .int nw_strayed, .int nw_names, .int nw_known, .int nw_gone])), (tn, .inr (7, [.int tn_hours, .int tn_courts, .int tn_gateCount, .int tn_people, .int tn_lines, .int tn_falseHours, .int tn_strayers, .int tn_deep, .ref tn_above, .ref tn_doors, .ref tn_degrees, .ref tn_neighbours, .ref tn_shows, .ref tn_oneEnd, .ref tn_otherEnd, .ref tn_told, .ref tn_strayParts, .ref tn_strayCourts])), (tn_oneEnd, .inl (cA_tn_oneEnd, 16, .inl f_tn_oneEnd)), (tn_otherEnd, .inl (cA_tn_otherEnd, 16, .inl f_tn_otherEnd))] [] (va_A [(h0, .inr (9, [.ref tp, .int h0_tapeLength, .int h0_faultKind, .int h0_faultPlace, .ref nw, .ref im, .ref sl, .ref rd, .ref wk, .ref fm, .ref mt, .ref ch, .ref dy])), (nw, .inr (3, [.int nw_isKept, .ref tn, .int nw_strayed, .int nw_names, .int nw_known, .int nw_gone])), (tn, .inr (7, [.int tn_hours, .int tn_courts, .int tn_gateCount, .int tn_people, .int tn_lines, .int tn_falseHours, .int tn_strayers, .int tn_deep, .ref tn_above, .ref tn_doors, .ref tn_degrees, .ref tn_neighbours, .ref tn_shows, .ref tn_oneEnd, .ref tn_otherEnd, .ref tn_told, .ref tn_strayParts, .ref tn_strayCourts])), (tn_oneEnd, .inl (cA_tn_oneEnd, 16, .inl f_tn_oneEnd)), (tn_otherEnd, .inl (cA_tn_otherEnd, 16, .inl f_tn_otherEnd))] sz) t) (va_A [(h0, .inr (9, [.ref tp, .int h0_tapeLength, .int h0_faultKind, .int h0_faultPlace, .ref nw, .ref im, .ref sl, .ref rd, .ref wk, .ref fm, .ref mt, .ref ch, .ref dy])), (nw, .inr (3, [.int nw_isKept, .ref tn, .int nw_strayed, .int nw_names, .int nw_known, .int nw_gone])), (tn, .inr (7, [.int tn_hours, .int tn_courts, .int tn_gateCount, .int tn_people, .int tn_lines, .int tn_falseHours, .int tn_strayers, .int tn_deep, .ref tn_above, .ref tn_doors, .ref tn_degrees, .ref tn_neighbours, .ref tn_shows, .ref tn_oneEnd, .ref tn_otherEnd, .ref tn_told, .ref tn_strayParts, .ref tn_strayCourts])), (tn_oneEnd, .inl (cA_tn_oneEnd, 16, .inl f_tn_oneEnd)), (tn_otherEnd, .inl (cA_tn_otherEnd, 16, .inl f_tn_otherEnd))] sz)) 0 0 (va_A [(h0, .inr (9, [.ref tp, .int h0_tapeLength, .int h0_faultKind, .int h0_faultPlace, .ref nw, .ref im, .ref sl, .ref rd, .ref wk, .ref fm, .ref mt, .ref ch, .ref dy])), (nw, .inr (3, [.int nw_isKept, .ref tn, .int nw_strayed, .int nw_names, .int nw_known, .int nw_gone])), (tn, .inr (7, [.int tn_hours, .int tn_courts, .int tn_gateCount, .int tn_people, .int tn_lines, .int tn_falseHours, .int tn_strayers, .int tn_deep, .ref tn_above, .ref tn_doors, .ref tn_degrees, .ref tn_neighbours, .ref tn_shows, .ref tn_oneEnd, .ref tn_otherEnd, .ref tn_told, .ref tn_strayParts, .ref tn_strayCourts])), (tn_oneEnd, .inl (cA_tn_oneEnd, 16, .inl f_tn_oneEnd)), (tn_otherEnd, .inl (cA_tn_otherEnd, 16, .inl f_tn_otherEnd))] sz) := by
  refine z_enter (by decide) (by exact (Nat.le_of_ble_eq_true rfl)) ?_
  intro p e s m args below meth c ls A R Qc hargs hsz hQe hAe hRe hx hb hml hr hts hown hlocks hin hl hP hK hD hN hXs hA hS
  rw [hAe] at hQe
  have hown : s.vm.findClass RX9 = some m.cls := hown
  have hl : lv_has ls 4 [(0, .ref h0), (1, .int p1), (2, .int p2)] := hl
  obtain ⟨RR, hRR⟩ : ∃ z : Int32, z = (F_X9_leads p1 p2 tn_courts tn_gateCount f_tn_oneEnd f_tn_otherEnd) := ⟨_, rfl⟩
  have hF : RR = (F_X9_leads p1 p2 tn_courts tn_gateCount f_tn_oneEnd f_tn_otherEnd) := hRR
  refine lv_aload_n hx hb dX9_leads_0 rfl (lv_at hl 0 rfl) ?_
  refine va_get (D := (dC, dI)) (ci := 9) (v := .ref nw) (C := RX9) (T := TX9) (N := 13) hx hb hts zl_X9 hown hK hP 0 rfl rfl 4 (by decide) (hts _ zw_t2_193) (fun _ h9 => h9) rfl dX9_leads_1 ?_
  refine va_get (D := (dC, dI)) (ci := 3) (v := .ref tn) (C := RX3) (T := TX3) (N := 6) hx hb hts zl_X3 hown hK hP 1 rfl rfl 1 (by decide) (hts _ zw_t1_156) (fun _ h9 => h9) rfl dX9_leads_4 ?_
  refine lv_astore_n (lv' := [(3, .ref tn), (0, .ref h0), (1, .int p1), (2, .int p2)]) hx hb dX9_leads_7 rfl hl (by decide) rfl (fun ls hl => ?_)
  refine lv_aload_n hx hb dX9_leads_8 rfl (lv_at hl 0 rfl) ?_
  refine lv_iload_n hx hb dX9_leads_9 rfl (lv_at hl 2 rfl) ?_
  obtain ⟨hPc, hDc, hFc⟩ := z_cut (wc := [(tn, .inr (7, [.int tn_hours, .int tn_courts, .int tn_gateCount, .int tn_people, .int tn_lines, .int tn_falseHours, .int tn_strayers, .int tn_deep, .ref tn_above, .ref tn_doors, .ref tn_degrees, .ref tn_neighbours, .ref tn_shows, .ref tn_oneEnd, .ref tn_otherEnd, .ref tn_told, .ref tn_strayParts, .ref tn_strayCourts]))]) hP hD hS hA [2] rfl (by decide +kernel)
  have hKc := hK.sub (tys' := []) [] rfl
  refine va_calli (va_runV (As := [.int p1]) (rest := []) ⟨hx, hb, hml, hown, hts⟩ (kf_X7_hasGate l sa dC dI tn p1 tn_hours tn_courts tn_gateCount tn_people tn_lines tn_falseHours tn_strayers tn_deep tn_above tn_doors tn_degrees tn_neighbours tn_shows tn_oneEnd tn_otherEnd tn_told tn_strayParts tn_strayCourts (by first | with_reducible assumption | omega) (by first | with_reducible assumption | omega) (by first | with_reducible assumption | omega) (by first | with_reducible assumption | omega) (by first | with_reducible assumption | omega) (by first | with_reducible assumption | omega) s.heap.size) (cwV 1 hts (z_gV zw_t3_233 zw_t3_234 zw_t3_235 zw_t1_3 zw_t3_236) rfl rfl rfl (by decide +kernel) (by rw [← hRe]; exact ⟨(Nat.le_of_ble_eq_true rfl), (Nat.le_of_ble_eq_true rfl)⟩)) (z_preV hPc hKc hDc hN hXs hS hFc (q := (RX7, TX7, 18)) (ci := 7) (q0 := 0) rfl rfl) rfl rfl hl.1 rfl (lv_room (Nat.le_of_ble_eq_true rfl)) dX9_leads_10 (by rw [← hRe]; exact ⟨(Nat.le_of_ble_eq_true rfl), (Nat.le_of_ble_eq_true rfl)⟩)) hS (fun q _ h => hFc q h) hFc (fun r_1 u t H1 locs ht hvm hw hB hz1 hk1 hS => ?_)
  obtain ⟨hP, hD, hK⟩ := z_after3 (wn := [(h0, .inr (9, [.ref tp, .int h0_tapeLength, .int h0_faultKind, .int h0_faultPlace, .ref nw, .ref im, .ref sl, .ref rd, .ref wk, .ref fm, .ref mt, .ref ch, .ref dy])), (nw, .inr (3, [.int nw_isKept, .ref tn, .int nw_strayed, .int nw_names, .int nw_known, .int nw_gone])), (tn_oneEnd, .inl (cA_tn_oneEnd, 16, .inl f_tn_oneEnd)), (tn_otherEnd, .inl (cA_tn_otherEnd, 16, .inl f_tn_otherEnd)), (tn, .inr (7, [.int tn_hours, .int tn_courts, .int tn_gateCount, .int tn_people, .int tn_lines, .int tn_falseHours, .int tn_strayers, .int tn_deep, .ref tn_above, .ref tn_doors, .ref tn_degrees, .ref tn_neighbours, .ref tn_shows, .ref tn_oneEnd, .ref tn_otherEnd, .ref tn_told, .ref tn_strayParts, .ref tn_strayCourts]))]) hB ht hvm hP hD hK [2] [0, 1, 3, 4] rfl 5 rfl (by decide +kernel) rfl (by decide +kernel) hk1 hFc
  generalize H1 = H at hP hS ⊢
  have hK : va_K (dC, dI) vwCl [(cA_tn_oneEnd, .int), (cA_tn_otherEnd, .int)] s := hK
  have b_r_1 : 0 ≤ r_1.toInt ∧ r_1.toInt ≤ 1 := hw.1
  have s_r_1 := hw.2.1
  have sf_r_1 := hw.2.2
  replace hF := hF.trans (zL_eq sf_r_1)
  refine lv_if_eq (tgt := 24) hx hb dX9_leads_13 (by decide) (fun c_2 => ?_) (fun c_2 => ?_)
  · have ic_2 := zz_eq rfl (show Int32.toInt 0 = 0 from by decide) c_2
    replace hF := hF.trans (if_pos c_2)
    refine lv_bipush (v := (-2)) hx hb dX9_leads_24 (by decide) ?_
    have hF : RR = (-2 : Int32) := hF
    have zc : Int32.toInt (-2) = (-2) := by decide
    exact W.iret (v := (-2)) hx hb hr (fun t ht hW => by rw [← hQe]; exact ⟨⟨(-2), (), rfl, ⟨by decide, (by rw [← hRR, hF])⟩, z_ret hP hK hD ht hW [0, 1, 4, 2, 3] [] rfl (by decide) rfl⟩, hS.F ht⟩) hS.2.2 dX9_leads_26
  · have ic_2 := zz_neq rfl (show Int32.toInt 0 = 0 from by decide) c_2
    replace hF := hF.trans (if_neg c_2)
    refine lv_aload_n hx hb dX9_leads_16 rfl (lv_at hl 0 rfl) ?_
    refine lv_iload_n hx hb dX9_leads_17 rfl (lv_at hl 3 rfl) ?_
    obtain ⟨hPc, hDc, hFc⟩ := z_cut (wc := [(tn, .inr (7, [.int tn_hours, .int tn_courts, .int tn_gateCount, .int tn_people, .int tn_lines, .int tn_falseHours, .int tn_strayers, .int tn_deep, .ref tn_above, .ref tn_doors, .ref tn_degrees, .ref tn_neighbours, .ref tn_shows, .ref tn_oneEnd, .ref tn_otherEnd, .ref tn_told, .ref tn_strayParts, .ref tn_strayCourts]))]) hP hD hS hA [4] rfl (by decide +kernel)
    have hKc := hK.sub (tys' := []) [] rfl
    refine va_calli (va_runV (As := [.int p2]) (rest := []) ⟨hx, hb, hml, hown, hts⟩ (kf_X7_hasCourt l sa dC dI tn p2 tn_hours tn_courts tn_gateCount tn_people tn_lines tn_falseHours tn_strayers tn_deep tn_above tn_doors tn_degrees tn_neighbours tn_shows tn_oneEnd tn_otherEnd tn_told tn_strayParts tn_strayCourts (by first | with_reducible assumption | omega) (by first | with_reducible assumption | omega) (by first | with_reducible assumption | omega) (by first | with_reducible assumption | omega) (by first | with_reducible assumption | omega) (by first | with_reducible assumption | omega) H.size) (cwV 1 hts (z_gV zw_t3_197 zw_t3_198 zw_t3_199 zw_t1_3 zw_t3_200) rfl rfl rfl (by decide +kernel) (by rw [← hRe]; exact ⟨(Nat.le_of_ble_eq_true rfl), (Nat.le_of_ble_eq_true rfl)⟩)) (z_preV hPc hKc hDc hN hXs hS hFc (q := (RX7, TX7, 18)) (ci := 7) (q0 := 0) rfl rfl) rfl rfl hl.1 rfl (lv_room (Nat.le_of_ble_eq_true rfl)) dX9_leads_18 (by rw [← hRe]; exact ⟨(Nat.le_of_ble_eq_true rfl), (Nat.le_of_ble_eq_true rfl)⟩)) hS (fun q _ h => hFc q h) hFc (fun r_3 u t H1 locs ht hvm hw hB hz1 hk1 hS => ?_)
    obtain ⟨hP, hD, hK⟩ := z_after3 (wn := [(h0, .inr (9, [.ref tp, .int h0_tapeLength, .int h0_faultKind, .int h0_faultPlace, .ref nw, .ref im, .ref sl, .ref rd, .ref wk, .ref fm, .ref mt, .ref ch, .ref dy])), (nw, .inr (3, [.int nw_isKept, .ref tn, .int nw_strayed, .int nw_names, .int nw_known, .int nw_gone])), (tn_oneEnd, .inl (cA_tn_oneEnd, 16, .inl f_tn_oneEnd)), (tn_otherEnd, .inl (cA_tn_otherEnd, 16, .inl f_tn_otherEnd)), (tn, .inr (7, [.int tn_hours, .int tn_courts, .int tn_gateCount, .int tn_people, .int tn_lines, .int tn_falseHours, .int tn_strayers, .int tn_deep, .ref tn_above, .ref tn_doors, .ref tn_degrees, .ref tn_neighbours, .ref tn_shows, .ref tn_oneEnd, .ref tn_otherEnd, .ref tn_told, .ref tn_strayParts, .ref tn_strayCourts]))]) hB ht hvm hP hD hK [4] [0, 1, 2, 3] rfl 5 rfl (by decide +kernel) rfl (by decide +kernel) hk1 hFc
    generalize H1 = H at hP hS ⊢
    have hK : va_K (dC, dI) vwCl [(cA_tn_oneEnd, .int), (cA_tn_otherEnd, .int)] s := hK
    have b_r_3 : 0 ≤ r_3.toInt ∧ r_3.toInt ≤ 1 := hw.1
    have s_r_3 := hw.2.1
    have sf_r_3 := hw.2.2
    replace hF := hF.trans (zL_eq sf_r_3)
    refine lv_if_ne (tgt := 27) hx hb dX9_leads_21 (by decide) (fun c_4 => ?_) (fun c_4 => ?_)
    · have ic_4 := zz_ne rfl (show Int32.toInt 0 = 0 from by decide) c_4
      replace hF := hF.trans (if_neg c_4)
      refine lv_aload_n hx hb dX9_leads_27 rfl (lv_at hl 0 rfl) ?_
      refine lv_iload_n hx hb dX9_leads_28 rfl (lv_at hl 2 rfl) ?_
      refine lv_iload_n hx hb dX9_leads_29 rfl (lv_at hl 3 rfl) ?_
      obtain ⟨hPc, hDc, hFc⟩ := z_cut (wc := [(tn, .inr (7, [.int tn_hours, .int tn_courts, .int tn_gateCount, .int tn_people, .int tn_lines, .int tn_falseHours, .int tn_strayers, .int tn_deep, .ref tn_above, .ref tn_doors, .ref tn_degrees, .ref tn_neighbours, .ref tn_shows, .ref tn_oneEnd, .ref tn_otherEnd, .ref tn_told, .ref tn_strayParts, .ref tn_strayCourts])), (tn_oneEnd, .inl (cA_tn_oneEnd, 16, .inl f_tn_oneEnd)), (tn_otherEnd, .inl (cA_tn_otherEnd, 16, .inl f_tn_otherEnd))]) hP hD hS hA [4, 2, 3] rfl (by decide +kernel)
      have hKc := hK.sub (tys' := [(cA_tn_oneEnd, .int), (cA_tn_otherEnd, .int)]) [0, 1] rfl
      refine va_calli (va_runV (As := [.int p1, .int p2]) (rest := []) ⟨hx, hb, hml, hown, hts⟩ (kf_X7_beyond l sa dC dI tn p1 p2 tn_hours tn_courts tn_gateCount tn_people tn_lines tn_falseHours tn_strayers tn_deep tn_above tn_doors tn_degrees tn_neighbours tn_shows tn_oneEnd tn_otherEnd tn_told tn_strayParts tn_strayCourts cA_tn_oneEnd f_tn_oneEnd cA_tn_otherEnd f_tn_otherEnd (by first | with_reducible assumption | omega) (by first | with_reducible assumption | omega) (by first | with_reducible assumption | omega) (by first | with_reducible assumption | omega) (by first | with_reducible assumption | omega) (by first | with_reducible assumption | omega) (by first | with_reducible assumption | omega) b_f_tn_oneEnd b_f_tn_otherEnd H.size) (cwV 2 hts (z_gV zw_t3_237 zw_t3_238 zw_t3_239 zw_t1_3 zw_t4_0) rfl rfl rfl (by decide +kernel) (by rw [← hRe]; exact ⟨(Nat.le_of_ble_eq_true rfl), (Nat.le_of_ble_eq_true rfl)⟩)) (z_preV hPc hKc hDc hN hXs hS hFc (q := (RX7, TX7, 18)) (ci := 7) (q0 := 0) rfl rfl) rfl rfl hl.1 rfl (lv_room (Nat.le_of_ble_eq_true rfl)) dX9_leads_30 (by rw [← hRe]; exact ⟨(Nat.le_of_ble_eq_true rfl), (Nat.le_of_ble_eq_true rfl)⟩)) hS (fun q _ h => hFc q h) hFc (fun r_5 u t H1 locs ht hvm hw hB hz1 hk1 hS => ?_)
      obtain ⟨hP, hD, hK⟩ := z_after3 (wn := [(h0, .inr (9, [.ref tp, .int h0_tapeLength, .int h0_faultKind, .int h0_faultPlace, .ref nw, .ref im, .ref sl, .ref rd, .ref wk, .ref fm, .ref mt, .ref ch, .ref dy])), (nw, .inr (3, [.int nw_isKept, .ref tn, .int nw_strayed, .int nw_names, .int nw_known, .int nw_gone])), (tn, .inr (7, [.int tn_hours, .int tn_courts, .int tn_gateCount, .int tn_people, .int tn_lines, .int tn_falseHours, .int tn_strayers, .int tn_deep, .ref tn_above, .ref tn_doors, .ref tn_degrees, .ref tn_neighbours, .ref tn_shows, .ref tn_oneEnd, .ref tn_otherEnd, .ref tn_told, .ref tn_strayParts, .ref tn_strayCourts])), (tn_oneEnd, .inl (cA_tn_oneEnd, 16, .inl f_tn_oneEnd)), (tn_otherEnd, .inl (cA_tn_otherEnd, 16, .inl f_tn_otherEnd))]) hB ht hvm hP hD hK [4, 2, 3] [0, 1] rfl 5 rfl (by decide +kernel) rfl (by decide +kernel) hk1 hFc
      generalize H1 = H at hP hS ⊢
      have hK : va_K (dC, dI) vwCl [(cA_tn_oneEnd, .int), (cA_tn_otherEnd, .int)] s := hK
      have b_r_5 : (-1) ≤ r_5.toInt ∧ r_5.toInt ≤ 9 := hw.1
      have s_r_5 := hw.2.1
      have sf_r_5 := hw.2.2
      replace hF := hF.trans (zL_eq sf_r_5)
      have hF : RR = r_5 := hF
      exact W.iret (v := r_5) hx hb hr (fun t ht hW => by rw [← hQe]; exact ⟨⟨r_5, (), rfl, ⟨by omega, (by rw [← hRR, hF])⟩, z_ret hP hK hD ht hW [0, 1, 2, 3, 4] [] rfl (by decide) rfl⟩, hS.F ht⟩) hS.2.2 dX9_leads_33
    · have ic_4 := zz_nne rfl (show Int32.toInt 0 = 0 from by decide) c_4
      replace hF := hF.trans (if_pos c_4)
      refine lv_bipush (v := (-2)) hx hb dX9_leads_24 (by decide) ?_
      have hF : RR = (-2 : Int32) := hF
      have zc : Int32.toInt (-2) = (-2) := by decide
      exact W.iret (v := (-2)) hx hb hr (fun t ht hW => by rw [← hQe]; exact ⟨⟨(-2), (), rfl, ⟨by decide, (by rw [← hRR, hF])⟩, z_ret hP hK hD ht hW [0, 1, 4, 2, 3] [] rfl (by decide) rfl⟩, hS.F ht⟩) hS.2.2 dX9_leads_26
set_option maxHeartbeats 4000000 in
set_option maxRecDepth 100000 in
theorem kf_X9_keys (l : Launch) (sa : Nat → Nat) (dC : Nat → ClassId) (dI : Nat → Nat → Nat) (h0 : Nat) (p1 : Int32) (p2 : Int32) (p3 : Int32) (tp : Nat) (h0_tapeLength : Int32) (h0_faultKind : Int32) (h0_faultPlace : Int32) (nw : Nat) (im : Nat) (sl : Nat) (rd : Nat) (wk : Nat) (fm : Nat) (mt : Nat) (ch : Nat) (dy : Nat) (nw_isKept : Int32) (tn : Nat) (nw_strayed : Int32) (nw_names : Int32) (nw_known : Int32) (nw_gone : Int32) (tn_hours : Int32) (tn_courts : Int32) (tn_gateCount : Int32) (tn_people : Int32) (tn_lines : Int32) (tn_falseHours : Int32) (tn_strayers : Int32) (tn_deep : Int32) (tn_above : Nat) (tn_doors : Nat) (tn_degrees : Nat) (tn_neighbours : Nat) (tn_shows : Nat) (tn_oneEnd : Nat) (tn_otherEnd : Nat) (tn_told : Nat) (tn_strayParts : Nat) (tn_strayCourts : Nat) (cA_tn_above : ClassId) (f_tn_above : Nat → Int32) (cA_tn_shows : ClassId) (f_tn_shows : Nat → Int32) (cA_tn_oneEnd : ClassId) (f_tn_oneEnd : Nat → Int32) (cA_tn_otherEnd : ClassId) (f_tn_otherEnd : Nat → Int32) (cA_tn_told : ClassId) (f_tn_told : Nat → Int32) (cA_tn_strayCourts : ClassId) (f_tn_strayCourts : Nat → Int32) (b_h0_tapeLength : 0 ≤ h0_tapeLength.toInt ∧ h0_tapeLength.toInt ≤ 1600) (b_nw_isKept : 0 ≤ nw_isKept.toInt ∧ nw_isKept.toInt ≤ 1) (b_nw_names : 0 ≤ nw_names.toInt ∧ nw_names.toInt ≤ 1023) (b_tn_hours : 0 ≤ tn_hours.toInt ∧ tn_hours.toInt ≤ 48) (b_tn_courts : 0 ≤ tn_courts.toInt ∧ tn_courts.toInt ≤ 10) (b_tn_gateCount : 0 ≤ tn_gateCount.toInt ∧ tn_gateCount.toInt ≤ 16) (b_tn_people : 0 ≤ tn_people.toInt ∧ tn_people.toInt ≤ 10) (b_tn_falseHours : 0 ≤ tn_falseHours.toInt ∧ tn_falseHours.toInt ≤ 9) (b_tn_deep : 0 ≤ tn_deep.toInt ∧ tn_deep.toInt ≤ 1) (b_f_tn_oneEnd : ∀ j : Nat, 0 ≤ (f_tn_oneEnd j).toInt ∧ (f_tn_oneEnd j).toInt ≤ 9) (b_f_tn_otherEnd : ∀ j : Nat, 0 ≤ (f_tn_otherEnd j).toInt ∧ (f_tn_otherEnd j).toInt ≤ 9) (b_f_tn_told : ∀ j : Nat, 0 ≤ (f_tn_told j).toInt ∧ (f_tn_told j).toInt ≤ 9) (b_f_tn_strayCourts : ∀ j : Nat, 0 ≤ (f_tn_strayCourts j).toInt ∧ (f_tn_strayCourts j).toInt ≤ 9) (sz : Nat) : Met l yX9_keys (.code yX9_keys cX9_keys 6 (some .int) :: zT) ({ frames := 3, cells := 0, slots := 0, locals := 72 }) (va_Pc [.ref h0, .int p1, .int p2, .int p3] (zB sa dC dI [(h0, .inr (9, [.ref tp, .int h0_tapeLength, .int h0_faultKind, .int h0_faultPlace, .ref nw, .ref im, .ref sl, .ref rd, .ref wk, .ref fm, .ref mt, .ref ch, .ref dy])), (nw, .inr (3, [.int nw_isKept, .ref tn, .int nw_strayed, .int nw_names, .int nw_known, .int nw_gone])), (tn, .inr (7, [.int tn_hours, .int tn_courts, .int tn_gateCount, .int tn_people, .int tn_lines, .int tn_falseHours, .int tn_strayers, .int tn_deep, .ref tn_above, .ref tn_doors, .ref tn_degrees, .ref tn_neighbours, .ref tn_shows, .ref tn_oneEnd, .ref tn_otherEnd, .ref tn_told, .ref tn_strayParts, .ref tn_strayCourts])), (tn_above, .inl (cA_tn_above, 10, .inl f_tn_above)), (tn_shows, .inl (cA_tn_shows, 10, .inl f_tn_shows)), (tn_oneEnd, .inl (cA_tn_oneEnd, 16, .inl f_tn_oneEnd)), (tn_otherEnd, .inl (cA_tn_otherEnd, 16, .inl f_tn_otherEnd)), (tn_told, .inl (cA_tn_told, 480, .inl f_tn_told)), (tn_strayCourts, .inl (cA_tn_strayCourts, 10, .inl f_tn_strayCourts))] [(cA_tn_above, .int), (cA_tn_shows, .int), (cA_tn_oneEnd, .int), (cA_tn_otherEnd, .int), (cA_tn_told, .int), (cA_tn_strayCourts, .int)] sz)) (va_Qi (fun (r : Int32) (_ : Unit) => ((-2) ≤ r.toInt ∧ r.toInt ≤ 1023) ∧ r = (F_X9_keys p1 p2 p3 nw_strayed nw_names tn_hours tn_courts tn_gateCount tn_people f_tn_above f_tn_shows f_tn_oneEnd f_tn_otherEnd f_tn_told f_tn_strayCourts)) (fun _ t => zW dC dI [(h0, .inr (9, [.ref tp, .int h0_tapeLength, .int h0_faultKind, .int h0_faultPlace, .ref nw, .ref im, .ref sl, .ref rd, .ref wk, .ref fm, .ref mt, .ref ch, .ref dy])), (nw, .inr (3, [.int nw_isKept, .ref tn, .int nw_strayed, .int nw_names, .int nw_known, .int nw_gone])), (tn, .inr (7, [.int tn_hours, .int tn_courts, .int tn_gateCount, .int tn_people, .int tn_lines, .int tn_falseHours, .int tn_strayers, .int tn_deep, .ref tn_above, .ref tn_doors, .ref tn_degrees, .ref tn_neighbours, .ref tn_shows, .ref tn_oneEnd, .ref tn_otherEnd, .ref tn_told, .ref tn_strayParts, .ref tn_strayCourts])), (tn_above, .inl (cA_tn_above, 10, .inl f_tn_above)), (tn_shows, .inl (cA_tn_shows, 10, .inl f_tn_shows)), (tn_oneEnd, .inl (cA_tn_oneEnd, 16, .inl f_tn_oneEnd)), (tn_otherEnd, .inl (cA_tn_otherEnd, 16, .inl f_tn_otherEnd)), (tn_told, .inl (cA_tn_told, 480, .inl f_tn_told)), (tn_strayCourts, .inl (cA_tn_strayCourts, 10, .inl f_tn_strayCourts))] [] (va_A [(h0, .inr (9, [.ref tp, .int h0_tapeLength, .int h0_faultKind, .int h0_faultPlace, .ref nw, .ref im, .ref sl, .ref rd, .ref wk, .ref fm, .ref mt, .ref ch, .ref dy])), (nw, .inr (3, [.int nw_isKept, .ref tn, .int nw_strayed, .int nw_names, .int nw_known, .int nw_gone])), (tn, .inr (7, [.int tn_hours, .int tn_courts, .int tn_gateCount, .int tn_people, .int tn_lines, .int tn_falseHours, .int tn_strayers, .int tn_deep, .ref tn_above, .ref tn_doors, .ref tn_degrees, .ref tn_neighbours, .ref tn_shows, .ref tn_oneEnd, .ref tn_otherEnd, .ref tn_told, .ref tn_strayParts, .ref tn_strayCourts])), (tn_above, .inl (cA_tn_above, 10, .inl f_tn_above)), (tn_shows, .inl (cA_tn_shows, 10, .inl f_tn_shows)), (tn_oneEnd, .inl (cA_tn_oneEnd, 16, .inl f_tn_oneEnd)), (tn_otherEnd, .inl (cA_tn_otherEnd, 16, .inl f_tn_otherEnd)), (tn_told, .inl (cA_tn_told, 480, .inl f_tn_told)), (tn_strayCourts, .inl (cA_tn_strayCourts, 10, .inl f_tn_strayCourts))] sz) t) (va_A [(h0, .inr (9, [.ref tp, .int h0_tapeLength, .int h0_faultKind, .int h0_faultPlace, .ref nw, .ref im, .ref sl, .ref rd, .ref wk, .ref fm, .ref mt, .ref ch, .ref dy])), (nw, .inr (3, [.int nw_isKept, .ref tn, .int nw_strayed, .int nw_names, .int nw_known, .int nw_gone])), (tn, .inr (7, [.int tn_hours, .int tn_courts, .int tn_gateCount, .int tn_people, .int tn_lines, .int tn_falseHours, .int tn_strayers, .int tn_deep, .ref tn_above, .ref tn_doors, .ref tn_degrees, .ref tn_neighbours, .ref tn_shows, .ref tn_oneEnd, .ref tn_otherEnd, .ref tn_told, .ref tn_strayParts, .ref tn_strayCourts])), (tn_above, .inl (cA_tn_above, 10, .inl f_tn_above)), (tn_shows, .inl (cA_tn_shows, 10, .inl f_tn_shows)), (tn_oneEnd, .inl (cA_tn_oneEnd, 16, .inl f_tn_oneEnd)), (tn_otherEnd, .inl (cA_tn_otherEnd, 16, .inl f_tn_otherEnd)), (tn_told, .inl (cA_tn_told, 480, .inl f_tn_told)), (tn_strayCourts, .inl (cA_tn_strayCourts, 10, .inl f_tn_strayCourts))] sz)) 0 0 (va_A [(h0, .inr (9, [.ref tp, .int h0_tapeLength, .int h0_faultKind, .int h0_faultPlace, .ref nw, .ref im, .ref sl, .ref rd, .ref wk, .ref fm, .ref mt, .ref ch, .ref dy])), (nw, .inr (3, [.int nw_isKept, .ref tn, .int nw_strayed, .int nw_names, .int nw_known, .int nw_gone])), (tn, .inr (7, [.int tn_hours, .int tn_courts, .int tn_gateCount, .int tn_people, .int tn_lines, .int tn_falseHours, .int tn_strayers, .int tn_deep, .ref tn_above, .ref tn_doors, .ref tn_degrees, .ref tn_neighbours, .ref tn_shows, .ref tn_oneEnd, .ref tn_otherEnd, .ref tn_told, .ref tn_strayParts, .ref tn_strayCourts])), (tn_above, .inl (cA_tn_above, 10, .inl f_tn_above)), (tn_shows, .inl (cA_tn_shows, 10, .inl f_tn_shows)), (tn_oneEnd, .inl (cA_tn_oneEnd, 16, .inl f_tn_oneEnd)), (tn_otherEnd, .inl (cA_tn_otherEnd, 16, .inl f_tn_otherEnd)), (tn_told, .inl (cA_tn_told, 480, .inl f_tn_told)), (tn_strayCourts, .inl (cA_tn_strayCourts, 10, .inl f_tn_strayCourts))] sz) := by
  refine z_enter (by decide) (by exact (Nat.le_of_ble_eq_true rfl)) ?_
  intro p e s m args below meth c ls A R Qc hargs hsz hQe hAe hRe hx hb hml hr hts hown hlocks hin hl hP hK hD hN hXs hA hS
  rw [hAe] at hQe
  have hown : s.vm.findClass RX9 = some m.cls := hown
  have hl : lv_has ls 6 [(0, .ref h0), (1, .int p1), (2, .int p2), (3, .int p3)] := hl
  obtain ⟨RR, hRR⟩ : ∃ z : Int32, z = (F_X9_keys p1 p2 p3 nw_strayed nw_names tn_hours tn_courts tn_gateCount tn_people f_tn_above f_tn_shows f_tn_oneEnd f_tn_otherEnd f_tn_told f_tn_strayCourts) := ⟨_, rfl⟩
  have hF : RR = (F_X9_keys p1 p2 p3 nw_strayed nw_names tn_hours tn_courts tn_gateCount tn_people f_tn_above f_tn_shows f_tn_oneEnd f_tn_otherEnd f_tn_told f_tn_strayCourts) := hRR
  refine lv_aload_n hx hb dX9_keys_0 rfl (lv_at hl 0 rfl) ?_
  refine va_get (D := (dC, dI)) (ci := 9) (v := .ref nw) (C := RX9) (T := TX9) (N := 13) hx hb hts zl_X9 hown hK hP 0 rfl rfl 4 (by decide) (hts _ zw_t2_193) (fun _ h9 => h9) rfl dX9_keys_1 ?_
  refine va_get (D := (dC, dI)) (ci := 3) (v := .ref tn) (C := RX3) (T := TX3) (N := 6) hx hb hts zl_X3 hown hK hP 1 rfl rfl 1 (by decide) (hts _ zw_t1_156) (fun _ h9 => h9) rfl dX9_keys_4 ?_
  refine lv_astore (lv' := [(4, .ref tn), (0, .ref h0), (1, .int p1), (2, .int p2), (3, .int p3)]) hx hb dX9_keys_7 hl (by decide) rfl (fun ls hl => ?_)
  refine lv_aload hx hb dX9_keys_9 (lv_at hl 0 rfl) ?_
  refine lv_iload_n hx hb dX9_keys_11 rfl (lv_at hl 2 rfl) ?_
  refine lv_iload_n hx hb dX9_keys_12 rfl (lv_at hl 3 rfl) ?_
  refine lv_iload_n hx hb dX9_keys_13 rfl (lv_at hl 4 rfl) ?_
  obtain ⟨hPc, hDc, hFc⟩ := z_cut (wc := [(tn, .inr (7, [.int tn_hours, .int tn_courts, .int tn_gateCount, .int tn_people, .int tn_lines, .int tn_falseHours, .int tn_strayers, .int tn_deep, .ref tn_above, .ref tn_doors, .ref tn_degrees, .ref tn_neighbours, .ref tn_shows, .ref tn_oneEnd, .ref tn_otherEnd, .ref tn_told, .ref tn_strayParts, .ref tn_strayCourts]))]) hP hD hS hA [2] rfl (by decide +kernel)
  have hKc := hK.sub (tys' := []) [] rfl
  refine va_calli (va_runV (As := [.int p1, .int p2, .int p3]) (rest := []) ⟨hx, hb, hml, hown, hts⟩ (kf_X7_hasPassage l sa dC dI tn p1 p2 p3 tn_hours tn_courts tn_gateCount tn_people tn_lines tn_falseHours tn_strayers tn_deep tn_above tn_doors tn_degrees tn_neighbours tn_shows tn_oneEnd tn_otherEnd tn_told tn_strayParts tn_strayCourts (by first | with_reducible assumption | omega) (by first | with_reducible assumption | omega) (by first | with_reducible assumption | omega) (by first | with_reducible assumption | omega) (by first | with_reducible assumption | omega) (by first | with_reducible assumption | omega) s.heap.size) (cwV 3 hts (z_gV zw_t4_5 zw_t4_6 zw_t4_7 zw_t1_3 zw_t4_8) rfl rfl rfl (by decide +kernel) (by rw [← hRe]; exact ⟨(Nat.le_of_ble_eq_true rfl), (Nat.le_of_ble_eq_true rfl)⟩)) (z_preV hPc hKc hDc hN hXs hS hFc (q := (RX7, TX7, 18)) (ci := 7) (q0 := 0) rfl rfl) rfl rfl hl.1 rfl (lv_room (Nat.le_of_ble_eq_true rfl)) dX9_keys_14 (by rw [← hRe]; exact ⟨(Nat.le_of_ble_eq_true rfl), (Nat.le_of_ble_eq_true rfl)⟩)) hS (fun q _ h => hFc q h) hFc (fun r_1 u t H1 locs ht hvm hw hB hz1 hk1 hS => ?_)
  obtain ⟨hP, hD, hK⟩ := z_after3 (wn := [(h0, .inr (9, [.ref tp, .int h0_tapeLength, .int h0_faultKind, .int h0_faultPlace, .ref nw, .ref im, .ref sl, .ref rd, .ref wk, .ref fm, .ref mt, .ref ch, .ref dy])), (nw, .inr (3, [.int nw_isKept, .ref tn, .int nw_strayed, .int nw_names, .int nw_known, .int nw_gone])), (tn_above, .inl (cA_tn_above, 10, .inl f_tn_above)), (tn_shows, .inl (cA_tn_shows, 10, .inl f_tn_shows)), (tn_oneEnd, .inl (cA_tn_oneEnd, 16, .inl f_tn_oneEnd)), (tn_otherEnd, .inl (cA_tn_otherEnd, 16, .inl f_tn_otherEnd)), (tn_told, .inl (cA_tn_told, 480, .inl f_tn_told)), (tn_strayCourts, .inl (cA_tn_strayCourts, 10, .inl f_tn_strayCourts)), (tn, .inr (7, [.int tn_hours, .int tn_courts, .int tn_gateCount, .int tn_people, .int tn_lines, .int tn_falseHours, .int tn_strayers, .int tn_deep, .ref tn_above, .ref tn_doors, .ref tn_degrees, .ref tn_neighbours, .ref tn_shows, .ref tn_oneEnd, .ref tn_otherEnd, .ref tn_told, .ref tn_strayParts, .ref tn_strayCourts]))]) hB ht hvm hP hD hK [2] [0, 1, 3, 4, 5, 6, 7, 8] rfl 9 rfl (by decide +kernel) rfl (by decide +kernel) hk1 hFc
  generalize H1 = H at hP hS ⊢
  have hK : va_K (dC, dI) vwCl [(cA_tn_above, .int), (cA_tn_shows, .int), (cA_tn_oneEnd, .int), (cA_tn_otherEnd, .int), (cA_tn_told, .int), (cA_tn_strayCourts, .int)] s := hK
  have b_r_1 : 0 ≤ r_1.toInt ∧ r_1.toInt ≤ 1 := hw.1
  have s_r_1 := hw.2.1
  have sf_r_1 := hw.2.2
  replace hF := hF.trans (zL_eq sf_r_1)
  refine lv_if_ne (tgt := 23) hx hb dX9_keys_17 (by decide) (fun c_2 => ?_) (fun c_2 => ?_)
  · have ic_2 := zz_ne rfl (show Int32.toInt 0 = 0 from by decide) c_2
    replace hF := hF.trans (if_neg c_2)
    refine lv_aload hx hb dX9_keys_23 (lv_at hl 0 rfl) ?_
    refine lv_iload_n hx hb dX9_keys_25 rfl (lv_at hl 2 rfl) ?_
    refine lv_iload_n hx hb dX9_keys_26 rfl (lv_at hl 3 rfl) ?_
    obtain ⟨hPc, hDc, hFc⟩ := z_cut (wc := [(tn, .inr (7, [.int tn_hours, .int tn_courts, .int tn_gateCount, .int tn_people, .int tn_lines, .int tn_falseHours, .int tn_strayers, .int tn_deep, .ref tn_above, .ref tn_doors, .ref tn_degrees, .ref tn_neighbours, .ref tn_shows, .ref tn_oneEnd, .ref tn_otherEnd, .ref tn_told, .ref tn_strayParts, .ref tn_strayCourts])), (tn_oneEnd, .inl (cA_tn_oneEnd, 16, .inl f_tn_oneEnd)), (tn_otherEnd, .inl (cA_tn_otherEnd, 16, .inl f_tn_otherEnd))]) hP hD hS hA [8, 4, 5] rfl (by decide +kernel)
    have hKc := hK.sub (tys' := [(cA_tn_oneEnd, .int), (cA_tn_otherEnd, .int)]) [2, 3] rfl
    refine va_calli (va_runV (As := [.int p1, .int p2]) (rest := []) ⟨hx, hb, hml, hown, hts⟩ (kf_X7_beyond l sa dC dI tn p1 p2 tn_hours tn_courts tn_gateCount tn_people tn_lines tn_falseHours tn_strayers tn_deep tn_above tn_doors tn_degrees tn_neighbours tn_shows tn_oneEnd tn_otherEnd tn_told tn_strayParts tn_strayCourts cA_tn_oneEnd f_tn_oneEnd cA_tn_otherEnd f_tn_otherEnd (by first | with_reducible assumption | omega) (by first | with_reducible assumption | omega) (by first | with_reducible assumption | omega) (by first | with_reducible assumption | omega) (by first | with_reducible assumption | omega) (by first | with_reducible assumption | omega) (by first | with_reducible assumption | omega) b_f_tn_oneEnd b_f_tn_otherEnd H.size) (cwV 2 hts (z_gV zw_t3_237 zw_t3_238 zw_t3_239 zw_t1_3 zw_t4_0) rfl rfl rfl (by decide +kernel) (by rw [← hRe]; exact ⟨(Nat.le_of_ble_eq_true rfl), (Nat.le_of_ble_eq_true rfl)⟩)) (z_preV hPc hKc hDc hN hXs hS hFc (q := (RX7, TX7, 18)) (ci := 7) (q0 := 0) rfl rfl) rfl rfl hl.1 rfl (lv_room (Nat.le_of_ble_eq_true rfl)) dX9_keys_27 (by rw [← hRe]; exact ⟨(Nat.le_of_ble_eq_true rfl), (Nat.le_of_ble_eq_true rfl)⟩)) hS (fun q _ h => hFc q h) hFc (fun r_3 u t H1 locs ht hvm hw hB hz1 hk1 hS => ?_)
    obtain ⟨hP, hD, hK⟩ := z_after3 (wn := [(h0, .inr (9, [.ref tp, .int h0_tapeLength, .int h0_faultKind, .int h0_faultPlace, .ref nw, .ref im, .ref sl, .ref rd, .ref wk, .ref fm, .ref mt, .ref ch, .ref dy])), (nw, .inr (3, [.int nw_isKept, .ref tn, .int nw_strayed, .int nw_names, .int nw_known, .int nw_gone])), (tn_above, .inl (cA_tn_above, 10, .inl f_tn_above)), (tn_shows, .inl (cA_tn_shows, 10, .inl f_tn_shows)), (tn_told, .inl (cA_tn_told, 480, .inl f_tn_told)), (tn_strayCourts, .inl (cA_tn_strayCourts, 10, .inl f_tn_strayCourts)), (tn, .inr (7, [.int tn_hours, .int tn_courts, .int tn_gateCount, .int tn_people, .int tn_lines, .int tn_falseHours, .int tn_strayers, .int tn_deep, .ref tn_above, .ref tn_doors, .ref tn_degrees, .ref tn_neighbours, .ref tn_shows, .ref tn_oneEnd, .ref tn_otherEnd, .ref tn_told, .ref tn_strayParts, .ref tn_strayCourts])), (tn_oneEnd, .inl (cA_tn_oneEnd, 16, .inl f_tn_oneEnd)), (tn_otherEnd, .inl (cA_tn_otherEnd, 16, .inl f_tn_otherEnd))]) hB ht hvm hP hD hK [8, 4, 5] [0, 1, 2, 3, 6, 7] rfl 9 rfl (by decide +kernel) rfl (by decide +kernel) hk1 hFc
    generalize H1 = H at hP hS ⊢
    have hK : va_K (dC, dI) vwCl [(cA_tn_above, .int), (cA_tn_shows, .int), (cA_tn_oneEnd, .int), (cA_tn_otherEnd, .int), (cA_tn_told, .int), (cA_tn_strayCourts, .int)] s := hK
    have b_r_3 : (-1) ≤ r_3.toInt ∧ r_3.toInt ≤ 9 := hw.1
    have s_r_3 := hw.2.1
    have sf_r_3 := hw.2.2
    replace hF := hF.trans (zL_eq sf_r_3)
    refine lv_istore (lv' := [(5, .int r_3), (4, .ref tn), (0, .ref h0), (1, .int p1), (2, .int p2), (3, .int p3)]) hx hb dX9_keys_30 hl (by decide) rfl (fun ls hl => ?_)
    refine lv_iload hx hb dX9_keys_32 (lv_at hl 0 rfl) ?_
    refine lv_iconst (v := (-1)) hx hb dX9_keys_34 (by decide) ?_
    refine lv_icmp_ne (tgt := 40) hx hb dX9_keys_35 (by decide) (fun c_4 => ?_) (fun c_4 => ?_)
    · have ic_4 := zz_ne rfl (show Int32.toInt (-1) = (-1) from by decide) c_4
      replace hF := hF.trans (if_neg c_4)
      refine lv_aload hx hb dX9_keys_40 (lv_at hl 1 rfl) ?_
      refine lv_iload_n hx hb dX9_keys_42 rfl (lv_at hl 4 rfl) ?_
      refine lv_iload hx hb dX9_keys_43 (lv_at hl 0 rfl) ?_
      obtain ⟨hPc, hDc, hFc⟩ := z_cut (wc := [(tn, .inr (7, [.int tn_hours, .int tn_courts, .int tn_gateCount, .int tn_people, .int tn_lines, .int tn_falseHours, .int tn_strayers, .int tn_deep, .ref tn_above, .ref tn_doors, .ref tn_degrees, .ref tn_neighbours, .ref tn_shows, .ref tn_oneEnd, .ref tn_otherEnd, .ref tn_told, .ref tn_strayParts, .ref tn_strayCourts])), (tn_above, .inl (cA_tn_above, 10, .inl f_tn_above))]) hP hD hS hA [6, 2] rfl (by decide +kernel)
      have hKc := hK.sub (tys' := [(cA_tn_above, .int)]) [0] rfl
      refine va_calli (va_runV (As := [.int p2, .int r_3]) (rest := []) ⟨hx, hb, hml, hown, hts⟩ (kf_X7_isFree l sa dC dI tn p2 r_3 tn_hours tn_courts tn_gateCount tn_people tn_lines tn_falseHours tn_strayers tn_deep tn_above tn_doors tn_degrees tn_neighbours tn_shows tn_oneEnd tn_otherEnd tn_told tn_strayParts tn_strayCourts cA_tn_above f_tn_above (by first | with_reducible assumption | omega) (by first | with_reducible assumption | omega) (by first | with_reducible assumption | omega) (by first | with_reducible assumption | omega) (by first | with_reducible assumption | omega) (by first | with_reducible assumption | omega) (by first | with_reducible assumption | omega) H.size) (cwV 2 hts (z_gV zw_t3_225 zw_t3_226 zw_t3_227 zw_t1_3 zw_t3_228) rfl rfl rfl (by decide +kernel) (by rw [← hRe]; exact ⟨(Nat.le_of_ble_eq_true rfl), (Nat.le_of_ble_eq_true rfl)⟩)) (z_preV hPc hKc hDc hN hXs hS hFc (q := (RX7, TX7, 18)) (ci := 7) (q0 := 0) rfl rfl) rfl rfl hl.1 rfl (lv_room (Nat.le_of_ble_eq_true rfl)) dX9_keys_45 (by rw [← hRe]; exact ⟨(Nat.le_of_ble_eq_true rfl), (Nat.le_of_ble_eq_true rfl)⟩)) hS (fun q _ h => hFc q h) hFc (fun r_5 u t H1 locs ht hvm hw hB hz1 hk1 hS => ?_)
      obtain ⟨hP, hD, hK⟩ := z_after3 (wn := [(h0, .inr (9, [.ref tp, .int h0_tapeLength, .int h0_faultKind, .int h0_faultPlace, .ref nw, .ref im, .ref sl, .ref rd, .ref wk, .ref fm, .ref mt, .ref ch, .ref dy])), (nw, .inr (3, [.int nw_isKept, .ref tn, .int nw_strayed, .int nw_names, .int nw_known, .int nw_gone])), (tn_shows, .inl (cA_tn_shows, 10, .inl f_tn_shows)), (tn_told, .inl (cA_tn_told, 480, .inl f_tn_told)), (tn_strayCourts, .inl (cA_tn_strayCourts, 10, .inl f_tn_strayCourts)), (tn_oneEnd, .inl (cA_tn_oneEnd, 16, .inl f_tn_oneEnd)), (tn_otherEnd, .inl (cA_tn_otherEnd, 16, .inl f_tn_otherEnd)), (tn, .inr (7, [.int tn_hours, .int tn_courts, .int tn_gateCount, .int tn_people, .int tn_lines, .int tn_falseHours, .int tn_strayers, .int tn_deep, .ref tn_above, .ref tn_doors, .ref tn_degrees, .ref tn_neighbours, .ref tn_shows, .ref tn_oneEnd, .ref tn_otherEnd, .ref tn_told, .ref tn_strayParts, .ref tn_strayCourts])), (tn_above, .inl (cA_tn_above, 10, .inl f_tn_above))]) hB ht hvm hP hD hK [6, 2] [0, 1, 3, 4, 5, 7, 8] rfl 9 rfl (by decide +kernel) rfl (by decide +kernel) hk1 hFc
      generalize H1 = H at hP hS ⊢
      have hK : va_K (dC, dI) vwCl [(cA_tn_above, .int), (cA_tn_shows, .int), (cA_tn_oneEnd, .int), (cA_tn_otherEnd, .int), (cA_tn_told, .int), (cA_tn_strayCourts, .int)] s := hK
      have b_r_5 : 0 ≤ r_5.toInt ∧ r_5.toInt ≤ 1 := hw.1
      have sf_r_5 := hw.2
      replace hF := hF.trans (zL_eq sf_r_5)
      refine lv_if_eq (tgt := 55) hx hb dX9_keys_48 (by decide) (fun c_6 => ?_) (fun c_6 => ?_)
      · have ic_6 := zz_eq rfl (show Int32.toInt 0 = 0 from by decide) c_6
        replace hF := hF.trans (if_pos c_6)
        refine lv_aload_n hx hb dX9_keys_55 rfl (lv_at hl 2 rfl) ?_
        refine va_get (D := (dC, dI)) (ci := 9) (v := .ref nw) (C := RX9) (T := TX9) (N := 13) hx hb hts zl_X9 hown hK hP 0 rfl rfl 4 (by decide) (hts _ zw_t2_193) (fun _ h9 => h9) rfl dX9_keys_56 ?_
        refine va_get (D := (dC, dI)) (ci := 3) (v := .int nw_names) (C := RX3) (T := TX3) (N := 6) hx hb hts zl_X3 hown hK hP 1 rfl rfl 3 (by decide) (hts _ zw_t1_163) (fun _ h9 => h9) rfl dX9_keys_59 ?_
        refine lv_aload hx hb dX9_keys_62 (lv_at hl 1 rfl) ?_
        refine lv_iload hx hb dX9_keys_64 (lv_at hl 0 rfl) ?_
        refine lv_iload_n hx hb dX9_keys_66 rfl (lv_at hl 5 rfl) ?_
        refine lv_aload_n hx hb dX9_keys_67 rfl (lv_at hl 2 rfl) ?_
        refine va_get (D := (dC, dI)) (ci := 9) (v := .ref nw) (C := RX9) (T := TX9) (N := 13) hx hb hts zl_X9 hown hK hP 0 rfl rfl 4 (by decide) (hts _ zw_t2_193) (fun _ h9 => h9) rfl dX9_keys_68 ?_
        refine va_get (D := (dC, dI)) (ci := 3) (v := .int nw_strayed) (C := RX3) (T := TX3) (N := 6) hx hb hts zl_X3 hown hK hP 1 rfl rfl 2 (by decide) (hts _ zw_t1_159) (fun _ h9 => h9) rfl dX9_keys_71 ?_
        obtain ⟨hPc, hDc, hFc⟩ := z_cut (wc := [(tn, .inr (7, [.int tn_hours, .int tn_courts, .int tn_gateCount, .int tn_people, .int tn_lines, .int tn_falseHours, .int tn_strayers, .int tn_deep, .ref tn_above, .ref tn_doors, .ref tn_degrees, .ref tn_neighbours, .ref tn_shows, .ref tn_oneEnd, .ref tn_otherEnd, .ref tn_told, .ref tn_strayParts, .ref tn_strayCourts])), (tn_shows, .inl (cA_tn_shows, 10, .inl f_tn_shows)), (tn_told, .inl (cA_tn_told, 480, .inl f_tn_told)), (tn_strayCourts, .inl (cA_tn_strayCourts, 10, .inl f_tn_strayCourts))]) hP hD hS hA [7, 2, 3, 4] rfl (by decide +kernel)
        have hKc := hK.sub (tys' := [(cA_tn_shows, .int), (cA_tn_told, .int), (cA_tn_strayCourts, .int)]) [1, 4, 5] rfl
        refine va_calli (va_runV (As := [.int r_3, .int p3, .int nw_strayed]) (rest := [.int nw_names]) ⟨hx, hb, hml, hown, hts⟩ (kf_X7_inside l sa dC dI tn r_3 p3 nw_strayed tn_hours tn_courts tn_gateCount tn_people tn_lines tn_falseHours tn_strayers tn_deep tn_above tn_doors tn_degrees tn_neighbours tn_shows tn_oneEnd tn_otherEnd tn_told tn_strayParts tn_strayCourts cA_tn_shows f_tn_shows cA_tn_told f_tn_told cA_tn_strayCourts f_tn_strayCourts (by first | with_reducible assumption | omega) (by first | with_reducible assumption | omega) (by first | with_reducible assumption | omega) (by first | with_reducible assumption | omega) (by first | with_reducible assumption | omega) (by first | with_reducible assumption | omega) (by first | with_reducible assumption | omega) b_f_tn_told b_f_tn_strayCourts H.size) (cwV 3 hts (z_gV zw_t3_201 zw_t3_202 zw_t3_203 zw_t1_3 zw_t3_204) rfl rfl rfl (by decide +kernel) (by rw [← hRe]; exact ⟨(Nat.le_of_ble_eq_true rfl), (Nat.le_of_ble_eq_true rfl)⟩)) (z_preV hPc hKc hDc hN hXs hS hFc (q := (RX7, TX7, 18)) (ci := 7) (q0 := 0) rfl rfl) rfl rfl hl.1 rfl (lv_room (Nat.le_of_ble_eq_true rfl)) dX9_keys_74 (by rw [← hRe]; exact ⟨(Nat.le_of_ble_eq_true rfl), (Nat.le_of_ble_eq_true rfl)⟩)) hS (fun q _ h => hFc q h) hFc (fun r_7 u t H1 locs ht hvm hw hB hz1 hk1 hS => ?_)
        obtain ⟨hP, hD, hK⟩ := z_after3 (wn := [(h0, .inr (9, [.ref tp, .int h0_tapeLength, .int h0_faultKind, .int h0_faultPlace, .ref nw, .ref im, .ref sl, .ref rd, .ref wk, .ref fm, .ref mt, .ref ch, .ref dy])), (nw, .inr (3, [.int nw_isKept, .ref tn, .int nw_strayed, .int nw_names, .int nw_known, .int nw_gone])), (tn_oneEnd, .inl (cA_tn_oneEnd, 16, .inl f_tn_oneEnd)), (tn_otherEnd, .inl (cA_tn_otherEnd, 16, .inl f_tn_otherEnd)), (tn_above, .inl (cA_tn_above, 10, .inl f_tn_above)), (tn, .inr (7, [.int tn_hours, .int tn_courts, .int tn_gateCount, .int tn_people, .int tn_lines, .int tn_falseHours, .int tn_strayers, .int tn_deep, .ref tn_above, .ref tn_doors, .ref tn_degrees, .ref tn_neighbours, .ref tn_shows, .ref tn_oneEnd, .ref tn_otherEnd, .ref tn_told, .ref tn_strayParts, .ref tn_strayCourts])), (tn_shows, .inl (cA_tn_shows, 10, .inl f_tn_shows)), (tn_told, .inl (cA_tn_told, 480, .inl f_tn_told)), (tn_strayCourts, .inl (cA_tn_strayCourts, 10, .inl f_tn_strayCourts))]) hB ht hvm hP hD hK [7, 2, 3, 4] [0, 1, 5, 6, 8] rfl 9 rfl (by decide +kernel) rfl (by decide +kernel) hk1 hFc
        generalize H1 = H at hP hS ⊢
        have hK : va_K (dC, dI) vwCl [(cA_tn_above, .int), (cA_tn_shows, .int), (cA_tn_oneEnd, .int), (cA_tn_otherEnd, .int), (cA_tn_told, .int), (cA_tn_strayCourts, .int)] s := hK
        have b_r_7 : 0 ≤ r_7.toInt ∧ r_7.toInt ≤ 1023 := hw.1
        have sf_r_7 := hw.2
        replace hF := hF.trans (zL_eq sf_r_7)
        refine lv_iand hx hb dX9_keys_77 ?_
        refine lv_topi (fun x_8 ex_8 => ?_)
        replace hF := hF.trans (zL_eq ex_8)
        have b_x_8 : 0 ≤ x_8.toInt ∧ x_8.toInt ≤ r_7.toInt := by rw [ex_8]; exact zi_andR rfl (by first | with_reducible assumption | omega) (by first | with_reducible assumption | omega)
        have hF : RR = x_8 := hF
        exact W.iret (v := x_8) hx hb hr (fun t ht hW => by rw [← hQe]; exact ⟨⟨x_8, (), rfl, ⟨by omega, (by rw [← hRR, hF])⟩, z_ret hP hK hD ht hW [0, 1, 5, 4, 6, 2, 3, 7, 8] [] rfl (by decide) rfl⟩, hS.F ht⟩) hS.2.2 dX9_keys_78
      · have ic_6 := zz_neq rfl (show Int32.toInt 0 = 0 from by decide) c_6
        replace hF := hF.trans (if_neg c_6)
        refine lv_iconst (v := 0) hx hb dX9_keys_51 (by decide) ?_
        refine lv_goto (tgt := 78) hx hb dX9_keys_52 (by decide) ?_
        have hF : RR = (0 : Int32) := hF
        have zc : Int32.toInt 0 = 0 := by decide
        exact W.iret (v := 0) hx hb hr (fun t ht hW => by rw [← hQe]; exact ⟨⟨0, (), rfl, ⟨by decide, (by rw [← hRR, hF])⟩, z_ret hP hK hD ht hW [0, 1, 7, 8, 2, 5, 6, 3, 4] [] rfl (by decide) rfl⟩, hS.F ht⟩) hS.2.2 dX9_keys_78
    · have ic_4 := zz_nne rfl (show Int32.toInt (-1) = (-1) from by decide) c_4
      replace hF := hF.trans (if_pos c_4)
      refine lv_iconst (v := (-1)) hx hb dX9_keys_38 (by decide) ?_
      have hF : RR = (-1 : Int32) := hF
      have zc : Int32.toInt (-1) = (-1) := by decide
      exact W.iret (v := (-1)) hx hb hr (fun t ht hW => by rw [← hQe]; exact ⟨⟨(-1), (), rfl, ⟨by decide, (by rw [← hRR, hF])⟩, z_ret hP hK hD ht hW [0, 1, 6, 2, 3, 7, 8, 4, 5] [] rfl (by decide) rfl⟩, hS.F ht⟩) hS.2.2 dX9_keys_39
  · have ic_2 := zz_nne rfl (show Int32.toInt 0 = 0 from by decide) c_2
    replace hF := hF.trans (if_pos c_2)
    refine lv_bipush (v := (-2)) hx hb dX9_keys_20 (by decide) ?_
    have hF : RR = (-2 : Int32) := hF
    have zc : Int32.toInt (-2) = (-2) := by decide
    exact W.iret (v := (-2)) hx hb hr (fun t ht hW => by rw [← hQe]; exact ⟨⟨(-2), (), rfl, ⟨by decide, (by rw [← hRR, hF])⟩, z_ret hP hK hD ht hW [0, 1, 8, 2, 3, 4, 5, 6, 7] [] rfl (by decide) rfl⟩, hS.F ht⟩) hS.2.2 dX9_keys_22
set_option maxHeartbeats 4000000 in
set_option maxRecDepth 100000 in
theorem kf_X9_empty (l : Launch) (sa : Nat → Nat) (dC : Nat → ClassId) (dI : Nat → Nat → Nat) (h0 : Nat) (p1 : Int32) (tp : Nat) (h0_tapeLength : Int32) (h0_faultKind : Int32) (h0_faultPlace : Int32) (nw : Nat) (im : Nat) (sl : Nat) (rd : Nat) (wk : Nat) (fm : Nat) (mt : Nat) (ch : Nat) (dy : Nat) (nw_isKept : Int32) (tn : Nat) (nw_strayed : Int32) (nw_names : Int32) (nw_known : Int32) (nw_gone : Int32) (tn_hours : Int32) (tn_courts : Int32) (tn_gateCount : Int32) (tn_people : Int32) (tn_lines : Int32) (tn_falseHours : Int32) (tn_strayers : Int32) (tn_deep : Int32) (tn_above : Nat) (tn_doors : Nat) (tn_degrees : Nat) (tn_neighbours : Nat) (tn_shows : Nat) (tn_oneEnd : Nat) (tn_otherEnd : Nat) (tn_told : Nat) (tn_strayParts : Nat) (tn_strayCourts : Nat) (cA_tn_shows : ClassId) (f_tn_shows : Nat → Int32) (cA_tn_told : ClassId) (f_tn_told : Nat → Int32) (cA_tn_strayCourts : ClassId) (f_tn_strayCourts : Nat → Int32) (b_h0_tapeLength : 0 ≤ h0_tapeLength.toInt ∧ h0_tapeLength.toInt ≤ 1600) (b_nw_isKept : 0 ≤ nw_isKept.toInt ∧ nw_isKept.toInt ≤ 1) (b_nw_names : 0 ≤ nw_names.toInt ∧ nw_names.toInt ≤ 1023) (b_tn_hours : 0 ≤ tn_hours.toInt ∧ tn_hours.toInt ≤ 48) (b_tn_courts : 0 ≤ tn_courts.toInt ∧ tn_courts.toInt ≤ 10) (b_tn_gateCount : 0 ≤ tn_gateCount.toInt ∧ tn_gateCount.toInt ≤ 16) (b_tn_people : 0 ≤ tn_people.toInt ∧ tn_people.toInt ≤ 10) (b_tn_falseHours : 0 ≤ tn_falseHours.toInt ∧ tn_falseHours.toInt ≤ 9) (b_tn_deep : 0 ≤ tn_deep.toInt ∧ tn_deep.toInt ≤ 1) (b_f_tn_told : ∀ j : Nat, 0 ≤ (f_tn_told j).toInt ∧ (f_tn_told j).toInt ≤ 9) (b_f_tn_strayCourts : ∀ j : Nat, 0 ≤ (f_tn_strayCourts j).toInt ∧ (f_tn_strayCourts j).toInt ≤ 9) (sz : Nat) : Met l yX9_empty (.code yX9_empty cX9_empty 5 (some .int) :: zT) ({ frames := 3, cells := 0, slots := 0, locals := 72 }) (va_Pc [.ref h0, .int p1] (zB sa dC dI [(h0, .inr (9, [.ref tp, .int h0_tapeLength, .int h0_faultKind, .int h0_faultPlace, .ref nw, .ref im, .ref sl, .ref rd, .ref wk, .ref fm, .ref mt, .ref ch, .ref dy])), (nw, .inr (3, [.int nw_isKept, .ref tn, .int nw_strayed, .int nw_names, .int nw_known, .int nw_gone])), (tn, .inr (7, [.int tn_hours, .int tn_courts, .int tn_gateCount, .int tn_people, .int tn_lines, .int tn_falseHours, .int tn_strayers, .int tn_deep, .ref tn_above, .ref tn_doors, .ref tn_degrees, .ref tn_neighbours, .ref tn_shows, .ref tn_oneEnd, .ref tn_otherEnd, .ref tn_told, .ref tn_strayParts, .ref tn_strayCourts])), (tn_shows, .inl (cA_tn_shows, 10, .inl f_tn_shows)), (tn_told, .inl (cA_tn_told, 480, .inl f_tn_told)), (tn_strayCourts, .inl (cA_tn_strayCourts, 10, .inl f_tn_strayCourts))] [(cA_tn_shows, .int), (cA_tn_told, .int), (cA_tn_strayCourts, .int)] sz)) (va_Qi (fun (r : Int32) (_ : Unit) => ((-2) ≤ r.toInt ∧ r.toInt ≤ 48) ∧ r = (F_X9_empty p1 nw_strayed tn_hours tn_courts tn_people f_tn_shows f_tn_told f_tn_strayCourts)) (fun _ t => zW dC dI [(h0, .inr (9, [.ref tp, .int h0_tapeLength, .int h0_faultKind, .int h0_faultPlace, .ref nw, .ref im, .ref sl, .ref rd, .ref wk, .ref fm, .ref mt, .ref ch, .ref dy])), (nw, .inr (3, [.int nw_isKept, .ref tn, .int nw_strayed, .int nw_names, .int nw_known, .int nw_gone])), (tn, .inr (7, [.int tn_hours, .int tn_courts, .int tn_gateCount, .int tn_people, .int tn_lines, .int tn_falseHours, .int tn_strayers, .int tn_deep, .ref tn_above, .ref tn_doors, .ref tn_degrees, .ref tn_neighbours, .ref tn_shows, .ref tn_oneEnd, .ref tn_otherEnd, .ref tn_told, .ref tn_strayParts, .ref tn_strayCourts])), (tn_shows, .inl (cA_tn_shows, 10, .inl f_tn_shows)), (tn_told, .inl (cA_tn_told, 480, .inl f_tn_told)), (tn_strayCourts, .inl (cA_tn_strayCourts, 10, .inl f_tn_strayCourts))] [] (va_A [(h0, .inr (9, [.ref tp, .int h0_tapeLength, .int h0_faultKind, .int h0_faultPlace, .ref nw, .ref im, .ref sl, .ref rd, .ref wk, .ref fm, .ref mt, .ref ch, .ref dy])), (nw, .inr (3, [.int nw_isKept, .ref tn, .int nw_strayed, .int nw_names, .int nw_known, .int nw_gone])), (tn, .inr (7, [.int tn_hours, .int tn_courts, .int tn_gateCount, .int tn_people, .int tn_lines, .int tn_falseHours, .int tn_strayers, .int tn_deep, .ref tn_above, .ref tn_doors, .ref tn_degrees, .ref tn_neighbours, .ref tn_shows, .ref tn_oneEnd, .ref tn_otherEnd, .ref tn_told, .ref tn_strayParts, .ref tn_strayCourts])), (tn_shows, .inl (cA_tn_shows, 10, .inl f_tn_shows)), (tn_told, .inl (cA_tn_told, 480, .inl f_tn_told)), (tn_strayCourts, .inl (cA_tn_strayCourts, 10, .inl f_tn_strayCourts))] sz) t) (va_A [(h0, .inr (9, [.ref tp, .int h0_tapeLength, .int h0_faultKind, .int h0_faultPlace, .ref nw, .ref im, .ref sl, .ref rd, .ref wk, .ref fm, .ref mt, .ref ch, .ref dy])), (nw, .inr (3, [.int nw_isKept, .ref tn, .int nw_strayed, .int nw_names, .int nw_known, .int nw_gone])), (tn, .inr (7, [.int tn_hours, .int tn_courts, .int tn_gateCount, .int tn_people, .int tn_lines, .int tn_falseHours, .int tn_strayers, .int tn_deep, .ref tn_above, .ref tn_doors, .ref tn_degrees, .ref tn_neighbours, .ref tn_shows, .ref tn_oneEnd, .ref tn_otherEnd, .ref tn_told, .ref tn_strayParts, .ref tn_strayCourts])), (tn_shows, .inl (cA_tn_shows, 10, .inl f_tn_shows)), (tn_told, .inl (cA_tn_told, 480, .inl f_tn_told)), (tn_strayCourts, .inl (cA_tn_strayCourts, 10, .inl f_tn_strayCourts))] sz)) 0 0 (va_A [(h0, .inr (9, [.ref tp, .int h0_tapeLength, .int h0_faultKind, .int h0_faultPlace, .ref nw, .ref im, .ref sl, .ref rd, .ref wk, .ref fm, .ref mt, .ref ch, .ref dy])), (nw, .inr (3, [.int nw_isKept, .ref tn, .int nw_strayed, .int nw_names, .int nw_known, .int nw_gone])), (tn, .inr (7, [.int tn_hours, .int tn_courts, .int tn_gateCount, .int tn_people, .int tn_lines, .int tn_falseHours, .int tn_strayers, .int tn_deep, .ref tn_above, .ref tn_doors, .ref tn_degrees, .ref tn_neighbours, .ref tn_shows, .ref tn_oneEnd, .ref tn_otherEnd, .ref tn_told, .ref tn_strayParts, .ref tn_strayCourts])), (tn_shows, .inl (cA_tn_shows, 10, .inl f_tn_shows)), (tn_told, .inl (cA_tn_told, 480, .inl f_tn_told)), (tn_strayCourts, .inl (cA_tn_strayCourts, 10, .inl f_tn_strayCourts))] sz) := by
  refine z_enter (by decide) (by exact (Nat.le_of_ble_eq_true rfl)) ?_
  intro p e s m args below meth c ls A R Qc hargs hsz hQe hAe hRe hx hb hml hr hts hown hlocks hin hl hP hK hD hN hXs hA hS
  rw [hAe] at hQe
  have hown : s.vm.findClass RX9 = some m.cls := hown
  have hl : lv_has ls 5 [(0, .ref h0), (1, .int p1)] := hl
  obtain ⟨RR, hRR⟩ : ∃ z : Int32, z = (F_X9_empty p1 nw_strayed tn_hours tn_courts tn_people f_tn_shows f_tn_told f_tn_strayCourts) := ⟨_, rfl⟩
  have hF : RR = (F_X9_empty p1 nw_strayed tn_hours tn_courts tn_people f_tn_shows f_tn_told f_tn_strayCourts) := hRR
  refine lv_aload_n hx hb dX9_empty_0 rfl (lv_at hl 0 rfl) ?_
  refine va_get (D := (dC, dI)) (ci := 9) (v := .ref nw) (C := RX9) (T := TX9) (N := 13) hx hb hts zl_X9 hown hK hP 0 rfl rfl 4 (by decide) (hts _ zw_t2_193) (fun _ h9 => h9) rfl dX9_empty_1 ?_
  refine va_get (D := (dC, dI)) (ci := 3) (v := .ref tn) (C := RX3) (T := TX3) (N := 6) hx hb hts zl_X3 hown hK hP 1 rfl rfl 1 (by decide) (hts _ zw_t1_156) (fun _ h9 => h9) rfl dX9_empty_4 ?_
  refine lv_astore_n (lv' := [(2, .ref tn), (0, .ref h0), (1, .int p1)]) hx hb dX9_empty_7 rfl hl (by decide) rfl (fun ls hl => ?_)
  refine lv_aload_n hx hb dX9_empty_8 rfl (lv_at hl 0 rfl) ?_
  refine lv_iload_n hx hb dX9_empty_9 rfl (lv_at hl 2 rfl) ?_
  obtain ⟨hPc, hDc, hFc⟩ := z_cut (wc := [(tn, .inr (7, [.int tn_hours, .int tn_courts, .int tn_gateCount, .int tn_people, .int tn_lines, .int tn_falseHours, .int tn_strayers, .int tn_deep, .ref tn_above, .ref tn_doors, .ref tn_degrees, .ref tn_neighbours, .ref tn_shows, .ref tn_oneEnd, .ref tn_otherEnd, .ref tn_told, .ref tn_strayParts, .ref tn_strayCourts]))]) hP hD hS hA [2] rfl (by decide +kernel)
  have hKc := hK.sub (tys' := []) [] rfl
  refine va_calli (va_runV (As := [.int p1]) (rest := []) ⟨hx, hb, hml, hown, hts⟩ (kf_X7_hasCourt l sa dC dI tn p1 tn_hours tn_courts tn_gateCount tn_people tn_lines tn_falseHours tn_strayers tn_deep tn_above tn_doors tn_degrees tn_neighbours tn_shows tn_oneEnd tn_otherEnd tn_told tn_strayParts tn_strayCourts (by first | with_reducible assumption | omega) (by first | with_reducible assumption | omega) (by first | with_reducible assumption | omega) (by first | with_reducible assumption | omega) (by first | with_reducible assumption | omega) (by first | with_reducible assumption | omega) s.heap.size) (cwV 1 hts (z_gV zw_t3_197 zw_t3_198 zw_t3_199 zw_t1_3 zw_t3_200) rfl rfl rfl (by decide +kernel) (by rw [← hRe]; exact ⟨(Nat.le_of_ble_eq_true rfl), (Nat.le_of_ble_eq_true rfl)⟩)) (z_preV hPc hKc hDc hN hXs hS hFc (q := (RX7, TX7, 18)) (ci := 7) (q0 := 0) rfl rfl) rfl rfl hl.1 rfl (lv_room (Nat.le_of_ble_eq_true rfl)) dX9_empty_10 (by rw [← hRe]; exact ⟨(Nat.le_of_ble_eq_true rfl), (Nat.le_of_ble_eq_true rfl)⟩)) hS (fun q _ h => hFc q h) hFc (fun r_1 u t H1 locs ht hvm hw hB hz1 hk1 hS => ?_)
  obtain ⟨hP, hD, hK⟩ := z_after3 (wn := [(h0, .inr (9, [.ref tp, .int h0_tapeLength, .int h0_faultKind, .int h0_faultPlace, .ref nw, .ref im, .ref sl, .ref rd, .ref wk, .ref fm, .ref mt, .ref ch, .ref dy])), (nw, .inr (3, [.int nw_isKept, .ref tn, .int nw_strayed, .int nw_names, .int nw_known, .int nw_gone])), (tn_shows, .inl (cA_tn_shows, 10, .inl f_tn_shows)), (tn_told, .inl (cA_tn_told, 480, .inl f_tn_told)), (tn_strayCourts, .inl (cA_tn_strayCourts, 10, .inl f_tn_strayCourts)), (tn, .inr (7, [.int tn_hours, .int tn_courts, .int tn_gateCount, .int tn_people, .int tn_lines, .int tn_falseHours, .int tn_strayers, .int tn_deep, .ref tn_above, .ref tn_doors, .ref tn_degrees, .ref tn_neighbours, .ref tn_shows, .ref tn_oneEnd, .ref tn_otherEnd, .ref tn_told, .ref tn_strayParts, .ref tn_strayCourts]))]) hB ht hvm hP hD hK [2] [0, 1, 3, 4, 5] rfl 6 rfl (by decide +kernel) rfl (by decide +kernel) hk1 hFc
  generalize H1 = H at hP hS ⊢
  have hK : va_K (dC, dI) vwCl [(cA_tn_shows, .int), (cA_tn_told, .int), (cA_tn_strayCourts, .int)] s := hK
  have b_r_1 : 0 ≤ r_1.toInt ∧ r_1.toInt ≤ 1 := hw.1
  have s_r_1 := hw.2.1
  have sf_r_1 := hw.2.2
  replace hF := hF.trans (zL_eq sf_r_1)
  refine lv_if_ne (tgt := 19) hx hb dX9_empty_13 (by decide) (fun c_2 => ?_) (fun c_2 => ?_)
  · have ic_2 := zz_ne rfl (show Int32.toInt 0 = 0 from by decide) c_2
    replace hF := hF.trans (if_neg c_2)
    refine lv_aload_n hx hb dX9_empty_19 rfl (lv_at hl 0 rfl) ?_
    refine va_get (D := (dC, dI)) (ci := 7) (v := .int tn_hours) (C := RX7) (T := TX7) (N := 18) hx hb hts zl_X7 hown hK hP 5 rfl rfl 0 (by decide) (hts _ zw_t1_46) (fun _ h9 => h9) rfl dX9_empty_20 ?_
    refine lv_istore_n (lv' := [(3, .int tn_hours), (2, .ref tn), (0, .ref h0), (1, .int p1)]) hx hb dX9_empty_23 rfl hl (by decide) rfl (fun ls hl => ?_)
    refine lv_aload_n hx hb dX9_empty_24 rfl (lv_at hl 1 rfl) ?_
    refine va_get (D := (dC, dI)) (ci := 7) (v := .int tn_hours) (C := RX7) (T := TX7) (N := 18) hx hb hts zl_X7 hown hK hP 5 rfl rfl 0 (by decide) (hts _ zw_t1_46) (fun _ h9 => h9) rfl dX9_empty_25 ?_
    refine lv_iconst (v := 1) hx hb dX9_empty_28 (by decide) ?_
    refine lv_isub hx hb dX9_empty_29 ?_
    refine lv_topi (fun x_3 ex_3 => ?_)
    replace hF := hF.trans (zL_eq ex_3)
    have b_x_3 : x_3.toInt = tn_hours.toInt - 1 := by rw [ex_3]; exact zi_sub rfl (show Int32.toInt 1 = 1 from by decide) (by first | with_reducible assumption | omega)
    refine lv_istore (lv' := [(4, .int x_3), (3, .int tn_hours), (2, .ref tn), (0, .ref h0), (1, .int p1)]) hx hb dX9_empty_30 hl (by decide) rfl (fun ls hl => ?_)
    have loop_1 : ∀ (t_1 : Nat) (v3_4 : Int32) (v4_5 : Int32) (b_v3_4 : 0 ≤ v3_4.toInt ∧ v3_4.toInt ≤ 48) (b_v4_5 : (-1) ≤ v4_5.toInt ∧ v4_5.toInt ≤ 47) (H : Heap) (locs : List Loc) (ls : Array Slot), v4_5.toInt - (-1) < (t_1 : Int) → RR = L_X9_empty_1 p1 nw_strayed tn_people f_tn_shows f_tn_told f_tn_strayCourts K_X9_empty_1_0 K_X9_empty_1_1 t_1 v3_4 v4_5 → va_P (dC, dI) vwCl [(h0, .inr (9, [.ref tp, .int h0_tapeLength, .int h0_faultKind, .int h0_faultPlace, .ref nw, .ref im, .ref sl, .ref rd, .ref wk, .ref fm, .ref mt, .ref ch, .ref dy])), (nw, .inr (3, [.int nw_isKept, .ref tn, .int nw_strayed, .int nw_names, .int nw_known, .int nw_gone])), (tn_shows, .inl (cA_tn_shows, 10, .inl f_tn_shows)), (tn_told, .inl (cA_tn_told, 480, .inl f_tn_told)), (tn_strayCourts, .inl (cA_tn_strayCourts, 10, .inl f_tn_strayCourts)), (tn, .inr (7, [.int tn_hours, .int tn_courts, .int tn_gateCount, .int tn_people, .int tn_lines, .int tn_falseHours, .int tn_strayers, .int tn_deep, .ref tn_above, .ref tn_doors, .ref tn_degrees, .ref tn_neighbours, .ref tn_shows, .ref tn_oneEnd, .ref tn_otherEnd, .ref tn_told, .ref tn_strayParts, .ref tn_strayCourts]))] H → va_D A [(h0, .inr (9, [.ref tp, .int h0_tapeLength, .int h0_faultKind, .int h0_faultPlace, .ref nw, .ref im, .ref sl, .ref rd, .ref wk, .ref fm, .ref mt, .ref ch, .ref dy])), (nw, .inr (3, [.int nw_isKept, .ref tn, .int nw_strayed, .int nw_names, .int nw_known, .int nw_gone])), (tn_shows, .inl (cA_tn_shows, 10, .inl f_tn_shows)), (tn_told, .inl (cA_tn_told, 480, .inl f_tn_told)), (tn_strayCourts, .inl (cA_tn_strayCourts, 10, .inl f_tn_strayCourts)), (tn, .inr (7, [.int tn_hours, .int tn_courts, .int tn_gateCount, .int tn_people, .int tn_lines, .int tn_falseHours, .int tn_strayers, .int tn_deep, .ref tn_above, .ref tn_doors, .ref tn_degrees, .ref tn_neighbours, .ref tn_shows, .ref tn_oneEnd, .ref tn_otherEnd, .ref tn_told, .ref tn_strayParts, .ref tn_strayCourts]))] → va_S A s.heap H locs → lv_has ls 5 [(0, .ref h0), (1, .int p1), (2, .ref tn), (3, .int v3_4), (4, .int v4_5)] → W p l e R s m args below meth c H locs 0 0 (MQ below Qc args s 0 0 A) (F0 m 32 ls []) := by
      intro t_1
      induction t_1 with
      | zero => intro v3_4 v4_5 b_v3_4 b_v4_5 H locs ls hmu _ _ _ _ _; exact absurd hmu (by first | with_reducible assumption | omega)
      | succ t_1 ih_1 =>
        intro v3_4 v4_5 b_v3_4 b_v4_5 H locs ls hmu hF hP hD hS hl
        replace hF := hF.trans L_X9_empty_1_s
        refine lv_iload hx hb dX9_empty_32 (lv_at hl 4 rfl) ?_
        refine lv_if_lt (tgt := 65) hx hb dX9_empty_34 (by decide) (fun c_6 => ?_) (fun c_6 => ?_)
        · have ic_6 := zz_lt rfl (show Int32.toInt 0 = 0 from by decide) c_6
          replace hF := hF.trans (if_pos c_6)
          refine lv_iload_n hx hb dX9_empty_65 rfl (lv_at hl 3 rfl) ?_
          have hF : RR = v3_4 := hF
          exact W.iret (v := v3_4) hx hb hr (fun t ht hW => by rw [← hQe]; exact ⟨⟨v3_4, (), rfl, ⟨by omega, (by rw [← hRR, hF])⟩, z_ret hP hK hD ht hW [0, 1, 5, 2, 3, 4] [] rfl (by decide) rfl⟩, hS.F ht⟩) hS.2.2 dX9_empty_66
        · have ic_6 := zz_nlt rfl (show Int32.toInt 0 = 0 from by decide) c_6
          replace hF := hF.trans (if_neg c_6)
          refine lv_aload_n hx hb dX9_empty_37 rfl (lv_at hl 2 rfl) ?_
          refine lv_iload_n hx hb dX9_empty_38 rfl (lv_at hl 1 rfl) ?_
          refine lv_iload hx hb dX9_empty_39 (lv_at hl 4 rfl) ?_
          refine lv_aload_n hx hb dX9_empty_41 rfl (lv_at hl 0 rfl) ?_
          refine va_get (D := (dC, dI)) (ci := 9) (v := .ref nw) (C := RX9) (T := TX9) (N := 13) hx hb hts zl_X9 hown hK hP 0 rfl rfl 4 (by decide) (hts _ zw_t2_193) (fun _ h9 => h9) rfl dX9_empty_42 ?_
          refine va_get (D := (dC, dI)) (ci := 3) (v := .int nw_strayed) (C := RX3) (T := TX3) (N := 6) hx hb hts zl_X3 hown hK hP 1 rfl rfl 2 (by decide) (hts _ zw_t1_159) (fun _ h9 => h9) rfl dX9_empty_45 ?_
          obtain ⟨hPc, hDc, hFc⟩ := z_cut (wc := [(tn, .inr (7, [.int tn_hours, .int tn_courts, .int tn_gateCount, .int tn_people, .int tn_lines, .int tn_falseHours, .int tn_strayers, .int tn_deep, .ref tn_above, .ref tn_doors, .ref tn_degrees, .ref tn_neighbours, .ref tn_shows, .ref tn_oneEnd, .ref tn_otherEnd, .ref tn_told, .ref tn_strayParts, .ref tn_strayCourts])), (tn_shows, .inl (cA_tn_shows, 10, .inl f_tn_shows)), (tn_told, .inl (cA_tn_told, 480, .inl f_tn_told)), (tn_strayCourts, .inl (cA_tn_strayCourts, 10, .inl f_tn_strayCourts))]) hP hD hS hA [5, 2, 3, 4] rfl (by decide +kernel)
          have hKc := hK.sub (tys' := [(cA_tn_shows, .int), (cA_tn_told, .int), (cA_tn_strayCourts, .int)]) [0, 1, 2] rfl
          refine va_calli (va_runV (As := [.int p1, .int v4_5, .int nw_strayed]) (rest := []) ⟨hx, hb, hml, hown, hts⟩ (kf_X7_inside l sa dC dI tn p1 v4_5 nw_strayed tn_hours tn_courts tn_gateCount tn_people tn_lines tn_falseHours tn_strayers tn_deep tn_above tn_doors tn_degrees tn_neighbours tn_shows tn_oneEnd tn_otherEnd tn_told tn_strayParts tn_strayCourts cA_tn_shows f_tn_shows cA_tn_told f_tn_told cA_tn_strayCourts f_tn_strayCourts (by first | with_reducible assumption | omega) (by first | with_reducible assumption | omega) (by first | with_reducible assumption | omega) (by first | with_reducible assumption | omega) (by first | with_reducible assumption | omega) (by first | with_reducible assumption | omega) (by first | with_reducible assumption | omega) b_f_tn_told b_f_tn_strayCourts H.size) (cwV 3 hts (z_gV zw_t3_201 zw_t3_202 zw_t3_203 zw_t1_3 zw_t3_204) rfl rfl rfl (by decide +kernel) (by rw [← hRe]; exact ⟨(Nat.le_of_ble_eq_true rfl), (Nat.le_of_ble_eq_true rfl)⟩)) (z_preV hPc hKc hDc hN hXs hS hFc (q := (RX7, TX7, 18)) (ci := 7) (q0 := 0) rfl rfl) rfl rfl hl.1 rfl (lv_room (Nat.le_of_ble_eq_true rfl)) dX9_empty_48 (by rw [← hRe]; exact ⟨(Nat.le_of_ble_eq_true rfl), (Nat.le_of_ble_eq_true rfl)⟩)) hS (fun q _ h => hFc q h) hFc (fun r_7 u t H1 locs ht hvm hw hB hz1 hk1 hS => ?_)
          obtain ⟨hP, hD, hK⟩ := z_after3 (wn := [(h0, .inr (9, [.ref tp, .int h0_tapeLength, .int h0_faultKind, .int h0_faultPlace, .ref nw, .ref im, .ref sl, .ref rd, .ref wk, .ref fm, .ref mt, .ref ch, .ref dy])), (nw, .inr (3, [.int nw_isKept, .ref tn, .int nw_strayed, .int nw_names, .int nw_known, .int nw_gone])), (tn, .inr (7, [.int tn_hours, .int tn_courts, .int tn_gateCount, .int tn_people, .int tn_lines, .int tn_falseHours, .int tn_strayers, .int tn_deep, .ref tn_above, .ref tn_doors, .ref tn_degrees, .ref tn_neighbours, .ref tn_shows, .ref tn_oneEnd, .ref tn_otherEnd, .ref tn_told, .ref tn_strayParts, .ref tn_strayCourts])), (tn_shows, .inl (cA_tn_shows, 10, .inl f_tn_shows)), (tn_told, .inl (cA_tn_told, 480, .inl f_tn_told)), (tn_strayCourts, .inl (cA_tn_strayCourts, 10, .inl f_tn_strayCourts))]) hB ht hvm hP hD hK [5, 2, 3, 4] [0, 1] rfl 6 rfl (by decide +kernel) rfl (by decide +kernel) hk1 hFc
          generalize H1 = H at hP hS ⊢
          have hK : va_K (dC, dI) vwCl [(cA_tn_shows, .int), (cA_tn_told, .int), (cA_tn_strayCourts, .int)] s := hK
          have b_r_7 : 0 ≤ r_7.toInt ∧ r_7.toInt ≤ 1023 := hw.1
          have sf_r_7 := hw.2
          replace hF := hF.trans (zL_eq sf_r_7)
          refine lv_if_eq (tgt := 56) hx hb dX9_empty_51 (by decide) (fun c_8 => ?_) (fun c_8 => ?_)
          · have ic_8 := zz_eq rfl (show Int32.toInt 0 = 0 from by decide) c_8
            replace hF := hF.trans (if_pos c_8)
            refine lv_iload hx hb dX9_empty_56 (lv_at hl 4 rfl) ?_
            refine lv_istore_n (lv' := [(3, .int v4_5), (0, .ref h0), (1, .int p1), (2, .ref tn), (4, .int v4_5)]) hx hb dX9_empty_58 rfl hl (by decide) rfl (fun ls hl => ?_)
            obtain ⟨x_9, ex_9⟩ : ∃ z : Int32, z = v4_5 + Int32.ofInt (-1) := ⟨_, rfl⟩
            have b_x_9 : x_9.toInt = v4_5.toInt + (-1) := by rw [ex_9]; exact zi_add rfl (show (Int32.ofInt (-1)).toInt = (-1) from by decide) (by first | with_reducible assumption | omega)
            refine lv_iinc (v := x_9) (lv' := [(4, .int x_9), (3, .int v4_5), (0, .ref h0), (1, .int p1), (2, .ref tn)]) hx hb dX9_empty_59 hl (k := 4) rfl ex_9.symm (by decide) rfl (fun ls hl => ?_)
            replace hF := hF.trans (zL_eq ex_9)
            refine lv_goto (tgt := 32) hx hb dX9_empty_62 (by decide) ?_
            exact ih_1 v4_5 x_9 (by first | with_reducible assumption | omega) (by first | with_reducible assumption | omega) _ _ _ (by first | with_reducible assumption | omega) hF (hP.sub (ws' := [(h0, .inr (9, [.ref tp, .int h0_tapeLength, .int h0_faultKind, .int h0_faultPlace, .ref nw, .ref im, .ref sl, .ref rd, .ref wk, .ref fm, .ref mt, .ref ch, .ref dy])), (nw, .inr (3, [.int nw_isKept, .ref tn, .int nw_strayed, .int nw_names, .int nw_known, .int nw_gone])), (tn_shows, .inl (cA_tn_shows, 10, .inl f_tn_shows)), (tn_told, .inl (cA_tn_told, 480, .inl f_tn_told)), (tn_strayCourts, .inl (cA_tn_strayCourts, 10, .inl f_tn_strayCourts)), (tn, .inr (7, [.int tn_hours, .int tn_courts, .int tn_gateCount, .int tn_people, .int tn_lines, .int tn_falseHours, .int tn_strayers, .int tn_deep, .ref tn_above, .ref tn_doors, .ref tn_degrees, .ref tn_neighbours, .ref tn_shows, .ref tn_oneEnd, .ref tn_otherEnd, .ref tn_told, .ref tn_strayParts, .ref tn_strayCourts]))]) [0, 1, 3, 4, 5, 2] rfl) (hD.sub (ws' := [(h0, .inr (9, [.ref tp, .int h0_tapeLength, .int h0_faultKind, .int h0_faultPlace, .ref nw, .ref im, .ref sl, .ref rd, .ref wk, .ref fm, .ref mt, .ref ch, .ref dy])), (nw, .inr (3, [.int nw_isKept, .ref tn, .int nw_strayed, .int nw_names, .int nw_known, .int nw_gone])), (tn_shows, .inl (cA_tn_shows, 10, .inl f_tn_shows)), (tn_told, .inl (cA_tn_told, 480, .inl f_tn_told)), (tn_strayCourts, .inl (cA_tn_strayCourts, 10, .inl f_tn_strayCourts)), (tn, .inr (7, [.int tn_hours, .int tn_courts, .int tn_gateCount, .int tn_people, .int tn_lines, .int tn_falseHours, .int tn_strayers, .int tn_deep, .ref tn_above, .ref tn_doors, .ref tn_degrees, .ref tn_neighbours, .ref tn_shows, .ref tn_oneEnd, .ref tn_otherEnd, .ref tn_told, .ref tn_strayParts, .ref tn_strayCourts]))]) [0, 1, 3, 4, 5, 2] (by decide) rfl) hS (lv_sub hl [2, 3, 4, 1, 0] rfl)
          · have ic_8 := zz_neq rfl (show Int32.toInt 0 = 0 from by decide) c_8
            replace hF := hF.trans (if_neg c_8)
            refine lv_iload_n hx hb dX9_empty_54 rfl (lv_at hl 3 rfl) ?_
            have hF : RR = v3_4 := hF
            exact W.iret (v := v3_4) hx hb hr (fun t ht hW => by rw [← hQe]; exact ⟨⟨v3_4, (), rfl, ⟨by omega, (by rw [← hRR, hF])⟩, z_ret hP hK hD ht hW [0, 1, 2, 3, 4, 5] [] rfl (by decide) rfl⟩, hS.F ht⟩) hS.2.2 dX9_empty_55
    exact loop_1 50 tn_hours x_3 (by first | with_reducible assumption | omega) (by first | with_reducible assumption | omega) _ _ _ (by first | with_reducible assumption | omega) hF hP hD hS (lv_sub hl [3, 4, 2, 1, 0] rfl)
  · have ic_2 := zz_nne rfl (show Int32.toInt 0 = 0 from by decide) c_2
    replace hF := hF.trans (if_pos c_2)
    refine lv_bipush (v := (-2)) hx hb dX9_empty_16 (by decide) ?_
    have hF : RR = (-2 : Int32) := hF
    have zc : Int32.toInt (-2) = (-2) := by decide
    exact W.iret (v := (-2)) hx hb hr (fun t ht hW => by rw [← hQe]; exact ⟨⟨(-2), (), rfl, ⟨by decide, (by rw [← hRR, hF])⟩, z_ret hP hK hD ht hW [0, 1, 5, 2, 3, 4] [] rfl (by decide) rfl⟩, hS.F ht⟩) hS.2.2 dX9_empty_18
set_option maxHeartbeats 4000000 in
set_option maxRecDepth 100000 in
theorem kf_X9_hollow (l : Launch) (sa : Nat → Nat) (dC : Nat → ClassId) (dI : Nat → Nat → Nat) (h0 : Nat) (p1 : Int32) (tp : Nat) (h0_tapeLength : Int32) (h0_faultKind : Int32) (h0_faultPlace : Int32) (nw : Nat) (im : Nat) (sl : Nat) (rd : Nat) (wk : Nat) (fm : Nat) (mt : Nat) (ch : Nat) (dy : Nat) (nw_isKept : Int32) (tn : Nat) (nw_strayed : Int32) (nw_names : Int32) (nw_known : Int32) (nw_gone : Int32) (tn_hours : Int32) (tn_courts : Int32) (tn_gateCount : Int32) (tn_people : Int32) (tn_lines : Int32) (tn_falseHours : Int32) (tn_strayers : Int32) (tn_deep : Int32) (tn_above : Nat) (tn_doors : Nat) (tn_degrees : Nat) (tn_neighbours : Nat) (tn_shows : Nat) (tn_oneEnd : Nat) (tn_otherEnd : Nat) (tn_told : Nat) (tn_strayParts : Nat) (tn_strayCourts : Nat) (cA_tn_shows : ClassId) (f_tn_shows : Nat → Int32) (cA_tn_told : ClassId) (f_tn_told : Nat → Int32) (cA_tn_strayCourts : ClassId) (f_tn_strayCourts : Nat → Int32) (b_h0_tapeLength : 0 ≤ h0_tapeLength.toInt ∧ h0_tapeLength.toInt ≤ 1600) (b_nw_isKept : 0 ≤ nw_isKept.toInt ∧ nw_isKept.toInt ≤ 1) (b_nw_names : 0 ≤ nw_names.toInt ∧ nw_names.toInt ≤ 1023) (b_tn_hours : 0 ≤ tn_hours.toInt ∧ tn_hours.toInt ≤ 48) (b_tn_courts : 0 ≤ tn_courts.toInt ∧ tn_courts.toInt ≤ 10) (b_tn_gateCount : 0 ≤ tn_gateCount.toInt ∧ tn_gateCount.toInt ≤ 16) (b_tn_people : 0 ≤ tn_people.toInt ∧ tn_people.toInt ≤ 10) (b_tn_falseHours : 0 ≤ tn_falseHours.toInt ∧ tn_falseHours.toInt ≤ 9) (b_tn_deep : 0 ≤ tn_deep.toInt ∧ tn_deep.toInt ≤ 1) (b_f_tn_told : ∀ j : Nat, 0 ≤ (f_tn_told j).toInt ∧ (f_tn_told j).toInt ≤ 9) (b_f_tn_strayCourts : ∀ j : Nat, 0 ≤ (f_tn_strayCourts j).toInt ∧ (f_tn_strayCourts j).toInt ≤ 9) (sz : Nat) : Met l yX9_hollow (.code yX9_hollow cX9_hollow 5 (some .int) :: zT) ({ frames := 3, cells := 0, slots := 0, locals := 72 }) (va_Pc [.ref h0, .int p1] (zB sa dC dI [(h0, .inr (9, [.ref tp, .int h0_tapeLength, .int h0_faultKind, .int h0_faultPlace, .ref nw, .ref im, .ref sl, .ref rd, .ref wk, .ref fm, .ref mt, .ref ch, .ref dy])), (nw, .inr (3, [.int nw_isKept, .ref tn, .int nw_strayed, .int nw_names, .int nw_known, .int nw_gone])), (tn, .inr (7, [.int tn_hours, .int tn_courts, .int tn_gateCount, .int tn_people, .int tn_lines, .int tn_falseHours, .int tn_strayers, .int tn_deep, .ref tn_above, .ref tn_doors, .ref tn_degrees, .ref tn_neighbours, .ref tn_shows, .ref tn_oneEnd, .ref tn_otherEnd, .ref tn_told, .ref tn_strayParts, .ref tn_strayCourts])), (tn_shows, .inl (cA_tn_shows, 10, .inl f_tn_shows)), (tn_told, .inl (cA_tn_told, 480, .inl f_tn_told)), (tn_strayCourts, .inl (cA_tn_strayCourts, 10, .inl f_tn_strayCourts))] [(cA_tn_shows, .int), (cA_tn_told, .int), (cA_tn_strayCourts, .int)] sz)) (va_Qi (fun (r : Int32) (_ : Unit) => r = (F_X9_hollow p1 nw_strayed tn_hours tn_courts tn_people f_tn_shows f_tn_told f_tn_strayCourts)) (fun _ t => zW dC dI [(h0, .inr (9, [.ref tp, .int h0_tapeLength, .int h0_faultKind, .int h0_faultPlace, .ref nw, .ref im, .ref sl, .ref rd, .ref wk, .ref fm, .ref mt, .ref ch, .ref dy])), (nw, .inr (3, [.int nw_isKept, .ref tn, .int nw_strayed, .int nw_names, .int nw_known, .int nw_gone])), (tn, .inr (7, [.int tn_hours, .int tn_courts, .int tn_gateCount, .int tn_people, .int tn_lines, .int tn_falseHours, .int tn_strayers, .int tn_deep, .ref tn_above, .ref tn_doors, .ref tn_degrees, .ref tn_neighbours, .ref tn_shows, .ref tn_oneEnd, .ref tn_otherEnd, .ref tn_told, .ref tn_strayParts, .ref tn_strayCourts])), (tn_shows, .inl (cA_tn_shows, 10, .inl f_tn_shows)), (tn_told, .inl (cA_tn_told, 480, .inl f_tn_told)), (tn_strayCourts, .inl (cA_tn_strayCourts, 10, .inl f_tn_strayCourts))] [] (va_A [(h0, .inr (9, [.ref tp, .int h0_tapeLength, .int h0_faultKind, .int h0_faultPlace, .ref nw, .ref im, .ref sl, .ref rd, .ref wk, .ref fm, .ref mt, .ref ch, .ref dy])), (nw, .inr (3, [.int nw_isKept, .ref tn, .int nw_strayed, .int nw_names, .int nw_known, .int nw_gone])), (tn, .inr (7, [.int tn_hours, .int tn_courts, .int tn_gateCount, .int tn_people, .int tn_lines, .int tn_falseHours, .int tn_strayers, .int tn_deep, .ref tn_above, .ref tn_doors, .ref tn_degrees, .ref tn_neighbours, .ref tn_shows, .ref tn_oneEnd, .ref tn_otherEnd, .ref tn_told, .ref tn_strayParts, .ref tn_strayCourts])), (tn_shows, .inl (cA_tn_shows, 10, .inl f_tn_shows)), (tn_told, .inl (cA_tn_told, 480, .inl f_tn_told)), (tn_strayCourts, .inl (cA_tn_strayCourts, 10, .inl f_tn_strayCourts))] sz) t) (va_A [(h0, .inr (9, [.ref tp, .int h0_tapeLength, .int h0_faultKind, .int h0_faultPlace, .ref nw, .ref im, .ref sl, .ref rd, .ref wk, .ref fm, .ref mt, .ref ch, .ref dy])), (nw, .inr (3, [.int nw_isKept, .ref tn, .int nw_strayed, .int nw_names, .int nw_known, .int nw_gone])), (tn, .inr (7, [.int tn_hours, .int tn_courts, .int tn_gateCount, .int tn_people, .int tn_lines, .int tn_falseHours, .int tn_strayers, .int tn_deep, .ref tn_above, .ref tn_doors, .ref tn_degrees, .ref tn_neighbours, .ref tn_shows, .ref tn_oneEnd, .ref tn_otherEnd, .ref tn_told, .ref tn_strayParts, .ref tn_strayCourts])), (tn_shows, .inl (cA_tn_shows, 10, .inl f_tn_shows)), (tn_told, .inl (cA_tn_told, 480, .inl f_tn_told)), (tn_strayCourts, .inl (cA_tn_strayCourts, 10, .inl f_tn_strayCourts))] sz)) 0 0 (va_A [(h0, .inr (9, [.ref tp, .int h0_tapeLength, .int h0_faultKind, .int h0_faultPlace, .ref nw, .ref im, .ref sl, .ref rd, .ref wk, .ref fm, .ref mt, .ref ch, .ref dy])), (nw, .inr (3, [.int nw_isKept, .ref tn, .int nw_strayed, .int nw_names, .int nw_known, .int nw_gone])), (tn, .inr (7, [.int tn_hours, .int tn_courts, .int tn_gateCount, .int tn_people, .int tn_lines, .int tn_falseHours, .int tn_strayers, .int tn_deep, .ref tn_above, .ref tn_doors, .ref tn_degrees, .ref tn_neighbours, .ref tn_shows, .ref tn_oneEnd, .ref tn_otherEnd, .ref tn_told, .ref tn_strayParts, .ref tn_strayCourts])), (tn_shows, .inl (cA_tn_shows, 10, .inl f_tn_shows)), (tn_told, .inl (cA_tn_told, 480, .inl f_tn_told)), (tn_strayCourts, .inl (cA_tn_strayCourts, 10, .inl f_tn_strayCourts))] sz) := by
  refine z_enter (by decide) (by exact (Nat.le_of_ble_eq_true rfl)) ?_
  intro p e s m args below meth c ls A R Qc hargs hsz hQe hAe hRe hx hb hml hr hts hown hlocks hin hl hP hK hD hN hXs hA hS
  rw [hAe] at hQe
  have hown : s.vm.findClass RX9 = some m.cls := hown
  have hl : lv_has ls 5 [(0, .ref h0), (1, .int p1)] := hl
  obtain ⟨RR, hRR⟩ : ∃ z : Int32, z = (F_X9_hollow p1 nw_strayed tn_hours tn_courts tn_people f_tn_shows f_tn_told f_tn_strayCourts) := ⟨_, rfl⟩
  have hF : RR = (F_X9_hollow p1 nw_strayed tn_hours tn_courts tn_people f_tn_shows f_tn_told f_tn_strayCourts) := hRR
  refine lv_aload_n hx hb dX9_hollow_0 rfl (lv_at hl 0 rfl) ?_
  refine va_get (D := (dC, dI)) (ci := 9) (v := .ref nw) (C := RX9) (T := TX9) (N := 13) hx hb hts zl_X9 hown hK hP 0 rfl rfl 4 (by decide) (hts _ zw_t2_193) (fun _ h9 => h9) rfl dX9_hollow_1 ?_
  refine va_get (D := (dC, dI)) (ci := 3) (v := .ref tn) (C := RX3) (T := TX3) (N := 6) hx hb hts zl_X3 hown hK hP 1 rfl rfl 1 (by decide) (hts _ zw_t1_156) (fun _ h9 => h9) rfl dX9_hollow_4 ?_
  refine lv_astore_n (lv' := [(2, .ref tn), (0, .ref h0), (1, .int p1)]) hx hb dX9_hollow_7 rfl hl (by decide) rfl (fun ls hl => ?_)
  refine lv_aload_n hx hb dX9_hollow_8 rfl (lv_at hl 0 rfl) ?_
  refine lv_iload_n hx hb dX9_hollow_9 rfl (lv_at hl 2 rfl) ?_
  obtain ⟨hPc, hDc, hFc⟩ := z_cut (wc := [(tn, .inr (7, [.int tn_hours, .int tn_courts, .int tn_gateCount, .int tn_people, .int tn_lines, .int tn_falseHours, .int tn_strayers, .int tn_deep, .ref tn_above, .ref tn_doors, .ref tn_degrees, .ref tn_neighbours, .ref tn_shows, .ref tn_oneEnd, .ref tn_otherEnd, .ref tn_told, .ref tn_strayParts, .ref tn_strayCourts]))]) hP hD hS hA [2] rfl (by decide +kernel)
  have hKc := hK.sub (tys' := []) [] rfl
  refine va_calli (va_runV (As := [.int p1]) (rest := []) ⟨hx, hb, hml, hown, hts⟩ (kf_X7_hasCourt l sa dC dI tn p1 tn_hours tn_courts tn_gateCount tn_people tn_lines tn_falseHours tn_strayers tn_deep tn_above tn_doors tn_degrees tn_neighbours tn_shows tn_oneEnd tn_otherEnd tn_told tn_strayParts tn_strayCourts (by first | with_reducible assumption | omega) (by first | with_reducible assumption | omega) (by first | with_reducible assumption | omega) (by first | with_reducible assumption | omega) (by first | with_reducible assumption | omega) (by first | with_reducible assumption | omega) s.heap.size) (cwV 1 hts (z_gV zw_t3_197 zw_t3_198 zw_t3_199 zw_t1_3 zw_t3_200) rfl rfl rfl (by decide +kernel) (by rw [← hRe]; exact ⟨(Nat.le_of_ble_eq_true rfl), (Nat.le_of_ble_eq_true rfl)⟩)) (z_preV hPc hKc hDc hN hXs hS hFc (q := (RX7, TX7, 18)) (ci := 7) (q0 := 0) rfl rfl) rfl rfl hl.1 rfl (lv_room (Nat.le_of_ble_eq_true rfl)) dX9_hollow_10 (by rw [← hRe]; exact ⟨(Nat.le_of_ble_eq_true rfl), (Nat.le_of_ble_eq_true rfl)⟩)) hS (fun q _ h => hFc q h) hFc (fun r_1 u t H1 locs ht hvm hw hB hz1 hk1 hS => ?_)
  obtain ⟨hP, hD, hK⟩ := z_after3 (wn := [(h0, .inr (9, [.ref tp, .int h0_tapeLength, .int h0_faultKind, .int h0_faultPlace, .ref nw, .ref im, .ref sl, .ref rd, .ref wk, .ref fm, .ref mt, .ref ch, .ref dy])), (nw, .inr (3, [.int nw_isKept, .ref tn, .int nw_strayed, .int nw_names, .int nw_known, .int nw_gone])), (tn_shows, .inl (cA_tn_shows, 10, .inl f_tn_shows)), (tn_told, .inl (cA_tn_told, 480, .inl f_tn_told)), (tn_strayCourts, .inl (cA_tn_strayCourts, 10, .inl f_tn_strayCourts)), (tn, .inr (7, [.int tn_hours, .int tn_courts, .int tn_gateCount, .int tn_people, .int tn_lines, .int tn_falseHours, .int tn_strayers, .int tn_deep, .ref tn_above, .ref tn_doors, .ref tn_degrees, .ref tn_neighbours, .ref tn_shows, .ref tn_oneEnd, .ref tn_otherEnd, .ref tn_told, .ref tn_strayParts, .ref tn_strayCourts]))]) hB ht hvm hP hD hK [2] [0, 1, 3, 4, 5] rfl 6 rfl (by decide +kernel) rfl (by decide +kernel) hk1 hFc
  generalize H1 = H at hP hS ⊢
  have hK : va_K (dC, dI) vwCl [(cA_tn_shows, .int), (cA_tn_told, .int), (cA_tn_strayCourts, .int)] s := hK
  have b_r_1 : 0 ≤ r_1.toInt ∧ r_1.toInt ≤ 1 := hw.1
  have s_r_1 := hw.2.1
  have sf_r_1 := hw.2.2
  replace hF := hF.trans (zL_eq sf_r_1)
  refine lv_if_ne (tgt := 19) hx hb dX9_hollow_13 (by decide) (fun c_2 => ?_) (fun c_2 => ?_)
  · have ic_2 := zz_ne rfl (show Int32.toInt 0 = 0 from by decide) c_2
    replace hF := hF.trans (if_neg c_2)
    refine lv_iconst (v := 0) hx hb dX9_hollow_19 (by decide) ?_
    refine lv_istore_n (lv' := [(3, .int 0), (2, .ref tn), (0, .ref h0), (1, .int p1)]) hx hb dX9_hollow_20 rfl hl (by decide) rfl (fun ls hl => ?_)
    refine lv_iconst (v := 0) hx hb dX9_hollow_21 (by decide) ?_
    refine lv_istore (lv' := [(4, .int 0), (3, .int 0), (2, .ref tn), (0, .ref h0), (1, .int p1)]) hx hb dX9_hollow_22 hl (by decide) rfl (fun ls hl => ?_)
    have loop_1 : ∀ (t_1 : Nat) (v3_4 : Int32) (v4_3 : Int32) (b_v4_3 : 0 ≤ v4_3.toInt ∧ v4_3.toInt ≤ 48) (H : Heap) (locs : List Loc) (ls : Array Slot), 48 - v4_3.toInt < (t_1 : Int) → RR = L_X9_hollow_1 tn_hours p1 nw_strayed tn_people f_tn_shows f_tn_told f_tn_strayCourts K_X9_hollow_1_0 t_1 v3_4 v4_3 → va_P (dC, dI) vwCl [(h0, .inr (9, [.ref tp, .int h0_tapeLength, .int h0_faultKind, .int h0_faultPlace, .ref nw, .ref im, .ref sl, .ref rd, .ref wk, .ref fm, .ref mt, .ref ch, .ref dy])), (nw, .inr (3, [.int nw_isKept, .ref tn, .int nw_strayed, .int nw_names, .int nw_known, .int nw_gone])), (tn_shows, .inl (cA_tn_shows, 10, .inl f_tn_shows)), (tn_told, .inl (cA_tn_told, 480, .inl f_tn_told)), (tn_strayCourts, .inl (cA_tn_strayCourts, 10, .inl f_tn_strayCourts)), (tn, .inr (7, [.int tn_hours, .int tn_courts, .int tn_gateCount, .int tn_people, .int tn_lines, .int tn_falseHours, .int tn_strayers, .int tn_deep, .ref tn_above, .ref tn_doors, .ref tn_degrees, .ref tn_neighbours, .ref tn_shows, .ref tn_oneEnd, .ref tn_otherEnd, .ref tn_told, .ref tn_strayParts, .ref tn_strayCourts]))] H → va_D A [(h0, .inr (9, [.ref tp, .int h0_tapeLength, .int h0_faultKind, .int h0_faultPlace, .ref nw, .ref im, .ref sl, .ref rd, .ref wk, .ref fm, .ref mt, .ref ch, .ref dy])), (nw, .inr (3, [.int nw_isKept, .ref tn, .int nw_strayed, .int nw_names, .int nw_known, .int nw_gone])), (tn_shows, .inl (cA_tn_shows, 10, .inl f_tn_shows)), (tn_told, .inl (cA_tn_told, 480, .inl f_tn_told)), (tn_strayCourts, .inl (cA_tn_strayCourts, 10, .inl f_tn_strayCourts)), (tn, .inr (7, [.int tn_hours, .int tn_courts, .int tn_gateCount, .int tn_people, .int tn_lines, .int tn_falseHours, .int tn_strayers, .int tn_deep, .ref tn_above, .ref tn_doors, .ref tn_degrees, .ref tn_neighbours, .ref tn_shows, .ref tn_oneEnd, .ref tn_otherEnd, .ref tn_told, .ref tn_strayParts, .ref tn_strayCourts]))] → va_S A s.heap H locs → lv_has ls 5 [(0, .ref h0), (1, .int p1), (2, .ref tn), (3, .int v3_4), (4, .int v4_3)] → W p l e R s m args below meth c H locs 0 0 (MQ below Qc args s 0 0 A) (F0 m 24 ls []) := by
      intro t_1
      induction t_1 with
      | zero => intro v3_4 v4_3 b_v4_3 H locs ls hmu _ _ _ _ _; exact absurd hmu (by first | with_reducible assumption | omega)
      | succ t_1 ih_1 =>
        intro v3_4 v4_3 b_v4_3 H locs ls hmu hF hP hD hS hl
        replace hF := hF.trans L_X9_hollow_1_s
        refine lv_iload hx hb dX9_hollow_24 (lv_at hl 4 rfl) ?_
        refine lv_aload_n hx hb dX9_hollow_26 rfl (lv_at hl 2 rfl) ?_
        refine va_get (D := (dC, dI)) (ci := 7) (v := .int tn_hours) (C := RX7) (T := TX7) (N := 18) hx hb hts zl_X7 hown hK hP 5 rfl rfl 0 (by decide) (hts _ zw_t1_46) (fun _ h9 => h9) rfl dX9_hollow_27 ?_
        refine lv_icmp_ge (tgt := 59) hx hb dX9_hollow_30 (by decide) (fun c_5 => ?_) (fun c_5 => ?_)
        · have ic_5 := zz_ge rfl rfl c_5
          replace hF := hF.trans (if_pos c_5)
          refine lv_iload_n hx hb dX9_hollow_59 rfl (lv_at hl 3 rfl) ?_
          have hF : RR = v3_4 := hF
          exact W.iret (v := v3_4) hx hb hr (fun t ht hW => by rw [← hQe]; exact ⟨⟨v3_4, (), rfl, (by rw [← hRR, hF]), z_ret hP hK hD ht hW [0, 1, 5, 2, 3, 4] [] rfl (by decide) rfl⟩, hS.F ht⟩) hS.2.2 dX9_hollow_60
        · have ic_5 := zz_nge rfl rfl c_5
          replace hF := hF.trans (if_neg c_5)
          refine lv_aload_n hx hb dX9_hollow_33 rfl (lv_at hl 2 rfl) ?_
          refine lv_iload_n hx hb dX9_hollow_34 rfl (lv_at hl 1 rfl) ?_
          refine lv_iload hx hb dX9_hollow_35 (lv_at hl 4 rfl) ?_
          refine lv_aload_n hx hb dX9_hollow_37 rfl (lv_at hl 0 rfl) ?_
          refine va_get (D := (dC, dI)) (ci := 9) (v := .ref nw) (C := RX9) (T := TX9) (N := 13) hx hb hts zl_X9 hown hK hP 0 rfl rfl 4 (by decide) (hts _ zw_t2_193) (fun _ h9 => h9) rfl dX9_hollow_38 ?_
          refine va_get (D := (dC, dI)) (ci := 3) (v := .int nw_strayed) (C := RX3) (T := TX3) (N := 6) hx hb hts zl_X3 hown hK hP 1 rfl rfl 2 (by decide) (hts _ zw_t1_159) (fun _ h9 => h9) rfl dX9_hollow_41 ?_
          obtain ⟨hPc, hDc, hFc⟩ := z_cut (wc := [(tn, .inr (7, [.int tn_hours, .int tn_courts, .int tn_gateCount, .int tn_people, .int tn_lines, .int tn_falseHours, .int tn_strayers, .int tn_deep, .ref tn_above, .ref tn_doors, .ref tn_degrees, .ref tn_neighbours, .ref tn_shows, .ref tn_oneEnd, .ref tn_otherEnd, .ref tn_told, .ref tn_strayParts, .ref tn_strayCourts])), (tn_shows, .inl (cA_tn_shows, 10, .inl f_tn_shows)), (tn_told, .inl (cA_tn_told, 480, .inl f_tn_told)), (tn_strayCourts, .inl (cA_tn_strayCourts, 10, .inl f_tn_strayCourts))]) hP hD hS hA [5, 2, 3, 4] rfl (by decide +kernel)
          have hKc := hK.sub (tys' := [(cA_tn_shows, .int), (cA_tn_told, .int), (cA_tn_strayCourts, .int)]) [0, 1, 2] rfl
          refine va_calli (va_runV (As := [.int p1, .int v4_3, .int nw_strayed]) (rest := []) ⟨hx, hb, hml, hown, hts⟩ (kf_X7_inside l sa dC dI tn p1 v4_3 nw_strayed tn_hours tn_courts tn_gateCount tn_people tn_lines tn_falseHours tn_strayers tn_deep tn_above tn_doors tn_degrees tn_neighbours tn_shows tn_oneEnd tn_otherEnd tn_told tn_strayParts tn_strayCourts cA_tn_shows f_tn_shows cA_tn_told f_tn_told cA_tn_strayCourts f_tn_strayCourts (by first | with_reducible assumption | omega) (by first | with_reducible assumption | omega) (by first | with_reducible assumption | omega) (by first | with_reducible assumption | omega) (by first | with_reducible assumption | omega) (by first | with_reducible assumption | omega) (by first | with_reducible assumption | omega) b_f_tn_told b_f_tn_strayCourts H.size) (cwV 3 hts (z_gV zw_t3_201 zw_t3_202 zw_t3_203 zw_t1_3 zw_t3_204) rfl rfl rfl (by decide +kernel) (by rw [← hRe]; exact ⟨(Nat.le_of_ble_eq_true rfl), (Nat.le_of_ble_eq_true rfl)⟩)) (z_preV hPc hKc hDc hN hXs hS hFc (q := (RX7, TX7, 18)) (ci := 7) (q0 := 0) rfl rfl) rfl rfl hl.1 rfl (lv_room (Nat.le_of_ble_eq_true rfl)) dX9_hollow_44 (by rw [← hRe]; exact ⟨(Nat.le_of_ble_eq_true rfl), (Nat.le_of_ble_eq_true rfl)⟩)) hS (fun q _ h => hFc q h) hFc (fun r_6 u t H1 locs ht hvm hw hB hz1 hk1 hS => ?_)
          obtain ⟨hP, hD, hK⟩ := z_after3 (wn := [(h0, .inr (9, [.ref tp, .int h0_tapeLength, .int h0_faultKind, .int h0_faultPlace, .ref nw, .ref im, .ref sl, .ref rd, .ref wk, .ref fm, .ref mt, .ref ch, .ref dy])), (nw, .inr (3, [.int nw_isKept, .ref tn, .int nw_strayed, .int nw_names, .int nw_known, .int nw_gone])), (tn, .inr (7, [.int tn_hours, .int tn_courts, .int tn_gateCount, .int tn_people, .int tn_lines, .int tn_falseHours, .int tn_strayers, .int tn_deep, .ref tn_above, .ref tn_doors, .ref tn_degrees, .ref tn_neighbours, .ref tn_shows, .ref tn_oneEnd, .ref tn_otherEnd, .ref tn_told, .ref tn_strayParts, .ref tn_strayCourts])), (tn_shows, .inl (cA_tn_shows, 10, .inl f_tn_shows)), (tn_told, .inl (cA_tn_told, 480, .inl f_tn_told)), (tn_strayCourts, .inl (cA_tn_strayCourts, 10, .inl f_tn_strayCourts))]) hB ht hvm hP hD hK [5, 2, 3, 4] [0, 1] rfl 6 rfl (by decide +kernel) rfl (by decide +kernel) hk1 hFc
          generalize H1 = H at hP hS ⊢
          have hK : va_K (dC, dI) vwCl [(cA_tn_shows, .int), (cA_tn_told, .int), (cA_tn_strayCourts, .int)] s := hK
          have b_r_6 : 0 ≤ r_6.toInt ∧ r_6.toInt ≤ 1023 := hw.1
          have sf_r_6 := hw.2
          replace hF := hF.trans (zL_eq sf_r_6)
          refine lv_if_ne (tgt := 53) hx hb dX9_hollow_47 (by decide) (fun c_7 => ?_) (fun c_7 => ?_)
          · have ic_7 := zz_ne rfl (show Int32.toInt 0 = 0 from by decide) c_7
            replace hF := hF.trans (if_neg c_7)
            obtain ⟨x_8, ex_8⟩ : ∃ z : Int32, z = v4_3 + Int32.ofInt 1 := ⟨_, rfl⟩
            have b_x_8 : x_8.toInt = v4_3.toInt + 1 := by rw [ex_8]; exact zi_add rfl (show (Int32.ofInt 1).toInt = 1 from by decide) (by first | with_reducible assumption | omega)
            refine lv_iinc (v := x_8) (lv' := [(4, .int x_8), (0, .ref h0), (1, .int p1), (2, .ref tn), (3, .int v3_4)]) hx hb dX9_hollow_53 hl (k := 4) rfl ex_8.symm (by decide) rfl (fun ls hl => ?_)
            replace hF := hF.trans (zL_eq ex_8)
            refine lv_goto (tgt := 24) hx hb dX9_hollow_56 (by decide) ?_
            exact ih_1 v3_4 x_8 (by first | with_reducible assumption | omega) _ _ _ (by first | with_reducible assumption | omega) hF (hP.sub (ws' := [(h0, .inr (9, [.ref tp, .int h0_tapeLength, .int h0_faultKind, .int h0_faultPlace, .ref nw, .ref im, .ref sl, .ref rd, .ref wk, .ref fm, .ref mt, .ref ch, .ref dy])), (nw, .inr (3, [.int nw_isKept, .ref tn, .int nw_strayed, .int nw_names, .int nw_known, .int nw_gone])), (tn_shows, .inl (cA_tn_shows, 10, .inl f_tn_shows)), (tn_told, .inl (cA_tn_told, 480, .inl f_tn_told)), (tn_strayCourts, .inl (cA_tn_strayCourts, 10, .inl f_tn_strayCourts)), (tn, .inr (7, [.int tn_hours, .int tn_courts, .int tn_gateCount, .int tn_people, .int tn_lines, .int tn_falseHours, .int tn_strayers, .int tn_deep, .ref tn_above, .ref tn_doors, .ref tn_degrees, .ref tn_neighbours, .ref tn_shows, .ref tn_oneEnd, .ref tn_otherEnd, .ref tn_told, .ref tn_strayParts, .ref tn_strayCourts]))]) [0, 1, 3, 4, 5, 2] rfl) (hD.sub (ws' := [(h0, .inr (9, [.ref tp, .int h0_tapeLength, .int h0_faultKind, .int h0_faultPlace, .ref nw, .ref im, .ref sl, .ref rd, .ref wk, .ref fm, .ref mt, .ref ch, .ref dy])), (nw, .inr (3, [.int nw_isKept, .ref tn, .int nw_strayed, .int nw_names, .int nw_known, .int nw_gone])), (tn_shows, .inl (cA_tn_shows, 10, .inl f_tn_shows)), (tn_told, .inl (cA_tn_told, 480, .inl f_tn_told)), (tn_strayCourts, .inl (cA_tn_strayCourts, 10, .inl f_tn_strayCourts)), (tn, .inr (7, [.int tn_hours, .int tn_courts, .int tn_gateCount, .int tn_people, .int tn_lines, .int tn_falseHours, .int tn_strayers, .int tn_deep, .ref tn_above, .ref tn_doors, .ref tn_degrees, .ref tn_neighbours, .ref tn_shows, .ref tn_oneEnd, .ref tn_otherEnd, .ref tn_told, .ref tn_strayParts, .ref tn_strayCourts]))]) [0, 1, 3, 4, 5, 2] (by decide) rfl) hS (lv_sub hl [1, 2, 3, 4, 0] rfl)
          · have ic_7 := zz_nne rfl (show Int32.toInt 0 = 0 from by decide) c_7
            replace hF := hF.trans (if_pos c_7)
            obtain ⟨x_9, ex_9⟩ : ∃ z : Int32, z = v3_4 + Int32.ofInt 1 := ⟨_, rfl⟩
            refine lv_iinc (v := x_9) (lv' := [(3, .int x_9), (0, .ref h0), (1, .int p1), (2, .ref tn), (4, .int v4_3)]) hx hb dX9_hollow_50 hl (k := 3) rfl ex_9.symm (by decide) rfl (fun ls hl => ?_)
            replace hF := hF.trans (zL_eq ex_9)
            obtain ⟨x_10, ex_10⟩ : ∃ z : Int32, z = v4_3 + Int32.ofInt 1 := ⟨_, rfl⟩
            have b_x_10 : x_10.toInt = v4_3.toInt + 1 := by rw [ex_10]; exact zi_add rfl (show (Int32.ofInt 1).toInt = 1 from by decide) (by first | with_reducible assumption | omega)
            refine lv_iinc (v := x_10) (lv' := [(4, .int x_10), (3, .int x_9), (0, .ref h0), (1, .int p1), (2, .ref tn)]) hx hb dX9_hollow_53 hl (k := 4) rfl ex_10.symm (by decide) rfl (fun ls hl => ?_)
            replace hF := hF.trans (zL_eq ex_10)
            refine lv_goto (tgt := 24) hx hb dX9_hollow_56 (by decide) ?_
            exact ih_1 x_9 x_10 (by first | with_reducible assumption | omega) _ _ _ (by first | with_reducible assumption | omega) hF (hP.sub (ws' := [(h0, .inr (9, [.ref tp, .int h0_tapeLength, .int h0_faultKind, .int h0_faultPlace, .ref nw, .ref im, .ref sl, .ref rd, .ref wk, .ref fm, .ref mt, .ref ch, .ref dy])), (nw, .inr (3, [.int nw_isKept, .ref tn, .int nw_strayed, .int nw_names, .int nw_known, .int nw_gone])), (tn_shows, .inl (cA_tn_shows, 10, .inl f_tn_shows)), (tn_told, .inl (cA_tn_told, 480, .inl f_tn_told)), (tn_strayCourts, .inl (cA_tn_strayCourts, 10, .inl f_tn_strayCourts)), (tn, .inr (7, [.int tn_hours, .int tn_courts, .int tn_gateCount, .int tn_people, .int tn_lines, .int tn_falseHours, .int tn_strayers, .int tn_deep, .ref tn_above, .ref tn_doors, .ref tn_degrees, .ref tn_neighbours, .ref tn_shows, .ref tn_oneEnd, .ref tn_otherEnd, .ref tn_told, .ref tn_strayParts, .ref tn_strayCourts]))]) [0, 1, 3, 4, 5, 2] rfl) (hD.sub (ws' := [(h0, .inr (9, [.ref tp, .int h0_tapeLength, .int h0_faultKind, .int h0_faultPlace, .ref nw, .ref im, .ref sl, .ref rd, .ref wk, .ref fm, .ref mt, .ref ch, .ref dy])), (nw, .inr (3, [.int nw_isKept, .ref tn, .int nw_strayed, .int nw_names, .int nw_known, .int nw_gone])), (tn_shows, .inl (cA_tn_shows, 10, .inl f_tn_shows)), (tn_told, .inl (cA_tn_told, 480, .inl f_tn_told)), (tn_strayCourts, .inl (cA_tn_strayCourts, 10, .inl f_tn_strayCourts)), (tn, .inr (7, [.int tn_hours, .int tn_courts, .int tn_gateCount, .int tn_people, .int tn_lines, .int tn_falseHours, .int tn_strayers, .int tn_deep, .ref tn_above, .ref tn_doors, .ref tn_degrees, .ref tn_neighbours, .ref tn_shows, .ref tn_oneEnd, .ref tn_otherEnd, .ref tn_told, .ref tn_strayParts, .ref tn_strayCourts]))]) [0, 1, 3, 4, 5, 2] (by decide) rfl) hS (lv_sub hl [2, 3, 4, 1, 0] rfl)
    exact loop_1 50 (0) (0) (by decide) _ _ _ (by decide) hF hP hD hS (lv_sub hl [3, 4, 2, 1, 0] rfl)
  · have ic_2 := zz_nne rfl (show Int32.toInt 0 = 0 from by decide) c_2
    replace hF := hF.trans (if_pos c_2)
    refine lv_bipush (v := (-2)) hx hb dX9_hollow_16 (by decide) ?_
    have hF : RR = (-2 : Int32) := hF
    have zc : Int32.toInt (-2) = (-2) := by decide
    exact W.iret (v := (-2)) hx hb hr (fun t ht hW => by rw [← hQe]; exact ⟨⟨(-2), (), rfl, (by rw [← hRR, hF]), z_ret hP hK hD ht hW [0, 1, 5, 2, 3, 4] [] rfl (by decide) rfl⟩, hS.F ht⟩) hS.2.2 dX9_hollow_18
set_option maxHeartbeats 4000000 in
set_option maxRecDepth 100000 in
theorem kf_X9_keeper (l : Launch) (sa : Nat → Nat) (dC : Nat → ClassId) (dI : Nat → Nat → Nat) (h0 : Nat) (p1 : Int32) (tp : Nat) (h0_tapeLength : Int32) (h0_faultKind : Int32) (h0_faultPlace : Int32) (nw : Nat) (im : Nat) (sl : Nat) (rd : Nat) (wk : Nat) (fm : Nat) (mt : Nat) (ch : Nat) (dy : Nat) (nw_isKept : Int32) (tn : Nat) (nw_strayed : Int32) (nw_names : Int32) (nw_known : Int32) (nw_gone : Int32) (tn_hours : Int32) (tn_courts : Int32) (tn_gateCount : Int32) (tn_people : Int32) (tn_lines : Int32) (tn_falseHours : Int32) (tn_strayers : Int32) (tn_deep : Int32) (tn_above : Nat) (tn_doors : Nat) (tn_degrees : Nat) (tn_neighbours : Nat) (tn_shows : Nat) (tn_oneEnd : Nat) (tn_otherEnd : Nat) (tn_told : Nat) (tn_strayParts : Nat) (tn_strayCourts : Nat) (cA_tn_shows : ClassId) (f_tn_shows : Nat → Int32) (cA_tn_told : ClassId) (f_tn_told : Nat → Int32) (cA_tn_strayCourts : ClassId) (f_tn_strayCourts : Nat → Int32) (b_h0_tapeLength : 0 ≤ h0_tapeLength.toInt ∧ h0_tapeLength.toInt ≤ 1600) (b_nw_isKept : 0 ≤ nw_isKept.toInt ∧ nw_isKept.toInt ≤ 1) (b_nw_names : 0 ≤ nw_names.toInt ∧ nw_names.toInt ≤ 1023) (b_tn_hours : 0 ≤ tn_hours.toInt ∧ tn_hours.toInt ≤ 48) (b_tn_courts : 0 ≤ tn_courts.toInt ∧ tn_courts.toInt ≤ 10) (b_tn_gateCount : 0 ≤ tn_gateCount.toInt ∧ tn_gateCount.toInt ≤ 16) (b_tn_people : 0 ≤ tn_people.toInt ∧ tn_people.toInt ≤ 10) (b_tn_falseHours : 0 ≤ tn_falseHours.toInt ∧ tn_falseHours.toInt ≤ 9) (b_tn_deep : 0 ≤ tn_deep.toInt ∧ tn_deep.toInt ≤ 1) (b_f_tn_told : ∀ j : Nat, 0 ≤ (f_tn_told j).toInt ∧ (f_tn_told j).toInt ≤ 9) (b_f_tn_strayCourts : ∀ j : Nat, 0 ≤ (f_tn_strayCourts j).toInt ∧ (f_tn_strayCourts j).toInt ≤ 9) (sz : Nat) : Met l yX9_keeper (.code yX9_keeper cX9_keeper 8 (some .int) :: zT) ({ frames := 3, cells := 0, slots := 0, locals := 72 }) (va_Pc [.ref h0, .int p1] (zB sa dC dI [(h0, .inr (9, [.ref tp, .int h0_tapeLength, .int h0_faultKind, .int h0_faultPlace, .ref nw, .ref im, .ref sl, .ref rd, .ref wk, .ref fm, .ref mt, .ref ch, .ref dy])), (nw, .inr (3, [.int nw_isKept, .ref tn, .int nw_strayed, .int nw_names, .int nw_known, .int nw_gone])), (tn, .inr (7, [.int tn_hours, .int tn_courts, .int tn_gateCount, .int tn_people, .int tn_lines, .int tn_falseHours, .int tn_strayers, .int tn_deep, .ref tn_above, .ref tn_doors, .ref tn_degrees, .ref tn_neighbours, .ref tn_shows, .ref tn_oneEnd, .ref tn_otherEnd, .ref tn_told, .ref tn_strayParts, .ref tn_strayCourts])), (tn_shows, .inl (cA_tn_shows, 10, .inl f_tn_shows)), (tn_told, .inl (cA_tn_told, 480, .inl f_tn_told)), (tn_strayCourts, .inl (cA_tn_strayCourts, 10, .inl f_tn_strayCourts))] [(cA_tn_shows, .int), (cA_tn_told, .int), (cA_tn_strayCourts, .int)] sz)) (va_Qi (fun (r : Int32) (_ : Unit) => ((-2) ≤ r.toInt ∧ r.toInt ≤ 9) ∧ r = (F_X9_keeper p1 nw_strayed tn_hours tn_courts tn_people f_tn_shows f_tn_told f_tn_strayCourts)) (fun _ t => zW dC dI [(h0, .inr (9, [.ref tp, .int h0_tapeLength, .int h0_faultKind, .int h0_faultPlace, .ref nw, .ref im, .ref sl, .ref rd, .ref wk, .ref fm, .ref mt, .ref ch, .ref dy])), (nw, .inr (3, [.int nw_isKept, .ref tn, .int nw_strayed, .int nw_names, .int nw_known, .int nw_gone])), (tn, .inr (7, [.int tn_hours, .int tn_courts, .int tn_gateCount, .int tn_people, .int tn_lines, .int tn_falseHours, .int tn_strayers, .int tn_deep, .ref tn_above, .ref tn_doors, .ref tn_degrees, .ref tn_neighbours, .ref tn_shows, .ref tn_oneEnd, .ref tn_otherEnd, .ref tn_told, .ref tn_strayParts, .ref tn_strayCourts])), (tn_shows, .inl (cA_tn_shows, 10, .inl f_tn_shows)), (tn_told, .inl (cA_tn_told, 480, .inl f_tn_told)), (tn_strayCourts, .inl (cA_tn_strayCourts, 10, .inl f_tn_strayCourts))] [] (va_A [(h0, .inr (9, [.ref tp, .int h0_tapeLength, .int h0_faultKind, .int h0_faultPlace, .ref nw, .ref im, .ref sl, .ref rd, .ref wk, .ref fm, .ref mt, .ref ch, .ref dy])), (nw, .inr (3, [.int nw_isKept, .ref tn, .int nw_strayed, .int nw_names, .int nw_known, .int nw_gone])), (tn, .inr (7, [.int tn_hours, .int tn_courts, .int tn_gateCount, .int tn_people, .int tn_lines, .int tn_falseHours, .int tn_strayers, .int tn_deep, .ref tn_above, .ref tn_doors, .ref tn_degrees, .ref tn_neighbours, .ref tn_shows, .ref tn_oneEnd, .ref tn_otherEnd, .ref tn_told, .ref tn_strayParts, .ref tn_strayCourts])), (tn_shows, .inl (cA_tn_shows, 10, .inl f_tn_shows)), (tn_told, .inl (cA_tn_told, 480, .inl f_tn_told)), (tn_strayCourts, .inl (cA_tn_strayCourts, 10, .inl f_tn_strayCourts))] sz) t) (va_A [(h0, .inr (9, [.ref tp, .int h0_tapeLength, .int h0_faultKind, .int h0_faultPlace, .ref nw, .ref im, .ref sl, .ref rd, .ref wk, .ref fm, .ref mt, .ref ch, .ref dy])), (nw, .inr (3, [.int nw_isKept, .ref tn, .int nw_strayed, .int nw_names, .int nw_known, .int nw_gone])), (tn, .inr (7, [.int tn_hours, .int tn_courts, .int tn_gateCount, .int tn_people, .int tn_lines, .int tn_falseHours, .int tn_strayers, .int tn_deep, .ref tn_above, .ref tn_doors, .ref tn_degrees, .ref tn_neighbours, .ref tn_shows, .ref tn_oneEnd, .ref tn_otherEnd, .ref tn_told, .ref tn_strayParts, .ref tn_strayCourts])), (tn_shows, .inl (cA_tn_shows, 10, .inl f_tn_shows)), (tn_told, .inl (cA_tn_told, 480, .inl f_tn_told)), (tn_strayCourts, .inl (cA_tn_strayCourts, 10, .inl f_tn_strayCourts))] sz)) 0 0 (va_A [(h0, .inr (9, [.ref tp, .int h0_tapeLength, .int h0_faultKind, .int h0_faultPlace, .ref nw, .ref im, .ref sl, .ref rd, .ref wk, .ref fm, .ref mt, .ref ch, .ref dy])), (nw, .inr (3, [.int nw_isKept, .ref tn, .int nw_strayed, .int nw_names, .int nw_known, .int nw_gone])), (tn, .inr (7, [.int tn_hours, .int tn_courts, .int tn_gateCount, .int tn_people, .int tn_lines, .int tn_falseHours, .int tn_strayers, .int tn_deep, .ref tn_above, .ref tn_doors, .ref tn_degrees, .ref tn_neighbours, .ref tn_shows, .ref tn_oneEnd, .ref tn_otherEnd, .ref tn_told, .ref tn_strayParts, .ref tn_strayCourts])), (tn_shows, .inl (cA_tn_shows, 10, .inl f_tn_shows)), (tn_told, .inl (cA_tn_told, 480, .inl f_tn_told)), (tn_strayCourts, .inl (cA_tn_strayCourts, 10, .inl f_tn_strayCourts))] sz) := by
  refine z_enter (by decide) (by exact (Nat.le_of_ble_eq_true rfl)) ?_
  intro p e s m args below meth c ls A R Qc hargs hsz hQe hAe hRe hx hb hml hr hts hown hlocks hin hl hP hK hD hN hXs hA hS
  rw [hAe] at hQe
  have hown : s.vm.findClass RX9 = some m.cls := hown
  have hl : lv_has ls 8 [(0, .ref h0), (1, .int p1)] := hl
  obtain ⟨RR, hRR⟩ : ∃ z : Int32, z = (F_X9_keeper p1 nw_strayed tn_hours tn_courts tn_people f_tn_shows f_tn_told f_tn_strayCourts) := ⟨_, rfl⟩
  have hF : RR = (F_X9_keeper p1 nw_strayed tn_hours tn_courts tn_people f_tn_shows f_tn_told f_tn_strayCourts) := hRR
  refine lv_aload_n hx hb dX9_keeper_0 rfl (lv_at hl 0 rfl) ?_
  refine va_get (D := (dC, dI)) (ci := 9) (v := .ref nw) (C := RX9) (T := TX9) (N := 13) hx hb hts zl_X9 hown hK hP 0 rfl rfl 4 (by decide) (hts _ zw_t2_193) (fun _ h9 => h9) rfl dX9_keeper_1 ?_
  refine va_get (D := (dC, dI)) (ci := 3) (v := .ref tn) (C := RX3) (T := TX3) (N := 6) hx hb hts zl_X3 hown hK hP 1 rfl rfl 1 (by decide) (hts _ zw_t1_156) (fun _ h9 => h9) rfl dX9_keeper_4 ?_
  refine lv_astore_n (lv' := [(2, .ref tn), (0, .ref h0), (1, .int p1)]) hx hb dX9_keeper_7 rfl hl (by decide) rfl (fun ls hl => ?_)
  refine lv_aload_n hx hb dX9_keeper_8 rfl (lv_at hl 0 rfl) ?_
  refine lv_iload_n hx hb dX9_keeper_9 rfl (lv_at hl 2 rfl) ?_
  obtain ⟨hPc, hDc, hFc⟩ := z_cut (wc := [(tn, .inr (7, [.int tn_hours, .int tn_courts, .int tn_gateCount, .int tn_people, .int tn_lines, .int tn_falseHours, .int tn_strayers, .int tn_deep, .ref tn_above, .ref tn_doors, .ref tn_degrees, .ref tn_neighbours, .ref tn_shows, .ref tn_oneEnd, .ref tn_otherEnd, .ref tn_told, .ref tn_strayParts, .ref tn_strayCourts]))]) hP hD hS hA [2] rfl (by decide +kernel)
  have hKc := hK.sub (tys' := []) [] rfl
  refine va_calli (va_runV (As := [.int p1]) (rest := []) ⟨hx, hb, hml, hown, hts⟩ (kf_X7_hasCourt l sa dC dI tn p1 tn_hours tn_courts tn_gateCount tn_people tn_lines tn_falseHours tn_strayers tn_deep tn_above tn_doors tn_degrees tn_neighbours tn_shows tn_oneEnd tn_otherEnd tn_told tn_strayParts tn_strayCourts (by first | with_reducible assumption | omega) (by first | with_reducible assumption | omega) (by first | with_reducible assumption | omega) (by first | with_reducible assumption | omega) (by first | with_reducible assumption | omega) (by first | with_reducible assumption | omega) s.heap.size) (cwV 1 hts (z_gV zw_t3_197 zw_t3_198 zw_t3_199 zw_t1_3 zw_t3_200) rfl rfl rfl (by decide +kernel) (by rw [← hRe]; exact ⟨(Nat.le_of_ble_eq_true rfl), (Nat.le_of_ble_eq_true rfl)⟩)) (z_preV hPc hKc hDc hN hXs hS hFc (q := (RX7, TX7, 18)) (ci := 7) (q0 := 0) rfl rfl) rfl rfl hl.1 rfl (lv_room (Nat.le_of_ble_eq_true rfl)) dX9_keeper_10 (by rw [← hRe]; exact ⟨(Nat.le_of_ble_eq_true rfl), (Nat.le_of_ble_eq_true rfl)⟩)) hS (fun q _ h => hFc q h) hFc (fun r_1 u t H1 locs ht hvm hw hB hz1 hk1 hS => ?_)
  obtain ⟨hP, hD, hK⟩ := z_after3 (wn := [(h0, .inr (9, [.ref tp, .int h0_tapeLength, .int h0_faultKind, .int h0_faultPlace, .ref nw, .ref im, .ref sl, .ref rd, .ref wk, .ref fm, .ref mt, .ref ch, .ref dy])), (nw, .inr (3, [.int nw_isKept, .ref tn, .int nw_strayed, .int nw_names, .int nw_known, .int nw_gone])), (tn_shows, .inl (cA_tn_shows, 10, .inl f_tn_shows)), (tn_told, .inl (cA_tn_told, 480, .inl f_tn_told)), (tn_strayCourts, .inl (cA_tn_strayCourts, 10, .inl f_tn_strayCourts)), (tn, .inr (7, [.int tn_hours, .int tn_courts, .int tn_gateCount, .int tn_people, .int tn_lines, .int tn_falseHours, .int tn_strayers, .int tn_deep, .ref tn_above, .ref tn_doors, .ref tn_degrees, .ref tn_neighbours, .ref tn_shows, .ref tn_oneEnd, .ref tn_otherEnd, .ref tn_told, .ref tn_strayParts, .ref tn_strayCourts]))]) hB ht hvm hP hD hK [2] [0, 1, 3, 4, 5] rfl 6 rfl (by decide +kernel) rfl (by decide +kernel) hk1 hFc
  generalize H1 = H at hP hS ⊢
  have hK : va_K (dC, dI) vwCl [(cA_tn_shows, .int), (cA_tn_told, .int), (cA_tn_strayCourts, .int)] s := hK
  have b_r_1 : 0 ≤ r_1.toInt ∧ r_1.toInt ≤ 1 := hw.1
  have s_r_1 := hw.2.1
  have sf_r_1 := hw.2.2
  replace hF := hF.trans (zL_eq sf_r_1)
  refine lv_if_ne (tgt := 19) hx hb dX9_keeper_13 (by decide) (fun c_2 => ?_) (fun c_2 => ?_)
  · have ic_2 := zz_ne rfl (show Int32.toInt 0 = 0 from by decide) c_2
    replace hF := hF.trans (if_neg c_2)
    refine lv_iconst (v := 0) hx hb dX9_keeper_19 (by decide) ?_
    refine lv_istore_n (lv' := [(3, .int 0), (2, .ref tn), (0, .ref h0), (1, .int p1)]) hx hb dX9_keeper_20 rfl hl (by decide) rfl (fun ls hl => ?_)
    refine lv_iconst (v := (-1)) hx hb dX9_keeper_21 (by decide) ?_
    refine lv_istore (lv' := [(4, .int (-1)), (3, .int 0), (2, .ref tn), (0, .ref h0), (1, .int p1)]) hx hb dX9_keeper_22 hl (by decide) rfl (fun ls hl => ?_)
    refine lv_iconst (v := 0) hx hb dX9_keeper_24 (by decide) ?_
    refine lv_istore (lv' := [(5, .int 0), (4, .int (-1)), (3, .int 0), (2, .ref tn), (0, .ref h0), (1, .int p1)]) hx hb dX9_keeper_25 hl (by decide) rfl (fun ls hl => ?_)
    have loop_1 : ∀ (t_1 : Nat) (v3_4 : Int32) (v4_5 : Int32) (v5_3 : Int32) (b_v3_4 : 0 ≤ v3_4.toInt ∧ v3_4.toInt ≤ 2147483647) (b_v4_5 : (-1) ≤ v4_5.toInt ∧ v4_5.toInt ≤ 9) (b_v5_3 : 0 ≤ v5_3.toInt ∧ v5_3.toInt ≤ 10) (H : Heap) (locs : List Loc) (ls : Array Slot), 10 - v5_3.toInt < (t_1 : Int) → RR = L_X9_keeper_1 tn_people tn_hours p1 nw_strayed f_tn_shows f_tn_told f_tn_strayCourts K_X9_keeper_1_0 t_1 v3_4 v4_5 v5_3 → va_P (dC, dI) vwCl [(h0, .inr (9, [.ref tp, .int h0_tapeLength, .int h0_faultKind, .int h0_faultPlace, .ref nw, .ref im, .ref sl, .ref rd, .ref wk, .ref fm, .ref mt, .ref ch, .ref dy])), (nw, .inr (3, [.int nw_isKept, .ref tn, .int nw_strayed, .int nw_names, .int nw_known, .int nw_gone])), (tn_shows, .inl (cA_tn_shows, 10, .inl f_tn_shows)), (tn_told, .inl (cA_tn_told, 480, .inl f_tn_told)), (tn_strayCourts, .inl (cA_tn_strayCourts, 10, .inl f_tn_strayCourts)), (tn, .inr (7, [.int tn_hours, .int tn_courts, .int tn_gateCount, .int tn_people, .int tn_lines, .int tn_falseHours, .int tn_strayers, .int tn_deep, .ref tn_above, .ref tn_doors, .ref tn_degrees, .ref tn_neighbours, .ref tn_shows, .ref tn_oneEnd, .ref tn_otherEnd, .ref tn_told, .ref tn_strayParts, .ref tn_strayCourts]))] H → va_D A [(h0, .inr (9, [.ref tp, .int h0_tapeLength, .int h0_faultKind, .int h0_faultPlace, .ref nw, .ref im, .ref sl, .ref rd, .ref wk, .ref fm, .ref mt, .ref ch, .ref dy])), (nw, .inr (3, [.int nw_isKept, .ref tn, .int nw_strayed, .int nw_names, .int nw_known, .int nw_gone])), (tn_shows, .inl (cA_tn_shows, 10, .inl f_tn_shows)), (tn_told, .inl (cA_tn_told, 480, .inl f_tn_told)), (tn_strayCourts, .inl (cA_tn_strayCourts, 10, .inl f_tn_strayCourts)), (tn, .inr (7, [.int tn_hours, .int tn_courts, .int tn_gateCount, .int tn_people, .int tn_lines, .int tn_falseHours, .int tn_strayers, .int tn_deep, .ref tn_above, .ref tn_doors, .ref tn_degrees, .ref tn_neighbours, .ref tn_shows, .ref tn_oneEnd, .ref tn_otherEnd, .ref tn_told, .ref tn_strayParts, .ref tn_strayCourts]))] → va_S A s.heap H locs → lv_has ls 8 [(0, .ref h0), (1, .int p1), (2, .ref tn), (3, .int v3_4), (4, .int v4_5), (5, .int v5_3)] → W p l e R s m args below meth c H locs 0 0 (MQ below Qc args s 0 0 A) (F0 m 27 ls []) := by
      intro t_1
      induction t_1 with
      | zero => intro v3_4 v4_5 v5_3 b_v3_4 b_v4_5 b_v5_3 H locs ls hmu _ _ _ _ _; exact absurd hmu (by first | with_reducible assumption | omega)
      | succ t_1 ih_1 =>
        intro v3_4 v4_5 v5_3 b_v3_4 b_v4_5 b_v5_3 H locs ls hmu hF hP hD hS hl
        replace hF := hF.trans L_X9_keeper_1_s
        refine lv_iload hx hb dX9_keeper_27 (lv_at hl 5 rfl) ?_
        refine lv_aload_n hx hb dX9_keeper_29 rfl (lv_at hl 2 rfl) ?_
        refine va_get (D := (dC, dI)) (ci := 7) (v := .int tn_people) (C := RX7) (T := TX7) (N := 18) hx hb hts zl_X7 hown hK hP 5 rfl rfl 3 (by decide) (hts _ zw_t1_65) (fun _ h9 => h9) rfl dX9_keeper_30 ?_
        refine lv_icmp_ge (tgt := 100) hx hb dX9_keeper_33 (by decide) (fun c_6 => ?_) (fun c_6 => ?_)
        · have ic_6 := zz_ge rfl rfl c_6
          replace hF := hF.trans (if_pos c_6)
          refine lv_iload hx hb dX9_keeper_100 (lv_at hl 4 rfl) ?_
          have hF : RR = v4_5 := hF
          exact W.iret (v := v4_5) hx hb hr (fun t ht hW => by rw [← hQe]; exact ⟨⟨v4_5, (), rfl, ⟨by omega, (by rw [← hRR, hF])⟩, z_ret hP hK hD ht hW [0, 1, 5, 2, 3, 4] [] rfl (by decide) rfl⟩, hS.F ht⟩) hS.2.2 dX9_keeper_102
        · have ic_6 := zz_nge rfl rfl c_6
          replace hF := hF.trans (if_neg c_6)
          refine lv_iconst (v := 0) hx hb dX9_keeper_36 (by decide) ?_
          refine lv_istore (lv' := [(6, .int 0), (0, .ref h0), (1, .int p1), (2, .ref tn), (3, .int v3_4), (4, .int v4_5), (5, .int v5_3)]) hx hb dX9_keeper_37 hl (by decide) rfl (fun ls hl => ?_)
          refine lv_iconst (v := 0) hx hb dX9_keeper_39 (by decide) ?_
          refine lv_istore (lv' := [(7, .int 0), (6, .int 0), (0, .ref h0), (1, .int p1), (2, .ref tn), (3, .int v3_4), (4, .int v4_5), (5, .int v5_3)]) hx hb dX9_keeper_40 hl (by decide) rfl (fun ls hl => ?_)
          have loop_2 : ∀ (t_2 : Nat) (v6_8 : Int32) (v7_7 : Int32) (b_v7_7 : 0 ≤ v7_7.toInt ∧ v7_7.toInt ≤ 48) (H : Heap) (locs : List Loc) (ls : Array Slot), 48 - v7_7.toInt < (t_2 : Int) → RR = L_X9_keeper_2 tn_hours p1 nw_strayed tn_people f_tn_shows f_tn_told f_tn_strayCourts v5_3 (K_X9_keeper_2_0 v3_4 v5_3 (L_X9_keeper_1 tn_people tn_hours p1 nw_strayed f_tn_shows f_tn_told f_tn_strayCourts K_X9_keeper_1_0 t_1) v4_5) t_2 v6_8 v7_7 → va_P (dC, dI) vwCl [(h0, .inr (9, [.ref tp, .int h0_tapeLength, .int h0_faultKind, .int h0_faultPlace, .ref nw, .ref im, .ref sl, .ref rd, .ref wk, .ref fm, .ref mt, .ref ch, .ref dy])), (nw, .inr (3, [.int nw_isKept, .ref tn, .int nw_strayed, .int nw_names, .int nw_known, .int nw_gone])), (tn_shows, .inl (cA_tn_shows, 10, .inl f_tn_shows)), (tn_told, .inl (cA_tn_told, 480, .inl f_tn_told)), (tn_strayCourts, .inl (cA_tn_strayCourts, 10, .inl f_tn_strayCourts)), (tn, .inr (7, [.int tn_hours, .int tn_courts, .int tn_gateCount, .int tn_people, .int tn_lines, .int tn_falseHours, .int tn_strayers, .int tn_deep, .ref tn_above, .ref tn_doors, .ref tn_degrees, .ref tn_neighbours, .ref tn_shows, .ref tn_oneEnd, .ref tn_otherEnd, .ref tn_told, .ref tn_strayParts, .ref tn_strayCourts]))] H → va_D A [(h0, .inr (9, [.ref tp, .int h0_tapeLength, .int h0_faultKind, .int h0_faultPlace, .ref nw, .ref im, .ref sl, .ref rd, .ref wk, .ref fm, .ref mt, .ref ch, .ref dy])), (nw, .inr (3, [.int nw_isKept, .ref tn, .int nw_strayed, .int nw_names, .int nw_known, .int nw_gone])), (tn_shows, .inl (cA_tn_shows, 10, .inl f_tn_shows)), (tn_told, .inl (cA_tn_told, 480, .inl f_tn_told)), (tn_strayCourts, .inl (cA_tn_strayCourts, 10, .inl f_tn_strayCourts)), (tn, .inr (7, [.int tn_hours, .int tn_courts, .int tn_gateCount, .int tn_people, .int tn_lines, .int tn_falseHours, .int tn_strayers, .int tn_deep, .ref tn_above, .ref tn_doors, .ref tn_degrees, .ref tn_neighbours, .ref tn_shows, .ref tn_oneEnd, .ref tn_otherEnd, .ref tn_told, .ref tn_strayParts, .ref tn_strayCourts]))] → va_S A s.heap H locs → lv_has ls 8 [(0, .ref h0), (1, .int p1), (2, .ref tn), (3, .int v3_4), (4, .int v4_5), (5, .int v5_3), (6, .int v6_8), (7, .int v7_7)] → W p l e R s m args below meth c H locs 0 0 (MQ below Qc args s 0 0 A) (F0 m 42 ls []) := by
            intro t_2
            induction t_2 with
            | zero => intro v6_8 v7_7 b_v7_7 H locs ls hmu _ _ _ _ _; exact absurd hmu (by first | with_reducible assumption | omega)
            | succ t_2 ih_2 =>
              intro v6_8 v7_7 b_v7_7 H locs ls hmu hF hP hD hS hl
              replace hF := hF.trans L_X9_keeper_2_s
              refine lv_iload hx hb dX9_keeper_42 (lv_at hl 7 rfl) ?_
              refine lv_aload_n hx hb dX9_keeper_44 rfl (lv_at hl 2 rfl) ?_
              refine va_get (D := (dC, dI)) (ci := 7) (v := .int tn_hours) (C := RX7) (T := TX7) (N := 18) hx hb hts zl_X7 hown hK hP 5 rfl rfl 0 (by decide) (hts _ zw_t1_46) (fun _ h9 => h9) rfl dX9_keeper_45 ?_
              refine lv_icmp_ge (tgt := 81) hx hb dX9_keeper_48 (by decide) (fun c_9 => ?_) (fun c_9 => ?_)
              · have ic_9 := zz_ge rfl rfl c_9
                replace hF := hF.trans (if_pos c_9)
                refine lv_iload hx hb dX9_keeper_81 (lv_at hl 6 rfl) ?_
                refine lv_iload_n hx hb dX9_keeper_83 rfl (lv_at hl 3 rfl) ?_
                have nb_v6_8 := zi_nb v6_8
                refine lv_icmp_le (tgt := 94) hx hb dX9_keeper_84 (by decide) (fun c_10 => ?_) (fun c_10 => ?_)
                · have ic_10 := zz_le rfl rfl c_10
                  replace hF := hF.trans (if_pos c_10)
                  obtain ⟨x_11, ex_11⟩ : ∃ z : Int32, z = v5_3 + Int32.ofInt 1 := ⟨_, rfl⟩
                  have b_x_11 : x_11.toInt = v5_3.toInt + 1 := by rw [ex_11]; exact zi_add rfl (show (Int32.ofInt 1).toInt = 1 from by decide) (by first | with_reducible assumption | omega)
                  refine lv_iinc (v := x_11) (lv' := [(5, .int x_11), (0, .ref h0), (1, .int p1), (2, .ref tn), (3, .int v3_4), (4, .int v4_5), (6, .int v6_8), (7, .int v7_7)]) hx hb dX9_keeper_94 hl (k := 5) rfl ex_11.symm (by decide) rfl (fun ls hl => ?_)
                  replace hF := hF.trans (zL_eq ex_11)
                  refine lv_goto (tgt := 27) hx hb dX9_keeper_97 (by decide) ?_
                  exact ih_1 v3_4 v4_5 x_11 (by first | with_reducible assumption | omega) (by first | with_reducible assumption | omega) (by first | with_reducible assumption | omega) _ _ _ (by first | with_reducible assumption | omega) hF (hP.sub (ws' := [(h0, .inr (9, [.ref tp, .int h0_tapeLength, .int h0_faultKind, .int h0_faultPlace, .ref nw, .ref im, .ref sl, .ref rd, .ref wk, .ref fm, .ref mt, .ref ch, .ref dy])), (nw, .inr (3, [.int nw_isKept, .ref tn, .int nw_strayed, .int nw_names, .int nw_known, .int nw_gone])), (tn_shows, .inl (cA_tn_shows, 10, .inl f_tn_shows)), (tn_told, .inl (cA_tn_told, 480, .inl f_tn_told)), (tn_strayCourts, .inl (cA_tn_strayCourts, 10, .inl f_tn_strayCourts)), (tn, .inr (7, [.int tn_hours, .int tn_courts, .int tn_gateCount, .int tn_people, .int tn_lines, .int tn_falseHours, .int tn_strayers, .int tn_deep, .ref tn_above, .ref tn_doors, .ref tn_degrees, .ref tn_neighbours, .ref tn_shows, .ref tn_oneEnd, .ref tn_otherEnd, .ref tn_told, .ref tn_strayParts, .ref tn_strayCourts]))]) [0, 1, 2, 3, 4, 5] rfl) (hD.sub (ws' := [(h0, .inr (9, [.ref tp, .int h0_tapeLength, .int h0_faultKind, .int h0_faultPlace, .ref nw, .ref im, .ref sl, .ref rd, .ref wk, .ref fm, .ref mt, .ref ch, .ref dy])), (nw, .inr (3, [.int nw_isKept, .ref tn, .int nw_strayed, .int nw_names, .int nw_known, .int nw_gone])), (tn_shows, .inl (cA_tn_shows, 10, .inl f_tn_shows)), (tn_told, .inl (cA_tn_told, 480, .inl f_tn_told)), (tn_strayCourts, .inl (cA_tn_strayCourts, 10, .inl f_tn_strayCourts)), (tn, .inr (7, [.int tn_hours, .int tn_courts, .int tn_gateCount, .int tn_people, .int tn_lines, .int tn_falseHours, .int tn_strayers, .int tn_deep, .ref tn_above, .ref tn_doors, .ref tn_degrees, .ref tn_neighbours, .ref tn_shows, .ref tn_oneEnd, .ref tn_otherEnd, .ref tn_told, .ref tn_strayParts, .ref tn_strayCourts]))]) [0, 1, 2, 3, 4, 5] (by decide) rfl) hS (lv_sub hl [1, 2, 3, 4, 5, 0] rfl)
                · have ic_10 := zz_nle rfl rfl c_10
                  replace hF := hF.trans (if_neg c_10)
                  refine lv_iload hx hb dX9_keeper_87 (lv_at hl 6 rfl) ?_
                  refine lv_istore_n (lv' := [(3, .int v6_8), (0, .ref h0), (1, .int p1), (2, .ref tn), (4, .int v4_5), (5, .int v5_3), (6, .int v6_8), (7, .int v7_7)]) hx hb dX9_keeper_89 rfl hl (by decide) rfl (fun ls hl => ?_)
                  refine lv_iload hx hb dX9_keeper_90 (lv_at hl 5 rfl) ?_
                  refine lv_istore (lv' := [(4, .int v5_3), (3, .int v6_8), (0, .ref h0), (1, .int p1), (2, .ref tn), (5, .int v5_3), (6, .int v6_8), (7, .int v7_7)]) hx hb dX9_keeper_92 hl (by decide) rfl (fun ls hl => ?_)
                  obtain ⟨x_12, ex_12⟩ : ∃ z : Int32, z = v5_3 + Int32.ofInt 1 := ⟨_, rfl⟩
                  have b_x_12 : x_12.toInt = v5_3.toInt + 1 := by rw [ex_12]; exact zi_add rfl (show (Int32.ofInt 1).toInt = 1 from by decide) (by first | with_reducible assumption | omega)
                  refine lv_iinc (v := x_12) (lv' := [(5, .int x_12), (4, .int v5_3), (3, .int v6_8), (0, .ref h0), (1, .int p1), (2, .ref tn), (6, .int v6_8), (7, .int v7_7)]) hx hb dX9_keeper_94 hl (k := 5) rfl ex_12.symm (by decide) rfl (fun ls hl => ?_)
                  replace hF := hF.trans (zL_eq ex_12)
                  refine lv_goto (tgt := 27) hx hb dX9_keeper_97 (by decide) ?_
                  exact ih_1 v6_8 v5_3 x_12 (by first | with_reducible assumption | omega) (by first | with_reducible assumption | omega) (by first | with_reducible assumption | omega) _ _ _ (by first | with_reducible assumption | omega) hF (hP.sub (ws' := [(h0, .inr (9, [.ref tp, .int h0_tapeLength, .int h0_faultKind, .int h0_faultPlace, .ref nw, .ref im, .ref sl, .ref rd, .ref wk, .ref fm, .ref mt, .ref ch, .ref dy])), (nw, .inr (3, [.int nw_isKept, .ref tn, .int nw_strayed, .int nw_names, .int nw_known, .int nw_gone])), (tn_shows, .inl (cA_tn_shows, 10, .inl f_tn_shows)), (tn_told, .inl (cA_tn_told, 480, .inl f_tn_told)), (tn_strayCourts, .inl (cA_tn_strayCourts, 10, .inl f_tn_strayCourts)), (tn, .inr (7, [.int tn_hours, .int tn_courts, .int tn_gateCount, .int tn_people, .int tn_lines, .int tn_falseHours, .int tn_strayers, .int tn_deep, .ref tn_above, .ref tn_doors, .ref tn_degrees, .ref tn_neighbours, .ref tn_shows, .ref tn_oneEnd, .ref tn_otherEnd, .ref tn_told, .ref tn_strayParts, .ref tn_strayCourts]))]) [0, 1, 2, 3, 4, 5] rfl) (hD.sub (ws' := [(h0, .inr (9, [.ref tp, .int h0_tapeLength, .int h0_faultKind, .int h0_faultPlace, .ref nw, .ref im, .ref sl, .ref rd, .ref wk, .ref fm, .ref mt, .ref ch, .ref dy])), (nw, .inr (3, [.int nw_isKept, .ref tn, .int nw_strayed, .int nw_names, .int nw_known, .int nw_gone])), (tn_shows, .inl (cA_tn_shows, 10, .inl f_tn_shows)), (tn_told, .inl (cA_tn_told, 480, .inl f_tn_told)), (tn_strayCourts, .inl (cA_tn_strayCourts, 10, .inl f_tn_strayCourts)), (tn, .inr (7, [.int tn_hours, .int tn_courts, .int tn_gateCount, .int tn_people, .int tn_lines, .int tn_falseHours, .int tn_strayers, .int tn_deep, .ref tn_above, .ref tn_doors, .ref tn_degrees, .ref tn_neighbours, .ref tn_shows, .ref tn_oneEnd, .ref tn_otherEnd, .ref tn_told, .ref tn_strayParts, .ref tn_strayCourts]))]) [0, 1, 2, 3, 4, 5] (by decide) rfl) hS (lv_sub hl [3, 4, 5, 2, 1, 0] rfl)
              · have ic_9 := zz_nge rfl rfl c_9
                replace hF := hF.trans (if_neg c_9)
                refine lv_aload_n hx hb dX9_keeper_51 rfl (lv_at hl 2 rfl) ?_
                refine lv_iload_n hx hb dX9_keeper_52 rfl (lv_at hl 1 rfl) ?_
                refine lv_iload hx hb dX9_keeper_53 (lv_at hl 7 rfl) ?_
                refine lv_aload_n hx hb dX9_keeper_55 rfl (lv_at hl 0 rfl) ?_
                refine va_get (D := (dC, dI)) (ci := 9) (v := .ref nw) (C := RX9) (T := TX9) (N := 13) hx hb hts zl_X9 hown hK hP 0 rfl rfl 4 (by decide) (hts _ zw_t2_193) (fun _ h9 => h9) rfl dX9_keeper_56 ?_
                refine va_get (D := (dC, dI)) (ci := 3) (v := .int nw_strayed) (C := RX3) (T := TX3) (N := 6) hx hb hts zl_X3 hown hK hP 1 rfl rfl 2 (by decide) (hts _ zw_t1_159) (fun _ h9 => h9) rfl dX9_keeper_59 ?_
                obtain ⟨hPc, hDc, hFc⟩ := z_cut (wc := [(tn, .inr (7, [.int tn_hours, .int tn_courts, .int tn_gateCount, .int tn_people, .int tn_lines, .int tn_falseHours, .int tn_strayers, .int tn_deep, .ref tn_above, .ref tn_doors, .ref tn_degrees, .ref tn_neighbours, .ref tn_shows, .ref tn_oneEnd, .ref tn_otherEnd, .ref tn_told, .ref tn_strayParts, .ref tn_strayCourts])), (tn_shows, .inl (cA_tn_shows, 10, .inl f_tn_shows)), (tn_told, .inl (cA_tn_told, 480, .inl f_tn_told)), (tn_strayCourts, .inl (cA_tn_strayCourts, 10, .inl f_tn_strayCourts))]) hP hD hS hA [5, 2, 3, 4] rfl (by decide +kernel)
                have hKc := hK.sub (tys' := [(cA_tn_shows, .int), (cA_tn_told, .int), (cA_tn_strayCourts, .int)]) [0, 1, 2] rfl
                refine va_calli (va_runV (As := [.int p1, .int v7_7, .int nw_strayed]) (rest := []) ⟨hx, hb, hml, hown, hts⟩ (kf_X7_inside l sa dC dI tn p1 v7_7 nw_strayed tn_hours tn_courts tn_gateCount tn_people tn_lines tn_falseHours tn_strayers tn_deep tn_above tn_doors tn_degrees tn_neighbours tn_shows tn_oneEnd tn_otherEnd tn_told tn_strayParts tn_strayCourts cA_tn_shows f_tn_shows cA_tn_told f_tn_told cA_tn_strayCourts f_tn_strayCourts (by first | with_reducible assumption | omega) (by first | with_reducible assumption | omega) (by first | with_reducible assumption | omega) (by first | with_reducible assumption | omega) (by first | with_reducible assumption | omega) (by first | with_reducible assumption | omega) (by first | with_reducible assumption | omega) b_f_tn_told b_f_tn_strayCourts H.size) (cwV 3 hts (z_gV zw_t3_201 zw_t3_202 zw_t3_203 zw_t1_3 zw_t3_204) rfl rfl rfl (by decide +kernel) (by rw [← hRe]; exact ⟨(Nat.le_of_ble_eq_true rfl), (Nat.le_of_ble_eq_true rfl)⟩)) (z_preV hPc hKc hDc hN hXs hS hFc (q := (RX7, TX7, 18)) (ci := 7) (q0 := 0) rfl rfl) rfl rfl hl.1 rfl (lv_room (Nat.le_of_ble_eq_true rfl)) dX9_keeper_62 (by rw [← hRe]; exact ⟨(Nat.le_of_ble_eq_true rfl), (Nat.le_of_ble_eq_true rfl)⟩)) hS (fun q _ h => hFc q h) hFc (fun r_13 u t H1 locs ht hvm hw hB hz1 hk1 hS => ?_)
                obtain ⟨hP, hD, hK⟩ := z_after3 (wn := [(h0, .inr (9, [.ref tp, .int h0_tapeLength, .int h0_faultKind, .int h0_faultPlace, .ref nw, .ref im, .ref sl, .ref rd, .ref wk, .ref fm, .ref mt, .ref ch, .ref dy])), (nw, .inr (3, [.int nw_isKept, .ref tn, .int nw_strayed, .int nw_names, .int nw_known, .int nw_gone])), (tn, .inr (7, [.int tn_hours, .int tn_courts, .int tn_gateCount, .int tn_people, .int tn_lines, .int tn_falseHours, .int tn_strayers, .int tn_deep, .ref tn_above, .ref tn_doors, .ref tn_degrees, .ref tn_neighbours, .ref tn_shows, .ref tn_oneEnd, .ref tn_otherEnd, .ref tn_told, .ref tn_strayParts, .ref tn_strayCourts])), (tn_shows, .inl (cA_tn_shows, 10, .inl f_tn_shows)), (tn_told, .inl (cA_tn_told, 480, .inl f_tn_told)), (tn_strayCourts, .inl (cA_tn_strayCourts, 10, .inl f_tn_strayCourts))]) hB ht hvm hP hD hK [5, 2, 3, 4] [0, 1] rfl 6 rfl (by decide +kernel) rfl (by decide +kernel) hk1 hFc
                generalize H1 = H at hP hS ⊢
                have hK : va_K (dC, dI) vwCl [(cA_tn_shows, .int), (cA_tn_told, .int), (cA_tn_strayCourts, .int)] s := hK
                have b_r_13 : 0 ≤ r_13.toInt ∧ r_13.toInt ≤ 1023 := hw.1
                have sf_r_13 := hw.2
                replace hF := hF.trans (zL_eq sf_r_13)
                refine lv_iconst (v := 1) hx hb dX9_keeper_65 (by decide) ?_
                refine lv_iload hx hb dX9_keeper_66 (lv_at hl 5 rfl) ?_
                refine lv_ishl hx hb dX9_keeper_68 ?_
                refine lv_topi (fun x_14 ex_14 => ?_)
                replace hF := hF.trans (zL_eq ex_14)
                have b_x_14 : 1 ≤ x_14.toInt ∧ x_14.toInt ≤ 512 := by rw [ex_14]; exact zi_shl9 rfl (by first | with_reducible assumption | omega)
                refine lv_icmp_ne (tgt := 75) hx hb dX9_keeper_69 (by decide) (fun c_15 => ?_) (fun c_15 => ?_)
                · have ic_15 := zz_ne rfl rfl c_15
                  replace hF := hF.trans (if_neg c_15)
                  obtain ⟨x_16, ex_16⟩ : ∃ z : Int32, z = v7_7 + Int32.ofInt 1 := ⟨_, rfl⟩
                  have b_x_16 : x_16.toInt = v7_7.toInt + 1 := by rw [ex_16]; exact zi_add rfl (show (Int32.ofInt 1).toInt = 1 from by decide) (by first | with_reducible assumption | omega)
                  refine lv_iinc (v := x_16) (lv' := [(7, .int x_16), (0, .ref h0), (1, .int p1), (2, .ref tn), (3, .int v3_4), (4, .int v4_5), (5, .int v5_3), (6, .int v6_8)]) hx hb dX9_keeper_75 hl (k := 7) rfl ex_16.symm (by decide) rfl (fun ls hl => ?_)
                  replace hF := hF.trans (zL_eq ex_16)
                  refine lv_goto (tgt := 42) hx hb dX9_keeper_78 (by decide) ?_
                  exact ih_2 v6_8 x_16 (by first | with_reducible assumption | omega) _ _ _ (by first | with_reducible assumption | omega) hF (hP.sub (ws' := [(h0, .inr (9, [.ref tp, .int h0_tapeLength, .int h0_faultKind, .int h0_faultPlace, .ref nw, .ref im, .ref sl, .ref rd, .ref wk, .ref fm, .ref mt, .ref ch, .ref dy])), (nw, .inr (3, [.int nw_isKept, .ref tn, .int nw_strayed, .int nw_names, .int nw_known, .int nw_gone])), (tn_shows, .inl (cA_tn_shows, 10, .inl f_tn_shows)), (tn_told, .inl (cA_tn_told, 480, .inl f_tn_told)), (tn_strayCourts, .inl (cA_tn_strayCourts, 10, .inl f_tn_strayCourts)), (tn, .inr (7, [.int tn_hours, .int tn_courts, .int tn_gateCount, .int tn_people, .int tn_lines, .int tn_falseHours, .int tn_strayers, .int tn_deep, .ref tn_above, .ref tn_doors, .ref tn_degrees, .ref tn_neighbours, .ref tn_shows, .ref tn_oneEnd, .ref tn_otherEnd, .ref tn_told, .ref tn_strayParts, .ref tn_strayCourts]))]) [0, 1, 3, 4, 5, 2] rfl) (hD.sub (ws' := [(h0, .inr (9, [.ref tp, .int h0_tapeLength, .int h0_faultKind, .int h0_faultPlace, .ref nw, .ref im, .ref sl, .ref rd, .ref wk, .ref fm, .ref mt, .ref ch, .ref dy])), (nw, .inr (3, [.int nw_isKept, .ref tn, .int nw_strayed, .int nw_names, .int nw_known, .int nw_gone])), (tn_shows, .inl (cA_tn_shows, 10, .inl f_tn_shows)), (tn_told, .inl (cA_tn_told, 480, .inl f_tn_told)), (tn_strayCourts, .inl (cA_tn_strayCourts, 10, .inl f_tn_strayCourts)), (tn, .inr (7, [.int tn_hours, .int tn_courts, .int tn_gateCount, .int tn_people, .int tn_lines, .int tn_falseHours, .int tn_strayers, .int tn_deep, .ref tn_above, .ref tn_doors, .ref tn_degrees, .ref tn_neighbours, .ref tn_shows, .ref tn_oneEnd, .ref tn_otherEnd, .ref tn_told, .ref tn_strayParts, .ref tn_strayCourts]))]) [0, 1, 3, 4, 5, 2] (by decide) rfl) hS (lv_sub hl [1, 2, 3, 4, 5, 6, 7, 0] rfl)
                · have ic_15 := zz_nne rfl rfl c_15
                  replace hF := hF.trans (if_pos c_15)
                  obtain ⟨x_17, ex_17⟩ : ∃ z : Int32, z = v6_8 + Int32.ofInt 1 := ⟨_, rfl⟩
                  refine lv_iinc (v := x_17) (lv' := [(6, .int x_17), (0, .ref h0), (1, .int p1), (2, .ref tn), (3, .int v3_4), (4, .int v4_5), (5, .int v5_3), (7, .int v7_7)]) hx hb dX9_keeper_72 hl (k := 6) rfl ex_17.symm (by decide) rfl (fun ls hl => ?_)
                  replace hF := hF.trans (zL_eq ex_17)
                  obtain ⟨x_18, ex_18⟩ : ∃ z : Int32, z = v7_7 + Int32.ofInt 1 := ⟨_, rfl⟩
                  have b_x_18 : x_18.toInt = v7_7.toInt + 1 := by rw [ex_18]; exact zi_add rfl (show (Int32.ofInt 1).toInt = 1 from by decide) (by first | with_reducible assumption | omega)
                  refine lv_iinc (v := x_18) (lv' := [(7, .int x_18), (6, .int x_17), (0, .ref h0), (1, .int p1), (2, .ref tn), (3, .int v3_4), (4, .int v4_5), (5, .int v5_3)]) hx hb dX9_keeper_75 hl (k := 7) rfl ex_18.symm (by decide) rfl (fun ls hl => ?_)
                  replace hF := hF.trans (zL_eq ex_18)
                  refine lv_goto (tgt := 42) hx hb dX9_keeper_78 (by decide) ?_
                  exact ih_2 x_17 x_18 (by first | with_reducible assumption | omega) _ _ _ (by first | with_reducible assumption | omega) hF (hP.sub (ws' := [(h0, .inr (9, [.ref tp, .int h0_tapeLength, .int h0_faultKind, .int h0_faultPlace, .ref nw, .ref im, .ref sl, .ref rd, .ref wk, .ref fm, .ref mt, .ref ch, .ref dy])), (nw, .inr (3, [.int nw_isKept, .ref tn, .int nw_strayed, .int nw_names, .int nw_known, .int nw_gone])), (tn_shows, .inl (cA_tn_shows, 10, .inl f_tn_shows)), (tn_told, .inl (cA_tn_told, 480, .inl f_tn_told)), (tn_strayCourts, .inl (cA_tn_strayCourts, 10, .inl f_tn_strayCourts)), (tn, .inr (7, [.int tn_hours, .int tn_courts, .int tn_gateCount, .int tn_people, .int tn_lines, .int tn_falseHours, .int tn_strayers, .int tn_deep, .ref tn_above, .ref tn_doors, .ref tn_degrees, .ref tn_neighbours, .ref tn_shows, .ref tn_oneEnd, .ref tn_otherEnd, .ref tn_told, .ref tn_strayParts, .ref tn_strayCourts]))]) [0, 1, 3, 4, 5, 2] rfl) (hD.sub (ws' := [(h0, .inr (9, [.ref tp, .int h0_tapeLength, .int h0_faultKind, .int h0_faultPlace, .ref nw, .ref im, .ref sl, .ref rd, .ref wk, .ref fm, .ref mt, .ref ch, .ref dy])), (nw, .inr (3, [.int nw_isKept, .ref tn, .int nw_strayed, .int nw_names, .int nw_known, .int nw_gone])), (tn_shows, .inl (cA_tn_shows, 10, .inl f_tn_shows)), (tn_told, .inl (cA_tn_told, 480, .inl f_tn_told)), (tn_strayCourts, .inl (cA_tn_strayCourts, 10, .inl f_tn_strayCourts)), (tn, .inr (7, [.int tn_hours, .int tn_courts, .int tn_gateCount, .int tn_people, .int tn_lines, .int tn_falseHours, .int tn_strayers, .int tn_deep, .ref tn_above, .ref tn_doors, .ref tn_degrees, .ref tn_neighbours, .ref tn_shows, .ref tn_oneEnd, .ref tn_otherEnd, .ref tn_told, .ref tn_strayParts, .ref tn_strayCourts]))]) [0, 1, 3, 4, 5, 2] (by decide) rfl) hS (lv_sub hl [2, 3, 4, 5, 6, 7, 1, 0] rfl)
          exact loop_2 50 (0) (0) (by decide) _ _ _ (by decide) hF hP hD hS (lv_sub hl [2, 3, 4, 5, 6, 7, 1, 0] rfl)
    exact loop_1 12 (0) (-1) (0) (by decide) (by decide) (by decide) _ _ _ (by decide) hF hP hD hS (lv_sub hl [4, 5, 3, 2, 1, 0] rfl)
  · have ic_2 := zz_nne rfl (show Int32.toInt 0 = 0 from by decide) c_2
    replace hF := hF.trans (if_pos c_2)
    refine lv_bipush (v := (-2)) hx hb dX9_keeper_16 (by decide) ?_
    have hF : RR = (-2 : Int32) := hF
    have zc : Int32.toInt (-2) = (-2) := by decide
    exact W.iret (v := (-2)) hx hb hr (fun t ht hW => by rw [← hQe]; exact ⟨⟨(-2), (), rfl, ⟨by decide, (by rw [← hRR, hF])⟩, z_ret hP hK hD ht hW [0, 1, 5, 2, 3, 4] [] rfl (by decide) rfl⟩, hS.F ht⟩) hS.2.2 dX9_keeper_18
set_option maxHeartbeats 4000000 in
set_option maxRecDepth 100000 in
theorem kf_X9_hear (l : Launch) (sa : Nat → Nat) (dC : Nat → ClassId) (dI : Nat → Nat → Nat) (h0 : Nat) (p1 : Int32) (p2 : Int32) (p3 : Int32) (p4 : Int32) (tp : Nat) (h0_tapeLength : Int32) (h0_faultKind : Int32) (h0_faultPlace : Int32) (nw : Nat) (im : Nat) (sl : Nat) (rd : Nat) (wk : Nat) (fm : Nat) (mt : Nat) (ch : Nat) (dy : Nat) (nw_isKept : Int32) (tn : Nat) (nw_strayed : Int32) (nw_names : Int32) (nw_known : Int32) (nw_gone : Int32) (tn_hours : Int32) (tn_courts : Int32) (tn_gateCount : Int32) (tn_people : Int32) (tn_lines : Int32) (tn_falseHours : Int32) (tn_strayers : Int32) (tn_deep : Int32) (tn_above : Nat) (tn_doors : Nat) (tn_degrees : Nat) (tn_neighbours : Nat) (tn_shows : Nat) (tn_oneEnd : Nat) (tn_otherEnd : Nat) (tn_told : Nat) (tn_strayParts : Nat) (tn_strayCourts : Nat) (cA_tn_shows : ClassId) (f_tn_shows : Nat → Int32) (cA_tn_told : ClassId) (f_tn_told : Nat → Int32) (cA_tn_strayCourts : ClassId) (f_tn_strayCourts : Nat → Int32) (b_h0_tapeLength : 0 ≤ h0_tapeLength.toInt ∧ h0_tapeLength.toInt ≤ 1600) (b_nw_isKept : 0 ≤ nw_isKept.toInt ∧ nw_isKept.toInt ≤ 1) (b_nw_names : 0 ≤ nw_names.toInt ∧ nw_names.toInt ≤ 1023) (b_tn_hours : 0 ≤ tn_hours.toInt ∧ tn_hours.toInt ≤ 48) (b_tn_courts : 0 ≤ tn_courts.toInt ∧ tn_courts.toInt ≤ 10) (b_tn_gateCount : 0 ≤ tn_gateCount.toInt ∧ tn_gateCount.toInt ≤ 16) (b_tn_people : 0 ≤ tn_people.toInt ∧ tn_people.toInt ≤ 10) (b_tn_falseHours : 0 ≤ tn_falseHours.toInt ∧ tn_falseHours.toInt ≤ 9) (b_tn_deep : 0 ≤ tn_deep.toInt ∧ tn_deep.toInt ≤ 1) (b_f_tn_told : ∀ j : Nat, 0 ≤ (f_tn_told j).toInt ∧ (f_tn_told j).toInt ≤ 9) (b_f_tn_strayCourts : ∀ j : Nat, 0 ≤ (f_tn_strayCourts j).toInt ∧ (f_tn_strayCourts j).toInt ≤ 9) (sz : Nat) : Met l yX9_hear (.code yX9_hear cX9_hear 11 (some .int) :: zT) ({ frames := 2, cells := 0, slots := 0, locals := 47 }) (va_Pc [.ref h0, .int p1, .int p2, .int p3, .int p4] (zB sa dC dI [(h0, .inr (9, [.ref tp, .int h0_tapeLength, .int h0_faultKind, .int h0_faultPlace, .ref nw, .ref im, .ref sl, .ref rd, .ref wk, .ref fm, .ref mt, .ref ch, .ref dy])), (nw, .inr (3, [.int nw_isKept, .ref tn, .int nw_strayed, .int nw_names, .int nw_known, .int nw_gone])), (tn, .inr (7, [.int tn_hours, .int tn_courts, .int tn_gateCount, .int tn_people, .int tn_lines, .int tn_falseHours, .int tn_strayers, .int tn_deep, .ref tn_above, .ref tn_doors, .ref tn_degrees, .ref tn_neighbours, .ref tn_shows, .ref tn_oneEnd, .ref tn_otherEnd, .ref tn_told, .ref tn_strayParts, .ref tn_strayCourts])), (tn_shows, .inl (cA_tn_shows, 10, .inl f_tn_shows)), (tn_told, .inl (cA_tn_told, 480, .inl f_tn_told)), (tn_strayCourts, .inl (cA_tn_strayCourts, 10, .inl f_tn_strayCourts))] [(cA_tn_shows, .int), (cA_tn_told, .int), (cA_tn_strayCourts, .int)] sz)) (va_Qi (fun (r : Int32) (_ : Unit) => ((-5) ≤ r.toInt ∧ r.toInt ≤ 1) ∧ r = (F_X9_hear p1 p2 p3 p4 nw_known nw_gone tn_hours tn_courts tn_people tn_strayers f_tn_shows f_tn_told f_tn_strayCourts).1) (fun _ t => ∃ (n_nw_4 : Int32) (n_nw_5 : Int32), (n_nw_4 = (F_X9_hear p1 p2 p3 p4 nw_known nw_gone tn_hours tn_courts tn_people tn_strayers f_tn_shows f_tn_told f_tn_strayCourts).2.1) ∧ (n_nw_5 = (F_X9_hear p1 p2 p3 p4 nw_known nw_gone tn_hours tn_courts tn_people tn_strayers f_tn_shows f_tn_told f_tn_strayCourts).2.2) ∧ zW dC dI [(h0, .inr (9, [.ref tp, .int h0_tapeLength, .int h0_faultKind, .int h0_faultPlace, .ref nw, .ref im, .ref sl, .ref rd, .ref wk, .ref fm, .ref mt, .ref ch, .ref dy])), (nw, .inr (3, [.int nw_isKept, .ref tn, .int nw_strayed, .int nw_names, .int n_nw_4, .int n_nw_5])), (tn, .inr (7, [.int tn_hours, .int tn_courts, .int tn_gateCount, .int tn_people, .int tn_lines, .int tn_falseHours, .int tn_strayers, .int tn_deep, .ref tn_above, .ref tn_doors, .ref tn_degrees, .ref tn_neighbours, .ref tn_shows, .ref tn_oneEnd, .ref tn_otherEnd, .ref tn_told, .ref tn_strayParts, .ref tn_strayCourts])), (tn_shows, .inl (cA_tn_shows, 10, .inl f_tn_shows)), (tn_told, .inl (cA_tn_told, 480, .inl f_tn_told)), (tn_strayCourts, .inl (cA_tn_strayCourts, 10, .inl f_tn_strayCourts))] [] (va_A [(h0, .inr (9, [.ref tp, .int h0_tapeLength, .int h0_faultKind, .int h0_faultPlace, .ref nw, .ref im, .ref sl, .ref rd, .ref wk, .ref fm, .ref mt, .ref ch, .ref dy])), (nw, .inr (3, [.int nw_isKept, .ref tn, .int nw_strayed, .int nw_names, .int nw_known, .int nw_gone])), (tn, .inr (7, [.int tn_hours, .int tn_courts, .int tn_gateCount, .int tn_people, .int tn_lines, .int tn_falseHours, .int tn_strayers, .int tn_deep, .ref tn_above, .ref tn_doors, .ref tn_degrees, .ref tn_neighbours, .ref tn_shows, .ref tn_oneEnd, .ref tn_otherEnd, .ref tn_told, .ref tn_strayParts, .ref tn_strayCourts])), (tn_shows, .inl (cA_tn_shows, 10, .inl f_tn_shows)), (tn_told, .inl (cA_tn_told, 480, .inl f_tn_told)), (tn_strayCourts, .inl (cA_tn_strayCourts, 10, .inl f_tn_strayCourts))] sz) t) (va_A [(h0, .inr (9, [.ref tp, .int h0_tapeLength, .int h0_faultKind, .int h0_faultPlace, .ref nw, .ref im, .ref sl, .ref rd, .ref wk, .ref fm, .ref mt, .ref ch, .ref dy])), (nw, .inr (3, [.int nw_isKept, .ref tn, .int nw_strayed, .int nw_names, .int nw_known, .int nw_gone])), (tn, .inr (7, [.int tn_hours, .int tn_courts, .int tn_gateCount, .int tn_people, .int tn_lines, .int tn_falseHours, .int tn_strayers, .int tn_deep, .ref tn_above, .ref tn_doors, .ref tn_degrees, .ref tn_neighbours, .ref tn_shows, .ref tn_oneEnd, .ref tn_otherEnd, .ref tn_told, .ref tn_strayParts, .ref tn_strayCourts])), (tn_shows, .inl (cA_tn_shows, 10, .inl f_tn_shows)), (tn_told, .inl (cA_tn_told, 480, .inl f_tn_told)), (tn_strayCourts, .inl (cA_tn_strayCourts, 10, .inl f_tn_strayCourts))] sz)) 0 0 (va_A [(h0, .inr (9, [.ref tp, .int h0_tapeLength, .int h0_faultKind, .int h0_faultPlace, .ref nw, .ref im, .ref sl, .ref rd, .ref wk, .ref fm, .ref mt, .ref ch, .ref dy])), (nw, .inr (3, [.int nw_isKept, .ref tn, .int nw_strayed, .int nw_names, .int nw_known, .int nw_gone])), (tn, .inr (7, [.int tn_hours, .int tn_courts, .int tn_gateCount, .int tn_people, .int tn_lines, .int tn_falseHours, .int tn_strayers, .int tn_deep, .ref tn_above, .ref tn_doors, .ref tn_degrees, .ref tn_neighbours, .ref tn_shows, .ref tn_oneEnd, .ref tn_otherEnd, .ref tn_told, .ref tn_strayParts, .ref tn_strayCourts])), (tn_shows, .inl (cA_tn_shows, 10, .inl f_tn_shows)), (tn_told, .inl (cA_tn_told, 480, .inl f_tn_told)), (tn_strayCourts, .inl (cA_tn_strayCourts, 10, .inl f_tn_strayCourts))] sz) := by
  refine z_enter (by decide) (by exact (Nat.le_of_ble_eq_true rfl)) ?_
  intro p e s m args below meth c ls A R Qc hargs hsz hQe hAe hRe hx hb hml hr hts hown hlocks hin hl hP hK hD hN hXs hA hS
  rw [hAe] at hQe
  have hown : s.vm.findClass RX9 = some m.cls := hown
  have hl : lv_has ls 11 [(0, .ref h0), (1, .int p1), (2, .int p2), (3, .int p3), (4, .int p4)] := hl
  obtain ⟨RR, hRR⟩ : ∃ z : Int32 × Int32 × Int32, z = (F_X9_hear p1 p2 p3 p4 nw_known nw_gone tn_hours tn_courts tn_people tn_strayers f_tn_shows f_tn_told f_tn_strayCourts) := ⟨_, rfl⟩
  have hF : RR = (F_X9_hear p1 p2 p3 p4 nw_known nw_gone tn_hours tn_courts tn_people tn_strayers f_tn_shows f_tn_told f_tn_strayCourts) := hRR
  refine lv_aload_n hx hb dX9_hear_0 rfl (lv_at hl 0 rfl) ?_
  refine va_get (D := (dC, dI)) (ci := 9) (v := .ref nw) (C := RX9) (T := TX9) (N := 13) hx hb hts zl_X9 hown hK hP 0 rfl rfl 4 (by decide) (hts _ zw_t2_193) (fun _ h9 => h9) rfl dX9_hear_1 ?_
  refine va_get (D := (dC, dI)) (ci := 3) (v := .ref tn) (C := RX3) (T := TX3) (N := 6) hx hb hts zl_X3 hown hK hP 1 rfl rfl 1 (by decide) (hts _ zw_t1_156) (fun _ h9 => h9) rfl dX9_hear_4 ?_
  refine lv_astore (lv' := [(5, .ref tn), (0, .ref h0), (1, .int p1), (2, .int p2), (3, .int p3), (4, .int p4)]) hx hb dX9_hear_7 hl (by decide) rfl (fun ls hl => ?_)
  refine lv_aload hx hb dX9_hear_9 (lv_at hl 0 rfl) ?_
  refine lv_iload_n hx hb dX9_hear_11 rfl (lv_at hl 2 rfl) ?_
  obtain ⟨hPc, hDc, hFc⟩ := z_cut (wc := [(tn, .inr (7, [.int tn_hours, .int tn_courts, .int tn_gateCount, .int tn_people, .int tn_lines, .int tn_falseHours, .int tn_strayers, .int tn_deep, .ref tn_above, .ref tn_doors, .ref tn_degrees, .ref tn_neighbours, .ref tn_shows, .ref tn_oneEnd, .ref tn_otherEnd, .ref tn_told, .ref tn_strayParts, .ref tn_strayCourts]))]) hP hD hS hA [2] rfl (by decide +kernel)
  have hKc := hK.sub (tys' := []) [] rfl
  refine va_calli (va_runV (As := [.int p1]) (rest := []) ⟨hx, hb, hml, hown, hts⟩ (kf_X7_hasPerson l sa dC dI tn p1 tn_hours tn_courts tn_gateCount tn_people tn_lines tn_falseHours tn_strayers tn_deep tn_above tn_doors tn_degrees tn_neighbours tn_shows tn_oneEnd tn_otherEnd tn_told tn_strayParts tn_strayCourts (by first | with_reducible assumption | omega) (by first | with_reducible assumption | omega) (by first | with_reducible assumption | omega) (by first | with_reducible assumption | omega) (by first | with_reducible assumption | omega) (by first | with_reducible assumption | omega) s.heap.size) (cwV 1 hts (z_gV zw_t3_181 zw_t3_182 zw_t3_183 zw_t1_3 zw_t3_184) rfl rfl rfl (by decide +kernel) (by rw [← hRe]; exact ⟨(Nat.le_of_ble_eq_true rfl), (Nat.le_of_ble_eq_true rfl)⟩)) (z_preV hPc hKc hDc hN hXs hS hFc (q := (RX7, TX7, 18)) (ci := 7) (q0 := 0) rfl rfl) rfl rfl hl.1 rfl (lv_room (Nat.le_of_ble_eq_true rfl)) dX9_hear_12 (by rw [← hRe]; exact ⟨(Nat.le_of_ble_eq_true rfl), (Nat.le_of_ble_eq_true rfl)⟩)) hS (fun q _ h => hFc q h) hFc (fun r_1 u t H1 locs ht hvm hw hB hz1 hk1 hS => ?_)
  obtain ⟨hP, hD, hK⟩ := z_after3 (wn := [(h0, .inr (9, [.ref tp, .int h0_tapeLength, .int h0_faultKind, .int h0_faultPlace, .ref nw, .ref im, .ref sl, .ref rd, .ref wk, .ref fm, .ref mt, .ref ch, .ref dy])), (nw, .inr (3, [.int nw_isKept, .ref tn, .int nw_strayed, .int nw_names, .int nw_known, .int nw_gone])), (tn_shows, .inl (cA_tn_shows, 10, .inl f_tn_shows)), (tn_told, .inl (cA_tn_told, 480, .inl f_tn_told)), (tn_strayCourts, .inl (cA_tn_strayCourts, 10, .inl f_tn_strayCourts)), (tn, .inr (7, [.int tn_hours, .int tn_courts, .int tn_gateCount, .int tn_people, .int tn_lines, .int tn_falseHours, .int tn_strayers, .int tn_deep, .ref tn_above, .ref tn_doors, .ref tn_degrees, .ref tn_neighbours, .ref tn_shows, .ref tn_oneEnd, .ref tn_otherEnd, .ref tn_told, .ref tn_strayParts, .ref tn_strayCourts]))]) hB ht hvm hP hD hK [2] [0, 1, 3, 4, 5] rfl 6 rfl (by decide +kernel) rfl (by decide +kernel) hk1 hFc
  generalize H1 = H at hP hS ⊢
  have hK : va_K (dC, dI) vwCl [(cA_tn_shows, .int), (cA_tn_told, .int), (cA_tn_strayCourts, .int)] s := hK
  have b_r_1 : 0 ≤ r_1.toInt ∧ r_1.toInt ≤ 1 := hw.1
  have s_r_1 := hw.2.1
  have sf_r_1 := hw.2.2
  replace hF := hF.trans (zL_eq sf_r_1)
  refine lv_if_eq (tgt := 36) hx hb dX9_hear_15 (by decide) (fun c_2 => ?_) (fun c_2 => ?_)
  · have ic_2 := zz_eq rfl (show Int32.toInt 0 = 0 from by decide) c_2
    replace hF := hF.trans (if_pos c_2)
    refine lv_bipush (v := (-2)) hx hb dX9_hear_36 (by decide) ?_
    have hF : RR = ((-2 : Int32), nw_known, nw_gone) := hF
    have zc : Int32.toInt (-2) = (-2) := by decide
    exact W.iret (v := (-2)) hx hb hr (fun t ht hW => by rw [← hQe]; exact ⟨⟨(-2), (), rfl, ⟨by decide, (by rw [← hRR, hF])⟩, ⟨nw_known, nw_gone, (by rw [← hRR, hF]), (by rw [← hRR, hF]), z_ret hP hK hD ht hW [0, 1, 5, 2, 3, 4] [] rfl (by decide) rfl⟩⟩, hS.F ht⟩) hS.2.2 dX9_hear_38
  · have ic_2 := zz_neq rfl (show Int32.toInt 0 = 0 from by decide) c_2
    replace hF := hF.trans (if_neg c_2)
    refine lv_aload hx hb dX9_hear_18 (lv_at hl 0 rfl) ?_
    refine lv_iload_n hx hb dX9_hear_20 rfl (lv_at hl 3 rfl) ?_
    obtain ⟨hPc, hDc, hFc⟩ := z_cut (wc := [(tn, .inr (7, [.int tn_hours, .int tn_courts, .int tn_gateCount, .int tn_people, .int tn_lines, .int tn_falseHours, .int tn_strayers, .int tn_deep, .ref tn_above, .ref tn_doors, .ref tn_degrees, .ref tn_neighbours, .ref tn_shows, .ref tn_oneEnd, .ref tn_otherEnd, .ref tn_told, .ref tn_strayParts, .ref tn_strayCourts]))]) hP hD hS hA [5] rfl (by decide +kernel)
    have hKc := hK.sub (tys' := []) [] rfl
    refine va_calli (va_runV (As := [.int p2]) (rest := []) ⟨hx, hb, hml, hown, hts⟩ (kf_X7_hasCourt l sa dC dI tn p2 tn_hours tn_courts tn_gateCount tn_people tn_lines tn_falseHours tn_strayers tn_deep tn_above tn_doors tn_degrees tn_neighbours tn_shows tn_oneEnd tn_otherEnd tn_told tn_strayParts tn_strayCourts (by first | with_reducible assumption | omega) (by first | with_reducible assumption | omega) (by first | with_reducible assumption | omega) (by first | with_reducible assumption | omega) (by first | with_reducible assumption | omega) (by first | with_reducible assumption | omega) H.size) (cwV 1 hts (z_gV zw_t3_197 zw_t3_198 zw_t3_199 zw_t1_3 zw_t3_200) rfl rfl rfl (by decide +kernel) (by rw [← hRe]; exact ⟨(Nat.le_of_ble_eq_true rfl), (Nat.le_of_ble_eq_true rfl)⟩)) (z_preV hPc hKc hDc hN hXs hS hFc (q := (RX7, TX7, 18)) (ci := 7) (q0 := 0) rfl rfl) rfl rfl hl.1 rfl (lv_room (Nat.le_of_ble_eq_true rfl)) dX9_hear_21 (by rw [← hRe]; exact ⟨(Nat.le_of_ble_eq_true rfl), (Nat.le_of_ble_eq_true rfl)⟩)) hS (fun q _ h => hFc q h) hFc (fun r_3 u t H1 locs ht hvm hw hB hz1 hk1 hS => ?_)
    obtain ⟨hP, hD, hK⟩ := z_after3 (wn := [(h0, .inr (9, [.ref tp, .int h0_tapeLength, .int h0_faultKind, .int h0_faultPlace, .ref nw, .ref im, .ref sl, .ref rd, .ref wk, .ref fm, .ref mt, .ref ch, .ref dy])), (nw, .inr (3, [.int nw_isKept, .ref tn, .int nw_strayed, .int nw_names, .int nw_known, .int nw_gone])), (tn_shows, .inl (cA_tn_shows, 10, .inl f_tn_shows)), (tn_told, .inl (cA_tn_told, 480, .inl f_tn_told)), (tn_strayCourts, .inl (cA_tn_strayCourts, 10, .inl f_tn_strayCourts)), (tn, .inr (7, [.int tn_hours, .int tn_courts, .int tn_gateCount, .int tn_people, .int tn_lines, .int tn_falseHours, .int tn_strayers, .int tn_deep, .ref tn_above, .ref tn_doors, .ref tn_degrees, .ref tn_neighbours, .ref tn_shows, .ref tn_oneEnd, .ref tn_otherEnd, .ref tn_told, .ref tn_strayParts, .ref tn_strayCourts]))]) hB ht hvm hP hD hK [5] [0, 1, 2, 3, 4] rfl 6 rfl (by decide +kernel) rfl (by decide +kernel) hk1 hFc
    generalize H1 = H at hP hS ⊢
    have hK : va_K (dC, dI) vwCl [(cA_tn_shows, .int), (cA_tn_told, .int), (cA_tn_strayCourts, .int)] s := hK
    have b_r_3 : 0 ≤ r_3.toInt ∧ r_3.toInt ≤ 1 := hw.1
    have s_r_3 := hw.2.1
    have sf_r_3 := hw.2.2
    replace hF := hF.trans (zL_eq sf_r_3)
    refine lv_if_eq (tgt := 36) hx hb dX9_hear_24 (by decide) (fun c_4 => ?_) (fun c_4 => ?_)
    · have ic_4 := zz_eq rfl (show Int32.toInt 0 = 0 from by decide) c_4
      replace hF := hF.trans (if_pos c_4)
      refine lv_bipush (v := (-2)) hx hb dX9_hear_36 (by decide) ?_
      have hF : RR = ((-2 : Int32), nw_known, nw_gone) := hF
      have zc : Int32.toInt (-2) = (-2) := by decide
      exact W.iret (v := (-2)) hx hb hr (fun t ht hW => by rw [← hQe]; exact ⟨⟨(-2), (), rfl, ⟨by decide, (by rw [← hRR, hF])⟩, ⟨nw_known, nw_gone, (by rw [← hRR, hF]), (by rw [← hRR, hF]), z_ret hP hK hD ht hW [0, 1, 5, 2, 3, 4] [] rfl (by decide) rfl⟩⟩, hS.F ht⟩) hS.2.2 dX9_hear_38
    · have ic_4 := zz_neq rfl (show Int32.toInt 0 = 0 from by decide) c_4
      replace hF := hF.trans (if_neg c_4)
      refine lv_aload hx hb dX9_hear_27 (lv_at hl 0 rfl) ?_
      refine lv_iload_n hx hb dX9_hear_29 rfl (lv_at hl 4 rfl) ?_
      obtain ⟨hPc, hDc, hFc⟩ := z_cut (wc := [(tn, .inr (7, [.int tn_hours, .int tn_courts, .int tn_gateCount, .int tn_people, .int tn_lines, .int tn_falseHours, .int tn_strayers, .int tn_deep, .ref tn_above, .ref tn_doors, .ref tn_degrees, .ref tn_neighbours, .ref tn_shows, .ref tn_oneEnd, .ref tn_otherEnd, .ref tn_told, .ref tn_strayParts, .ref tn_strayCourts]))]) hP hD hS hA [5] rfl (by decide +kernel)
      have hKc := hK.sub (tys' := []) [] rfl
      refine va_calli (va_runV (As := [.int p3]) (rest := []) ⟨hx, hb, hml, hown, hts⟩ (kf_X7_hasHour l sa dC dI tn p3 tn_hours tn_courts tn_gateCount tn_people tn_lines tn_falseHours tn_strayers tn_deep tn_above tn_doors tn_degrees tn_neighbours tn_shows tn_oneEnd tn_otherEnd tn_told tn_strayParts tn_strayCourts (by first | with_reducible assumption | omega) (by first | with_reducible assumption | omega) (by first | with_reducible assumption | omega) (by first | with_reducible assumption | omega) (by first | with_reducible assumption | omega) (by first | with_reducible assumption | omega) H.size) (cwV 1 hts (z_gV zw_t3_185 zw_t3_186 zw_t3_187 zw_t1_3 zw_t3_188) rfl rfl rfl (by decide +kernel) (by rw [← hRe]; exact ⟨(Nat.le_of_ble_eq_true rfl), (Nat.le_of_ble_eq_true rfl)⟩)) (z_preV hPc hKc hDc hN hXs hS hFc (q := (RX7, TX7, 18)) (ci := 7) (q0 := 0) rfl rfl) rfl rfl hl.1 rfl (lv_room (Nat.le_of_ble_eq_true rfl)) dX9_hear_30 (by rw [← hRe]; exact ⟨(Nat.le_of_ble_eq_true rfl), (Nat.le_of_ble_eq_true rfl)⟩)) hS (fun q _ h => hFc q h) hFc (fun r_5 u t H1 locs ht hvm hw hB hz1 hk1 hS => ?_)
      obtain ⟨hP, hD, hK⟩ := z_after3 (wn := [(h0, .inr (9, [.ref tp, .int h0_tapeLength, .int h0_faultKind, .int h0_faultPlace, .ref nw, .ref im, .ref sl, .ref rd, .ref wk, .ref fm, .ref mt, .ref ch, .ref dy])), (nw, .inr (3, [.int nw_isKept, .ref tn, .int nw_strayed, .int nw_names, .int nw_known, .int nw_gone])), (tn_shows, .inl (cA_tn_shows, 10, .inl f_tn_shows)), (tn_told, .inl (cA_tn_told, 480, .inl f_tn_told)), (tn_strayCourts, .inl (cA_tn_strayCourts, 10, .inl f_tn_strayCourts)), (tn, .inr (7, [.int tn_hours, .int tn_courts, .int tn_gateCount, .int tn_people, .int tn_lines, .int tn_falseHours, .int tn_strayers, .int tn_deep, .ref tn_above, .ref tn_doors, .ref tn_degrees, .ref tn_neighbours, .ref tn_shows, .ref tn_oneEnd, .ref tn_otherEnd, .ref tn_told, .ref tn_strayParts, .ref tn_strayCourts]))]) hB ht hvm hP hD hK [5] [0, 1, 2, 3, 4] rfl 6 rfl (by decide +kernel) rfl (by decide +kernel) hk1 hFc
      generalize H1 = H at hP hS ⊢
      have hK : va_K (dC, dI) vwCl [(cA_tn_shows, .int), (cA_tn_told, .int), (cA_tn_strayCourts, .int)] s := hK
      have b_r_5 : 0 ≤ r_5.toInt ∧ r_5.toInt ≤ 1 := hw.1
      have s_r_5 := hw.2.1
      have sf_r_5 := hw.2.2
      replace hF := hF.trans (zL_eq sf_r_5)
      refine lv_if_ne (tgt := 39) hx hb dX9_hear_33 (by decide) (fun c_6 => ?_) (fun c_6 => ?_)
      · have ic_6 := zz_ne rfl (show Int32.toInt 0 = 0 from by decide) c_6
        replace hF := hF.trans (if_neg c_6)
        refine lv_iconst (v := 1) hx hb dX9_hear_39 (by decide) ?_
        refine lv_iload_n hx hb dX9_hear_40 rfl (lv_at hl 2 rfl) ?_
        refine lv_ishl hx hb dX9_hear_41 ?_
        refine lv_topi (fun x_7 ex_7 => ?_)
        replace hF := hF.trans (zL_eq ex_7)
        have b_x_7 : 1 ≤ x_7.toInt ∧ x_7.toInt ≤ 512 := by rw [ex_7]; exact zi_shl9 rfl (by first | with_reducible assumption | omega)
        refine lv_istore (lv' := [(6, .int x_7), (5, .ref tn), (0, .ref h0), (1, .int p1), (2, .int p2), (3, .int p3), (4, .int p4)]) hx hb dX9_hear_42 hl (by decide) rfl (fun ls hl => ?_)
        refine lv_aload hx hb dX9_hear_44 (lv_at hl 1 rfl) ?_
        refine va_get (D := (dC, dI)) (ci := 7) (v := .int tn_strayers) (C := RX7) (T := TX7) (N := 18) hx hb hts zl_X7 hown hK hP 5 rfl rfl 6 (by decide) (hts _ zw_t1_74) (fun _ h9 => h9) rfl dX9_hear_46 ?_
        refine lv_iload_n hx hb dX9_hear_49 rfl (lv_at hl 3 rfl) ?_
        obtain ⟨hPc, hDc, hFc⟩ := z_cut (wc := []) hP hD hS hA [] rfl (by decide +kernel)
        have hKc := hK.sub (tys' := []) [] rfl
        refine va_calli (va_runS (As := [.int tn_strayers, .int p1]) (rest := []) ⟨hx, hb, hml, hown, hts⟩ (kf_X9_has l sa dC dI tn_strayers p1 H.size) (va_cwS 2 hts (z_gS zw_t4_12 zw_t3_123 zw_t1_1 zw_t3_124) rfl rfl rfl (by decide +kernel) (by rw [← hRe]; exact ⟨(Nat.le_of_ble_eq_true rfl), (Nat.le_of_ble_eq_true rfl)⟩)) (z_preS hPc hKc hDc hN hXs hS hFc) rfl rfl hl.1 rfl (lv_room (Nat.le_of_ble_eq_true rfl)) dX9_hear_50 (by rw [← hRe]; exact ⟨(Nat.le_of_ble_eq_true rfl), (Nat.le_of_ble_eq_true rfl)⟩)) hS (fun q _ h => hFc q h) hFc (fun r_8 u t H1 locs ht hvm hw hB hz1 hk1 hS => ?_)
        obtain ⟨hP, hD, hK⟩ := z_after3 (wn := [(h0, .inr (9, [.ref tp, .int h0_tapeLength, .int h0_faultKind, .int h0_faultPlace, .ref nw, .ref im, .ref sl, .ref rd, .ref wk, .ref fm, .ref mt, .ref ch, .ref dy])), (nw, .inr (3, [.int nw_isKept, .ref tn, .int nw_strayed, .int nw_names, .int nw_known, .int nw_gone])), (tn_shows, .inl (cA_tn_shows, 10, .inl f_tn_shows)), (tn_told, .inl (cA_tn_told, 480, .inl f_tn_told)), (tn_strayCourts, .inl (cA_tn_strayCourts, 10, .inl f_tn_strayCourts)), (tn, .inr (7, [.int tn_hours, .int tn_courts, .int tn_gateCount, .int tn_people, .int tn_lines, .int tn_falseHours, .int tn_strayers, .int tn_deep, .ref tn_above, .ref tn_doors, .ref tn_degrees, .ref tn_neighbours, .ref tn_shows, .ref tn_oneEnd, .ref tn_otherEnd, .ref tn_told, .ref tn_strayParts, .ref tn_strayCourts]))]) hB ht hvm hP hD hK [] [0, 1, 2, 3, 4, 5] rfl 6 rfl (by decide +kernel) rfl (by decide +kernel) hk1 hFc
        generalize H1 = H at hP hS ⊢
        have hK : va_K (dC, dI) vwCl [(cA_tn_shows, .int), (cA_tn_told, .int), (cA_tn_strayCourts, .int)] s := hK
        have b_r_8 : 0 ≤ r_8.toInt ∧ r_8.toInt ≤ 1 := hw.1
        have sf_r_8 := hw.2
        replace hF := hF.trans (zL_eq sf_r_8)
        refine lv_if_eq (tgt := 88) hx hb dX9_hear_53 (by decide) (fun c_9 => ?_) (fun c_9 => ?_)
        · have ic_9 := zz_eq rfl (show Int32.toInt 0 = 0 from by decide) c_9
          replace hF := hF.trans (if_pos c_9)
          refine lv_iconst (v := 0) hx hb dX9_hear_88 (by decide) ?_
          refine lv_istore (lv' := [(7, .int 0), (6, .int x_7), (5, .ref tn), (0, .ref h0), (1, .int p1), (2, .int p2), (3, .int p3), (4, .int p4)]) hx hb dX9_hear_89 hl (by decide) rfl (fun ls hl => ?_)
          refine lv_aload_n hx hb dX9_hear_91 rfl (lv_at hl 3 rfl) ?_
          refine va_get (D := (dC, dI)) (ci := 9) (v := .ref nw) (C := RX9) (T := TX9) (N := 13) hx hb hts zl_X9 hown hK hP 0 rfl rfl 4 (by decide) (hts _ zw_t2_193) (fun _ h9 => h9) rfl dX9_hear_92 ?_
          refine va_get (D := (dC, dI)) (ci := 3) (v := .int nw_known) (C := RX3) (T := TX3) (N := 6) hx hb hts zl_X3 hown hK hP 1 rfl rfl 4 (by decide) (hts _ zw_t1_165) (fun _ h9 => h9) rfl dX9_hear_95 ?_
          refine lv_iload_n hx hb dX9_hear_98 rfl (lv_at hl 4 rfl) ?_
          obtain ⟨hPc, hDc, hFc⟩ := z_cut (wc := []) hP hD hS hA [] rfl (by decide +kernel)
          have hKc := hK.sub (tys' := []) [] rfl
          refine va_calli (va_runS (As := [.int nw_known, .int p1]) (rest := []) ⟨hx, hb, hml, hown, hts⟩ (kf_X9_has l sa dC dI nw_known p1 H.size) (va_cwS 2 hts (z_gS zw_t4_12 zw_t3_123 zw_t1_1 zw_t3_124) rfl rfl rfl (by decide +kernel) (by rw [← hRe]; exact ⟨(Nat.le_of_ble_eq_true rfl), (Nat.le_of_ble_eq_true rfl)⟩)) (z_preS hPc hKc hDc hN hXs hS hFc) rfl rfl hl.1 rfl (lv_room (Nat.le_of_ble_eq_true rfl)) dX9_hear_99 (by rw [← hRe]; exact ⟨(Nat.le_of_ble_eq_true rfl), (Nat.le_of_ble_eq_true rfl)⟩)) hS (fun q _ h => hFc q h) hFc (fun r_10 u t H1 locs ht hvm hw hB hz1 hk1 hS => ?_)
          obtain ⟨hP, hD, hK⟩ := z_after3 (wn := [(h0, .inr (9, [.ref tp, .int h0_tapeLength, .int h0_faultKind, .int h0_faultPlace, .ref nw, .ref im, .ref sl, .ref rd, .ref wk, .ref fm, .ref mt, .ref ch, .ref dy])), (nw, .inr (3, [.int nw_isKept, .ref tn, .int nw_strayed, .int nw_names, .int nw_known, .int nw_gone])), (tn_shows, .inl (cA_tn_shows, 10, .inl f_tn_shows)), (tn_told, .inl (cA_tn_told, 480, .inl f_tn_told)), (tn_strayCourts, .inl (cA_tn_strayCourts, 10, .inl f_tn_strayCourts)), (tn, .inr (7, [.int tn_hours, .int tn_courts, .int tn_gateCount, .int tn_people, .int tn_lines, .int tn_falseHours, .int tn_strayers, .int tn_deep, .ref tn_above, .ref tn_doors, .ref tn_degrees, .ref tn_neighbours, .ref tn_shows, .ref tn_oneEnd, .ref tn_otherEnd, .ref tn_told, .ref tn_strayParts, .ref tn_strayCourts]))]) hB ht hvm hP hD hK [] [0, 1, 2, 3, 4, 5] rfl 6 rfl (by decide +kernel) rfl (by decide +kernel) hk1 hFc
          generalize H1 = H at hP hS ⊢
          have hK : va_K (dC, dI) vwCl [(cA_tn_shows, .int), (cA_tn_told, .int), (cA_tn_strayCourts, .int)] s := hK
          have b_r_10 : 0 ≤ r_10.toInt ∧ r_10.toInt ≤ 1 := hw.1
          have sf_r_10 := hw.2
          replace hF := hF.trans (zL_eq sf_r_10)
          refine lv_if_eq (tgt := 119) hx hb dX9_hear_102 (by decide) (fun c_11 => ?_) (fun c_11 => ?_)
          · have ic_11 := zz_eq rfl (show Int32.toInt 0 = 0 from by decide) c_11
            replace hF := hF.trans (if_pos c_11)
            refine lv_iconst (v := 1) hx hb dX9_hear_119 (by decide) ?_
            refine lv_goto (tgt := 124) hx hb dX9_hear_120 (by decide) ?_
            refine lv_istore (lv' := [(8, .int 1), (7, .int 0), (6, .int x_7), (5, .ref tn), (0, .ref h0), (1, .int p1), (2, .int p2), (3, .int p3), (4, .int p4)]) hx hb dX9_hear_124 hl (by decide) rfl (fun ls hl => ?_)
            refine lv_iload hx hb dX9_hear_126 (lv_at hl 1 rfl) ?_
            refine lv_if_eq (tgt := 153) hx hb dX9_hear_128 (by decide) (fun _ => ?_) (fun q => absurd q (by decide))
            refine lv_iconst (v := 0) hx hb dX9_hear_153 (by decide) ?_
            refine lv_istore (lv' := [(9, .int 0), (8, .int 1), (7, .int 0), (6, .int x_7), (5, .ref tn), (0, .ref h0), (1, .int p1), (2, .int p2), (3, .int p3), (4, .int p4)]) hx hb dX9_hear_154 hl (by decide) rfl (fun ls hl => ?_)
            refine lv_iload hx hb dX9_hear_156 (lv_at hl 1 rfl) ?_
            refine lv_if_eq (tgt := 182) hx hb dX9_hear_158 (by decide) (fun q => absurd q (by decide)) (fun _ => ?_)
            refine lv_aload hx hb dX9_hear_161 (lv_at hl 4 rfl) ?_
            refine lv_iload_n hx hb dX9_hear_163 rfl (lv_at hl 6 rfl) ?_
            refine lv_iload_n hx hb dX9_hear_164 rfl (lv_at hl 8 rfl) ?_
            refine lv_iconst (v := 0) hx hb dX9_hear_165 (by decide) ?_
            obtain ⟨hPc, hDc, hFc⟩ := z_cut (wc := [(tn, .inr (7, [.int tn_hours, .int tn_courts, .int tn_gateCount, .int tn_people, .int tn_lines, .int tn_falseHours, .int tn_strayers, .int tn_deep, .ref tn_above, .ref tn_doors, .ref tn_degrees, .ref tn_neighbours, .ref tn_shows, .ref tn_oneEnd, .ref tn_otherEnd, .ref tn_told, .ref tn_strayParts, .ref tn_strayCourts])), (tn_shows, .inl (cA_tn_shows, 10, .inl f_tn_shows)), (tn_told, .inl (cA_tn_told, 480, .inl f_tn_told)), (tn_strayCourts, .inl (cA_tn_strayCourts, 10, .inl f_tn_strayCourts))]) hP hD hS hA [5, 2, 3, 4] rfl (by decide +kernel)
            have hKc := hK.sub (tys' := [(cA_tn_shows, .int), (cA_tn_told, .int), (cA_tn_strayCourts, .int)]) [0, 1, 2] rfl
            refine va_calli (va_runV (As := [.int p1, .int p3, .int 0]) (rest := []) ⟨hx, hb, hml, hown, hts⟩ (kf_X7_showsOf l sa dC dI tn p1 p3 (0) tn_hours tn_courts tn_gateCount tn_people tn_lines tn_falseHours tn_strayers tn_deep tn_above tn_doors tn_degrees tn_neighbours tn_shows tn_oneEnd tn_otherEnd tn_told tn_strayParts tn_strayCourts cA_tn_shows f_tn_shows cA_tn_told f_tn_told cA_tn_strayCourts f_tn_strayCourts (by first | with_reducible assumption | omega) (by first | with_reducible assumption | omega) (by first | with_reducible assumption | omega) (by first | with_reducible assumption | omega) (by first | with_reducible assumption | omega) (by first | with_reducible assumption | omega) (by first | with_reducible assumption | omega) (by first | with_reducible assumption | omega) b_f_tn_told b_f_tn_strayCourts H.size) (cwV 3 hts (z_gV zw_t5_133 zw_t3_206 zw_t3_207 zw_t1_3 zw_t3_208) rfl rfl rfl (by decide +kernel) (by rw [← hRe]; exact ⟨(Nat.le_of_ble_eq_true rfl), (Nat.le_of_ble_eq_true rfl)⟩)) (z_preV hPc hKc hDc hN hXs hS hFc (q := (RX7, TX7, 18)) (ci := 7) (q0 := 0) rfl rfl) rfl rfl hl.1 rfl (lv_room (Nat.le_of_ble_eq_true rfl)) dX9_hear_166 (by rw [← hRe]; exact ⟨(Nat.le_of_ble_eq_true rfl), (Nat.le_of_ble_eq_true rfl)⟩)) hS (fun q _ h => hFc q h) hFc (fun r_12 u t H1 locs ht hvm hw hB hz1 hk1 hS => ?_)
            obtain ⟨hP, hD, hK⟩ := z_after3 (wn := [(h0, .inr (9, [.ref tp, .int h0_tapeLength, .int h0_faultKind, .int h0_faultPlace, .ref nw, .ref im, .ref sl, .ref rd, .ref wk, .ref fm, .ref mt, .ref ch, .ref dy])), (nw, .inr (3, [.int nw_isKept, .ref tn, .int nw_strayed, .int nw_names, .int nw_known, .int nw_gone])), (tn, .inr (7, [.int tn_hours, .int tn_courts, .int tn_gateCount, .int tn_people, .int tn_lines, .int tn_falseHours, .int tn_strayers, .int tn_deep, .ref tn_above, .ref tn_doors, .ref tn_degrees, .ref tn_neighbours, .ref tn_shows, .ref tn_oneEnd, .ref tn_otherEnd, .ref tn_told, .ref tn_strayParts, .ref tn_strayCourts])), (tn_shows, .inl (cA_tn_shows, 10, .inl f_tn_shows)), (tn_told, .inl (cA_tn_told, 480, .inl f_tn_told)), (tn_strayCourts, .inl (cA_tn_strayCourts, 10, .inl f_tn_strayCourts))]) hB ht hvm hP hD hK [5, 2, 3, 4] [0, 1] rfl 6 rfl (by decide +kernel) rfl (by decide +kernel) hk1 hFc
            generalize H1 = H at hP hS ⊢
            have hK : va_K (dC, dI) vwCl [(cA_tn_shows, .int), (cA_tn_told, .int), (cA_tn_strayCourts, .int)] s := hK
            have sf_r_12 := hw
            have za_0 : Int32.toInt 0 = 0 := by decide
            replace hF := hF.trans (zL_eq sf_r_12)
            refine lv_iload_n hx hb dX9_hear_169 rfl (lv_at hl 7 rfl) ?_
            obtain ⟨hPc, hDc, hFc⟩ := z_cut (wc := []) hP hD hS hA [] rfl (by decide +kernel)
            have hKc := hK.sub (tys' := []) [] rfl
            refine va_calli (va_runS (As := [.int r_12, .int p2]) (rest := []) ⟨hx, hb, hml, hown, hts⟩ (kf_X9_has l sa dC dI r_12 p2 H.size) (va_cwS 2 hts (z_gS zw_t4_12 zw_t3_123 zw_t1_1 zw_t3_124) rfl rfl rfl (by decide +kernel) (by rw [← hRe]; exact ⟨(Nat.le_of_ble_eq_true rfl), (Nat.le_of_ble_eq_true rfl)⟩)) (z_preS hPc hKc hDc hN hXs hS hFc) rfl rfl hl.1 rfl (lv_room (Nat.le_of_ble_eq_true rfl)) dX9_hear_170 (by rw [← hRe]; exact ⟨(Nat.le_of_ble_eq_true rfl), (Nat.le_of_ble_eq_true rfl)⟩)) hS (fun q _ h => hFc q h) hFc (fun r_13 u t H1 locs ht hvm hw hB hz1 hk1 hS => ?_)
            obtain ⟨hP, hD, hK⟩ := z_after3 (wn := [(h0, .inr (9, [.ref tp, .int h0_tapeLength, .int h0_faultKind, .int h0_faultPlace, .ref nw, .ref im, .ref sl, .ref rd, .ref wk, .ref fm, .ref mt, .ref ch, .ref dy])), (nw, .inr (3, [.int nw_isKept, .ref tn, .int nw_strayed, .int nw_names, .int nw_known, .int nw_gone])), (tn, .inr (7, [.int tn_hours, .int tn_courts, .int tn_gateCount, .int tn_people, .int tn_lines, .int tn_falseHours, .int tn_strayers, .int tn_deep, .ref tn_above, .ref tn_doors, .ref tn_degrees, .ref tn_neighbours, .ref tn_shows, .ref tn_oneEnd, .ref tn_otherEnd, .ref tn_told, .ref tn_strayParts, .ref tn_strayCourts])), (tn_shows, .inl (cA_tn_shows, 10, .inl f_tn_shows)), (tn_told, .inl (cA_tn_told, 480, .inl f_tn_told)), (tn_strayCourts, .inl (cA_tn_strayCourts, 10, .inl f_tn_strayCourts))]) hB ht hvm hP hD hK [] [0, 1, 2, 3, 4, 5] rfl 6 rfl (by decide +kernel) rfl (by decide +kernel) hk1 hFc
            generalize H1 = H at hP hS ⊢
            have hK : va_K (dC, dI) vwCl [(cA_tn_shows, .int), (cA_tn_told, .int), (cA_tn_strayCourts, .int)] s := hK
            have b_r_13 : 0 ≤ r_13.toInt ∧ r_13.toInt ≤ 1 := hw.1
            have sf_r_13 := hw.2
            replace hF := hF.trans (zL_eq sf_r_13)
            refine lv_iload hx hb dX9_hear_173 (lv_at hl 9 rfl) ?_
            have nb_p4 := zi_nb p4
            refine lv_icmp_ne (tgt := 182) hx hb dX9_hear_175 (by decide) (fun c_14 => ?_) (fun c_14 => ?_)
            · have ic_14 := zz_ne rfl rfl c_14
              replace hF := hF.trans (if_neg c_14)
              refine lv_iconst (v := 0) hx hb dX9_hear_182 (by decide) ?_
              refine lv_istore (lv' := [(10, .int 0), (9, .int 0), (8, .int 1), (7, .int 0), (6, .int x_7), (5, .ref tn), (0, .ref h0), (1, .int p1), (2, .int p2), (3, .int p3), (4, .int p4)]) hx hb dX9_hear_183 hl (by decide) rfl (fun ls hl => ?_)
              refine lv_iload hx hb dX9_hear_185 (lv_at hl 1 rfl) ?_
              refine lv_if_ne (tgt := 198) hx hb dX9_hear_187 (by decide) (fun q => absurd q (by decide)) (fun _ => ?_)
              refine lv_iload hx hb dX9_hear_190 (lv_at hl 0 rfl) ?_
              refine lv_if_ne (tgt := 198) hx hb dX9_hear_192 (by decide) (fun q => absurd q (by decide)) (fun _ => ?_)
              refine lv_bipush (v := (-5)) hx hb dX9_hear_195 (by decide) ?_
              have hF : RR = ((-5 : Int32), nw_known, nw_gone) := hF
              have zc : Int32.toInt (-5) = (-5) := by decide
              exact W.iret (v := (-5)) hx hb hr (fun t ht hW => by rw [← hQe]; exact ⟨⟨(-5), (), rfl, ⟨by decide, (by rw [← hRR, hF])⟩, ⟨nw_known, nw_gone, (by rw [← hRR, hF]), (by rw [← hRR, hF]), z_ret hP hK hD ht hW [0, 1, 2, 3, 4, 5] [] rfl (by decide) rfl⟩⟩, hS.F ht⟩) hS.2.2 dX9_hear_197
            · have ic_14 := zz_nne rfl rfl c_14
              replace hF := hF.trans (if_pos c_14)
              refine lv_iconst (v := 1) hx hb dX9_hear_178 (by decide) ?_
              refine lv_goto (tgt := 183) hx hb dX9_hear_179 (by decide) ?_
              refine lv_istore (lv' := [(10, .int 1), (9, .int 0), (8, .int 1), (7, .int 0), (6, .int x_7), (5, .ref tn), (0, .ref h0), (1, .int p1), (2, .int p2), (3, .int p3), (4, .int p4)]) hx hb dX9_hear_183 hl (by decide) rfl (fun ls hl => ?_)
              refine lv_iload hx hb dX9_hear_185 (lv_at hl 1 rfl) ?_
              refine lv_if_ne (tgt := 198) hx hb dX9_hear_187 (by decide) (fun q => absurd q (by decide)) (fun _ => ?_)
              refine lv_iload hx hb dX9_hear_190 (lv_at hl 0 rfl) ?_
              refine lv_if_ne (tgt := 198) hx hb dX9_hear_192 (by decide) (fun _ => ?_) (fun q => absurd q (by decide))
              refine lv_iload hx hb dX9_hear_198 (lv_at hl 1 rfl) ?_
              refine lv_if_eq (tgt := 210) hx hb dX9_hear_200 (by decide) (fun _ => ?_) (fun q => absurd q (by decide))
              refine lv_aload_n hx hb dX9_hear_210 rfl (lv_at hl 6 rfl) ?_
              refine va_get (D := (dC, dI)) (ci := 9) (v := .ref nw) (C := RX9) (T := TX9) (N := 13) hx hb hts zl_X9 hown hK hP 0 rfl rfl 4 (by decide) (hts _ zw_t2_193) (fun _ h9 => h9) rfl dX9_hear_211 ?_
              refine lv_dup hx hb dX9_hear_214 rfl ?_
              refine va_get (D := (dC, dI)) (ci := 3) (v := .int nw_known) (C := RX3) (T := TX3) (N := 6) hx hb hts zl_X3 hown hK hP 1 rfl rfl 4 (by decide) (hts _ zw_t1_165) (fun _ h9 => h9) rfl dX9_hear_215 ?_
              refine lv_iload hx hb dX9_hear_218 (lv_at hl 4 rfl) ?_
              refine lv_aload hx hb dX9_hear_220 (lv_at hl 5 rfl) ?_
              refine va_get (D := (dC, dI)) (ci := 7) (v := .int tn_strayers) (C := RX7) (T := TX7) (N := 18) hx hb hts zl_X7 hown hK hP 2 rfl rfl 6 (by decide) (hts _ zw_t1_74) (fun _ h9 => h9) rfl dX9_hear_222 ?_
              refine lv_iand hx hb dX9_hear_225 ?_
              refine lv_topi (fun x_15 ex_15 => ?_)
              replace hF := hF.trans (zL_eq ex_15)
              have b_x_15 : 0 ≤ x_15.toInt ∧ x_15.toInt ≤ x_7.toInt := by rw [ex_15]; exact zi_andL rfl (by first | with_reducible assumption | omega) (by first | with_reducible assumption | omega)
              refine lv_ior hx hb dX9_hear_226 ?_
              refine lv_topi (fun x_16 ex_16 => ?_)
              replace hF := hF.trans (zL_eq ex_16)
              refine va_put (D := (dC, dI)) (ci := 3) (v := .int x_16) (ty := .int) (C := RX3) (T := TX3) (N := 6) hx hb hts zl_X3 tyX3 tyX3_ok nmX3 hown hK hP hD hS 1 rfl rfl 4 (by decide) (hts _ zw_t1_165) (fun _ h9 => h9) rfl (by decide +kernel) rfl rfl (Nat.le_of_ble_eq_true rfl) dX9_hear_227 (fun H locs hP hD hS => ?_)
              have hP : va_P (dC, dI) vwCl [(h0, .inr (9, [.ref tp, .int h0_tapeLength, .int h0_faultKind, .int h0_faultPlace, .ref nw, .ref im, .ref sl, .ref rd, .ref wk, .ref fm, .ref mt, .ref ch, .ref dy])), (nw, .inr (3, [.int nw_isKept, .ref tn, .int nw_strayed, .int nw_names, .int x_16, .int nw_gone])), (tn, .inr (7, [.int tn_hours, .int tn_courts, .int tn_gateCount, .int tn_people, .int tn_lines, .int tn_falseHours, .int tn_strayers, .int tn_deep, .ref tn_above, .ref tn_doors, .ref tn_degrees, .ref tn_neighbours, .ref tn_shows, .ref tn_oneEnd, .ref tn_otherEnd, .ref tn_told, .ref tn_strayParts, .ref tn_strayCourts])), (tn_shows, .inl (cA_tn_shows, 10, .inl f_tn_shows)), (tn_told, .inl (cA_tn_told, 480, .inl f_tn_told)), (tn_strayCourts, .inl (cA_tn_strayCourts, 10, .inl f_tn_strayCourts))] H := hP
              have hD : va_D A [(h0, .inr (9, [.ref tp, .int h0_tapeLength, .int h0_faultKind, .int h0_faultPlace, .ref nw, .ref im, .ref sl, .ref rd, .ref wk, .ref fm, .ref mt, .ref ch, .ref dy])), (nw, .inr (3, [.int nw_isKept, .ref tn, .int nw_strayed, .int nw_names, .int x_16, .int nw_gone])), (tn, .inr (7, [.int tn_hours, .int tn_courts, .int tn_gateCount, .int tn_people, .int tn_lines, .int tn_falseHours, .int tn_strayers, .int tn_deep, .ref tn_above, .ref tn_doors, .ref tn_degrees, .ref tn_neighbours, .ref tn_shows, .ref tn_oneEnd, .ref tn_otherEnd, .ref tn_told, .ref tn_strayParts, .ref tn_strayCourts])), (tn_shows, .inl (cA_tn_shows, 10, .inl f_tn_shows)), (tn_told, .inl (cA_tn_told, 480, .inl f_tn_told)), (tn_strayCourts, .inl (cA_tn_strayCourts, 10, .inl f_tn_strayCourts))] := hD
              refine lv_iload hx hb dX9_hear_230 (lv_at hl 1 rfl) ?_
              refine lv_if_eq (tgt := 249) hx hb dX9_hear_232 (by decide) (fun _ => ?_) (fun q => absurd q (by decide))
              refine lv_iconst (v := 1) hx hb dX9_hear_249 (by decide) ?_
              have hF : RR = ((1 : Int32), x_16, nw_gone) := hF
              have zc : Int32.toInt 1 = 1 := by decide
              exact W.iret (v := 1) hx hb hr (fun t ht hW => by rw [← hQe]; exact ⟨⟨1, (), rfl, ⟨by decide, (by rw [← hRR, hF])⟩, ⟨x_16, nw_gone, (by rw [← hRR, hF]), (by rw [← hRR, hF]), z_ret hP hK hD ht hW [0, 1, 2, 3, 4, 5] [] rfl (by decide) rfl⟩⟩, hS.F ht⟩) hS.2.2 dX9_hear_250
          · have ic_11 := zz_neq rfl (show Int32.toInt 0 = 0 from by decide) c_11
            replace hF := hF.trans (if_neg c_11)
            refine lv_aload_n hx hb dX9_hear_105 rfl (lv_at hl 3 rfl) ?_
            refine va_get (D := (dC, dI)) (ci := 9) (v := .ref nw) (C := RX9) (T := TX9) (N := 13) hx hb hts zl_X9 hown hK hP 0 rfl rfl 4 (by decide) (hts _ zw_t2_193) (fun _ h9 => h9) rfl dX9_hear_106 ?_
            refine va_get (D := (dC, dI)) (ci := 3) (v := .int nw_gone) (C := RX3) (T := TX3) (N := 6) hx hb hts zl_X3 hown hK hP 1 rfl rfl 5 (by decide) (hts _ zw_t1_168) (fun _ h9 => h9) rfl dX9_hear_109 ?_
            refine lv_iload_n hx hb dX9_hear_112 rfl (lv_at hl 4 rfl) ?_
            obtain ⟨hPc, hDc, hFc⟩ := z_cut (wc := []) hP hD hS hA [] rfl (by decide +kernel)
            have hKc := hK.sub (tys' := []) [] rfl
            refine va_calli (va_runS (As := [.int nw_gone, .int p1]) (rest := []) ⟨hx, hb, hml, hown, hts⟩ (kf_X9_has l sa dC dI nw_gone p1 H.size) (va_cwS 2 hts (z_gS zw_t4_12 zw_t3_123 zw_t1_1 zw_t3_124) rfl rfl rfl (by decide +kernel) (by rw [← hRe]; exact ⟨(Nat.le_of_ble_eq_true rfl), (Nat.le_of_ble_eq_true rfl)⟩)) (z_preS hPc hKc hDc hN hXs hS hFc) rfl rfl hl.1 rfl (lv_room (Nat.le_of_ble_eq_true rfl)) dX9_hear_113 (by rw [← hRe]; exact ⟨(Nat.le_of_ble_eq_true rfl), (Nat.le_of_ble_eq_true rfl)⟩)) hS (fun q _ h => hFc q h) hFc (fun r_17 u t H1 locs ht hvm hw hB hz1 hk1 hS => ?_)
            obtain ⟨hP, hD, hK⟩ := z_after3 (wn := [(h0, .inr (9, [.ref tp, .int h0_tapeLength, .int h0_faultKind, .int h0_faultPlace, .ref nw, .ref im, .ref sl, .ref rd, .ref wk, .ref fm, .ref mt, .ref ch, .ref dy])), (nw, .inr (3, [.int nw_isKept, .ref tn, .int nw_strayed, .int nw_names, .int nw_known, .int nw_gone])), (tn_shows, .inl (cA_tn_shows, 10, .inl f_tn_shows)), (tn_told, .inl (cA_tn_told, 480, .inl f_tn_told)), (tn_strayCourts, .inl (cA_tn_strayCourts, 10, .inl f_tn_strayCourts)), (tn, .inr (7, [.int tn_hours, .int tn_courts, .int tn_gateCount, .int tn_people, .int tn_lines, .int tn_falseHours, .int tn_strayers, .int tn_deep, .ref tn_above, .ref tn_doors, .ref tn_degrees, .ref tn_neighbours, .ref tn_shows, .ref tn_oneEnd, .ref tn_otherEnd, .ref tn_told, .ref tn_strayParts, .ref tn_strayCourts]))]) hB ht hvm hP hD hK [] [0, 1, 2, 3, 4, 5] rfl 6 rfl (by decide +kernel) rfl (by decide +kernel) hk1 hFc
            generalize H1 = H at hP hS ⊢
            have hK : va_K (dC, dI) vwCl [(cA_tn_shows, .int), (cA_tn_told, .int), (cA_tn_strayCourts, .int)] s := hK
            have b_r_17 : 0 ≤ r_17.toInt ∧ r_17.toInt ≤ 1 := hw.1
            have sf_r_17 := hw.2
            replace hF := hF.trans (zL_eq sf_r_17)
            refine lv_if_ne (tgt := 123) hx hb dX9_hear_116 (by decide) (fun c_18 => ?_) (fun c_18 => ?_)
            · have ic_18 := zz_ne rfl (show Int32.toInt 0 = 0 from by decide) c_18
              replace hF := hF.trans (if_neg c_18)
              refine lv_iconst (v := 0) hx hb dX9_hear_123 (by decide) ?_
              refine lv_istore (lv' := [(8, .int 0), (7, .int 0), (6, .int x_7), (5, .ref tn), (0, .ref h0), (1, .int p1), (2, .int p2), (3, .int p3), (4, .int p4)]) hx hb dX9_hear_124 hl (by decide) rfl (fun ls hl => ?_)
              refine lv_iload hx hb dX9_hear_126 (lv_at hl 1 rfl) ?_
              refine lv_if_eq (tgt := 153) hx hb dX9_hear_128 (by decide) (fun _ => ?_) (fun q => absurd q (by decide))
              refine lv_iconst (v := 0) hx hb dX9_hear_153 (by decide) ?_
              refine lv_istore (lv' := [(9, .int 0), (8, .int 0), (7, .int 0), (6, .int x_7), (5, .ref tn), (0, .ref h0), (1, .int p1), (2, .int p2), (3, .int p3), (4, .int p4)]) hx hb dX9_hear_154 hl (by decide) rfl (fun ls hl => ?_)
              refine lv_iload hx hb dX9_hear_156 (lv_at hl 1 rfl) ?_
              refine lv_if_eq (tgt := 182) hx hb dX9_hear_158 (by decide) (fun _ => ?_) (fun q => absurd q (by decide))
              refine lv_iconst (v := 0) hx hb dX9_hear_182 (by decide) ?_
              refine lv_istore (lv' := [(10, .int 0), (9, .int 0), (8, .int 0), (7, .int 0), (6, .int x_7), (5, .ref tn), (0, .ref h0), (1, .int p1), (2, .int p2), (3, .int p3), (4, .int p4)]) hx hb dX9_hear_183 hl (by decide) rfl (fun ls hl => ?_)
              refine lv_iload hx hb dX9_hear_185 (lv_at hl 1 rfl) ?_
              refine lv_if_ne (tgt := 198) hx hb dX9_hear_187 (by decide) (fun q => absurd q (by decide)) (fun _ => ?_)
              refine lv_iload hx hb dX9_hear_190 (lv_at hl 0 rfl) ?_
              refine lv_if_ne (tgt := 198) hx hb dX9_hear_192 (by decide) (fun q => absurd q (by decide)) (fun _ => ?_)
              refine lv_bipush (v := (-5)) hx hb dX9_hear_195 (by decide) ?_
              have hF : RR = ((-5 : Int32), nw_known, nw_gone) := hF
              have zc : Int32.toInt (-5) = (-5) := by decide
              exact W.iret (v := (-5)) hx hb hr (fun t ht hW => by rw [← hQe]; exact ⟨⟨(-5), (), rfl, ⟨by decide, (by rw [← hRR, hF])⟩, ⟨nw_known, nw_gone, (by rw [← hRR, hF]), (by rw [← hRR, hF]), z_ret hP hK hD ht hW [0, 1, 5, 2, 3, 4] [] rfl (by decide) rfl⟩⟩, hS.F ht⟩) hS.2.2 dX9_hear_197
            · have ic_18 := zz_nne rfl (show Int32.toInt 0 = 0 from by decide) c_18
              replace hF := hF.trans (if_pos c_18)
              refine lv_iconst (v := 1) hx hb dX9_hear_119 (by decide) ?_
              refine lv_goto (tgt := 124) hx hb dX9_hear_120 (by decide) ?_
              refine lv_istore (lv' := [(8, .int 1), (7, .int 0), (6, .int x_7), (5, .ref tn), (0, .ref h0), (1, .int p1), (2, .int p2), (3, .int p3), (4, .int p4)]) hx hb dX9_hear_124 hl (by decide) rfl (fun ls hl => ?_)
              refine lv_iload hx hb dX9_hear_126 (lv_at hl 1 rfl) ?_
              refine lv_if_eq (tgt := 153) hx hb dX9_hear_128 (by decide) (fun _ => ?_) (fun q => absurd q (by decide))
              refine lv_iconst (v := 0) hx hb dX9_hear_153 (by decide) ?_
              refine lv_istore (lv' := [(9, .int 0), (8, .int 1), (7, .int 0), (6, .int x_7), (5, .ref tn), (0, .ref h0), (1, .int p1), (2, .int p2), (3, .int p3), (4, .int p4)]) hx hb dX9_hear_154 hl (by decide) rfl (fun ls hl => ?_)
              refine lv_iload hx hb dX9_hear_156 (lv_at hl 1 rfl) ?_
              refine lv_if_eq (tgt := 182) hx hb dX9_hear_158 (by decide) (fun q => absurd q (by decide)) (fun _ => ?_)
              refine lv_aload hx hb dX9_hear_161 (lv_at hl 4 rfl) ?_
              refine lv_iload_n hx hb dX9_hear_163 rfl (lv_at hl 6 rfl) ?_
              refine lv_iload_n hx hb dX9_hear_164 rfl (lv_at hl 8 rfl) ?_
              refine lv_iconst (v := 0) hx hb dX9_hear_165 (by decide) ?_
              obtain ⟨hPc, hDc, hFc⟩ := z_cut (wc := [(tn, .inr (7, [.int tn_hours, .int tn_courts, .int tn_gateCount, .int tn_people, .int tn_lines, .int tn_falseHours, .int tn_strayers, .int tn_deep, .ref tn_above, .ref tn_doors, .ref tn_degrees, .ref tn_neighbours, .ref tn_shows, .ref tn_oneEnd, .ref tn_otherEnd, .ref tn_told, .ref tn_strayParts, .ref tn_strayCourts])), (tn_shows, .inl (cA_tn_shows, 10, .inl f_tn_shows)), (tn_told, .inl (cA_tn_told, 480, .inl f_tn_told)), (tn_strayCourts, .inl (cA_tn_strayCourts, 10, .inl f_tn_strayCourts))]) hP hD hS hA [5, 2, 3, 4] rfl (by decide +kernel)
              have hKc := hK.sub (tys' := [(cA_tn_shows, .int), (cA_tn_told, .int), (cA_tn_strayCourts, .int)]) [0, 1, 2] rfl
              refine va_calli (va_runV (As := [.int p1, .int p3, .int 0]) (rest := []) ⟨hx, hb, hml, hown, hts⟩ (kf_X7_showsOf l sa dC dI tn p1 p3 (0) tn_hours tn_courts tn_gateCount tn_people tn_lines tn_falseHours tn_strayers tn_deep tn_above tn_doors tn_degrees tn_neighbours tn_shows tn_oneEnd tn_otherEnd tn_told tn_strayParts tn_strayCourts cA_tn_shows f_tn_shows cA_tn_told f_tn_told cA_tn_strayCourts f_tn_strayCourts (by first | with_reducible assumption | omega) (by first | with_reducible assumption | omega) (by first | with_reducible assumption | omega) (by first | with_reducible assumption | omega) (by first | with_reducible assumption | omega) (by first | with_reducible assumption | omega) (by first | with_reducible assumption | omega) (by first | with_reducible assumption | omega) b_f_tn_told b_f_tn_strayCourts H.size) (cwV 3 hts (z_gV zw_t5_133 zw_t3_206 zw_t3_207 zw_t1_3 zw_t3_208) rfl rfl rfl (by decide +kernel) (by rw [← hRe]; exact ⟨(Nat.le_of_ble_eq_true rfl), (Nat.le_of_ble_eq_true rfl)⟩)) (z_preV hPc hKc hDc hN hXs hS hFc (q := (RX7, TX7, 18)) (ci := 7) (q0 := 0) rfl rfl) rfl rfl hl.1 rfl (lv_room (Nat.le_of_ble_eq_true rfl)) dX9_hear_166 (by rw [← hRe]; exact ⟨(Nat.le_of_ble_eq_true rfl), (Nat.le_of_ble_eq_true rfl)⟩)) hS (fun q _ h => hFc q h) hFc (fun r_19 u t H1 locs ht hvm hw hB hz1 hk1 hS => ?_)
              obtain ⟨hP, hD, hK⟩ := z_after3 (wn := [(h0, .inr (9, [.ref tp, .int h0_tapeLength, .int h0_faultKind, .int h0_faultPlace, .ref nw, .ref im, .ref sl, .ref rd, .ref wk, .ref fm, .ref mt, .ref ch, .ref dy])), (nw, .inr (3, [.int nw_isKept, .ref tn, .int nw_strayed, .int nw_names, .int nw_known, .int nw_gone])), (tn, .inr (7, [.int tn_hours, .int tn_courts, .int tn_gateCount, .int tn_people, .int tn_lines, .int tn_falseHours, .int tn_strayers, .int tn_deep, .ref tn_above, .ref tn_doors, .ref tn_degrees, .ref tn_neighbours, .ref tn_shows, .ref tn_oneEnd, .ref tn_otherEnd, .ref tn_told, .ref tn_strayParts, .ref tn_strayCourts])), (tn_shows, .inl (cA_tn_shows, 10, .inl f_tn_shows)), (tn_told, .inl (cA_tn_told, 480, .inl f_tn_told)), (tn_strayCourts, .inl (cA_tn_strayCourts, 10, .inl f_tn_strayCourts))]) hB ht hvm hP hD hK [5, 2, 3, 4] [0, 1] rfl 6 rfl (by decide +kernel) rfl (by decide +kernel) hk1 hFc
              generalize H1 = H at hP hS ⊢
              have hK : va_K (dC, dI) vwCl [(cA_tn_shows, .int), (cA_tn_told, .int), (cA_tn_strayCourts, .int)] s := hK
              have sf_r_19 := hw
              have za_0 : Int32.toInt 0 = 0 := by decide
              replace hF := hF.trans (zL_eq sf_r_19)
              refine lv_iload_n hx hb dX9_hear_169 rfl (lv_at hl 7 rfl) ?_
              obtain ⟨hPc, hDc, hFc⟩ := z_cut (wc := []) hP hD hS hA [] rfl (by decide +kernel)
              have hKc := hK.sub (tys' := []) [] rfl
              refine va_calli (va_runS (As := [.int r_19, .int p2]) (rest := []) ⟨hx, hb, hml, hown, hts⟩ (kf_X9_has l sa dC dI r_19 p2 H.size) (va_cwS 2 hts (z_gS zw_t4_12 zw_t3_123 zw_t1_1 zw_t3_124) rfl rfl rfl (by decide +kernel) (by rw [← hRe]; exact ⟨(Nat.le_of_ble_eq_true rfl), (Nat.le_of_ble_eq_true rfl)⟩)) (z_preS hPc hKc hDc hN hXs hS hFc) rfl rfl hl.1 rfl (lv_room (Nat.le_of_ble_eq_true rfl)) dX9_hear_170 (by rw [← hRe]; exact ⟨(Nat.le_of_ble_eq_true rfl), (Nat.le_of_ble_eq_true rfl)⟩)) hS (fun q _ h => hFc q h) hFc (fun r_20 u t H1 locs ht hvm hw hB hz1 hk1 hS => ?_)
              obtain ⟨hP, hD, hK⟩ := z_after3 (wn := [(h0, .inr (9, [.ref tp, .int h0_tapeLength, .int h0_faultKind, .int h0_faultPlace, .ref nw, .ref im, .ref sl, .ref rd, .ref wk, .ref fm, .ref mt, .ref ch, .ref dy])), (nw, .inr (3, [.int nw_isKept, .ref tn, .int nw_strayed, .int nw_names, .int nw_known, .int nw_gone])), (tn, .inr (7, [.int tn_hours, .int tn_courts, .int tn_gateCount, .int tn_people, .int tn_lines, .int tn_falseHours, .int tn_strayers, .int tn_deep, .ref tn_above, .ref tn_doors, .ref tn_degrees, .ref tn_neighbours, .ref tn_shows, .ref tn_oneEnd, .ref tn_otherEnd, .ref tn_told, .ref tn_strayParts, .ref tn_strayCourts])), (tn_shows, .inl (cA_tn_shows, 10, .inl f_tn_shows)), (tn_told, .inl (cA_tn_told, 480, .inl f_tn_told)), (tn_strayCourts, .inl (cA_tn_strayCourts, 10, .inl f_tn_strayCourts))]) hB ht hvm hP hD hK [] [0, 1, 2, 3, 4, 5] rfl 6 rfl (by decide +kernel) rfl (by decide +kernel) hk1 hFc
              generalize H1 = H at hP hS ⊢
              have hK : va_K (dC, dI) vwCl [(cA_tn_shows, .int), (cA_tn_told, .int), (cA_tn_strayCourts, .int)] s := hK
              have b_r_20 : 0 ≤ r_20.toInt ∧ r_20.toInt ≤ 1 := hw.1
              have sf_r_20 := hw.2
              replace hF := hF.trans (zL_eq sf_r_20)
              refine lv_iload hx hb dX9_hear_173 (lv_at hl 9 rfl) ?_
              have nb_p4 := zi_nb p4
              refine lv_icmp_ne (tgt := 182) hx hb dX9_hear_175 (by decide) (fun c_21 => ?_) (fun c_21 => ?_)
              · have ic_21 := zz_ne rfl rfl c_21
                replace hF := hF.trans (if_neg c_21)
                refine lv_iconst (v := 0) hx hb dX9_hear_182 (by decide) ?_
                refine lv_istore (lv' := [(10, .int 0), (9, .int 0), (8, .int 1), (7, .int 0), (6, .int x_7), (5, .ref tn), (0, .ref h0), (1, .int p1), (2, .int p2), (3, .int p3), (4, .int p4)]) hx hb dX9_hear_183 hl (by decide) rfl (fun ls hl => ?_)
                refine lv_iload hx hb dX9_hear_185 (lv_at hl 1 rfl) ?_
                refine lv_if_ne (tgt := 198) hx hb dX9_hear_187 (by decide) (fun q => absurd q (by decide)) (fun _ => ?_)
                refine lv_iload hx hb dX9_hear_190 (lv_at hl 0 rfl) ?_
                refine lv_if_ne (tgt := 198) hx hb dX9_hear_192 (by decide) (fun q => absurd q (by decide)) (fun _ => ?_)
                refine lv_bipush (v := (-5)) hx hb dX9_hear_195 (by decide) ?_
                have hF : RR = ((-5 : Int32), nw_known, nw_gone) := hF
                have zc : Int32.toInt (-5) = (-5) := by decide
                exact W.iret (v := (-5)) hx hb hr (fun t ht hW => by rw [← hQe]; exact ⟨⟨(-5), (), rfl, ⟨by decide, (by rw [← hRR, hF])⟩, ⟨nw_known, nw_gone, (by rw [← hRR, hF]), (by rw [← hRR, hF]), z_ret hP hK hD ht hW [0, 1, 2, 3, 4, 5] [] rfl (by decide) rfl⟩⟩, hS.F ht⟩) hS.2.2 dX9_hear_197
              · have ic_21 := zz_nne rfl rfl c_21
                replace hF := hF.trans (if_pos c_21)
                refine lv_iconst (v := 1) hx hb dX9_hear_178 (by decide) ?_
                refine lv_goto (tgt := 183) hx hb dX9_hear_179 (by decide) ?_
                refine lv_istore (lv' := [(10, .int 1), (9, .int 0), (8, .int 1), (7, .int 0), (6, .int x_7), (5, .ref tn), (0, .ref h0), (1, .int p1), (2, .int p2), (3, .int p3), (4, .int p4)]) hx hb dX9_hear_183 hl (by decide) rfl (fun ls hl => ?_)
                refine lv_iload hx hb dX9_hear_185 (lv_at hl 1 rfl) ?_
                refine lv_if_ne (tgt := 198) hx hb dX9_hear_187 (by decide) (fun q => absurd q (by decide)) (fun _ => ?_)
                refine lv_iload hx hb dX9_hear_190 (lv_at hl 0 rfl) ?_
                refine lv_if_ne (tgt := 198) hx hb dX9_hear_192 (by decide) (fun _ => ?_) (fun q => absurd q (by decide))
                refine lv_iload hx hb dX9_hear_198 (lv_at hl 1 rfl) ?_
                refine lv_if_eq (tgt := 210) hx hb dX9_hear_200 (by decide) (fun _ => ?_) (fun q => absurd q (by decide))
                refine lv_aload_n hx hb dX9_hear_210 rfl (lv_at hl 6 rfl) ?_
                refine va_get (D := (dC, dI)) (ci := 9) (v := .ref nw) (C := RX9) (T := TX9) (N := 13) hx hb hts zl_X9 hown hK hP 0 rfl rfl 4 (by decide) (hts _ zw_t2_193) (fun _ h9 => h9) rfl dX9_hear_211 ?_
                refine lv_dup hx hb dX9_hear_214 rfl ?_
                refine va_get (D := (dC, dI)) (ci := 3) (v := .int nw_known) (C := RX3) (T := TX3) (N := 6) hx hb hts zl_X3 hown hK hP 1 rfl rfl 4 (by decide) (hts _ zw_t1_165) (fun _ h9 => h9) rfl dX9_hear_215 ?_
                refine lv_iload hx hb dX9_hear_218 (lv_at hl 4 rfl) ?_
                refine lv_aload hx hb dX9_hear_220 (lv_at hl 5 rfl) ?_
                refine va_get (D := (dC, dI)) (ci := 7) (v := .int tn_strayers) (C := RX7) (T := TX7) (N := 18) hx hb hts zl_X7 hown hK hP 2 rfl rfl 6 (by decide) (hts _ zw_t1_74) (fun _ h9 => h9) rfl dX9_hear_222 ?_
                refine lv_iand hx hb dX9_hear_225 ?_
                refine lv_topi (fun x_22 ex_22 => ?_)
                replace hF := hF.trans (zL_eq ex_22)
                have b_x_22 : 0 ≤ x_22.toInt ∧ x_22.toInt ≤ x_7.toInt := by rw [ex_22]; exact zi_andL rfl (by first | with_reducible assumption | omega) (by first | with_reducible assumption | omega)
                refine lv_ior hx hb dX9_hear_226 ?_
                refine lv_topi (fun x_23 ex_23 => ?_)
                replace hF := hF.trans (zL_eq ex_23)
                refine va_put (D := (dC, dI)) (ci := 3) (v := .int x_23) (ty := .int) (C := RX3) (T := TX3) (N := 6) hx hb hts zl_X3 tyX3 tyX3_ok nmX3 hown hK hP hD hS 1 rfl rfl 4 (by decide) (hts _ zw_t1_165) (fun _ h9 => h9) rfl (by decide +kernel) rfl rfl (Nat.le_of_ble_eq_true rfl) dX9_hear_227 (fun H locs hP hD hS => ?_)
                have hP : va_P (dC, dI) vwCl [(h0, .inr (9, [.ref tp, .int h0_tapeLength, .int h0_faultKind, .int h0_faultPlace, .ref nw, .ref im, .ref sl, .ref rd, .ref wk, .ref fm, .ref mt, .ref ch, .ref dy])), (nw, .inr (3, [.int nw_isKept, .ref tn, .int nw_strayed, .int nw_names, .int x_23, .int nw_gone])), (tn, .inr (7, [.int tn_hours, .int tn_courts, .int tn_gateCount, .int tn_people, .int tn_lines, .int tn_falseHours, .int tn_strayers, .int tn_deep, .ref tn_above, .ref tn_doors, .ref tn_degrees, .ref tn_neighbours, .ref tn_shows, .ref tn_oneEnd, .ref tn_otherEnd, .ref tn_told, .ref tn_strayParts, .ref tn_strayCourts])), (tn_shows, .inl (cA_tn_shows, 10, .inl f_tn_shows)), (tn_told, .inl (cA_tn_told, 480, .inl f_tn_told)), (tn_strayCourts, .inl (cA_tn_strayCourts, 10, .inl f_tn_strayCourts))] H := hP
                have hD : va_D A [(h0, .inr (9, [.ref tp, .int h0_tapeLength, .int h0_faultKind, .int h0_faultPlace, .ref nw, .ref im, .ref sl, .ref rd, .ref wk, .ref fm, .ref mt, .ref ch, .ref dy])), (nw, .inr (3, [.int nw_isKept, .ref tn, .int nw_strayed, .int nw_names, .int x_23, .int nw_gone])), (tn, .inr (7, [.int tn_hours, .int tn_courts, .int tn_gateCount, .int tn_people, .int tn_lines, .int tn_falseHours, .int tn_strayers, .int tn_deep, .ref tn_above, .ref tn_doors, .ref tn_degrees, .ref tn_neighbours, .ref tn_shows, .ref tn_oneEnd, .ref tn_otherEnd, .ref tn_told, .ref tn_strayParts, .ref tn_strayCourts])), (tn_shows, .inl (cA_tn_shows, 10, .inl f_tn_shows)), (tn_told, .inl (cA_tn_told, 480, .inl f_tn_told)), (tn_strayCourts, .inl (cA_tn_strayCourts, 10, .inl f_tn_strayCourts))] := hD
                refine lv_iload hx hb dX9_hear_230 (lv_at hl 1 rfl) ?_
                refine lv_if_eq (tgt := 249) hx hb dX9_hear_232 (by decide) (fun _ => ?_) (fun q => absurd q (by decide))
                refine lv_iconst (v := 1) hx hb dX9_hear_249 (by decide) ?_
                have hF : RR = ((1 : Int32), x_23, nw_gone) := hF
                have zc : Int32.toInt 1 = 1 := by decide
                exact W.iret (v := 1) hx hb hr (fun t ht hW => by rw [← hQe]; exact ⟨⟨1, (), rfl, ⟨by decide, (by rw [← hRR, hF])⟩, ⟨x_23, nw_gone, (by rw [← hRR, hF]), (by rw [← hRR, hF]), z_ret hP hK hD ht hW [0, 1, 2, 3, 4, 5] [] rfl (by decide) rfl⟩⟩, hS.F ht⟩) hS.2.2 dX9_hear_250
        · have ic_9 := zz_neq rfl (show Int32.toInt 0 = 0 from by decide) c_9
          replace hF := hF.trans (if_neg c_9)
          refine lv_aload_n hx hb dX9_hear_56 rfl (lv_at hl 2 rfl) ?_
          refine va_get (D := (dC, dI)) (ci := 9) (v := .ref nw) (C := RX9) (T := TX9) (N := 13) hx hb hts zl_X9 hown hK hP 0 rfl rfl 4 (by decide) (hts _ zw_t2_193) (fun _ h9 => h9) rfl dX9_hear_57 ?_
          refine va_get (D := (dC, dI)) (ci := 3) (v := .int nw_known) (C := RX3) (T := TX3) (N := 6) hx hb hts zl_X3 hown hK hP 1 rfl rfl 4 (by decide) (hts _ zw_t1_165) (fun _ h9 => h9) rfl dX9_hear_60 ?_
          refine lv_iload_n hx hb dX9_hear_63 rfl (lv_at hl 3 rfl) ?_
          obtain ⟨hPc, hDc, hFc⟩ := z_cut (wc := []) hP hD hS hA [] rfl (by decide +kernel)
          have hKc := hK.sub (tys' := []) [] rfl
          refine va_calli (va_runS (As := [.int nw_known, .int p1]) (rest := []) ⟨hx, hb, hml, hown, hts⟩ (kf_X9_has l sa dC dI nw_known p1 H.size) (va_cwS 2 hts (z_gS zw_t4_12 zw_t3_123 zw_t1_1 zw_t3_124) rfl rfl rfl (by decide +kernel) (by rw [← hRe]; exact ⟨(Nat.le_of_ble_eq_true rfl), (Nat.le_of_ble_eq_true rfl)⟩)) (z_preS hPc hKc hDc hN hXs hS hFc) rfl rfl hl.1 rfl (lv_room (Nat.le_of_ble_eq_true rfl)) dX9_hear_64 (by rw [← hRe]; exact ⟨(Nat.le_of_ble_eq_true rfl), (Nat.le_of_ble_eq_true rfl)⟩)) hS (fun q _ h => hFc q h) hFc (fun r_24 u t H1 locs ht hvm hw hB hz1 hk1 hS => ?_)
          obtain ⟨hP, hD, hK⟩ := z_after3 (wn := [(h0, .inr (9, [.ref tp, .int h0_tapeLength, .int h0_faultKind, .int h0_faultPlace, .ref nw, .ref im, .ref sl, .ref rd, .ref wk, .ref fm, .ref mt, .ref ch, .ref dy])), (nw, .inr (3, [.int nw_isKept, .ref tn, .int nw_strayed, .int nw_names, .int nw_known, .int nw_gone])), (tn_shows, .inl (cA_tn_shows, 10, .inl f_tn_shows)), (tn_told, .inl (cA_tn_told, 480, .inl f_tn_told)), (tn_strayCourts, .inl (cA_tn_strayCourts, 10, .inl f_tn_strayCourts)), (tn, .inr (7, [.int tn_hours, .int tn_courts, .int tn_gateCount, .int tn_people, .int tn_lines, .int tn_falseHours, .int tn_strayers, .int tn_deep, .ref tn_above, .ref tn_doors, .ref tn_degrees, .ref tn_neighbours, .ref tn_shows, .ref tn_oneEnd, .ref tn_otherEnd, .ref tn_told, .ref tn_strayParts, .ref tn_strayCourts]))]) hB ht hvm hP hD hK [] [0, 1, 2, 3, 4, 5] rfl 6 rfl (by decide +kernel) rfl (by decide +kernel) hk1 hFc
          generalize H1 = H at hP hS ⊢
          have hK : va_K (dC, dI) vwCl [(cA_tn_shows, .int), (cA_tn_told, .int), (cA_tn_strayCourts, .int)] s := hK
          have b_r_24 : 0 ≤ r_24.toInt ∧ r_24.toInt ≤ 1 := hw.1
          have sf_r_24 := hw.2
          replace hF := hF.trans (zL_eq sf_r_24)
          refine lv_if_eq (tgt := 84) hx hb dX9_hear_67 (by decide) (fun c_25 => ?_) (fun c_25 => ?_)
          · have ic_25 := zz_eq rfl (show Int32.toInt 0 = 0 from by decide) c_25
            replace hF := hF.trans (if_pos c_25)
            refine lv_iconst (v := 1) hx hb dX9_hear_84 (by decide) ?_
            refine lv_goto (tgt := 89) hx hb dX9_hear_85 (by decide) ?_
            refine lv_istore (lv' := [(7, .int 1), (6, .int x_7), (5, .ref tn), (0, .ref h0), (1, .int p1), (2, .int p2), (3, .int p3), (4, .int p4)]) hx hb dX9_hear_89 hl (by decide) rfl (fun ls hl => ?_)
            refine lv_aload_n hx hb dX9_hear_91 rfl (lv_at hl 3 rfl) ?_
            refine va_get (D := (dC, dI)) (ci := 9) (v := .ref nw) (C := RX9) (T := TX9) (N := 13) hx hb hts zl_X9 hown hK hP 0 rfl rfl 4 (by decide) (hts _ zw_t2_193) (fun _ h9 => h9) rfl dX9_hear_92 ?_
            refine va_get (D := (dC, dI)) (ci := 3) (v := .int nw_known) (C := RX3) (T := TX3) (N := 6) hx hb hts zl_X3 hown hK hP 1 rfl rfl 4 (by decide) (hts _ zw_t1_165) (fun _ h9 => h9) rfl dX9_hear_95 ?_
            refine lv_iload_n hx hb dX9_hear_98 rfl (lv_at hl 4 rfl) ?_
            obtain ⟨hPc, hDc, hFc⟩ := z_cut (wc := []) hP hD hS hA [] rfl (by decide +kernel)
            have hKc := hK.sub (tys' := []) [] rfl
            refine va_calli (va_runS (As := [.int nw_known, .int p1]) (rest := []) ⟨hx, hb, hml, hown, hts⟩ (kf_X9_has l sa dC dI nw_known p1 H.size) (va_cwS 2 hts (z_gS zw_t4_12 zw_t3_123 zw_t1_1 zw_t3_124) rfl rfl rfl (by decide +kernel) (by rw [← hRe]; exact ⟨(Nat.le_of_ble_eq_true rfl), (Nat.le_of_ble_eq_true rfl)⟩)) (z_preS hPc hKc hDc hN hXs hS hFc) rfl rfl hl.1 rfl (lv_room (Nat.le_of_ble_eq_true rfl)) dX9_hear_99 (by rw [← hRe]; exact ⟨(Nat.le_of_ble_eq_true rfl), (Nat.le_of_ble_eq_true rfl)⟩)) hS (fun q _ h => hFc q h) hFc (fun r_26 u t H1 locs ht hvm hw hB hz1 hk1 hS => ?_)
            obtain ⟨hP, hD, hK⟩ := z_after3 (wn := [(h0, .inr (9, [.ref tp, .int h0_tapeLength, .int h0_faultKind, .int h0_faultPlace, .ref nw, .ref im, .ref sl, .ref rd, .ref wk, .ref fm, .ref mt, .ref ch, .ref dy])), (nw, .inr (3, [.int nw_isKept, .ref tn, .int nw_strayed, .int nw_names, .int nw_known, .int nw_gone])), (tn_shows, .inl (cA_tn_shows, 10, .inl f_tn_shows)), (tn_told, .inl (cA_tn_told, 480, .inl f_tn_told)), (tn_strayCourts, .inl (cA_tn_strayCourts, 10, .inl f_tn_strayCourts)), (tn, .inr (7, [.int tn_hours, .int tn_courts, .int tn_gateCount, .int tn_people, .int tn_lines, .int tn_falseHours, .int tn_strayers, .int tn_deep, .ref tn_above, .ref tn_doors, .ref tn_degrees, .ref tn_neighbours, .ref tn_shows, .ref tn_oneEnd, .ref tn_otherEnd, .ref tn_told, .ref tn_strayParts, .ref tn_strayCourts]))]) hB ht hvm hP hD hK [] [0, 1, 2, 3, 4, 5] rfl 6 rfl (by decide +kernel) rfl (by decide +kernel) hk1 hFc
            generalize H1 = H at hP hS ⊢
            have hK : va_K (dC, dI) vwCl [(cA_tn_shows, .int), (cA_tn_told, .int), (cA_tn_strayCourts, .int)] s := hK
            have b_r_26 : 0 ≤ r_26.toInt ∧ r_26.toInt ≤ 1 := hw.1
            have sf_r_26 := hw.2
            replace hF := hF.trans (zL_eq sf_r_26)
            refine lv_if_eq (tgt := 119) hx hb dX9_hear_102 (by decide) (fun c_27 => ?_) (fun c_27 => ?_)
            · have ic_27 := zz_eq rfl (show Int32.toInt 0 = 0 from by decide) c_27
              replace hF := hF.trans (if_pos c_27)
              refine lv_iconst (v := 1) hx hb dX9_hear_119 (by decide) ?_
              refine lv_goto (tgt := 124) hx hb dX9_hear_120 (by decide) ?_
              refine lv_istore (lv' := [(8, .int 1), (7, .int 1), (6, .int x_7), (5, .ref tn), (0, .ref h0), (1, .int p1), (2, .int p2), (3, .int p3), (4, .int p4)]) hx hb dX9_hear_124 hl (by decide) rfl (fun ls hl => ?_)
              refine lv_iload hx hb dX9_hear_126 (lv_at hl 1 rfl) ?_
              refine lv_if_eq (tgt := 153) hx hb dX9_hear_128 (by decide) (fun q => absurd q (by decide)) (fun _ => ?_)
              refine lv_aload hx hb dX9_hear_131 (lv_at hl 3 rfl) ?_
              refine lv_iload_n hx hb dX9_hear_133 rfl (lv_at hl 5 rfl) ?_
              refine lv_iload_n hx hb dX9_hear_134 rfl (lv_at hl 7 rfl) ?_
              refine lv_iload hx hb dX9_hear_135 (lv_at hl 2 rfl) ?_
              obtain ⟨hPc, hDc, hFc⟩ := z_cut (wc := [(tn, .inr (7, [.int tn_hours, .int tn_courts, .int tn_gateCount, .int tn_people, .int tn_lines, .int tn_falseHours, .int tn_strayers, .int tn_deep, .ref tn_above, .ref tn_doors, .ref tn_degrees, .ref tn_neighbours, .ref tn_shows, .ref tn_oneEnd, .ref tn_otherEnd, .ref tn_told, .ref tn_strayParts, .ref tn_strayCourts])), (tn_shows, .inl (cA_tn_shows, 10, .inl f_tn_shows)), (tn_told, .inl (cA_tn_told, 480, .inl f_tn_told)), (tn_strayCourts, .inl (cA_tn_strayCourts, 10, .inl f_tn_strayCourts))]) hP hD hS hA [5, 2, 3, 4] rfl (by decide +kernel)
              have hKc := hK.sub (tys' := [(cA_tn_shows, .int), (cA_tn_told, .int), (cA_tn_strayCourts, .int)]) [0, 1, 2] rfl
              refine va_calli (va_runV (As := [.int p1, .int p3, .int x_7]) (rest := []) ⟨hx, hb, hml, hown, hts⟩ (kf_X7_showsOf l sa dC dI tn p1 p3 x_7 tn_hours tn_courts tn_gateCount tn_people tn_lines tn_falseHours tn_strayers tn_deep tn_above tn_doors tn_degrees tn_neighbours tn_shows tn_oneEnd tn_otherEnd tn_told tn_strayParts tn_strayCourts cA_tn_shows f_tn_shows cA_tn_told f_tn_told cA_tn_strayCourts f_tn_strayCourts (by first | with_reducible assumption | omega) (by first | with_reducible assumption | omega) (by first | with_reducible assumption | omega) (by first | with_reducible assumption | omega) (by first | with_reducible assumption | omega) (by first | with_reducible assumption | omega) (by first | with_reducible assumption | omega) (by first | with_reducible assumption | omega) b_f_tn_told b_f_tn_strayCourts H.size) (cwV 3 hts (z_gV zw_t5_133 zw_t3_206 zw_t3_207 zw_t1_3 zw_t3_208) rfl rfl rfl (by decide +kernel) (by rw [← hRe]; exact ⟨(Nat.le_of_ble_eq_true rfl), (Nat.le_of_ble_eq_true rfl)⟩)) (z_preV hPc hKc hDc hN hXs hS hFc (q := (RX7, TX7, 18)) (ci := 7) (q0 := 0) rfl rfl) rfl rfl hl.1 rfl (lv_room (Nat.le_of_ble_eq_true rfl)) dX9_hear_137 (by rw [← hRe]; exact ⟨(Nat.le_of_ble_eq_true rfl), (Nat.le_of_ble_eq_true rfl)⟩)) hS (fun q _ h => hFc q h) hFc (fun r_28 u t H1 locs ht hvm hw hB hz1 hk1 hS => ?_)
              obtain ⟨hP, hD, hK⟩ := z_after3 (wn := [(h0, .inr (9, [.ref tp, .int h0_tapeLength, .int h0_faultKind, .int h0_faultPlace, .ref nw, .ref im, .ref sl, .ref rd, .ref wk, .ref fm, .ref mt, .ref ch, .ref dy])), (nw, .inr (3, [.int nw_isKept, .ref tn, .int nw_strayed, .int nw_names, .int nw_known, .int nw_gone])), (tn, .inr (7, [.int tn_hours, .int tn_courts, .int tn_gateCount, .int tn_people, .int tn_lines, .int tn_falseHours, .int tn_strayers, .int tn_deep, .ref tn_above, .ref tn_doors, .ref tn_degrees, .ref tn_neighbours, .ref tn_shows, .ref tn_oneEnd, .ref tn_otherEnd, .ref tn_told, .ref tn_strayParts, .ref tn_strayCourts])), (tn_shows, .inl (cA_tn_shows, 10, .inl f_tn_shows)), (tn_told, .inl (cA_tn_told, 480, .inl f_tn_told)), (tn_strayCourts, .inl (cA_tn_strayCourts, 10, .inl f_tn_strayCourts))]) hB ht hvm hP hD hK [5, 2, 3, 4] [0, 1] rfl 6 rfl (by decide +kernel) rfl (by decide +kernel) hk1 hFc
              generalize H1 = H at hP hS ⊢
              have hK : va_K (dC, dI) vwCl [(cA_tn_shows, .int), (cA_tn_told, .int), (cA_tn_strayCourts, .int)] s := hK
              have sf_r_28 := hw
              replace hF := hF.trans (zL_eq sf_r_28)
              refine lv_iload_n hx hb dX9_hear_140 rfl (lv_at hl 6 rfl) ?_
              obtain ⟨hPc, hDc, hFc⟩ := z_cut (wc := []) hP hD hS hA [] rfl (by decide +kernel)
              have hKc := hK.sub (tys' := []) [] rfl
              refine va_calli (va_runS (As := [.int r_28, .int p2]) (rest := []) ⟨hx, hb, hml, hown, hts⟩ (kf_X9_has l sa dC dI r_28 p2 H.size) (va_cwS 2 hts (z_gS zw_t4_12 zw_t3_123 zw_t1_1 zw_t3_124) rfl rfl rfl (by decide +kernel) (by rw [← hRe]; exact ⟨(Nat.le_of_ble_eq_true rfl), (Nat.le_of_ble_eq_true rfl)⟩)) (z_preS hPc hKc hDc hN hXs hS hFc) rfl rfl hl.1 rfl (lv_room (Nat.le_of_ble_eq_true rfl)) dX9_hear_141 (by rw [← hRe]; exact ⟨(Nat.le_of_ble_eq_true rfl), (Nat.le_of_ble_eq_true rfl)⟩)) hS (fun q _ h => hFc q h) hFc (fun r_29 u t H1 locs ht hvm hw hB hz1 hk1 hS => ?_)
              obtain ⟨hP, hD, hK⟩ := z_after3 (wn := [(h0, .inr (9, [.ref tp, .int h0_tapeLength, .int h0_faultKind, .int h0_faultPlace, .ref nw, .ref im, .ref sl, .ref rd, .ref wk, .ref fm, .ref mt, .ref ch, .ref dy])), (nw, .inr (3, [.int nw_isKept, .ref tn, .int nw_strayed, .int nw_names, .int nw_known, .int nw_gone])), (tn, .inr (7, [.int tn_hours, .int tn_courts, .int tn_gateCount, .int tn_people, .int tn_lines, .int tn_falseHours, .int tn_strayers, .int tn_deep, .ref tn_above, .ref tn_doors, .ref tn_degrees, .ref tn_neighbours, .ref tn_shows, .ref tn_oneEnd, .ref tn_otherEnd, .ref tn_told, .ref tn_strayParts, .ref tn_strayCourts])), (tn_shows, .inl (cA_tn_shows, 10, .inl f_tn_shows)), (tn_told, .inl (cA_tn_told, 480, .inl f_tn_told)), (tn_strayCourts, .inl (cA_tn_strayCourts, 10, .inl f_tn_strayCourts))]) hB ht hvm hP hD hK [] [0, 1, 2, 3, 4, 5] rfl 6 rfl (by decide +kernel) rfl (by decide +kernel) hk1 hFc
              generalize H1 = H at hP hS ⊢
              have hK : va_K (dC, dI) vwCl [(cA_tn_shows, .int), (cA_tn_told, .int), (cA_tn_strayCourts, .int)] s := hK
              have b_r_29 : 0 ≤ r_29.toInt ∧ r_29.toInt ≤ 1 := hw.1
              have sf_r_29 := hw.2
              replace hF := hF.trans (zL_eq sf_r_29)
              refine lv_iload hx hb dX9_hear_144 (lv_at hl 8 rfl) ?_
              have nb_p4 := zi_nb p4
              refine lv_icmp_ne (tgt := 153) hx hb dX9_hear_146 (by decide) (fun c_30 => ?_) (fun c_30 => ?_)
              · have ic_30 := zz_ne rfl rfl c_30
                replace hF := hF.trans (if_neg c_30)
                refine lv_iconst (v := 0) hx hb dX9_hear_153 (by decide) ?_
                refine lv_istore (lv' := [(9, .int 0), (8, .int 1), (7, .int 1), (6, .int x_7), (5, .ref tn), (0, .ref h0), (1, .int p1), (2, .int p2), (3, .int p3), (4, .int p4)]) hx hb dX9_hear_154 hl (by decide) rfl (fun ls hl => ?_)
                refine lv_iload hx hb dX9_hear_156 (lv_at hl 1 rfl) ?_
                refine lv_if_eq (tgt := 182) hx hb dX9_hear_158 (by decide) (fun q => absurd q (by decide)) (fun _ => ?_)
                refine lv_aload hx hb dX9_hear_161 (lv_at hl 4 rfl) ?_
                refine lv_iload_n hx hb dX9_hear_163 rfl (lv_at hl 6 rfl) ?_
                refine lv_iload_n hx hb dX9_hear_164 rfl (lv_at hl 8 rfl) ?_
                refine lv_iconst (v := 0) hx hb dX9_hear_165 (by decide) ?_
                obtain ⟨hPc, hDc, hFc⟩ := z_cut (wc := [(tn, .inr (7, [.int tn_hours, .int tn_courts, .int tn_gateCount, .int tn_people, .int tn_lines, .int tn_falseHours, .int tn_strayers, .int tn_deep, .ref tn_above, .ref tn_doors, .ref tn_degrees, .ref tn_neighbours, .ref tn_shows, .ref tn_oneEnd, .ref tn_otherEnd, .ref tn_told, .ref tn_strayParts, .ref tn_strayCourts])), (tn_shows, .inl (cA_tn_shows, 10, .inl f_tn_shows)), (tn_told, .inl (cA_tn_told, 480, .inl f_tn_told)), (tn_strayCourts, .inl (cA_tn_strayCourts, 10, .inl f_tn_strayCourts))]) hP hD hS hA [2, 3, 4, 5] rfl (by decide +kernel)
                have hKc := hK.sub (tys' := [(cA_tn_shows, .int), (cA_tn_told, .int), (cA_tn_strayCourts, .int)]) [0, 1, 2] rfl
                refine va_calli (va_runV (As := [.int p1, .int p3, .int 0]) (rest := []) ⟨hx, hb, hml, hown, hts⟩ (kf_X7_showsOf l sa dC dI tn p1 p3 (0) tn_hours tn_courts tn_gateCount tn_people tn_lines tn_falseHours tn_strayers tn_deep tn_above tn_doors tn_degrees tn_neighbours tn_shows tn_oneEnd tn_otherEnd tn_told tn_strayParts tn_strayCourts cA_tn_shows f_tn_shows cA_tn_told f_tn_told cA_tn_strayCourts f_tn_strayCourts (by first | with_reducible assumption | omega) (by first | with_reducible assumption | omega) (by first | with_reducible assumption | omega) (by first | with_reducible assumption | omega) (by first | with_reducible assumption | omega) (by first | with_reducible assumption | omega) (by first | with_reducible assumption | omega) (by first | with_reducible assumption | omega) b_f_tn_told b_f_tn_strayCourts H.size) (cwV 3 hts (z_gV zw_t5_133 zw_t3_206 zw_t3_207 zw_t1_3 zw_t3_208) rfl rfl rfl (by decide +kernel) (by rw [← hRe]; exact ⟨(Nat.le_of_ble_eq_true rfl), (Nat.le_of_ble_eq_true rfl)⟩)) (z_preV hPc hKc hDc hN hXs hS hFc (q := (RX7, TX7, 18)) (ci := 7) (q0 := 0) rfl rfl) rfl rfl hl.1 rfl (lv_room (Nat.le_of_ble_eq_true rfl)) dX9_hear_166 (by rw [← hRe]; exact ⟨(Nat.le_of_ble_eq_true rfl), (Nat.le_of_ble_eq_true rfl)⟩)) hS (fun q _ h => hFc q h) hFc (fun r_31 u t H1 locs ht hvm hw hB hz1 hk1 hS => ?_)
                obtain ⟨hP, hD, hK⟩ := z_after3 (wn := [(h0, .inr (9, [.ref tp, .int h0_tapeLength, .int h0_faultKind, .int h0_faultPlace, .ref nw, .ref im, .ref sl, .ref rd, .ref wk, .ref fm, .ref mt, .ref ch, .ref dy])), (nw, .inr (3, [.int nw_isKept, .ref tn, .int nw_strayed, .int nw_names, .int nw_known, .int nw_gone])), (tn, .inr (7, [.int tn_hours, .int tn_courts, .int tn_gateCount, .int tn_people, .int tn_lines, .int tn_falseHours, .int tn_strayers, .int tn_deep, .ref tn_above, .ref tn_doors, .ref tn_degrees, .ref tn_neighbours, .ref tn_shows, .ref tn_oneEnd, .ref tn_otherEnd, .ref tn_told, .ref tn_strayParts, .ref tn_strayCourts])), (tn_shows, .inl (cA_tn_shows, 10, .inl f_tn_shows)), (tn_told, .inl (cA_tn_told, 480, .inl f_tn_told)), (tn_strayCourts, .inl (cA_tn_strayCourts, 10, .inl f_tn_strayCourts))]) hB ht hvm hP hD hK [2, 3, 4, 5] [0, 1] rfl 6 rfl (by decide +kernel) rfl (by decide +kernel) hk1 hFc
                generalize H1 = H at hP hS ⊢
                have hK : va_K (dC, dI) vwCl [(cA_tn_shows, .int), (cA_tn_told, .int), (cA_tn_strayCourts, .int)] s := hK
                have sf_r_31 := hw
                have za_0 : Int32.toInt 0 = 0 := by decide
                replace hF := hF.trans (zL_eq sf_r_31)
                refine lv_iload_n hx hb dX9_hear_169 rfl (lv_at hl 7 rfl) ?_
                obtain ⟨hPc, hDc, hFc⟩ := z_cut (wc := []) hP hD hS hA [] rfl (by decide +kernel)
                have hKc := hK.sub (tys' := []) [] rfl
                refine va_calli (va_runS (As := [.int r_31, .int p2]) (rest := []) ⟨hx, hb, hml, hown, hts⟩ (kf_X9_has l sa dC dI r_31 p2 H.size) (va_cwS 2 hts (z_gS zw_t4_12 zw_t3_123 zw_t1_1 zw_t3_124) rfl rfl rfl (by decide +kernel) (by rw [← hRe]; exact ⟨(Nat.le_of_ble_eq_true rfl), (Nat.le_of_ble_eq_true rfl)⟩)) (z_preS hPc hKc hDc hN hXs hS hFc) rfl rfl hl.1 rfl (lv_room (Nat.le_of_ble_eq_true rfl)) dX9_hear_170 (by rw [← hRe]; exact ⟨(Nat.le_of_ble_eq_true rfl), (Nat.le_of_ble_eq_true rfl)⟩)) hS (fun q _ h => hFc q h) hFc (fun r_32 u t H1 locs ht hvm hw hB hz1 hk1 hS => ?_)
                obtain ⟨hP, hD, hK⟩ := z_after3 (wn := [(h0, .inr (9, [.ref tp, .int h0_tapeLength, .int h0_faultKind, .int h0_faultPlace, .ref nw, .ref im, .ref sl, .ref rd, .ref wk, .ref fm, .ref mt, .ref ch, .ref dy])), (nw, .inr (3, [.int nw_isKept, .ref tn, .int nw_strayed, .int nw_names, .int nw_known, .int nw_gone])), (tn, .inr (7, [.int tn_hours, .int tn_courts, .int tn_gateCount, .int tn_people, .int tn_lines, .int tn_falseHours, .int tn_strayers, .int tn_deep, .ref tn_above, .ref tn_doors, .ref tn_degrees, .ref tn_neighbours, .ref tn_shows, .ref tn_oneEnd, .ref tn_otherEnd, .ref tn_told, .ref tn_strayParts, .ref tn_strayCourts])), (tn_shows, .inl (cA_tn_shows, 10, .inl f_tn_shows)), (tn_told, .inl (cA_tn_told, 480, .inl f_tn_told)), (tn_strayCourts, .inl (cA_tn_strayCourts, 10, .inl f_tn_strayCourts))]) hB ht hvm hP hD hK [] [0, 1, 2, 3, 4, 5] rfl 6 rfl (by decide +kernel) rfl (by decide +kernel) hk1 hFc
                generalize H1 = H at hP hS ⊢
                have hK : va_K (dC, dI) vwCl [(cA_tn_shows, .int), (cA_tn_told, .int), (cA_tn_strayCourts, .int)] s := hK
                have b_r_32 : 0 ≤ r_32.toInt ∧ r_32.toInt ≤ 1 := hw.1
                have sf_r_32 := hw.2
                replace hF := hF.trans (zL_eq sf_r_32)
                refine lv_iload hx hb dX9_hear_173 (lv_at hl 9 rfl) ?_
                refine lv_icmp_ne (tgt := 182) hx hb dX9_hear_175 (by decide) (fun c_33 => ?_) (fun c_33 => ?_)
                · have ic_33 := zz_ne rfl rfl c_33
                  replace hF := hF.trans (if_neg c_33)
                  refine lv_iconst (v := 0) hx hb dX9_hear_182 (by decide) ?_
                  refine lv_istore (lv' := [(10, .int 0), (9, .int 0), (8, .int 1), (7, .int 1), (6, .int x_7), (5, .ref tn), (0, .ref h0), (1, .int p1), (2, .int p2), (3, .int p3), (4, .int p4)]) hx hb dX9_hear_183 hl (by decide) rfl (fun ls hl => ?_)
                  refine lv_iload hx hb dX9_hear_185 (lv_at hl 1 rfl) ?_
                  refine lv_if_ne (tgt := 198) hx hb dX9_hear_187 (by decide) (fun q => absurd q (by decide)) (fun _ => ?_)
                  refine lv_iload hx hb dX9_hear_190 (lv_at hl 0 rfl) ?_
                  refine lv_if_ne (tgt := 198) hx hb dX9_hear_192 (by decide) (fun q => absurd q (by decide)) (fun _ => ?_)
                  refine lv_bipush (v := (-5)) hx hb dX9_hear_195 (by decide) ?_
                  have hF : RR = ((-5 : Int32), nw_known, nw_gone) := hF
                  have zc : Int32.toInt (-5) = (-5) := by decide
                  exact W.iret (v := (-5)) hx hb hr (fun t ht hW => by rw [← hQe]; exact ⟨⟨(-5), (), rfl, ⟨by decide, (by rw [← hRR, hF])⟩, ⟨nw_known, nw_gone, (by rw [← hRR, hF]), (by rw [← hRR, hF]), z_ret hP hK hD ht hW [0, 1, 2, 3, 4, 5] [] rfl (by decide) rfl⟩⟩, hS.F ht⟩) hS.2.2 dX9_hear_197
                · have ic_33 := zz_nne rfl rfl c_33
                  replace hF := hF.trans (if_pos c_33)
                  refine lv_iconst (v := 1) hx hb dX9_hear_178 (by decide) ?_
                  refine lv_goto (tgt := 183) hx hb dX9_hear_179 (by decide) ?_
                  refine lv_istore (lv' := [(10, .int 1), (9, .int 0), (8, .int 1), (7, .int 1), (6, .int x_7), (5, .ref tn), (0, .ref h0), (1, .int p1), (2, .int p2), (3, .int p3), (4, .int p4)]) hx hb dX9_hear_183 hl (by decide) rfl (fun ls hl => ?_)
                  refine lv_iload hx hb dX9_hear_185 (lv_at hl 1 rfl) ?_
                  refine lv_if_ne (tgt := 198) hx hb dX9_hear_187 (by decide) (fun q => absurd q (by decide)) (fun _ => ?_)
                  refine lv_iload hx hb dX9_hear_190 (lv_at hl 0 rfl) ?_
                  refine lv_if_ne (tgt := 198) hx hb dX9_hear_192 (by decide) (fun _ => ?_) (fun q => absurd q (by decide))
                  refine lv_iload hx hb dX9_hear_198 (lv_at hl 1 rfl) ?_
                  refine lv_if_eq (tgt := 210) hx hb dX9_hear_200 (by decide) (fun _ => ?_) (fun q => absurd q (by decide))
                  refine lv_aload_n hx hb dX9_hear_210 rfl (lv_at hl 6 rfl) ?_
                  refine va_get (D := (dC, dI)) (ci := 9) (v := .ref nw) (C := RX9) (T := TX9) (N := 13) hx hb hts zl_X9 hown hK hP 0 rfl rfl 4 (by decide) (hts _ zw_t2_193) (fun _ h9 => h9) rfl dX9_hear_211 ?_
                  refine lv_dup hx hb dX9_hear_214 rfl ?_
                  refine va_get (D := (dC, dI)) (ci := 3) (v := .int nw_known) (C := RX3) (T := TX3) (N := 6) hx hb hts zl_X3 hown hK hP 1 rfl rfl 4 (by decide) (hts _ zw_t1_165) (fun _ h9 => h9) rfl dX9_hear_215 ?_
                  refine lv_iload hx hb dX9_hear_218 (lv_at hl 4 rfl) ?_
                  refine lv_aload hx hb dX9_hear_220 (lv_at hl 5 rfl) ?_
                  refine va_get (D := (dC, dI)) (ci := 7) (v := .int tn_strayers) (C := RX7) (T := TX7) (N := 18) hx hb hts zl_X7 hown hK hP 2 rfl rfl 6 (by decide) (hts _ zw_t1_74) (fun _ h9 => h9) rfl dX9_hear_222 ?_
                  refine lv_iand hx hb dX9_hear_225 ?_
                  refine lv_topi (fun x_34 ex_34 => ?_)
                  replace hF := hF.trans (zL_eq ex_34)
                  have b_x_34 : 0 ≤ x_34.toInt ∧ x_34.toInt ≤ x_7.toInt := by rw [ex_34]; exact zi_andL rfl (by first | with_reducible assumption | omega) (by first | with_reducible assumption | omega)
                  refine lv_ior hx hb dX9_hear_226 ?_
                  refine lv_topi (fun x_35 ex_35 => ?_)
                  replace hF := hF.trans (zL_eq ex_35)
                  refine va_put (D := (dC, dI)) (ci := 3) (v := .int x_35) (ty := .int) (C := RX3) (T := TX3) (N := 6) hx hb hts zl_X3 tyX3 tyX3_ok nmX3 hown hK hP hD hS 1 rfl rfl 4 (by decide) (hts _ zw_t1_165) (fun _ h9 => h9) rfl (by decide +kernel) rfl rfl (Nat.le_of_ble_eq_true rfl) dX9_hear_227 (fun H locs hP hD hS => ?_)
                  have hP : va_P (dC, dI) vwCl [(h0, .inr (9, [.ref tp, .int h0_tapeLength, .int h0_faultKind, .int h0_faultPlace, .ref nw, .ref im, .ref sl, .ref rd, .ref wk, .ref fm, .ref mt, .ref ch, .ref dy])), (nw, .inr (3, [.int nw_isKept, .ref tn, .int nw_strayed, .int nw_names, .int x_35, .int nw_gone])), (tn, .inr (7, [.int tn_hours, .int tn_courts, .int tn_gateCount, .int tn_people, .int tn_lines, .int tn_falseHours, .int tn_strayers, .int tn_deep, .ref tn_above, .ref tn_doors, .ref tn_degrees, .ref tn_neighbours, .ref tn_shows, .ref tn_oneEnd, .ref tn_otherEnd, .ref tn_told, .ref tn_strayParts, .ref tn_strayCourts])), (tn_shows, .inl (cA_tn_shows, 10, .inl f_tn_shows)), (tn_told, .inl (cA_tn_told, 480, .inl f_tn_told)), (tn_strayCourts, .inl (cA_tn_strayCourts, 10, .inl f_tn_strayCourts))] H := hP
                  have hD : va_D A [(h0, .inr (9, [.ref tp, .int h0_tapeLength, .int h0_faultKind, .int h0_faultPlace, .ref nw, .ref im, .ref sl, .ref rd, .ref wk, .ref fm, .ref mt, .ref ch, .ref dy])), (nw, .inr (3, [.int nw_isKept, .ref tn, .int nw_strayed, .int nw_names, .int x_35, .int nw_gone])), (tn, .inr (7, [.int tn_hours, .int tn_courts, .int tn_gateCount, .int tn_people, .int tn_lines, .int tn_falseHours, .int tn_strayers, .int tn_deep, .ref tn_above, .ref tn_doors, .ref tn_degrees, .ref tn_neighbours, .ref tn_shows, .ref tn_oneEnd, .ref tn_otherEnd, .ref tn_told, .ref tn_strayParts, .ref tn_strayCourts])), (tn_shows, .inl (cA_tn_shows, 10, .inl f_tn_shows)), (tn_told, .inl (cA_tn_told, 480, .inl f_tn_told)), (tn_strayCourts, .inl (cA_tn_strayCourts, 10, .inl f_tn_strayCourts))] := hD
                  refine lv_iload hx hb dX9_hear_230 (lv_at hl 1 rfl) ?_
                  refine lv_if_eq (tgt := 249) hx hb dX9_hear_232 (by decide) (fun _ => ?_) (fun q => absurd q (by decide))
                  refine lv_iconst (v := 1) hx hb dX9_hear_249 (by decide) ?_
                  have hF : RR = ((1 : Int32), x_35, nw_gone) := hF
                  have zc : Int32.toInt 1 = 1 := by decide
                  exact W.iret (v := 1) hx hb hr (fun t ht hW => by rw [← hQe]; exact ⟨⟨1, (), rfl, ⟨by decide, (by rw [← hRR, hF])⟩, ⟨x_35, nw_gone, (by rw [← hRR, hF]), (by rw [← hRR, hF]), z_ret hP hK hD ht hW [0, 1, 2, 3, 4, 5] [] rfl (by decide) rfl⟩⟩, hS.F ht⟩) hS.2.2 dX9_hear_250
              · have ic_30 := zz_nne rfl rfl c_30
                replace hF := hF.trans (if_pos c_30)
                refine lv_iconst (v := 1) hx hb dX9_hear_149 (by decide) ?_
                refine lv_goto (tgt := 154) hx hb dX9_hear_150 (by decide) ?_
                refine lv_istore (lv' := [(9, .int 1), (8, .int 1), (7, .int 1), (6, .int x_7), (5, .ref tn), (0, .ref h0), (1, .int p1), (2, .int p2), (3, .int p3), (4, .int p4)]) hx hb dX9_hear_154 hl (by decide) rfl (fun ls hl => ?_)
                refine lv_iload hx hb dX9_hear_156 (lv_at hl 1 rfl) ?_
                refine lv_if_eq (tgt := 182) hx hb dX9_hear_158 (by decide) (fun q => absurd q (by decide)) (fun _ => ?_)
                refine lv_aload hx hb dX9_hear_161 (lv_at hl 4 rfl) ?_
                refine lv_iload_n hx hb dX9_hear_163 rfl (lv_at hl 6 rfl) ?_
                refine lv_iload_n hx hb dX9_hear_164 rfl (lv_at hl 8 rfl) ?_
                refine lv_iconst (v := 0) hx hb dX9_hear_165 (by decide) ?_
                obtain ⟨hPc, hDc, hFc⟩ := z_cut (wc := [(tn, .inr (7, [.int tn_hours, .int tn_courts, .int tn_gateCount, .int tn_people, .int tn_lines, .int tn_falseHours, .int tn_strayers, .int tn_deep, .ref tn_above, .ref tn_doors, .ref tn_degrees, .ref tn_neighbours, .ref tn_shows, .ref tn_oneEnd, .ref tn_otherEnd, .ref tn_told, .ref tn_strayParts, .ref tn_strayCourts])), (tn_shows, .inl (cA_tn_shows, 10, .inl f_tn_shows)), (tn_told, .inl (cA_tn_told, 480, .inl f_tn_told)), (tn_strayCourts, .inl (cA_tn_strayCourts, 10, .inl f_tn_strayCourts))]) hP hD hS hA [2, 3, 4, 5] rfl (by decide +kernel)
                have hKc := hK.sub (tys' := [(cA_tn_shows, .int), (cA_tn_told, .int), (cA_tn_strayCourts, .int)]) [0, 1, 2] rfl
                refine va_calli (va_runV (As := [.int p1, .int p3, .int 0]) (rest := []) ⟨hx, hb, hml, hown, hts⟩ (kf_X7_showsOf l sa dC dI tn p1 p3 (0) tn_hours tn_courts tn_gateCount tn_people tn_lines tn_falseHours tn_strayers tn_deep tn_above tn_doors tn_degrees tn_neighbours tn_shows tn_oneEnd tn_otherEnd tn_told tn_strayParts tn_strayCourts cA_tn_shows f_tn_shows cA_tn_told f_tn_told cA_tn_strayCourts f_tn_strayCourts (by first | with_reducible assumption | omega) (by first | with_reducible assumption | omega) (by first | with_reducible assumption | omega) (by first | with_reducible assumption | omega) (by first | with_reducible assumption | omega) (by first | with_reducible assumption | omega) (by first | with_reducible assumption | omega) (by first | with_reducible assumption | omega) b_f_tn_told b_f_tn_strayCourts H.size) (cwV 3 hts (z_gV zw_t5_133 zw_t3_206 zw_t3_207 zw_t1_3 zw_t3_208) rfl rfl rfl (by decide +kernel) (by rw [← hRe]; exact ⟨(Nat.le_of_ble_eq_true rfl), (Nat.le_of_ble_eq_true rfl)⟩)) (z_preV hPc hKc hDc hN hXs hS hFc (q := (RX7, TX7, 18)) (ci := 7) (q0 := 0) rfl rfl) rfl rfl hl.1 rfl (lv_room (Nat.le_of_ble_eq_true rfl)) dX9_hear_166 (by rw [← hRe]; exact ⟨(Nat.le_of_ble_eq_true rfl), (Nat.le_of_ble_eq_true rfl)⟩)) hS (fun q _ h => hFc q h) hFc (fun r_36 u t H1 locs ht hvm hw hB hz1 hk1 hS => ?_)
                obtain ⟨hP, hD, hK⟩ := z_after3 (wn := [(h0, .inr (9, [.ref tp, .int h0_tapeLength, .int h0_faultKind, .int h0_faultPlace, .ref nw, .ref im, .ref sl, .ref rd, .ref wk, .ref fm, .ref mt, .ref ch, .ref dy])), (nw, .inr (3, [.int nw_isKept, .ref tn, .int nw_strayed, .int nw_names, .int nw_known, .int nw_gone])), (tn, .inr (7, [.int tn_hours, .int tn_courts, .int tn_gateCount, .int tn_people, .int tn_lines, .int tn_falseHours, .int tn_strayers, .int tn_deep, .ref tn_above, .ref tn_doors, .ref tn_degrees, .ref tn_neighbours, .ref tn_shows, .ref tn_oneEnd, .ref tn_otherEnd, .ref tn_told, .ref tn_strayParts, .ref tn_strayCourts])), (tn_shows, .inl (cA_tn_shows, 10, .inl f_tn_shows)), (tn_told, .inl (cA_tn_told, 480, .inl f_tn_told)), (tn_strayCourts, .inl (cA_tn_strayCourts, 10, .inl f_tn_strayCourts))]) hB ht hvm hP hD hK [2, 3, 4, 5] [0, 1] rfl 6 rfl (by decide +kernel) rfl (by decide +kernel) hk1 hFc
                generalize H1 = H at hP hS ⊢
                have hK : va_K (dC, dI) vwCl [(cA_tn_shows, .int), (cA_tn_told, .int), (cA_tn_strayCourts, .int)] s := hK
                have sf_r_36 := hw
                have za_0 : Int32.toInt 0 = 0 := by decide
                replace hF := hF.trans (zL_eq sf_r_36)
                refine lv_iload_n hx hb dX9_hear_169 rfl (lv_at hl 7 rfl) ?_
                obtain ⟨hPc, hDc, hFc⟩ := z_cut (wc := []) hP hD hS hA [] rfl (by decide +kernel)
                have hKc := hK.sub (tys' := []) [] rfl
                refine va_calli (va_runS (As := [.int r_36, .int p2]) (rest := []) ⟨hx, hb, hml, hown, hts⟩ (kf_X9_has l sa dC dI r_36 p2 H.size) (va_cwS 2 hts (z_gS zw_t4_12 zw_t3_123 zw_t1_1 zw_t3_124) rfl rfl rfl (by decide +kernel) (by rw [← hRe]; exact ⟨(Nat.le_of_ble_eq_true rfl), (Nat.le_of_ble_eq_true rfl)⟩)) (z_preS hPc hKc hDc hN hXs hS hFc) rfl rfl hl.1 rfl (lv_room (Nat.le_of_ble_eq_true rfl)) dX9_hear_170 (by rw [← hRe]; exact ⟨(Nat.le_of_ble_eq_true rfl), (Nat.le_of_ble_eq_true rfl)⟩)) hS (fun q _ h => hFc q h) hFc (fun r_37 u t H1 locs ht hvm hw hB hz1 hk1 hS => ?_)
                obtain ⟨hP, hD, hK⟩ := z_after3 (wn := [(h0, .inr (9, [.ref tp, .int h0_tapeLength, .int h0_faultKind, .int h0_faultPlace, .ref nw, .ref im, .ref sl, .ref rd, .ref wk, .ref fm, .ref mt, .ref ch, .ref dy])), (nw, .inr (3, [.int nw_isKept, .ref tn, .int nw_strayed, .int nw_names, .int nw_known, .int nw_gone])), (tn, .inr (7, [.int tn_hours, .int tn_courts, .int tn_gateCount, .int tn_people, .int tn_lines, .int tn_falseHours, .int tn_strayers, .int tn_deep, .ref tn_above, .ref tn_doors, .ref tn_degrees, .ref tn_neighbours, .ref tn_shows, .ref tn_oneEnd, .ref tn_otherEnd, .ref tn_told, .ref tn_strayParts, .ref tn_strayCourts])), (tn_shows, .inl (cA_tn_shows, 10, .inl f_tn_shows)), (tn_told, .inl (cA_tn_told, 480, .inl f_tn_told)), (tn_strayCourts, .inl (cA_tn_strayCourts, 10, .inl f_tn_strayCourts))]) hB ht hvm hP hD hK [] [0, 1, 2, 3, 4, 5] rfl 6 rfl (by decide +kernel) rfl (by decide +kernel) hk1 hFc
                generalize H1 = H at hP hS ⊢
                have hK : va_K (dC, dI) vwCl [(cA_tn_shows, .int), (cA_tn_told, .int), (cA_tn_strayCourts, .int)] s := hK
                have b_r_37 : 0 ≤ r_37.toInt ∧ r_37.toInt ≤ 1 := hw.1
                have sf_r_37 := hw.2
                replace hF := hF.trans (zL_eq sf_r_37)
                refine lv_iload hx hb dX9_hear_173 (lv_at hl 9 rfl) ?_
                refine lv_icmp_ne (tgt := 182) hx hb dX9_hear_175 (by decide) (fun c_38 => ?_) (fun c_38 => ?_)
                · have ic_38 := zz_ne rfl rfl c_38
                  replace hF := hF.trans (if_neg c_38)
                  refine lv_iconst (v := 0) hx hb dX9_hear_182 (by decide) ?_
                  refine lv_istore (lv' := [(10, .int 0), (9, .int 1), (8, .int 1), (7, .int 1), (6, .int x_7), (5, .ref tn), (0, .ref h0), (1, .int p1), (2, .int p2), (3, .int p3), (4, .int p4)]) hx hb dX9_hear_183 hl (by decide) rfl (fun ls hl => ?_)
                  refine lv_iload hx hb dX9_hear_185 (lv_at hl 1 rfl) ?_
                  refine lv_if_ne (tgt := 198) hx hb dX9_hear_187 (by decide) (fun _ => ?_) (fun q => absurd q (by decide))
                  refine lv_iload hx hb dX9_hear_198 (lv_at hl 1 rfl) ?_
                  refine lv_if_eq (tgt := 210) hx hb dX9_hear_200 (by decide) (fun q => absurd q (by decide)) (fun _ => ?_)
                  refine lv_iload hx hb dX9_hear_203 (lv_at hl 0 rfl) ?_
                  refine lv_if_eq (tgt := 210) hx hb dX9_hear_205 (by decide) (fun _ => ?_) (fun q => absurd q (by decide))
                  refine lv_aload_n hx hb dX9_hear_210 rfl (lv_at hl 6 rfl) ?_
                  refine va_get (D := (dC, dI)) (ci := 9) (v := .ref nw) (C := RX9) (T := TX9) (N := 13) hx hb hts zl_X9 hown hK hP 0 rfl rfl 4 (by decide) (hts _ zw_t2_193) (fun _ h9 => h9) rfl dX9_hear_211 ?_
                  refine lv_dup hx hb dX9_hear_214 rfl ?_
                  refine va_get (D := (dC, dI)) (ci := 3) (v := .int nw_known) (C := RX3) (T := TX3) (N := 6) hx hb hts zl_X3 hown hK hP 1 rfl rfl 4 (by decide) (hts _ zw_t1_165) (fun _ h9 => h9) rfl dX9_hear_215 ?_
                  refine lv_iload hx hb dX9_hear_218 (lv_at hl 4 rfl) ?_
                  refine lv_aload hx hb dX9_hear_220 (lv_at hl 5 rfl) ?_
                  refine va_get (D := (dC, dI)) (ci := 7) (v := .int tn_strayers) (C := RX7) (T := TX7) (N := 18) hx hb hts zl_X7 hown hK hP 2 rfl rfl 6 (by decide) (hts _ zw_t1_74) (fun _ h9 => h9) rfl dX9_hear_222 ?_
                  refine lv_iand hx hb dX9_hear_225 ?_
                  refine lv_topi (fun x_39 ex_39 => ?_)
                  replace hF := hF.trans (zL_eq ex_39)
                  have b_x_39 : 0 ≤ x_39.toInt ∧ x_39.toInt ≤ x_7.toInt := by rw [ex_39]; exact zi_andL rfl (by first | with_reducible assumption | omega) (by first | with_reducible assumption | omega)
                  refine lv_ior hx hb dX9_hear_226 ?_
                  refine lv_topi (fun x_40 ex_40 => ?_)
                  replace hF := hF.trans (zL_eq ex_40)
                  refine va_put (D := (dC, dI)) (ci := 3) (v := .int x_40) (ty := .int) (C := RX3) (T := TX3) (N := 6) hx hb hts zl_X3 tyX3 tyX3_ok nmX3 hown hK hP hD hS 1 rfl rfl 4 (by decide) (hts _ zw_t1_165) (fun _ h9 => h9) rfl (by decide +kernel) rfl rfl (Nat.le_of_ble_eq_true rfl) dX9_hear_227 (fun H locs hP hD hS => ?_)
                  have hP : va_P (dC, dI) vwCl [(h0, .inr (9, [.ref tp, .int h0_tapeLength, .int h0_faultKind, .int h0_faultPlace, .ref nw, .ref im, .ref sl, .ref rd, .ref wk, .ref fm, .ref mt, .ref ch, .ref dy])), (nw, .inr (3, [.int nw_isKept, .ref tn, .int nw_strayed, .int nw_names, .int x_40, .int nw_gone])), (tn, .inr (7, [.int tn_hours, .int tn_courts, .int tn_gateCount, .int tn_people, .int tn_lines, .int tn_falseHours, .int tn_strayers, .int tn_deep, .ref tn_above, .ref tn_doors, .ref tn_degrees, .ref tn_neighbours, .ref tn_shows, .ref tn_oneEnd, .ref tn_otherEnd, .ref tn_told, .ref tn_strayParts, .ref tn_strayCourts])), (tn_shows, .inl (cA_tn_shows, 10, .inl f_tn_shows)), (tn_told, .inl (cA_tn_told, 480, .inl f_tn_told)), (tn_strayCourts, .inl (cA_tn_strayCourts, 10, .inl f_tn_strayCourts))] H := hP
                  have hD : va_D A [(h0, .inr (9, [.ref tp, .int h0_tapeLength, .int h0_faultKind, .int h0_faultPlace, .ref nw, .ref im, .ref sl, .ref rd, .ref wk, .ref fm, .ref mt, .ref ch, .ref dy])), (nw, .inr (3, [.int nw_isKept, .ref tn, .int nw_strayed, .int nw_names, .int x_40, .int nw_gone])), (tn, .inr (7, [.int tn_hours, .int tn_courts, .int tn_gateCount, .int tn_people, .int tn_lines, .int tn_falseHours, .int tn_strayers, .int tn_deep, .ref tn_above, .ref tn_doors, .ref tn_degrees, .ref tn_neighbours, .ref tn_shows, .ref tn_oneEnd, .ref tn_otherEnd, .ref tn_told, .ref tn_strayParts, .ref tn_strayCourts])), (tn_shows, .inl (cA_tn_shows, 10, .inl f_tn_shows)), (tn_told, .inl (cA_tn_told, 480, .inl f_tn_told)), (tn_strayCourts, .inl (cA_tn_strayCourts, 10, .inl f_tn_strayCourts))] := hD
                  refine lv_iload hx hb dX9_hear_230 (lv_at hl 1 rfl) ?_
                  refine lv_if_eq (tgt := 249) hx hb dX9_hear_232 (by decide) (fun q => absurd q (by decide)) (fun _ => ?_)
                  refine lv_aload_n hx hb dX9_hear_235 rfl (lv_at hl 6 rfl) ?_
                  refine va_get (D := (dC, dI)) (ci := 9) (v := .ref nw) (C := RX9) (T := TX9) (N := 13) hx hb hts zl_X9 hown hK hP 0 rfl rfl 4 (by decide) (hts _ zw_t2_193) (fun _ h9 => h9) rfl dX9_hear_236 ?_
                  refine lv_dup hx hb dX9_hear_239 rfl ?_
                  refine va_get (D := (dC, dI)) (ci := 3) (v := .int nw_gone) (C := RX3) (T := TX3) (N := 6) hx hb hts zl_X3 hown hK hP 1 rfl rfl 5 (by decide) (hts _ zw_t1_168) (fun _ h9 => h9) rfl dX9_hear_240 ?_
                  refine lv_iload hx hb dX9_hear_243 (lv_at hl 4 rfl) ?_
                  refine lv_ior hx hb dX9_hear_245 ?_
                  refine lv_topi (fun x_41 ex_41 => ?_)
                  replace hF := hF.trans (zL_eq ex_41)
                  refine va_put (D := (dC, dI)) (ci := 3) (v := .int x_41) (ty := .int) (C := RX3) (T := TX3) (N := 6) hx hb hts zl_X3 tyX3 tyX3_ok nmX3 hown hK hP hD hS 1 rfl rfl 5 (by decide) (hts _ zw_t1_168) (fun _ h9 => h9) rfl (by decide +kernel) rfl rfl (Nat.le_of_ble_eq_true rfl) dX9_hear_246 (fun H locs hP hD hS => ?_)
                  have hP : va_P (dC, dI) vwCl [(h0, .inr (9, [.ref tp, .int h0_tapeLength, .int h0_faultKind, .int h0_faultPlace, .ref nw, .ref im, .ref sl, .ref rd, .ref wk, .ref fm, .ref mt, .ref ch, .ref dy])), (nw, .inr (3, [.int nw_isKept, .ref tn, .int nw_strayed, .int nw_names, .int x_40, .int x_41])), (tn, .inr (7, [.int tn_hours, .int tn_courts, .int tn_gateCount, .int tn_people, .int tn_lines, .int tn_falseHours, .int tn_strayers, .int tn_deep, .ref tn_above, .ref tn_doors, .ref tn_degrees, .ref tn_neighbours, .ref tn_shows, .ref tn_oneEnd, .ref tn_otherEnd, .ref tn_told, .ref tn_strayParts, .ref tn_strayCourts])), (tn_shows, .inl (cA_tn_shows, 10, .inl f_tn_shows)), (tn_told, .inl (cA_tn_told, 480, .inl f_tn_told)), (tn_strayCourts, .inl (cA_tn_strayCourts, 10, .inl f_tn_strayCourts))] H := hP
                  have hD : va_D A [(h0, .inr (9, [.ref tp, .int h0_tapeLength, .int h0_faultKind, .int h0_faultPlace, .ref nw, .ref im, .ref sl, .ref rd, .ref wk, .ref fm, .ref mt, .ref ch, .ref dy])), (nw, .inr (3, [.int nw_isKept, .ref tn, .int nw_strayed, .int nw_names, .int x_40, .int x_41])), (tn, .inr (7, [.int tn_hours, .int tn_courts, .int tn_gateCount, .int tn_people, .int tn_lines, .int tn_falseHours, .int tn_strayers, .int tn_deep, .ref tn_above, .ref tn_doors, .ref tn_degrees, .ref tn_neighbours, .ref tn_shows, .ref tn_oneEnd, .ref tn_otherEnd, .ref tn_told, .ref tn_strayParts, .ref tn_strayCourts])), (tn_shows, .inl (cA_tn_shows, 10, .inl f_tn_shows)), (tn_told, .inl (cA_tn_told, 480, .inl f_tn_told)), (tn_strayCourts, .inl (cA_tn_strayCourts, 10, .inl f_tn_strayCourts))] := hD
                  refine lv_iconst (v := 1) hx hb dX9_hear_249 (by decide) ?_
                  have hF : RR = ((1 : Int32), x_40, x_41) := hF
                  have zc : Int32.toInt 1 = 1 := by decide
                  exact W.iret (v := 1) hx hb hr (fun t ht hW => by rw [← hQe]; exact ⟨⟨1, (), rfl, ⟨by decide, (by rw [← hRR, hF])⟩, ⟨x_40, x_41, (by rw [← hRR, hF]), (by rw [← hRR, hF]), z_ret hP hK hD ht hW [0, 1, 2, 3, 4, 5] [] rfl (by decide) rfl⟩⟩, hS.F ht⟩) hS.2.2 dX9_hear_250
                · have ic_38 := zz_nne rfl rfl c_38
                  replace hF := hF.trans (if_pos c_38)
                  refine lv_iconst (v := 1) hx hb dX9_hear_178 (by decide) ?_
                  refine lv_goto (tgt := 183) hx hb dX9_hear_179 (by decide) ?_
                  refine lv_istore (lv' := [(10, .int 1), (9, .int 1), (8, .int 1), (7, .int 1), (6, .int x_7), (5, .ref tn), (0, .ref h0), (1, .int p1), (2, .int p2), (3, .int p3), (4, .int p4)]) hx hb dX9_hear_183 hl (by decide) rfl (fun ls hl => ?_)
                  refine lv_iload hx hb dX9_hear_185 (lv_at hl 1 rfl) ?_
                  refine lv_if_ne (tgt := 198) hx hb dX9_hear_187 (by decide) (fun _ => ?_) (fun q => absurd q (by decide))
                  refine lv_iload hx hb dX9_hear_198 (lv_at hl 1 rfl) ?_
                  refine lv_if_eq (tgt := 210) hx hb dX9_hear_200 (by decide) (fun q => absurd q (by decide)) (fun _ => ?_)
                  refine lv_iload hx hb dX9_hear_203 (lv_at hl 0 rfl) ?_
                  refine lv_if_eq (tgt := 210) hx hb dX9_hear_205 (by decide) (fun q => absurd q (by decide)) (fun _ => ?_)
                  refine lv_iconst (v := 0) hx hb dX9_hear_208 (by decide) ?_
                  have hF : RR = ((0 : Int32), nw_known, nw_gone) := hF
                  have zc : Int32.toInt 0 = 0 := by decide
                  exact W.iret (v := 0) hx hb hr (fun t ht hW => by rw [← hQe]; exact ⟨⟨0, (), rfl, ⟨by decide, (by rw [← hRR, hF])⟩, ⟨nw_known, nw_gone, (by rw [← hRR, hF]), (by rw [← hRR, hF]), z_ret hP hK hD ht hW [0, 1, 2, 3, 4, 5] [] rfl (by decide) rfl⟩⟩, hS.F ht⟩) hS.2.2 dX9_hear_209
            · have ic_27 := zz_neq rfl (show Int32.toInt 0 = 0 from by decide) c_27
              replace hF := hF.trans (if_neg c_27)
              refine lv_aload_n hx hb dX9_hear_105 rfl (lv_at hl 3 rfl) ?_
              refine va_get (D := (dC, dI)) (ci := 9) (v := .ref nw) (C := RX9) (T := TX9) (N := 13) hx hb hts zl_X9 hown hK hP 0 rfl rfl 4 (by decide) (hts _ zw_t2_193) (fun _ h9 => h9) rfl dX9_hear_106 ?_
              refine va_get (D := (dC, dI)) (ci := 3) (v := .int nw_gone) (C := RX3) (T := TX3) (N := 6) hx hb hts zl_X3 hown hK hP 1 rfl rfl 5 (by decide) (hts _ zw_t1_168) (fun _ h9 => h9) rfl dX9_hear_109 ?_
              refine lv_iload_n hx hb dX9_hear_112 rfl (lv_at hl 4 rfl) ?_
              obtain ⟨hPc, hDc, hFc⟩ := z_cut (wc := []) hP hD hS hA [] rfl (by decide +kernel)
              have hKc := hK.sub (tys' := []) [] rfl
              refine va_calli (va_runS (As := [.int nw_gone, .int p1]) (rest := []) ⟨hx, hb, hml, hown, hts⟩ (kf_X9_has l sa dC dI nw_gone p1 H.size) (va_cwS 2 hts (z_gS zw_t4_12 zw_t3_123 zw_t1_1 zw_t3_124) rfl rfl rfl (by decide +kernel) (by rw [← hRe]; exact ⟨(Nat.le_of_ble_eq_true rfl), (Nat.le_of_ble_eq_true rfl)⟩)) (z_preS hPc hKc hDc hN hXs hS hFc) rfl rfl hl.1 rfl (lv_room (Nat.le_of_ble_eq_true rfl)) dX9_hear_113 (by rw [← hRe]; exact ⟨(Nat.le_of_ble_eq_true rfl), (Nat.le_of_ble_eq_true rfl)⟩)) hS (fun q _ h => hFc q h) hFc (fun r_42 u t H1 locs ht hvm hw hB hz1 hk1 hS => ?_)
              obtain ⟨hP, hD, hK⟩ := z_after3 (wn := [(h0, .inr (9, [.ref tp, .int h0_tapeLength, .int h0_faultKind, .int h0_faultPlace, .ref nw, .ref im, .ref sl, .ref rd, .ref wk, .ref fm, .ref mt, .ref ch, .ref dy])), (nw, .inr (3, [.int nw_isKept, .ref tn, .int nw_strayed, .int nw_names, .int nw_known, .int nw_gone])), (tn_shows, .inl (cA_tn_shows, 10, .inl f_tn_shows)), (tn_told, .inl (cA_tn_told, 480, .inl f_tn_told)), (tn_strayCourts, .inl (cA_tn_strayCourts, 10, .inl f_tn_strayCourts)), (tn, .inr (7, [.int tn_hours, .int tn_courts, .int tn_gateCount, .int tn_people, .int tn_lines, .int tn_falseHours, .int tn_strayers, .int tn_deep, .ref tn_above, .ref tn_doors, .ref tn_degrees, .ref tn_neighbours, .ref tn_shows, .ref tn_oneEnd, .ref tn_otherEnd, .ref tn_told, .ref tn_strayParts, .ref tn_strayCourts]))]) hB ht hvm hP hD hK [] [0, 1, 2, 3, 4, 5] rfl 6 rfl (by decide +kernel) rfl (by decide +kernel) hk1 hFc
              generalize H1 = H at hP hS ⊢
              have hK : va_K (dC, dI) vwCl [(cA_tn_shows, .int), (cA_tn_told, .int), (cA_tn_strayCourts, .int)] s := hK
              have b_r_42 : 0 ≤ r_42.toInt ∧ r_42.toInt ≤ 1 := hw.1
              have sf_r_42 := hw.2
              replace hF := hF.trans (zL_eq sf_r_42)
              refine lv_if_ne (tgt := 123) hx hb dX9_hear_116 (by decide) (fun c_43 => ?_) (fun c_43 => ?_)
              · have ic_43 := zz_ne rfl (show Int32.toInt 0 = 0 from by decide) c_43
                replace hF := hF.trans (if_neg c_43)
                refine lv_iconst (v := 0) hx hb dX9_hear_123 (by decide) ?_
                refine lv_istore (lv' := [(8, .int 0), (7, .int 1), (6, .int x_7), (5, .ref tn), (0, .ref h0), (1, .int p1), (2, .int p2), (3, .int p3), (4, .int p4)]) hx hb dX9_hear_124 hl (by decide) rfl (fun ls hl => ?_)
                refine lv_iload hx hb dX9_hear_126 (lv_at hl 1 rfl) ?_
                refine lv_if_eq (tgt := 153) hx hb dX9_hear_128 (by decide) (fun q => absurd q (by decide)) (fun _ => ?_)
                refine lv_aload hx hb dX9_hear_131 (lv_at hl 3 rfl) ?_
                refine lv_iload_n hx hb dX9_hear_133 rfl (lv_at hl 5 rfl) ?_
                refine lv_iload_n hx hb dX9_hear_134 rfl (lv_at hl 7 rfl) ?_
                refine lv_iload hx hb dX9_hear_135 (lv_at hl 2 rfl) ?_
                obtain ⟨hPc, hDc, hFc⟩ := z_cut (wc := [(tn, .inr (7, [.int tn_hours, .int tn_courts, .int tn_gateCount, .int tn_people, .int tn_lines, .int tn_falseHours, .int tn_strayers, .int tn_deep, .ref tn_above, .ref tn_doors, .ref tn_degrees, .ref tn_neighbours, .ref tn_shows, .ref tn_oneEnd, .ref tn_otherEnd, .ref tn_told, .ref tn_strayParts, .ref tn_strayCourts])), (tn_shows, .inl (cA_tn_shows, 10, .inl f_tn_shows)), (tn_told, .inl (cA_tn_told, 480, .inl f_tn_told)), (tn_strayCourts, .inl (cA_tn_strayCourts, 10, .inl f_tn_strayCourts))]) hP hD hS hA [5, 2, 3, 4] rfl (by decide +kernel)
                have hKc := hK.sub (tys' := [(cA_tn_shows, .int), (cA_tn_told, .int), (cA_tn_strayCourts, .int)]) [0, 1, 2] rfl
                refine va_calli (va_runV (As := [.int p1, .int p3, .int x_7]) (rest := []) ⟨hx, hb, hml, hown, hts⟩ (kf_X7_showsOf l sa dC dI tn p1 p3 x_7 tn_hours tn_courts tn_gateCount tn_people tn_lines tn_falseHours tn_strayers tn_deep tn_above tn_doors tn_degrees tn_neighbours tn_shows tn_oneEnd tn_otherEnd tn_told tn_strayParts tn_strayCourts cA_tn_shows f_tn_shows cA_tn_told f_tn_told cA_tn_strayCourts f_tn_strayCourts (by first | with_reducible assumption | omega) (by first | with_reducible assumption | omega) (by first | with_reducible assumption | omega) (by first | with_reducible assumption | omega) (by first | with_reducible assumption | omega) (by first | with_reducible assumption | omega) (by first | with_reducible assumption | omega) (by first | with_reducible assumption | omega) b_f_tn_told b_f_tn_strayCourts H.size) (cwV 3 hts (z_gV zw_t5_133 zw_t3_206 zw_t3_207 zw_t1_3 zw_t3_208) rfl rfl rfl (by decide +kernel) (by rw [← hRe]; exact ⟨(Nat.le_of_ble_eq_true rfl), (Nat.le_of_ble_eq_true rfl)⟩)) (z_preV hPc hKc hDc hN hXs hS hFc (q := (RX7, TX7, 18)) (ci := 7) (q0 := 0) rfl rfl) rfl rfl hl.1 rfl (lv_room (Nat.le_of_ble_eq_true rfl)) dX9_hear_137 (by rw [← hRe]; exact ⟨(Nat.le_of_ble_eq_true rfl), (Nat.le_of_ble_eq_true rfl)⟩)) hS (fun q _ h => hFc q h) hFc (fun r_44 u t H1 locs ht hvm hw hB hz1 hk1 hS => ?_)
                obtain ⟨hP, hD, hK⟩ := z_after3 (wn := [(h0, .inr (9, [.ref tp, .int h0_tapeLength, .int h0_faultKind, .int h0_faultPlace, .ref nw, .ref im, .ref sl, .ref rd, .ref wk, .ref fm, .ref mt, .ref ch, .ref dy])), (nw, .inr (3, [.int nw_isKept, .ref tn, .int nw_strayed, .int nw_names, .int nw_known, .int nw_gone])), (tn, .inr (7, [.int tn_hours, .int tn_courts, .int tn_gateCount, .int tn_people, .int tn_lines, .int tn_falseHours, .int tn_strayers, .int tn_deep, .ref tn_above, .ref tn_doors, .ref tn_degrees, .ref tn_neighbours, .ref tn_shows, .ref tn_oneEnd, .ref tn_otherEnd, .ref tn_told, .ref tn_strayParts, .ref tn_strayCourts])), (tn_shows, .inl (cA_tn_shows, 10, .inl f_tn_shows)), (tn_told, .inl (cA_tn_told, 480, .inl f_tn_told)), (tn_strayCourts, .inl (cA_tn_strayCourts, 10, .inl f_tn_strayCourts))]) hB ht hvm hP hD hK [5, 2, 3, 4] [0, 1] rfl 6 rfl (by decide +kernel) rfl (by decide +kernel) hk1 hFc
                generalize H1 = H at hP hS ⊢
                have hK : va_K (dC, dI) vwCl [(cA_tn_shows, .int), (cA_tn_told, .int), (cA_tn_strayCourts, .int)] s := hK
                have sf_r_44 := hw
                replace hF := hF.trans (zL_eq sf_r_44)
                refine lv_iload_n hx hb dX9_hear_140 rfl (lv_at hl 6 rfl) ?_
                obtain ⟨hPc, hDc, hFc⟩ := z_cut (wc := []) hP hD hS hA [] rfl (by decide +kernel)
                have hKc := hK.sub (tys' := []) [] rfl
                refine va_calli (va_runS (As := [.int r_44, .int p2]) (rest := []) ⟨hx, hb, hml, hown, hts⟩ (kf_X9_has l sa dC dI r_44 p2 H.size) (va_cwS 2 hts (z_gS zw_t4_12 zw_t3_123 zw_t1_1 zw_t3_124) rfl rfl rfl (by decide +kernel) (by rw [← hRe]; exact ⟨(Nat.le_of_ble_eq_true rfl), (Nat.le_of_ble_eq_true rfl)⟩)) (z_preS hPc hKc hDc hN hXs hS hFc) rfl rfl hl.1 rfl (lv_room (Nat.le_of_ble_eq_true rfl)) dX9_hear_141 (by rw [← hRe]; exact ⟨(Nat.le_of_ble_eq_true rfl), (Nat.le_of_ble_eq_true rfl)⟩)) hS (fun q _ h => hFc q h) hFc (fun r_45 u t H1 locs ht hvm hw hB hz1 hk1 hS => ?_)
                obtain ⟨hP, hD, hK⟩ := z_after3 (wn := [(h0, .inr (9, [.ref tp, .int h0_tapeLength, .int h0_faultKind, .int h0_faultPlace, .ref nw, .ref im, .ref sl, .ref rd, .ref wk, .ref fm, .ref mt, .ref ch, .ref dy])), (nw, .inr (3, [.int nw_isKept, .ref tn, .int nw_strayed, .int nw_names, .int nw_known, .int nw_gone])), (tn, .inr (7, [.int tn_hours, .int tn_courts, .int tn_gateCount, .int tn_people, .int tn_lines, .int tn_falseHours, .int tn_strayers, .int tn_deep, .ref tn_above, .ref tn_doors, .ref tn_degrees, .ref tn_neighbours, .ref tn_shows, .ref tn_oneEnd, .ref tn_otherEnd, .ref tn_told, .ref tn_strayParts, .ref tn_strayCourts])), (tn_shows, .inl (cA_tn_shows, 10, .inl f_tn_shows)), (tn_told, .inl (cA_tn_told, 480, .inl f_tn_told)), (tn_strayCourts, .inl (cA_tn_strayCourts, 10, .inl f_tn_strayCourts))]) hB ht hvm hP hD hK [] [0, 1, 2, 3, 4, 5] rfl 6 rfl (by decide +kernel) rfl (by decide +kernel) hk1 hFc
                generalize H1 = H at hP hS ⊢
                have hK : va_K (dC, dI) vwCl [(cA_tn_shows, .int), (cA_tn_told, .int), (cA_tn_strayCourts, .int)] s := hK
                have b_r_45 : 0 ≤ r_45.toInt ∧ r_45.toInt ≤ 1 := hw.1
                have sf_r_45 := hw.2
                replace hF := hF.trans (zL_eq sf_r_45)
                refine lv_iload hx hb dX9_hear_144 (lv_at hl 8 rfl) ?_
                have nb_p4 := zi_nb p4
                refine lv_icmp_ne (tgt := 153) hx hb dX9_hear_146 (by decide) (fun c_46 => ?_) (fun c_46 => ?_)
                · have ic_46 := zz_ne rfl rfl c_46
                  replace hF := hF.trans (if_neg c_46)
                  refine lv_iconst (v := 0) hx hb dX9_hear_153 (by decide) ?_
                  refine lv_istore (lv' := [(9, .int 0), (8, .int 0), (7, .int 1), (6, .int x_7), (5, .ref tn), (0, .ref h0), (1, .int p1), (2, .int p2), (3, .int p3), (4, .int p4)]) hx hb dX9_hear_154 hl (by decide) rfl (fun ls hl => ?_)
                  refine lv_iload hx hb dX9_hear_156 (lv_at hl 1 rfl) ?_
                  refine lv_if_eq (tgt := 182) hx hb dX9_hear_158 (by decide) (fun _ => ?_) (fun q => absurd q (by decide))
                  refine lv_iconst (v := 0) hx hb dX9_hear_182 (by decide) ?_
                  refine lv_istore (lv' := [(10, .int 0), (9, .int 0), (8, .int 0), (7, .int 1), (6, .int x_7), (5, .ref tn), (0, .ref h0), (1, .int p1), (2, .int p2), (3, .int p3), (4, .int p4)]) hx hb dX9_hear_183 hl (by decide) rfl (fun ls hl => ?_)
                  refine lv_iload hx hb dX9_hear_185 (lv_at hl 1 rfl) ?_
                  refine lv_if_ne (tgt := 198) hx hb dX9_hear_187 (by decide) (fun q => absurd q (by decide)) (fun _ => ?_)
                  refine lv_iload hx hb dX9_hear_190 (lv_at hl 0 rfl) ?_
                  refine lv_if_ne (tgt := 198) hx hb dX9_hear_192 (by decide) (fun q => absurd q (by decide)) (fun _ => ?_)
                  refine lv_bipush (v := (-5)) hx hb dX9_hear_195 (by decide) ?_
                  have hF : RR = ((-5 : Int32), nw_known, nw_gone) := hF
                  have zc : Int32.toInt (-5) = (-5) := by decide
                  exact W.iret (v := (-5)) hx hb hr (fun t ht hW => by rw [← hQe]; exact ⟨⟨(-5), (), rfl, ⟨by decide, (by rw [← hRR, hF])⟩, ⟨nw_known, nw_gone, (by rw [← hRR, hF]), (by rw [← hRR, hF]), z_ret hP hK hD ht hW [0, 1, 2, 3, 4, 5] [] rfl (by decide) rfl⟩⟩, hS.F ht⟩) hS.2.2 dX9_hear_197
                · have ic_46 := zz_nne rfl rfl c_46
                  replace hF := hF.trans (if_pos c_46)
                  refine lv_iconst (v := 1) hx hb dX9_hear_149 (by decide) ?_
                  refine lv_goto (tgt := 154) hx hb dX9_hear_150 (by decide) ?_
                  refine lv_istore (lv' := [(9, .int 1), (8, .int 0), (7, .int 1), (6, .int x_7), (5, .ref tn), (0, .ref h0), (1, .int p1), (2, .int p2), (3, .int p3), (4, .int p4)]) hx hb dX9_hear_154 hl (by decide) rfl (fun ls hl => ?_)
                  refine lv_iload hx hb dX9_hear_156 (lv_at hl 1 rfl) ?_
                  refine lv_if_eq (tgt := 182) hx hb dX9_hear_158 (by decide) (fun _ => ?_) (fun q => absurd q (by decide))
                  refine lv_iconst (v := 0) hx hb dX9_hear_182 (by decide) ?_
                  refine lv_istore (lv' := [(10, .int 0), (9, .int 1), (8, .int 0), (7, .int 1), (6, .int x_7), (5, .ref tn), (0, .ref h0), (1, .int p1), (2, .int p2), (3, .int p3), (4, .int p4)]) hx hb dX9_hear_183 hl (by decide) rfl (fun ls hl => ?_)
                  refine lv_iload hx hb dX9_hear_185 (lv_at hl 1 rfl) ?_
                  refine lv_if_ne (tgt := 198) hx hb dX9_hear_187 (by decide) (fun _ => ?_) (fun q => absurd q (by decide))
                  refine lv_iload hx hb dX9_hear_198 (lv_at hl 1 rfl) ?_
                  refine lv_if_eq (tgt := 210) hx hb dX9_hear_200 (by decide) (fun q => absurd q (by decide)) (fun _ => ?_)
                  refine lv_iload hx hb dX9_hear_203 (lv_at hl 0 rfl) ?_
                  refine lv_if_eq (tgt := 210) hx hb dX9_hear_205 (by decide) (fun _ => ?_) (fun q => absurd q (by decide))
                  refine lv_aload_n hx hb dX9_hear_210 rfl (lv_at hl 6 rfl) ?_
                  refine va_get (D := (dC, dI)) (ci := 9) (v := .ref nw) (C := RX9) (T := TX9) (N := 13) hx hb hts zl_X9 hown hK hP 0 rfl rfl 4 (by decide) (hts _ zw_t2_193) (fun _ h9 => h9) rfl dX9_hear_211 ?_
                  refine lv_dup hx hb dX9_hear_214 rfl ?_
                  refine va_get (D := (dC, dI)) (ci := 3) (v := .int nw_known) (C := RX3) (T := TX3) (N := 6) hx hb hts zl_X3 hown hK hP 1 rfl rfl 4 (by decide) (hts _ zw_t1_165) (fun _ h9 => h9) rfl dX9_hear_215 ?_
                  refine lv_iload hx hb dX9_hear_218 (lv_at hl 4 rfl) ?_
                  refine lv_aload hx hb dX9_hear_220 (lv_at hl 5 rfl) ?_
                  refine va_get (D := (dC, dI)) (ci := 7) (v := .int tn_strayers) (C := RX7) (T := TX7) (N := 18) hx hb hts zl_X7 hown hK hP 2 rfl rfl 6 (by decide) (hts _ zw_t1_74) (fun _ h9 => h9) rfl dX9_hear_222 ?_
                  refine lv_iand hx hb dX9_hear_225 ?_
                  refine lv_topi (fun x_47 ex_47 => ?_)
                  replace hF := hF.trans (zL_eq ex_47)
                  have b_x_47 : 0 ≤ x_47.toInt ∧ x_47.toInt ≤ x_7.toInt := by rw [ex_47]; exact zi_andL rfl (by first | with_reducible assumption | omega) (by first | with_reducible assumption | omega)
                  refine lv_ior hx hb dX9_hear_226 ?_
                  refine lv_topi (fun x_48 ex_48 => ?_)
                  replace hF := hF.trans (zL_eq ex_48)
                  refine va_put (D := (dC, dI)) (ci := 3) (v := .int x_48) (ty := .int) (C := RX3) (T := TX3) (N := 6) hx hb hts zl_X3 tyX3 tyX3_ok nmX3 hown hK hP hD hS 1 rfl rfl 4 (by decide) (hts _ zw_t1_165) (fun _ h9 => h9) rfl (by decide +kernel) rfl rfl (Nat.le_of_ble_eq_true rfl) dX9_hear_227 (fun H locs hP hD hS => ?_)
                  have hP : va_P (dC, dI) vwCl [(h0, .inr (9, [.ref tp, .int h0_tapeLength, .int h0_faultKind, .int h0_faultPlace, .ref nw, .ref im, .ref sl, .ref rd, .ref wk, .ref fm, .ref mt, .ref ch, .ref dy])), (nw, .inr (3, [.int nw_isKept, .ref tn, .int nw_strayed, .int nw_names, .int x_48, .int nw_gone])), (tn, .inr (7, [.int tn_hours, .int tn_courts, .int tn_gateCount, .int tn_people, .int tn_lines, .int tn_falseHours, .int tn_strayers, .int tn_deep, .ref tn_above, .ref tn_doors, .ref tn_degrees, .ref tn_neighbours, .ref tn_shows, .ref tn_oneEnd, .ref tn_otherEnd, .ref tn_told, .ref tn_strayParts, .ref tn_strayCourts])), (tn_shows, .inl (cA_tn_shows, 10, .inl f_tn_shows)), (tn_told, .inl (cA_tn_told, 480, .inl f_tn_told)), (tn_strayCourts, .inl (cA_tn_strayCourts, 10, .inl f_tn_strayCourts))] H := hP
                  have hD : va_D A [(h0, .inr (9, [.ref tp, .int h0_tapeLength, .int h0_faultKind, .int h0_faultPlace, .ref nw, .ref im, .ref sl, .ref rd, .ref wk, .ref fm, .ref mt, .ref ch, .ref dy])), (nw, .inr (3, [.int nw_isKept, .ref tn, .int nw_strayed, .int nw_names, .int x_48, .int nw_gone])), (tn, .inr (7, [.int tn_hours, .int tn_courts, .int tn_gateCount, .int tn_people, .int tn_lines, .int tn_falseHours, .int tn_strayers, .int tn_deep, .ref tn_above, .ref tn_doors, .ref tn_degrees, .ref tn_neighbours, .ref tn_shows, .ref tn_oneEnd, .ref tn_otherEnd, .ref tn_told, .ref tn_strayParts, .ref tn_strayCourts])), (tn_shows, .inl (cA_tn_shows, 10, .inl f_tn_shows)), (tn_told, .inl (cA_tn_told, 480, .inl f_tn_told)), (tn_strayCourts, .inl (cA_tn_strayCourts, 10, .inl f_tn_strayCourts))] := hD
                  refine lv_iload hx hb dX9_hear_230 (lv_at hl 1 rfl) ?_
                  refine lv_if_eq (tgt := 249) hx hb dX9_hear_232 (by decide) (fun q => absurd q (by decide)) (fun _ => ?_)
                  refine lv_aload_n hx hb dX9_hear_235 rfl (lv_at hl 6 rfl) ?_
                  refine va_get (D := (dC, dI)) (ci := 9) (v := .ref nw) (C := RX9) (T := TX9) (N := 13) hx hb hts zl_X9 hown hK hP 0 rfl rfl 4 (by decide) (hts _ zw_t2_193) (fun _ h9 => h9) rfl dX9_hear_236 ?_
                  refine lv_dup hx hb dX9_hear_239 rfl ?_
                  refine va_get (D := (dC, dI)) (ci := 3) (v := .int nw_gone) (C := RX3) (T := TX3) (N := 6) hx hb hts zl_X3 hown hK hP 1 rfl rfl 5 (by decide) (hts _ zw_t1_168) (fun _ h9 => h9) rfl dX9_hear_240 ?_
                  refine lv_iload hx hb dX9_hear_243 (lv_at hl 4 rfl) ?_
                  refine lv_ior hx hb dX9_hear_245 ?_
                  refine lv_topi (fun x_49 ex_49 => ?_)
                  replace hF := hF.trans (zL_eq ex_49)
                  refine va_put (D := (dC, dI)) (ci := 3) (v := .int x_49) (ty := .int) (C := RX3) (T := TX3) (N := 6) hx hb hts zl_X3 tyX3 tyX3_ok nmX3 hown hK hP hD hS 1 rfl rfl 5 (by decide) (hts _ zw_t1_168) (fun _ h9 => h9) rfl (by decide +kernel) rfl rfl (Nat.le_of_ble_eq_true rfl) dX9_hear_246 (fun H locs hP hD hS => ?_)
                  have hP : va_P (dC, dI) vwCl [(h0, .inr (9, [.ref tp, .int h0_tapeLength, .int h0_faultKind, .int h0_faultPlace, .ref nw, .ref im, .ref sl, .ref rd, .ref wk, .ref fm, .ref mt, .ref ch, .ref dy])), (nw, .inr (3, [.int nw_isKept, .ref tn, .int nw_strayed, .int nw_names, .int x_48, .int x_49])), (tn, .inr (7, [.int tn_hours, .int tn_courts, .int tn_gateCount, .int tn_people, .int tn_lines, .int tn_falseHours, .int tn_strayers, .int tn_deep, .ref tn_above, .ref tn_doors, .ref tn_degrees, .ref tn_neighbours, .ref tn_shows, .ref tn_oneEnd, .ref tn_otherEnd, .ref tn_told, .ref tn_strayParts, .ref tn_strayCourts])), (tn_shows, .inl (cA_tn_shows, 10, .inl f_tn_shows)), (tn_told, .inl (cA_tn_told, 480, .inl f_tn_told)), (tn_strayCourts, .inl (cA_tn_strayCourts, 10, .inl f_tn_strayCourts))] H := hP
                  have hD : va_D A [(h0, .inr (9, [.ref tp, .int h0_tapeLength, .int h0_faultKind, .int h0_faultPlace, .ref nw, .ref im, .ref sl, .ref rd, .ref wk, .ref fm, .ref mt, .ref ch, .ref dy])), (nw, .inr (3, [.int nw_isKept, .ref tn, .int nw_strayed, .int nw_names, .int x_48, .int x_49])), (tn, .inr (7, [.int tn_hours, .int tn_courts, .int tn_gateCount, .int tn_people, .int tn_lines, .int tn_falseHours, .int tn_strayers, .int tn_deep, .ref tn_above, .ref tn_doors, .ref tn_degrees, .ref tn_neighbours, .ref tn_shows, .ref tn_oneEnd, .ref tn_otherEnd, .ref tn_told, .ref tn_strayParts, .ref tn_strayCourts])), (tn_shows, .inl (cA_tn_shows, 10, .inl f_tn_shows)), (tn_told, .inl (cA_tn_told, 480, .inl f_tn_told)), (tn_strayCourts, .inl (cA_tn_strayCourts, 10, .inl f_tn_strayCourts))] := hD
                  refine lv_iconst (v := 1) hx hb dX9_hear_249 (by decide) ?_
                  have hF : RR = ((1 : Int32), x_48, x_49) := hF
                  have zc : Int32.toInt 1 = 1 := by decide
                  exact W.iret (v := 1) hx hb hr (fun t ht hW => by rw [← hQe]; exact ⟨⟨1, (), rfl, ⟨by decide, (by rw [← hRR, hF])⟩, ⟨x_48, x_49, (by rw [← hRR, hF]), (by rw [← hRR, hF]), z_ret hP hK hD ht hW [0, 1, 2, 3, 4, 5] [] rfl (by decide) rfl⟩⟩, hS.F ht⟩) hS.2.2 dX9_hear_250
              · have ic_43 := zz_nne rfl (show Int32.toInt 0 = 0 from by decide) c_43
                replace hF := hF.trans (if_pos c_43)
                refine lv_iconst (v := 1) hx hb dX9_hear_119 (by decide) ?_
                refine lv_goto (tgt := 124) hx hb dX9_hear_120 (by decide) ?_
                refine lv_istore (lv' := [(8, .int 1), (7, .int 1), (6, .int x_7), (5, .ref tn), (0, .ref h0), (1, .int p1), (2, .int p2), (3, .int p3), (4, .int p4)]) hx hb dX9_hear_124 hl (by decide) rfl (fun ls hl => ?_)
                refine lv_iload hx hb dX9_hear_126 (lv_at hl 1 rfl) ?_
                refine lv_if_eq (tgt := 153) hx hb dX9_hear_128 (by decide) (fun q => absurd q (by decide)) (fun _ => ?_)
                refine lv_aload hx hb dX9_hear_131 (lv_at hl 3 rfl) ?_
                refine lv_iload_n hx hb dX9_hear_133 rfl (lv_at hl 5 rfl) ?_
                refine lv_iload_n hx hb dX9_hear_134 rfl (lv_at hl 7 rfl) ?_
                refine lv_iload hx hb dX9_hear_135 (lv_at hl 2 rfl) ?_
                obtain ⟨hPc, hDc, hFc⟩ := z_cut (wc := [(tn, .inr (7, [.int tn_hours, .int tn_courts, .int tn_gateCount, .int tn_people, .int tn_lines, .int tn_falseHours, .int tn_strayers, .int tn_deep, .ref tn_above, .ref tn_doors, .ref tn_degrees, .ref tn_neighbours, .ref tn_shows, .ref tn_oneEnd, .ref tn_otherEnd, .ref tn_told, .ref tn_strayParts, .ref tn_strayCourts])), (tn_shows, .inl (cA_tn_shows, 10, .inl f_tn_shows)), (tn_told, .inl (cA_tn_told, 480, .inl f_tn_told)), (tn_strayCourts, .inl (cA_tn_strayCourts, 10, .inl f_tn_strayCourts))]) hP hD hS hA [5, 2, 3, 4] rfl (by decide +kernel)
                have hKc := hK.sub (tys' := [(cA_tn_shows, .int), (cA_tn_told, .int), (cA_tn_strayCourts, .int)]) [0, 1, 2] rfl
                refine va_calli (va_runV (As := [.int p1, .int p3, .int x_7]) (rest := []) ⟨hx, hb, hml, hown, hts⟩ (kf_X7_showsOf l sa dC dI tn p1 p3 x_7 tn_hours tn_courts tn_gateCount tn_people tn_lines tn_falseHours tn_strayers tn_deep tn_above tn_doors tn_degrees tn_neighbours tn_shows tn_oneEnd tn_otherEnd tn_told tn_strayParts tn_strayCourts cA_tn_shows f_tn_shows cA_tn_told f_tn_told cA_tn_strayCourts f_tn_strayCourts (by first | with_reducible assumption | omega) (by first | with_reducible assumption | omega) (by first | with_reducible assumption | omega) (by first | with_reducible assumption | omega) (by first | with_reducible assumption | omega) (by first | with_reducible assumption | omega) (by first | with_reducible assumption | omega) (by first | with_reducible assumption | omega) b_f_tn_told b_f_tn_strayCourts H.size) (cwV 3 hts (z_gV zw_t5_133 zw_t3_206 zw_t3_207 zw_t1_3 zw_t3_208) rfl rfl rfl (by decide +kernel) (by rw [← hRe]; exact ⟨(Nat.le_of_ble_eq_true rfl), (Nat.le_of_ble_eq_true rfl)⟩)) (z_preV hPc hKc hDc hN hXs hS hFc (q := (RX7, TX7, 18)) (ci := 7) (q0 := 0) rfl rfl) rfl rfl hl.1 rfl (lv_room (Nat.le_of_ble_eq_true rfl)) dX9_hear_137 (by rw [← hRe]; exact ⟨(Nat.le_of_ble_eq_true rfl), (Nat.le_of_ble_eq_true rfl)⟩)) hS (fun q _ h => hFc q h) hFc (fun r_50 u t H1 locs ht hvm hw hB hz1 hk1 hS => ?_)
                obtain ⟨hP, hD, hK⟩ := z_after3 (wn := [(h0, .inr (9, [.ref tp, .int h0_tapeLength, .int h0_faultKind, .int h0_faultPlace, .ref nw, .ref im, .ref sl, .ref rd, .ref wk, .ref fm, .ref mt, .ref ch, .ref dy])), (nw, .inr (3, [.int nw_isKept, .ref tn, .int nw_strayed, .int nw_names, .int nw_known, .int nw_gone])), (tn, .inr (7, [.int tn_hours, .int tn_courts, .int tn_gateCount, .int tn_people, .int tn_lines, .int tn_falseHours, .int tn_strayers, .int tn_deep, .ref tn_above, .ref tn_doors, .ref tn_degrees, .ref tn_neighbours, .ref tn_shows, .ref tn_oneEnd, .ref tn_otherEnd, .ref tn_told, .ref tn_strayParts, .ref tn_strayCourts])), (tn_shows, .inl (cA_tn_shows, 10, .inl f_tn_shows)), (tn_told, .inl (cA_tn_told, 480, .inl f_tn_told)), (tn_strayCourts, .inl (cA_tn_strayCourts, 10, .inl f_tn_strayCourts))]) hB ht hvm hP hD hK [5, 2, 3, 4] [0, 1] rfl 6 rfl (by decide +kernel) rfl (by decide +kernel) hk1 hFc
                generalize H1 = H at hP hS ⊢
                have hK : va_K (dC, dI) vwCl [(cA_tn_shows, .int), (cA_tn_told, .int), (cA_tn_strayCourts, .int)] s := hK
                have sf_r_50 := hw
                replace hF := hF.trans (zL_eq sf_r_50)
                refine lv_iload_n hx hb dX9_hear_140 rfl (lv_at hl 6 rfl) ?_
                obtain ⟨hPc, hDc, hFc⟩ := z_cut (wc := []) hP hD hS hA [] rfl (by decide +kernel)
                have hKc := hK.sub (tys' := []) [] rfl
                refine va_calli (va_runS (As := [.int r_50, .int p2]) (rest := []) ⟨hx, hb, hml, hown, hts⟩ (kf_X9_has l sa dC dI r_50 p2 H.size) (va_cwS 2 hts (z_gS zw_t4_12 zw_t3_123 zw_t1_1 zw_t3_124) rfl rfl rfl (by decide +kernel) (by rw [← hRe]; exact ⟨(Nat.le_of_ble_eq_true rfl), (Nat.le_of_ble_eq_true rfl)⟩)) (z_preS hPc hKc hDc hN hXs hS hFc) rfl rfl hl.1 rfl (lv_room (Nat.le_of_ble_eq_true rfl)) dX9_hear_141 (by rw [← hRe]; exact ⟨(Nat.le_of_ble_eq_true rfl), (Nat.le_of_ble_eq_true rfl)⟩)) hS (fun q _ h => hFc q h) hFc (fun r_51 u t H1 locs ht hvm hw hB hz1 hk1 hS => ?_)
                obtain ⟨hP, hD, hK⟩ := z_after3 (wn := [(h0, .inr (9, [.ref tp, .int h0_tapeLength, .int h0_faultKind, .int h0_faultPlace, .ref nw, .ref im, .ref sl, .ref rd, .ref wk, .ref fm, .ref mt, .ref ch, .ref dy])), (nw, .inr (3, [.int nw_isKept, .ref tn, .int nw_strayed, .int nw_names, .int nw_known, .int nw_gone])), (tn, .inr (7, [.int tn_hours, .int tn_courts, .int tn_gateCount, .int tn_people, .int tn_lines, .int tn_falseHours, .int tn_strayers, .int tn_deep, .ref tn_above, .ref tn_doors, .ref tn_degrees, .ref tn_neighbours, .ref tn_shows, .ref tn_oneEnd, .ref tn_otherEnd, .ref tn_told, .ref tn_strayParts, .ref tn_strayCourts])), (tn_shows, .inl (cA_tn_shows, 10, .inl f_tn_shows)), (tn_told, .inl (cA_tn_told, 480, .inl f_tn_told)), (tn_strayCourts, .inl (cA_tn_strayCourts, 10, .inl f_tn_strayCourts))]) hB ht hvm hP hD hK [] [0, 1, 2, 3, 4, 5] rfl 6 rfl (by decide +kernel) rfl (by decide +kernel) hk1 hFc
                generalize H1 = H at hP hS ⊢
                have hK : va_K (dC, dI) vwCl [(cA_tn_shows, .int), (cA_tn_told, .int), (cA_tn_strayCourts, .int)] s := hK
                have b_r_51 : 0 ≤ r_51.toInt ∧ r_51.toInt ≤ 1 := hw.1
                have sf_r_51 := hw.2
                replace hF := hF.trans (zL_eq sf_r_51)
                refine lv_iload hx hb dX9_hear_144 (lv_at hl 8 rfl) ?_
                have nb_p4 := zi_nb p4
                refine lv_icmp_ne (tgt := 153) hx hb dX9_hear_146 (by decide) (fun c_52 => ?_) (fun c_52 => ?_)
                · have ic_52 := zz_ne rfl rfl c_52
                  replace hF := hF.trans (if_neg c_52)
                  refine lv_iconst (v := 0) hx hb dX9_hear_153 (by decide) ?_
                  refine lv_istore (lv' := [(9, .int 0), (8, .int 1), (7, .int 1), (6, .int x_7), (5, .ref tn), (0, .ref h0), (1, .int p1), (2, .int p2), (3, .int p3), (4, .int p4)]) hx hb dX9_hear_154 hl (by decide) rfl (fun ls hl => ?_)
                  refine lv_iload hx hb dX9_hear_156 (lv_at hl 1 rfl) ?_
                  refine lv_if_eq (tgt := 182) hx hb dX9_hear_158 (by decide) (fun q => absurd q (by decide)) (fun _ => ?_)
                  refine lv_aload hx hb dX9_hear_161 (lv_at hl 4 rfl) ?_
                  refine lv_iload_n hx hb dX9_hear_163 rfl (lv_at hl 6 rfl) ?_
                  refine lv_iload_n hx hb dX9_hear_164 rfl (lv_at hl 8 rfl) ?_
                  refine lv_iconst (v := 0) hx hb dX9_hear_165 (by decide) ?_
                  obtain ⟨hPc, hDc, hFc⟩ := z_cut (wc := [(tn, .inr (7, [.int tn_hours, .int tn_courts, .int tn_gateCount, .int tn_people, .int tn_lines, .int tn_falseHours, .int tn_strayers, .int tn_deep, .ref tn_above, .ref tn_doors, .ref tn_degrees, .ref tn_neighbours, .ref tn_shows, .ref tn_oneEnd, .ref tn_otherEnd, .ref tn_told, .ref tn_strayParts, .ref tn_strayCourts])), (tn_shows, .inl (cA_tn_shows, 10, .inl f_tn_shows)), (tn_told, .inl (cA_tn_told, 480, .inl f_tn_told)), (tn_strayCourts, .inl (cA_tn_strayCourts, 10, .inl f_tn_strayCourts))]) hP hD hS hA [2, 3, 4, 5] rfl (by decide +kernel)
                  have hKc := hK.sub (tys' := [(cA_tn_shows, .int), (cA_tn_told, .int), (cA_tn_strayCourts, .int)]) [0, 1, 2] rfl
                  refine va_calli (va_runV (As := [.int p1, .int p3, .int 0]) (rest := []) ⟨hx, hb, hml, hown, hts⟩ (kf_X7_showsOf l sa dC dI tn p1 p3 (0) tn_hours tn_courts tn_gateCount tn_people tn_lines tn_falseHours tn_strayers tn_deep tn_above tn_doors tn_degrees tn_neighbours tn_shows tn_oneEnd tn_otherEnd tn_told tn_strayParts tn_strayCourts cA_tn_shows f_tn_shows cA_tn_told f_tn_told cA_tn_strayCourts f_tn_strayCourts (by first | with_reducible assumption | omega) (by first | with_reducible assumption | omega) (by first | with_reducible assumption | omega) (by first | with_reducible assumption | omega) (by first | with_reducible assumption | omega) (by first | with_reducible assumption | omega) (by first | with_reducible assumption | omega) (by first | with_reducible assumption | omega) b_f_tn_told b_f_tn_strayCourts H.size) (cwV 3 hts (z_gV zw_t5_133 zw_t3_206 zw_t3_207 zw_t1_3 zw_t3_208) rfl rfl rfl (by decide +kernel) (by rw [← hRe]; exact ⟨(Nat.le_of_ble_eq_true rfl), (Nat.le_of_ble_eq_true rfl)⟩)) (z_preV hPc hKc hDc hN hXs hS hFc (q := (RX7, TX7, 18)) (ci := 7) (q0 := 0) rfl rfl) rfl rfl hl.1 rfl (lv_room (Nat.le_of_ble_eq_true rfl)) dX9_hear_166 (by rw [← hRe]; exact ⟨(Nat.le_of_ble_eq_true rfl), (Nat.le_of_ble_eq_true rfl)⟩)) hS (fun q _ h => hFc q h) hFc (fun r_53 u t H1 locs ht hvm hw hB hz1 hk1 hS => ?_)
                  obtain ⟨hP, hD, hK⟩ := z_after3 (wn := [(h0, .inr (9, [.ref tp, .int h0_tapeLength, .int h0_faultKind, .int h0_faultPlace, .ref nw, .ref im, .ref sl, .ref rd, .ref wk, .ref fm, .ref mt, .ref ch, .ref dy])), (nw, .inr (3, [.int nw_isKept, .ref tn, .int nw_strayed, .int nw_names, .int nw_known, .int nw_gone])), (tn, .inr (7, [.int tn_hours, .int tn_courts, .int tn_gateCount, .int tn_people, .int tn_lines, .int tn_falseHours, .int tn_strayers, .int tn_deep, .ref tn_above, .ref tn_doors, .ref tn_degrees, .ref tn_neighbours, .ref tn_shows, .ref tn_oneEnd, .ref tn_otherEnd, .ref tn_told, .ref tn_strayParts, .ref tn_strayCourts])), (tn_shows, .inl (cA_tn_shows, 10, .inl f_tn_shows)), (tn_told, .inl (cA_tn_told, 480, .inl f_tn_told)), (tn_strayCourts, .inl (cA_tn_strayCourts, 10, .inl f_tn_strayCourts))]) hB ht hvm hP hD hK [2, 3, 4, 5] [0, 1] rfl 6 rfl (by decide +kernel) rfl (by decide +kernel) hk1 hFc
                  generalize H1 = H at hP hS ⊢
                  have hK : va_K (dC, dI) vwCl [(cA_tn_shows, .int), (cA_tn_told, .int), (cA_tn_strayCourts, .int)] s := hK
                  have sf_r_53 := hw
                  have za_0 : Int32.toInt 0 = 0 := by decide
                  replace hF := hF.trans (zL_eq sf_r_53)
                  refine lv_iload_n hx hb dX9_hear_169 rfl (lv_at hl 7 rfl) ?_
                  obtain ⟨hPc, hDc, hFc⟩ := z_cut (wc := []) hP hD hS hA [] rfl (by decide +kernel)
                  have hKc := hK.sub (tys' := []) [] rfl
                  refine va_calli (va_runS (As := [.int r_53, .int p2]) (rest := []) ⟨hx, hb, hml, hown, hts⟩ (kf_X9_has l sa dC dI r_53 p2 H.size) (va_cwS 2 hts (z_gS zw_t4_12 zw_t3_123 zw_t1_1 zw_t3_124) rfl rfl rfl (by decide +kernel) (by rw [← hRe]; exact ⟨(Nat.le_of_ble_eq_true rfl), (Nat.le_of_ble_eq_true rfl)⟩)) (z_preS hPc hKc hDc hN hXs hS hFc) rfl rfl hl.1 rfl (lv_room (Nat.le_of_ble_eq_true rfl)) dX9_hear_170 (by rw [← hRe]; exact ⟨(Nat.le_of_ble_eq_true rfl), (Nat.le_of_ble_eq_true rfl)⟩)) hS (fun q _ h => hFc q h) hFc (fun r_54 u t H1 locs ht hvm hw hB hz1 hk1 hS => ?_)
                  obtain ⟨hP, hD, hK⟩ := z_after3 (wn := [(h0, .inr (9, [.ref tp, .int h0_tapeLength, .int h0_faultKind, .int h0_faultPlace, .ref nw, .ref im, .ref sl, .ref rd, .ref wk, .ref fm, .ref mt, .ref ch, .ref dy])), (nw, .inr (3, [.int nw_isKept, .ref tn, .int nw_strayed, .int nw_names, .int nw_known, .int nw_gone])), (tn, .inr (7, [.int tn_hours, .int tn_courts, .int tn_gateCount, .int tn_people, .int tn_lines, .int tn_falseHours, .int tn_strayers, .int tn_deep, .ref tn_above, .ref tn_doors, .ref tn_degrees, .ref tn_neighbours, .ref tn_shows, .ref tn_oneEnd, .ref tn_otherEnd, .ref tn_told, .ref tn_strayParts, .ref tn_strayCourts])), (tn_shows, .inl (cA_tn_shows, 10, .inl f_tn_shows)), (tn_told, .inl (cA_tn_told, 480, .inl f_tn_told)), (tn_strayCourts, .inl (cA_tn_strayCourts, 10, .inl f_tn_strayCourts))]) hB ht hvm hP hD hK [] [0, 1, 2, 3, 4, 5] rfl 6 rfl (by decide +kernel) rfl (by decide +kernel) hk1 hFc
                  generalize H1 = H at hP hS ⊢
                  have hK : va_K (dC, dI) vwCl [(cA_tn_shows, .int), (cA_tn_told, .int), (cA_tn_strayCourts, .int)] s := hK
                  have b_r_54 : 0 ≤ r_54.toInt ∧ r_54.toInt ≤ 1 := hw.1
                  have sf_r_54 := hw.2
                  replace hF := hF.trans (zL_eq sf_r_54)
                  refine lv_iload hx hb dX9_hear_173 (lv_at hl 9 rfl) ?_
                  refine lv_icmp_ne (tgt := 182) hx hb dX9_hear_175 (by decide) (fun c_55 => ?_) (fun c_55 => ?_)
                  · have ic_55 := zz_ne rfl rfl c_55
                    replace hF := hF.trans (if_neg c_55)
                    refine lv_iconst (v := 0) hx hb dX9_hear_182 (by decide) ?_
                    refine lv_istore (lv' := [(10, .int 0), (9, .int 0), (8, .int 1), (7, .int 1), (6, .int x_7), (5, .ref tn), (0, .ref h0), (1, .int p1), (2, .int p2), (3, .int p3), (4, .int p4)]) hx hb dX9_hear_183 hl (by decide) rfl (fun ls hl => ?_)
                    refine lv_iload hx hb dX9_hear_185 (lv_at hl 1 rfl) ?_
                    refine lv_if_ne (tgt := 198) hx hb dX9_hear_187 (by decide) (fun q => absurd q (by decide)) (fun _ => ?_)
                    refine lv_iload hx hb dX9_hear_190 (lv_at hl 0 rfl) ?_
                    refine lv_if_ne (tgt := 198) hx hb dX9_hear_192 (by decide) (fun q => absurd q (by decide)) (fun _ => ?_)
                    refine lv_bipush (v := (-5)) hx hb dX9_hear_195 (by decide) ?_
                    have hF : RR = ((-5 : Int32), nw_known, nw_gone) := hF
                    have zc : Int32.toInt (-5) = (-5) := by decide
                    exact W.iret (v := (-5)) hx hb hr (fun t ht hW => by rw [← hQe]; exact ⟨⟨(-5), (), rfl, ⟨by decide, (by rw [← hRR, hF])⟩, ⟨nw_known, nw_gone, (by rw [← hRR, hF]), (by rw [← hRR, hF]), z_ret hP hK hD ht hW [0, 1, 2, 3, 4, 5] [] rfl (by decide) rfl⟩⟩, hS.F ht⟩) hS.2.2 dX9_hear_197
                  · have ic_55 := zz_nne rfl rfl c_55
                    replace hF := hF.trans (if_pos c_55)
                    refine lv_iconst (v := 1) hx hb dX9_hear_178 (by decide) ?_
                    refine lv_goto (tgt := 183) hx hb dX9_hear_179 (by decide) ?_
                    refine lv_istore (lv' := [(10, .int 1), (9, .int 0), (8, .int 1), (7, .int 1), (6, .int x_7), (5, .ref tn), (0, .ref h0), (1, .int p1), (2, .int p2), (3, .int p3), (4, .int p4)]) hx hb dX9_hear_183 hl (by decide) rfl (fun ls hl => ?_)
                    refine lv_iload hx hb dX9_hear_185 (lv_at hl 1 rfl) ?_
                    refine lv_if_ne (tgt := 198) hx hb dX9_hear_187 (by decide) (fun q => absurd q (by decide)) (fun _ => ?_)
                    refine lv_iload hx hb dX9_hear_190 (lv_at hl 0 rfl) ?_
                    refine lv_if_ne (tgt := 198) hx hb dX9_hear_192 (by decide) (fun _ => ?_) (fun q => absurd q (by decide))
                    refine lv_iload hx hb dX9_hear_198 (lv_at hl 1 rfl) ?_
                    refine lv_if_eq (tgt := 210) hx hb dX9_hear_200 (by decide) (fun _ => ?_) (fun q => absurd q (by decide))
                    refine lv_aload_n hx hb dX9_hear_210 rfl (lv_at hl 6 rfl) ?_
                    refine va_get (D := (dC, dI)) (ci := 9) (v := .ref nw) (C := RX9) (T := TX9) (N := 13) hx hb hts zl_X9 hown hK hP 0 rfl rfl 4 (by decide) (hts _ zw_t2_193) (fun _ h9 => h9) rfl dX9_hear_211 ?_
                    refine lv_dup hx hb dX9_hear_214 rfl ?_
                    refine va_get (D := (dC, dI)) (ci := 3) (v := .int nw_known) (C := RX3) (T := TX3) (N := 6) hx hb hts zl_X3 hown hK hP 1 rfl rfl 4 (by decide) (hts _ zw_t1_165) (fun _ h9 => h9) rfl dX9_hear_215 ?_
                    refine lv_iload hx hb dX9_hear_218 (lv_at hl 4 rfl) ?_
                    refine lv_aload hx hb dX9_hear_220 (lv_at hl 5 rfl) ?_
                    refine va_get (D := (dC, dI)) (ci := 7) (v := .int tn_strayers) (C := RX7) (T := TX7) (N := 18) hx hb hts zl_X7 hown hK hP 2 rfl rfl 6 (by decide) (hts _ zw_t1_74) (fun _ h9 => h9) rfl dX9_hear_222 ?_
                    refine lv_iand hx hb dX9_hear_225 ?_
                    refine lv_topi (fun x_56 ex_56 => ?_)
                    replace hF := hF.trans (zL_eq ex_56)
                    have b_x_56 : 0 ≤ x_56.toInt ∧ x_56.toInt ≤ x_7.toInt := by rw [ex_56]; exact zi_andL rfl (by first | with_reducible assumption | omega) (by first | with_reducible assumption | omega)
                    refine lv_ior hx hb dX9_hear_226 ?_
                    refine lv_topi (fun x_57 ex_57 => ?_)
                    replace hF := hF.trans (zL_eq ex_57)
                    refine va_put (D := (dC, dI)) (ci := 3) (v := .int x_57) (ty := .int) (C := RX3) (T := TX3) (N := 6) hx hb hts zl_X3 tyX3 tyX3_ok nmX3 hown hK hP hD hS 1 rfl rfl 4 (by decide) (hts _ zw_t1_165) (fun _ h9 => h9) rfl (by decide +kernel) rfl rfl (Nat.le_of_ble_eq_true rfl) dX9_hear_227 (fun H locs hP hD hS => ?_)
                    have hP : va_P (dC, dI) vwCl [(h0, .inr (9, [.ref tp, .int h0_tapeLength, .int h0_faultKind, .int h0_faultPlace, .ref nw, .ref im, .ref sl, .ref rd, .ref wk, .ref fm, .ref mt, .ref ch, .ref dy])), (nw, .inr (3, [.int nw_isKept, .ref tn, .int nw_strayed, .int nw_names, .int x_57, .int nw_gone])), (tn, .inr (7, [.int tn_hours, .int tn_courts, .int tn_gateCount, .int tn_people, .int tn_lines, .int tn_falseHours, .int tn_strayers, .int tn_deep, .ref tn_above, .ref tn_doors, .ref tn_degrees, .ref tn_neighbours, .ref tn_shows, .ref tn_oneEnd, .ref tn_otherEnd, .ref tn_told, .ref tn_strayParts, .ref tn_strayCourts])), (tn_shows, .inl (cA_tn_shows, 10, .inl f_tn_shows)), (tn_told, .inl (cA_tn_told, 480, .inl f_tn_told)), (tn_strayCourts, .inl (cA_tn_strayCourts, 10, .inl f_tn_strayCourts))] H := hP
                    have hD : va_D A [(h0, .inr (9, [.ref tp, .int h0_tapeLength, .int h0_faultKind, .int h0_faultPlace, .ref nw, .ref im, .ref sl, .ref rd, .ref wk, .ref fm, .ref mt, .ref ch, .ref dy])), (nw, .inr (3, [.int nw_isKept, .ref tn, .int nw_strayed, .int nw_names, .int x_57, .int nw_gone])), (tn, .inr (7, [.int tn_hours, .int tn_courts, .int tn_gateCount, .int tn_people, .int tn_lines, .int tn_falseHours, .int tn_strayers, .int tn_deep, .ref tn_above, .ref tn_doors, .ref tn_degrees, .ref tn_neighbours, .ref tn_shows, .ref tn_oneEnd, .ref tn_otherEnd, .ref tn_told, .ref tn_strayParts, .ref tn_strayCourts])), (tn_shows, .inl (cA_tn_shows, 10, .inl f_tn_shows)), (tn_told, .inl (cA_tn_told, 480, .inl f_tn_told)), (tn_strayCourts, .inl (cA_tn_strayCourts, 10, .inl f_tn_strayCourts))] := hD
                    refine lv_iload hx hb dX9_hear_230 (lv_at hl 1 rfl) ?_
                    refine lv_if_eq (tgt := 249) hx hb dX9_hear_232 (by decide) (fun _ => ?_) (fun q => absurd q (by decide))
                    refine lv_iconst (v := 1) hx hb dX9_hear_249 (by decide) ?_
                    have hF : RR = ((1 : Int32), x_57, nw_gone) := hF
                    have zc : Int32.toInt 1 = 1 := by decide
                    exact W.iret (v := 1) hx hb hr (fun t ht hW => by rw [← hQe]; exact ⟨⟨1, (), rfl, ⟨by decide, (by rw [← hRR, hF])⟩, ⟨x_57, nw_gone, (by rw [← hRR, hF]), (by rw [← hRR, hF]), z_ret hP hK hD ht hW [0, 1, 2, 3, 4, 5] [] rfl (by decide) rfl⟩⟩, hS.F ht⟩) hS.2.2 dX9_hear_250
                · have ic_52 := zz_nne rfl rfl c_52
                  replace hF := hF.trans (if_pos c_52)
                  refine lv_iconst (v := 1) hx hb dX9_hear_149 (by decide) ?_
                  refine lv_goto (tgt := 154) hx hb dX9_hear_150 (by decide) ?_
                  refine lv_istore (lv' := [(9, .int 1), (8, .int 1), (7, .int 1), (6, .int x_7), (5, .ref tn), (0, .ref h0), (1, .int p1), (2, .int p2), (3, .int p3), (4, .int p4)]) hx hb dX9_hear_154 hl (by decide) rfl (fun ls hl => ?_)
                  refine lv_iload hx hb dX9_hear_156 (lv_at hl 1 rfl) ?_
                  refine lv_if_eq (tgt := 182) hx hb dX9_hear_158 (by decide) (fun q => absurd q (by decide)) (fun _ => ?_)
                  refine lv_aload hx hb dX9_hear_161 (lv_at hl 4 rfl) ?_
                  refine lv_iload_n hx hb dX9_hear_163 rfl (lv_at hl 6 rfl) ?_
                  refine lv_iload_n hx hb dX9_hear_164 rfl (lv_at hl 8 rfl) ?_
                  refine lv_iconst (v := 0) hx hb dX9_hear_165 (by decide) ?_
                  obtain ⟨hPc, hDc, hFc⟩ := z_cut (wc := [(tn, .inr (7, [.int tn_hours, .int tn_courts, .int tn_gateCount, .int tn_people, .int tn_lines, .int tn_falseHours, .int tn_strayers, .int tn_deep, .ref tn_above, .ref tn_doors, .ref tn_degrees, .ref tn_neighbours, .ref tn_shows, .ref tn_oneEnd, .ref tn_otherEnd, .ref tn_told, .ref tn_strayParts, .ref tn_strayCourts])), (tn_shows, .inl (cA_tn_shows, 10, .inl f_tn_shows)), (tn_told, .inl (cA_tn_told, 480, .inl f_tn_told)), (tn_strayCourts, .inl (cA_tn_strayCourts, 10, .inl f_tn_strayCourts))]) hP hD hS hA [2, 3, 4, 5] rfl (by decide +kernel)
                  have hKc := hK.sub (tys' := [(cA_tn_shows, .int), (cA_tn_told, .int), (cA_tn_strayCourts, .int)]) [0, 1, 2] rfl
                  refine va_calli (va_runV (As := [.int p1, .int p3, .int 0]) (rest := []) ⟨hx, hb, hml, hown, hts⟩ (kf_X7_showsOf l sa dC dI tn p1 p3 (0) tn_hours tn_courts tn_gateCount tn_people tn_lines tn_falseHours tn_strayers tn_deep tn_above tn_doors tn_degrees tn_neighbours tn_shows tn_oneEnd tn_otherEnd tn_told tn_strayParts tn_strayCourts cA_tn_shows f_tn_shows cA_tn_told f_tn_told cA_tn_strayCourts f_tn_strayCourts (by first | with_reducible assumption | omega) (by first | with_reducible assumption | omega) (by first | with_reducible assumption | omega) (by first | with_reducible assumption | omega) (by first | with_reducible assumption | omega) (by first | with_reducible assumption | omega) (by first | with_reducible assumption | omega) (by first | with_reducible assumption | omega) b_f_tn_told b_f_tn_strayCourts H.size) (cwV 3 hts (z_gV zw_t5_133 zw_t3_206 zw_t3_207 zw_t1_3 zw_t3_208) rfl rfl rfl (by decide +kernel) (by rw [← hRe]; exact ⟨(Nat.le_of_ble_eq_true rfl), (Nat.le_of_ble_eq_true rfl)⟩)) (z_preV hPc hKc hDc hN hXs hS hFc (q := (RX7, TX7, 18)) (ci := 7) (q0 := 0) rfl rfl) rfl rfl hl.1 rfl (lv_room (Nat.le_of_ble_eq_true rfl)) dX9_hear_166 (by rw [← hRe]; exact ⟨(Nat.le_of_ble_eq_true rfl), (Nat.le_of_ble_eq_true rfl)⟩)) hS (fun q _ h => hFc q h) hFc (fun r_58 u t H1 locs ht hvm hw hB hz1 hk1 hS => ?_)
                  obtain ⟨hP, hD, hK⟩ := z_after3 (wn := [(h0, .inr (9, [.ref tp, .int h0_tapeLength, .int h0_faultKind, .int h0_faultPlace, .ref nw, .ref im, .ref sl, .ref rd, .ref wk, .ref fm, .ref mt, .ref ch, .ref dy])), (nw, .inr (3, [.int nw_isKept, .ref tn, .int nw_strayed, .int nw_names, .int nw_known, .int nw_gone])), (tn, .inr (7, [.int tn_hours, .int tn_courts, .int tn_gateCount, .int tn_people, .int tn_lines, .int tn_falseHours, .int tn_strayers, .int tn_deep, .ref tn_above, .ref tn_doors, .ref tn_degrees, .ref tn_neighbours, .ref tn_shows, .ref tn_oneEnd, .ref tn_otherEnd, .ref tn_told, .ref tn_strayParts, .ref tn_strayCourts])), (tn_shows, .inl (cA_tn_shows, 10, .inl f_tn_shows)), (tn_told, .inl (cA_tn_told, 480, .inl f_tn_told)), (tn_strayCourts, .inl (cA_tn_strayCourts, 10, .inl f_tn_strayCourts))]) hB ht hvm hP hD hK [2, 3, 4, 5] [0, 1] rfl 6 rfl (by decide +kernel) rfl (by decide +kernel) hk1 hFc
                  generalize H1 = H at hP hS ⊢
                  have hK : va_K (dC, dI) vwCl [(cA_tn_shows, .int), (cA_tn_told, .int), (cA_tn_strayCourts, .int)] s := hK
                  have sf_r_58 := hw
                  have za_0 : Int32.toInt 0 = 0 := by decide
                  replace hF := hF.trans (zL_eq sf_r_58)
                  refine lv_iload_n hx hb dX9_hear_169 rfl (lv_at hl 7 rfl) ?_
                  obtain ⟨hPc, hDc, hFc⟩ := z_cut (wc := []) hP hD hS hA [] rfl (by decide +kernel)
                  have hKc := hK.sub (tys' := []) [] rfl
                  refine va_calli (va_runS (As := [.int r_58, .int p2]) (rest := []) ⟨hx, hb, hml, hown, hts⟩ (kf_X9_has l sa dC dI r_58 p2 H.size) (va_cwS 2 hts (z_gS zw_t4_12 zw_t3_123 zw_t1_1 zw_t3_124) rfl rfl rfl (by decide +kernel) (by rw [← hRe]; exact ⟨(Nat.le_of_ble_eq_true rfl), (Nat.le_of_ble_eq_true rfl)⟩)) (z_preS hPc hKc hDc hN hXs hS hFc) rfl rfl hl.1 rfl (lv_room (Nat.le_of_ble_eq_true rfl)) dX9_hear_170 (by rw [← hRe]; exact ⟨(Nat.le_of_ble_eq_true rfl), (Nat.le_of_ble_eq_true rfl)⟩)) hS (fun q _ h => hFc q h) hFc (fun r_59 u t H1 locs ht hvm hw hB hz1 hk1 hS => ?_)
                  obtain ⟨hP, hD, hK⟩ := z_after3 (wn := [(h0, .inr (9, [.ref tp, .int h0_tapeLength, .int h0_faultKind, .int h0_faultPlace, .ref nw, .ref im, .ref sl, .ref rd, .ref wk, .ref fm, .ref mt, .ref ch, .ref dy])), (nw, .inr (3, [.int nw_isKept, .ref tn, .int nw_strayed, .int nw_names, .int nw_known, .int nw_gone])), (tn, .inr (7, [.int tn_hours, .int tn_courts, .int tn_gateCount, .int tn_people, .int tn_lines, .int tn_falseHours, .int tn_strayers, .int tn_deep, .ref tn_above, .ref tn_doors, .ref tn_degrees, .ref tn_neighbours, .ref tn_shows, .ref tn_oneEnd, .ref tn_otherEnd, .ref tn_told, .ref tn_strayParts, .ref tn_strayCourts])), (tn_shows, .inl (cA_tn_shows, 10, .inl f_tn_shows)), (tn_told, .inl (cA_tn_told, 480, .inl f_tn_told)), (tn_strayCourts, .inl (cA_tn_strayCourts, 10, .inl f_tn_strayCourts))]) hB ht hvm hP hD hK [] [0, 1, 2, 3, 4, 5] rfl 6 rfl (by decide +kernel) rfl (by decide +kernel) hk1 hFc
                  generalize H1 = H at hP hS ⊢
                  have hK : va_K (dC, dI) vwCl [(cA_tn_shows, .int), (cA_tn_told, .int), (cA_tn_strayCourts, .int)] s := hK
                  have b_r_59 : 0 ≤ r_59.toInt ∧ r_59.toInt ≤ 1 := hw.1
                  have sf_r_59 := hw.2
                  replace hF := hF.trans (zL_eq sf_r_59)
                  refine lv_iload hx hb dX9_hear_173 (lv_at hl 9 rfl) ?_
                  refine lv_icmp_ne (tgt := 182) hx hb dX9_hear_175 (by decide) (fun c_60 => ?_) (fun c_60 => ?_)
                  · have ic_60 := zz_ne rfl rfl c_60
                    replace hF := hF.trans (if_neg c_60)
                    refine lv_iconst (v := 0) hx hb dX9_hear_182 (by decide) ?_
                    refine lv_istore (lv' := [(10, .int 0), (9, .int 1), (8, .int 1), (7, .int 1), (6, .int x_7), (5, .ref tn), (0, .ref h0), (1, .int p1), (2, .int p2), (3, .int p3), (4, .int p4)]) hx hb dX9_hear_183 hl (by decide) rfl (fun ls hl => ?_)
                    refine lv_iload hx hb dX9_hear_185 (lv_at hl 1 rfl) ?_
                    refine lv_if_ne (tgt := 198) hx hb dX9_hear_187 (by decide) (fun _ => ?_) (fun q => absurd q (by decide))
                    refine lv_iload hx hb dX9_hear_198 (lv_at hl 1 rfl) ?_
                    refine lv_if_eq (tgt := 210) hx hb dX9_hear_200 (by decide) (fun q => absurd q (by decide)) (fun _ => ?_)
                    refine lv_iload hx hb dX9_hear_203 (lv_at hl 0 rfl) ?_
                    refine lv_if_eq (tgt := 210) hx hb dX9_hear_205 (by decide) (fun _ => ?_) (fun q => absurd q (by decide))
                    refine lv_aload_n hx hb dX9_hear_210 rfl (lv_at hl 6 rfl) ?_
                    refine va_get (D := (dC, dI)) (ci := 9) (v := .ref nw) (C := RX9) (T := TX9) (N := 13) hx hb hts zl_X9 hown hK hP 0 rfl rfl 4 (by decide) (hts _ zw_t2_193) (fun _ h9 => h9) rfl dX9_hear_211 ?_
                    refine lv_dup hx hb dX9_hear_214 rfl ?_
                    refine va_get (D := (dC, dI)) (ci := 3) (v := .int nw_known) (C := RX3) (T := TX3) (N := 6) hx hb hts zl_X3 hown hK hP 1 rfl rfl 4 (by decide) (hts _ zw_t1_165) (fun _ h9 => h9) rfl dX9_hear_215 ?_
                    refine lv_iload hx hb dX9_hear_218 (lv_at hl 4 rfl) ?_
                    refine lv_aload hx hb dX9_hear_220 (lv_at hl 5 rfl) ?_
                    refine va_get (D := (dC, dI)) (ci := 7) (v := .int tn_strayers) (C := RX7) (T := TX7) (N := 18) hx hb hts zl_X7 hown hK hP 2 rfl rfl 6 (by decide) (hts _ zw_t1_74) (fun _ h9 => h9) rfl dX9_hear_222 ?_
                    refine lv_iand hx hb dX9_hear_225 ?_
                    refine lv_topi (fun x_61 ex_61 => ?_)
                    replace hF := hF.trans (zL_eq ex_61)
                    have b_x_61 : 0 ≤ x_61.toInt ∧ x_61.toInt ≤ x_7.toInt := by rw [ex_61]; exact zi_andL rfl (by first | with_reducible assumption | omega) (by first | with_reducible assumption | omega)
                    refine lv_ior hx hb dX9_hear_226 ?_
                    refine lv_topi (fun x_62 ex_62 => ?_)
                    replace hF := hF.trans (zL_eq ex_62)
                    refine va_put (D := (dC, dI)) (ci := 3) (v := .int x_62) (ty := .int) (C := RX3) (T := TX3) (N := 6) hx hb hts zl_X3 tyX3 tyX3_ok nmX3 hown hK hP hD hS 1 rfl rfl 4 (by decide) (hts _ zw_t1_165) (fun _ h9 => h9) rfl (by decide +kernel) rfl rfl (Nat.le_of_ble_eq_true rfl) dX9_hear_227 (fun H locs hP hD hS => ?_)
                    have hP : va_P (dC, dI) vwCl [(h0, .inr (9, [.ref tp, .int h0_tapeLength, .int h0_faultKind, .int h0_faultPlace, .ref nw, .ref im, .ref sl, .ref rd, .ref wk, .ref fm, .ref mt, .ref ch, .ref dy])), (nw, .inr (3, [.int nw_isKept, .ref tn, .int nw_strayed, .int nw_names, .int x_62, .int nw_gone])), (tn, .inr (7, [.int tn_hours, .int tn_courts, .int tn_gateCount, .int tn_people, .int tn_lines, .int tn_falseHours, .int tn_strayers, .int tn_deep, .ref tn_above, .ref tn_doors, .ref tn_degrees, .ref tn_neighbours, .ref tn_shows, .ref tn_oneEnd, .ref tn_otherEnd, .ref tn_told, .ref tn_strayParts, .ref tn_strayCourts])), (tn_shows, .inl (cA_tn_shows, 10, .inl f_tn_shows)), (tn_told, .inl (cA_tn_told, 480, .inl f_tn_told)), (tn_strayCourts, .inl (cA_tn_strayCourts, 10, .inl f_tn_strayCourts))] H := hP
                    have hD : va_D A [(h0, .inr (9, [.ref tp, .int h0_tapeLength, .int h0_faultKind, .int h0_faultPlace, .ref nw, .ref im, .ref sl, .ref rd, .ref wk, .ref fm, .ref mt, .ref ch, .ref dy])), (nw, .inr (3, [.int nw_isKept, .ref tn, .int nw_strayed, .int nw_names, .int x_62, .int nw_gone])), (tn, .inr (7, [.int tn_hours, .int tn_courts, .int tn_gateCount, .int tn_people, .int tn_lines, .int tn_falseHours, .int tn_strayers, .int tn_deep, .ref tn_above, .ref tn_doors, .ref tn_degrees, .ref tn_neighbours, .ref tn_shows, .ref tn_oneEnd, .ref tn_otherEnd, .ref tn_told, .ref tn_strayParts, .ref tn_strayCourts])), (tn_shows, .inl (cA_tn_shows, 10, .inl f_tn_shows)), (tn_told, .inl (cA_tn_told, 480, .inl f_tn_told)), (tn_strayCourts, .inl (cA_tn_strayCourts, 10, .inl f_tn_strayCourts))] := hD
                    refine lv_iload hx hb dX9_hear_230 (lv_at hl 1 rfl) ?_
                    refine lv_if_eq (tgt := 249) hx hb dX9_hear_232 (by decide) (fun q => absurd q (by decide)) (fun _ => ?_)
                    refine lv_aload_n hx hb dX9_hear_235 rfl (lv_at hl 6 rfl) ?_
                    refine va_get (D := (dC, dI)) (ci := 9) (v := .ref nw) (C := RX9) (T := TX9) (N := 13) hx hb hts zl_X9 hown hK hP 0 rfl rfl 4 (by decide) (hts _ zw_t2_193) (fun _ h9 => h9) rfl dX9_hear_236 ?_
                    refine lv_dup hx hb dX9_hear_239 rfl ?_
                    refine va_get (D := (dC, dI)) (ci := 3) (v := .int nw_gone) (C := RX3) (T := TX3) (N := 6) hx hb hts zl_X3 hown hK hP 1 rfl rfl 5 (by decide) (hts _ zw_t1_168) (fun _ h9 => h9) rfl dX9_hear_240 ?_
                    refine lv_iload hx hb dX9_hear_243 (lv_at hl 4 rfl) ?_
                    refine lv_ior hx hb dX9_hear_245 ?_
                    refine lv_topi (fun x_63 ex_63 => ?_)
                    replace hF := hF.trans (zL_eq ex_63)
                    refine va_put (D := (dC, dI)) (ci := 3) (v := .int x_63) (ty := .int) (C := RX3) (T := TX3) (N := 6) hx hb hts zl_X3 tyX3 tyX3_ok nmX3 hown hK hP hD hS 1 rfl rfl 5 (by decide) (hts _ zw_t1_168) (fun _ h9 => h9) rfl (by decide +kernel) rfl rfl (Nat.le_of_ble_eq_true rfl) dX9_hear_246 (fun H locs hP hD hS => ?_)
                    have hP : va_P (dC, dI) vwCl [(h0, .inr (9, [.ref tp, .int h0_tapeLength, .int h0_faultKind, .int h0_faultPlace, .ref nw, .ref im, .ref sl, .ref rd, .ref wk, .ref fm, .ref mt, .ref ch, .ref dy])), (nw, .inr (3, [.int nw_isKept, .ref tn, .int nw_strayed, .int nw_names, .int x_62, .int x_63])), (tn, .inr (7, [.int tn_hours, .int tn_courts, .int tn_gateCount, .int tn_people, .int tn_lines, .int tn_falseHours, .int tn_strayers, .int tn_deep, .ref tn_above, .ref tn_doors, .ref tn_degrees, .ref tn_neighbours, .ref tn_shows, .ref tn_oneEnd, .ref tn_otherEnd, .ref tn_told, .ref tn_strayParts, .ref tn_strayCourts])), (tn_shows, .inl (cA_tn_shows, 10, .inl f_tn_shows)), (tn_told, .inl (cA_tn_told, 480, .inl f_tn_told)), (tn_strayCourts, .inl (cA_tn_strayCourts, 10, .inl f_tn_strayCourts))] H := hP
                    have hD : va_D A [(h0, .inr (9, [.ref tp, .int h0_tapeLength, .int h0_faultKind, .int h0_faultPlace, .ref nw, .ref im, .ref sl, .ref rd, .ref wk, .ref fm, .ref mt, .ref ch, .ref dy])), (nw, .inr (3, [.int nw_isKept, .ref tn, .int nw_strayed, .int nw_names, .int x_62, .int x_63])), (tn, .inr (7, [.int tn_hours, .int tn_courts, .int tn_gateCount, .int tn_people, .int tn_lines, .int tn_falseHours, .int tn_strayers, .int tn_deep, .ref tn_above, .ref tn_doors, .ref tn_degrees, .ref tn_neighbours, .ref tn_shows, .ref tn_oneEnd, .ref tn_otherEnd, .ref tn_told, .ref tn_strayParts, .ref tn_strayCourts])), (tn_shows, .inl (cA_tn_shows, 10, .inl f_tn_shows)), (tn_told, .inl (cA_tn_told, 480, .inl f_tn_told)), (tn_strayCourts, .inl (cA_tn_strayCourts, 10, .inl f_tn_strayCourts))] := hD
                    refine lv_iconst (v := 1) hx hb dX9_hear_249 (by decide) ?_
                    have hF : RR = ((1 : Int32), x_62, x_63) := hF
                    have zc : Int32.toInt 1 = 1 := by decide
                    exact W.iret (v := 1) hx hb hr (fun t ht hW => by rw [← hQe]; exact ⟨⟨1, (), rfl, ⟨by decide, (by rw [← hRR, hF])⟩, ⟨x_62, x_63, (by rw [← hRR, hF]), (by rw [← hRR, hF]), z_ret hP hK hD ht hW [0, 1, 2, 3, 4, 5] [] rfl (by decide) rfl⟩⟩, hS.F ht⟩) hS.2.2 dX9_hear_250
                  · have ic_60 := zz_nne rfl rfl c_60
                    replace hF := hF.trans (if_pos c_60)
                    refine lv_iconst (v := 1) hx hb dX9_hear_178 (by decide) ?_
                    refine lv_goto (tgt := 183) hx hb dX9_hear_179 (by decide) ?_
                    refine lv_istore (lv' := [(10, .int 1), (9, .int 1), (8, .int 1), (7, .int 1), (6, .int x_7), (5, .ref tn), (0, .ref h0), (1, .int p1), (2, .int p2), (3, .int p3), (4, .int p4)]) hx hb dX9_hear_183 hl (by decide) rfl (fun ls hl => ?_)
                    refine lv_iload hx hb dX9_hear_185 (lv_at hl 1 rfl) ?_
                    refine lv_if_ne (tgt := 198) hx hb dX9_hear_187 (by decide) (fun _ => ?_) (fun q => absurd q (by decide))
                    refine lv_iload hx hb dX9_hear_198 (lv_at hl 1 rfl) ?_
                    refine lv_if_eq (tgt := 210) hx hb dX9_hear_200 (by decide) (fun q => absurd q (by decide)) (fun _ => ?_)
                    refine lv_iload hx hb dX9_hear_203 (lv_at hl 0 rfl) ?_
                    refine lv_if_eq (tgt := 210) hx hb dX9_hear_205 (by decide) (fun q => absurd q (by decide)) (fun _ => ?_)
                    refine lv_iconst (v := 0) hx hb dX9_hear_208 (by decide) ?_
                    have hF : RR = ((0 : Int32), nw_known, nw_gone) := hF
                    have zc : Int32.toInt 0 = 0 := by decide
                    exact W.iret (v := 0) hx hb hr (fun t ht hW => by rw [← hQe]; exact ⟨⟨0, (), rfl, ⟨by decide, (by rw [← hRR, hF])⟩, ⟨nw_known, nw_gone, (by rw [← hRR, hF]), (by rw [← hRR, hF]), z_ret hP hK hD ht hW [0, 1, 2, 3, 4, 5] [] rfl (by decide) rfl⟩⟩, hS.F ht⟩) hS.2.2 dX9_hear_209
          · have ic_25 := zz_neq rfl (show Int32.toInt 0 = 0 from by decide) c_25
            replace hF := hF.trans (if_neg c_25)
            refine lv_aload_n hx hb dX9_hear_70 rfl (lv_at hl 2 rfl) ?_
            refine va_get (D := (dC, dI)) (ci := 9) (v := .ref nw) (C := RX9) (T := TX9) (N := 13) hx hb hts zl_X9 hown hK hP 0 rfl rfl 4 (by decide) (hts _ zw_t2_193) (fun _ h9 => h9) rfl dX9_hear_71 ?_
            refine va_get (D := (dC, dI)) (ci := 3) (v := .int nw_gone) (C := RX3) (T := TX3) (N := 6) hx hb hts zl_X3 hown hK hP 1 rfl rfl 5 (by decide) (hts _ zw_t1_168) (fun _ h9 => h9) rfl dX9_hear_74 ?_
            refine lv_iload_n hx hb dX9_hear_77 rfl (lv_at hl 3 rfl) ?_
            obtain ⟨hPc, hDc, hFc⟩ := z_cut (wc := []) hP hD hS hA [] rfl (by decide +kernel)
            have hKc := hK.sub (tys' := []) [] rfl
            refine va_calli (va_runS (As := [.int nw_gone, .int p1]) (rest := []) ⟨hx, hb, hml, hown, hts⟩ (kf_X9_has l sa dC dI nw_gone p1 H.size) (va_cwS 2 hts (z_gS zw_t4_12 zw_t3_123 zw_t1_1 zw_t3_124) rfl rfl rfl (by decide +kernel) (by rw [← hRe]; exact ⟨(Nat.le_of_ble_eq_true rfl), (Nat.le_of_ble_eq_true rfl)⟩)) (z_preS hPc hKc hDc hN hXs hS hFc) rfl rfl hl.1 rfl (lv_room (Nat.le_of_ble_eq_true rfl)) dX9_hear_78 (by rw [← hRe]; exact ⟨(Nat.le_of_ble_eq_true rfl), (Nat.le_of_ble_eq_true rfl)⟩)) hS (fun q _ h => hFc q h) hFc (fun r_64 u t H1 locs ht hvm hw hB hz1 hk1 hS => ?_)
            obtain ⟨hP, hD, hK⟩ := z_after3 (wn := [(h0, .inr (9, [.ref tp, .int h0_tapeLength, .int h0_faultKind, .int h0_faultPlace, .ref nw, .ref im, .ref sl, .ref rd, .ref wk, .ref fm, .ref mt, .ref ch, .ref dy])), (nw, .inr (3, [.int nw_isKept, .ref tn, .int nw_strayed, .int nw_names, .int nw_known, .int nw_gone])), (tn_shows, .inl (cA_tn_shows, 10, .inl f_tn_shows)), (tn_told, .inl (cA_tn_told, 480, .inl f_tn_told)), (tn_strayCourts, .inl (cA_tn_strayCourts, 10, .inl f_tn_strayCourts)), (tn, .inr (7, [.int tn_hours, .int tn_courts, .int tn_gateCount, .int tn_people, .int tn_lines, .int tn_falseHours, .int tn_strayers, .int tn_deep, .ref tn_above, .ref tn_doors, .ref tn_degrees, .ref tn_neighbours, .ref tn_shows, .ref tn_oneEnd, .ref tn_otherEnd, .ref tn_told, .ref tn_strayParts, .ref tn_strayCourts]))]) hB ht hvm hP hD hK [] [0, 1, 2, 3, 4, 5] rfl 6 rfl (by decide +kernel) rfl (by decide +kernel) hk1 hFc
            generalize H1 = H at hP hS ⊢
            have hK : va_K (dC, dI) vwCl [(cA_tn_shows, .int), (cA_tn_told, .int), (cA_tn_strayCourts, .int)] s := hK
            have b_r_64 : 0 ≤ r_64.toInt ∧ r_64.toInt ≤ 1 := hw.1
            have sf_r_64 := hw.2
            replace hF := hF.trans (zL_eq sf_r_64)
            refine lv_if_eq (tgt := 88) hx hb dX9_hear_81 (by decide) (fun c_65 => ?_) (fun c_65 => ?_)
            · have ic_65 := zz_eq rfl (show Int32.toInt 0 = 0 from by decide) c_65
              replace hF := hF.trans (if_pos c_65)
              refine lv_iconst (v := 0) hx hb dX9_hear_88 (by decide) ?_
              refine lv_istore (lv' := [(7, .int 0), (6, .int x_7), (5, .ref tn), (0, .ref h0), (1, .int p1), (2, .int p2), (3, .int p3), (4, .int p4)]) hx hb dX9_hear_89 hl (by decide) rfl (fun ls hl => ?_)
              refine lv_aload_n hx hb dX9_hear_91 rfl (lv_at hl 3 rfl) ?_
              refine va_get (D := (dC, dI)) (ci := 9) (v := .ref nw) (C := RX9) (T := TX9) (N := 13) hx hb hts zl_X9 hown hK hP 0 rfl rfl 4 (by decide) (hts _ zw_t2_193) (fun _ h9 => h9) rfl dX9_hear_92 ?_
              refine va_get (D := (dC, dI)) (ci := 3) (v := .int nw_known) (C := RX3) (T := TX3) (N := 6) hx hb hts zl_X3 hown hK hP 1 rfl rfl 4 (by decide) (hts _ zw_t1_165) (fun _ h9 => h9) rfl dX9_hear_95 ?_
              refine lv_iload_n hx hb dX9_hear_98 rfl (lv_at hl 4 rfl) ?_
              obtain ⟨hPc, hDc, hFc⟩ := z_cut (wc := []) hP hD hS hA [] rfl (by decide +kernel)
              have hKc := hK.sub (tys' := []) [] rfl
              refine va_calli (va_runS (As := [.int nw_known, .int p1]) (rest := []) ⟨hx, hb, hml, hown, hts⟩ (kf_X9_has l sa dC dI nw_known p1 H.size) (va_cwS 2 hts (z_gS zw_t4_12 zw_t3_123 zw_t1_1 zw_t3_124) rfl rfl rfl (by decide +kernel) (by rw [← hRe]; exact ⟨(Nat.le_of_ble_eq_true rfl), (Nat.le_of_ble_eq_true rfl)⟩)) (z_preS hPc hKc hDc hN hXs hS hFc) rfl rfl hl.1 rfl (lv_room (Nat.le_of_ble_eq_true rfl)) dX9_hear_99 (by rw [← hRe]; exact ⟨(Nat.le_of_ble_eq_true rfl), (Nat.le_of_ble_eq_true rfl)⟩)) hS (fun q _ h => hFc q h) hFc (fun r_66 u t H1 locs ht hvm hw hB hz1 hk1 hS => ?_)
              obtain ⟨hP, hD, hK⟩ := z_after3 (wn := [(h0, .inr (9, [.ref tp, .int h0_tapeLength, .int h0_faultKind, .int h0_faultPlace, .ref nw, .ref im, .ref sl, .ref rd, .ref wk, .ref fm, .ref mt, .ref ch, .ref dy])), (nw, .inr (3, [.int nw_isKept, .ref tn, .int nw_strayed, .int nw_names, .int nw_known, .int nw_gone])), (tn_shows, .inl (cA_tn_shows, 10, .inl f_tn_shows)), (tn_told, .inl (cA_tn_told, 480, .inl f_tn_told)), (tn_strayCourts, .inl (cA_tn_strayCourts, 10, .inl f_tn_strayCourts)), (tn, .inr (7, [.int tn_hours, .int tn_courts, .int tn_gateCount, .int tn_people, .int tn_lines, .int tn_falseHours, .int tn_strayers, .int tn_deep, .ref tn_above, .ref tn_doors, .ref tn_degrees, .ref tn_neighbours, .ref tn_shows, .ref tn_oneEnd, .ref tn_otherEnd, .ref tn_told, .ref tn_strayParts, .ref tn_strayCourts]))]) hB ht hvm hP hD hK [] [0, 1, 2, 3, 4, 5] rfl 6 rfl (by decide +kernel) rfl (by decide +kernel) hk1 hFc
              generalize H1 = H at hP hS ⊢
              have hK : va_K (dC, dI) vwCl [(cA_tn_shows, .int), (cA_tn_told, .int), (cA_tn_strayCourts, .int)] s := hK
              have b_r_66 : 0 ≤ r_66.toInt ∧ r_66.toInt ≤ 1 := hw.1
              have sf_r_66 := hw.2
              replace hF := hF.trans (zL_eq sf_r_66)
              refine lv_if_eq (tgt := 119) hx hb dX9_hear_102 (by decide) (fun c_67 => ?_) (fun c_67 => ?_)
              · have ic_67 := zz_eq rfl (show Int32.toInt 0 = 0 from by decide) c_67
                replace hF := hF.trans (if_pos c_67)
                refine lv_iconst (v := 1) hx hb dX9_hear_119 (by decide) ?_
                refine lv_goto (tgt := 124) hx hb dX9_hear_120 (by decide) ?_
                refine lv_istore (lv' := [(8, .int 1), (7, .int 0), (6, .int x_7), (5, .ref tn), (0, .ref h0), (1, .int p1), (2, .int p2), (3, .int p3), (4, .int p4)]) hx hb dX9_hear_124 hl (by decide) rfl (fun ls hl => ?_)
                refine lv_iload hx hb dX9_hear_126 (lv_at hl 1 rfl) ?_
                refine lv_if_eq (tgt := 153) hx hb dX9_hear_128 (by decide) (fun _ => ?_) (fun q => absurd q (by decide))
                refine lv_iconst (v := 0) hx hb dX9_hear_153 (by decide) ?_
                refine lv_istore (lv' := [(9, .int 0), (8, .int 1), (7, .int 0), (6, .int x_7), (5, .ref tn), (0, .ref h0), (1, .int p1), (2, .int p2), (3, .int p3), (4, .int p4)]) hx hb dX9_hear_154 hl (by decide) rfl (fun ls hl => ?_)
                refine lv_iload hx hb dX9_hear_156 (lv_at hl 1 rfl) ?_
                refine lv_if_eq (tgt := 182) hx hb dX9_hear_158 (by decide) (fun q => absurd q (by decide)) (fun _ => ?_)
                refine lv_aload hx hb dX9_hear_161 (lv_at hl 4 rfl) ?_
                refine lv_iload_n hx hb dX9_hear_163 rfl (lv_at hl 6 rfl) ?_
                refine lv_iload_n hx hb dX9_hear_164 rfl (lv_at hl 8 rfl) ?_
                refine lv_iconst (v := 0) hx hb dX9_hear_165 (by decide) ?_
                obtain ⟨hPc, hDc, hFc⟩ := z_cut (wc := [(tn, .inr (7, [.int tn_hours, .int tn_courts, .int tn_gateCount, .int tn_people, .int tn_lines, .int tn_falseHours, .int tn_strayers, .int tn_deep, .ref tn_above, .ref tn_doors, .ref tn_degrees, .ref tn_neighbours, .ref tn_shows, .ref tn_oneEnd, .ref tn_otherEnd, .ref tn_told, .ref tn_strayParts, .ref tn_strayCourts])), (tn_shows, .inl (cA_tn_shows, 10, .inl f_tn_shows)), (tn_told, .inl (cA_tn_told, 480, .inl f_tn_told)), (tn_strayCourts, .inl (cA_tn_strayCourts, 10, .inl f_tn_strayCourts))]) hP hD hS hA [5, 2, 3, 4] rfl (by decide +kernel)
                have hKc := hK.sub (tys' := [(cA_tn_shows, .int), (cA_tn_told, .int), (cA_tn_strayCourts, .int)]) [0, 1, 2] rfl
                refine va_calli (va_runV (As := [.int p1, .int p3, .int 0]) (rest := []) ⟨hx, hb, hml, hown, hts⟩ (kf_X7_showsOf l sa dC dI tn p1 p3 (0) tn_hours tn_courts tn_gateCount tn_people tn_lines tn_falseHours tn_strayers tn_deep tn_above tn_doors tn_degrees tn_neighbours tn_shows tn_oneEnd tn_otherEnd tn_told tn_strayParts tn_strayCourts cA_tn_shows f_tn_shows cA_tn_told f_tn_told cA_tn_strayCourts f_tn_strayCourts (by first | with_reducible assumption | omega) (by first | with_reducible assumption | omega) (by first | with_reducible assumption | omega) (by first | with_reducible assumption | omega) (by first | with_reducible assumption | omega) (by first | with_reducible assumption | omega) (by first | with_reducible assumption | omega) (by first | with_reducible assumption | omega) b_f_tn_told b_f_tn_strayCourts H.size) (cwV 3 hts (z_gV zw_t5_133 zw_t3_206 zw_t3_207 zw_t1_3 zw_t3_208) rfl rfl rfl (by decide +kernel) (by rw [← hRe]; exact ⟨(Nat.le_of_ble_eq_true rfl), (Nat.le_of_ble_eq_true rfl)⟩)) (z_preV hPc hKc hDc hN hXs hS hFc (q := (RX7, TX7, 18)) (ci := 7) (q0 := 0) rfl rfl) rfl rfl hl.1 rfl (lv_room (Nat.le_of_ble_eq_true rfl)) dX9_hear_166 (by rw [← hRe]; exact ⟨(Nat.le_of_ble_eq_true rfl), (Nat.le_of_ble_eq_true rfl)⟩)) hS (fun q _ h => hFc q h) hFc (fun r_68 u t H1 locs ht hvm hw hB hz1 hk1 hS => ?_)
                obtain ⟨hP, hD, hK⟩ := z_after3 (wn := [(h0, .inr (9, [.ref tp, .int h0_tapeLength, .int h0_faultKind, .int h0_faultPlace, .ref nw, .ref im, .ref sl, .ref rd, .ref wk, .ref fm, .ref mt, .ref ch, .ref dy])), (nw, .inr (3, [.int nw_isKept, .ref tn, .int nw_strayed, .int nw_names, .int nw_known, .int nw_gone])), (tn, .inr (7, [.int tn_hours, .int tn_courts, .int tn_gateCount, .int tn_people, .int tn_lines, .int tn_falseHours, .int tn_strayers, .int tn_deep, .ref tn_above, .ref tn_doors, .ref tn_degrees, .ref tn_neighbours, .ref tn_shows, .ref tn_oneEnd, .ref tn_otherEnd, .ref tn_told, .ref tn_strayParts, .ref tn_strayCourts])), (tn_shows, .inl (cA_tn_shows, 10, .inl f_tn_shows)), (tn_told, .inl (cA_tn_told, 480, .inl f_tn_told)), (tn_strayCourts, .inl (cA_tn_strayCourts, 10, .inl f_tn_strayCourts))]) hB ht hvm hP hD hK [5, 2, 3, 4] [0, 1] rfl 6 rfl (by decide +kernel) rfl (by decide +kernel) hk1 hFc
                generalize H1 = H at hP hS ⊢
                have hK : va_K (dC, dI) vwCl [(cA_tn_shows, .int), (cA_tn_told, .int), (cA_tn_strayCourts, .int)] s := hK
                have sf_r_68 := hw
                have za_0 : Int32.toInt 0 = 0 := by decide
                replace hF := hF.trans (zL_eq sf_r_68)
                refine lv_iload_n hx hb dX9_hear_169 rfl (lv_at hl 7 rfl) ?_
                obtain ⟨hPc, hDc, hFc⟩ := z_cut (wc := []) hP hD hS hA [] rfl (by decide +kernel)
                have hKc := hK.sub (tys' := []) [] rfl
                refine va_calli (va_runS (As := [.int r_68, .int p2]) (rest := []) ⟨hx, hb, hml, hown, hts⟩ (kf_X9_has l sa dC dI r_68 p2 H.size) (va_cwS 2 hts (z_gS zw_t4_12 zw_t3_123 zw_t1_1 zw_t3_124) rfl rfl rfl (by decide +kernel) (by rw [← hRe]; exact ⟨(Nat.le_of_ble_eq_true rfl), (Nat.le_of_ble_eq_true rfl)⟩)) (z_preS hPc hKc hDc hN hXs hS hFc) rfl rfl hl.1 rfl (lv_room (Nat.le_of_ble_eq_true rfl)) dX9_hear_170 (by rw [← hRe]; exact ⟨(Nat.le_of_ble_eq_true rfl), (Nat.le_of_ble_eq_true rfl)⟩)) hS (fun q _ h => hFc q h) hFc (fun r_69 u t H1 locs ht hvm hw hB hz1 hk1 hS => ?_)
                obtain ⟨hP, hD, hK⟩ := z_after3 (wn := [(h0, .inr (9, [.ref tp, .int h0_tapeLength, .int h0_faultKind, .int h0_faultPlace, .ref nw, .ref im, .ref sl, .ref rd, .ref wk, .ref fm, .ref mt, .ref ch, .ref dy])), (nw, .inr (3, [.int nw_isKept, .ref tn, .int nw_strayed, .int nw_names, .int nw_known, .int nw_gone])), (tn, .inr (7, [.int tn_hours, .int tn_courts, .int tn_gateCount, .int tn_people, .int tn_lines, .int tn_falseHours, .int tn_strayers, .int tn_deep, .ref tn_above, .ref tn_doors, .ref tn_degrees, .ref tn_neighbours, .ref tn_shows, .ref tn_oneEnd, .ref tn_otherEnd, .ref tn_told, .ref tn_strayParts, .ref tn_strayCourts])), (tn_shows, .inl (cA_tn_shows, 10, .inl f_tn_shows)), (tn_told, .inl (cA_tn_told, 480, .inl f_tn_told)), (tn_strayCourts, .inl (cA_tn_strayCourts, 10, .inl f_tn_strayCourts))]) hB ht hvm hP hD hK [] [0, 1, 2, 3, 4, 5] rfl 6 rfl (by decide +kernel) rfl (by decide +kernel) hk1 hFc
                generalize H1 = H at hP hS ⊢
                have hK : va_K (dC, dI) vwCl [(cA_tn_shows, .int), (cA_tn_told, .int), (cA_tn_strayCourts, .int)] s := hK
                have b_r_69 : 0 ≤ r_69.toInt ∧ r_69.toInt ≤ 1 := hw.1
                have sf_r_69 := hw.2
                replace hF := hF.trans (zL_eq sf_r_69)
                refine lv_iload hx hb dX9_hear_173 (lv_at hl 9 rfl) ?_
                have nb_p4 := zi_nb p4
                refine lv_icmp_ne (tgt := 182) hx hb dX9_hear_175 (by decide) (fun c_70 => ?_) (fun c_70 => ?_)
                · have ic_70 := zz_ne rfl rfl c_70
                  replace hF := hF.trans (if_neg c_70)
                  refine lv_iconst (v := 0) hx hb dX9_hear_182 (by decide) ?_
                  refine lv_istore (lv' := [(10, .int 0), (9, .int 0), (8, .int 1), (7, .int 0), (6, .int x_7), (5, .ref tn), (0, .ref h0), (1, .int p1), (2, .int p2), (3, .int p3), (4, .int p4)]) hx hb dX9_hear_183 hl (by decide) rfl (fun ls hl => ?_)
                  refine lv_iload hx hb dX9_hear_185 (lv_at hl 1 rfl) ?_
                  refine lv_if_ne (tgt := 198) hx hb dX9_hear_187 (by decide) (fun q => absurd q (by decide)) (fun _ => ?_)
                  refine lv_iload hx hb dX9_hear_190 (lv_at hl 0 rfl) ?_
                  refine lv_if_ne (tgt := 198) hx hb dX9_hear_192 (by decide) (fun q => absurd q (by decide)) (fun _ => ?_)
                  refine lv_bipush (v := (-5)) hx hb dX9_hear_195 (by decide) ?_
                  have hF : RR = ((-5 : Int32), nw_known, nw_gone) := hF
                  have zc : Int32.toInt (-5) = (-5) := by decide
                  exact W.iret (v := (-5)) hx hb hr (fun t ht hW => by rw [← hQe]; exact ⟨⟨(-5), (), rfl, ⟨by decide, (by rw [← hRR, hF])⟩, ⟨nw_known, nw_gone, (by rw [← hRR, hF]), (by rw [← hRR, hF]), z_ret hP hK hD ht hW [0, 1, 2, 3, 4, 5] [] rfl (by decide) rfl⟩⟩, hS.F ht⟩) hS.2.2 dX9_hear_197
                · have ic_70 := zz_nne rfl rfl c_70
                  replace hF := hF.trans (if_pos c_70)
                  refine lv_iconst (v := 1) hx hb dX9_hear_178 (by decide) ?_
                  refine lv_goto (tgt := 183) hx hb dX9_hear_179 (by decide) ?_
                  refine lv_istore (lv' := [(10, .int 1), (9, .int 0), (8, .int 1), (7, .int 0), (6, .int x_7), (5, .ref tn), (0, .ref h0), (1, .int p1), (2, .int p2), (3, .int p3), (4, .int p4)]) hx hb dX9_hear_183 hl (by decide) rfl (fun ls hl => ?_)
                  refine lv_iload hx hb dX9_hear_185 (lv_at hl 1 rfl) ?_
                  refine lv_if_ne (tgt := 198) hx hb dX9_hear_187 (by decide) (fun q => absurd q (by decide)) (fun _ => ?_)
                  refine lv_iload hx hb dX9_hear_190 (lv_at hl 0 rfl) ?_
                  refine lv_if_ne (tgt := 198) hx hb dX9_hear_192 (by decide) (fun _ => ?_) (fun q => absurd q (by decide))
                  refine lv_iload hx hb dX9_hear_198 (lv_at hl 1 rfl) ?_
                  refine lv_if_eq (tgt := 210) hx hb dX9_hear_200 (by decide) (fun _ => ?_) (fun q => absurd q (by decide))
                  refine lv_aload_n hx hb dX9_hear_210 rfl (lv_at hl 6 rfl) ?_
                  refine va_get (D := (dC, dI)) (ci := 9) (v := .ref nw) (C := RX9) (T := TX9) (N := 13) hx hb hts zl_X9 hown hK hP 0 rfl rfl 4 (by decide) (hts _ zw_t2_193) (fun _ h9 => h9) rfl dX9_hear_211 ?_
                  refine lv_dup hx hb dX9_hear_214 rfl ?_
                  refine va_get (D := (dC, dI)) (ci := 3) (v := .int nw_known) (C := RX3) (T := TX3) (N := 6) hx hb hts zl_X3 hown hK hP 1 rfl rfl 4 (by decide) (hts _ zw_t1_165) (fun _ h9 => h9) rfl dX9_hear_215 ?_
                  refine lv_iload hx hb dX9_hear_218 (lv_at hl 4 rfl) ?_
                  refine lv_aload hx hb dX9_hear_220 (lv_at hl 5 rfl) ?_
                  refine va_get (D := (dC, dI)) (ci := 7) (v := .int tn_strayers) (C := RX7) (T := TX7) (N := 18) hx hb hts zl_X7 hown hK hP 2 rfl rfl 6 (by decide) (hts _ zw_t1_74) (fun _ h9 => h9) rfl dX9_hear_222 ?_
                  refine lv_iand hx hb dX9_hear_225 ?_
                  refine lv_topi (fun x_71 ex_71 => ?_)
                  replace hF := hF.trans (zL_eq ex_71)
                  have b_x_71 : 0 ≤ x_71.toInt ∧ x_71.toInt ≤ x_7.toInt := by rw [ex_71]; exact zi_andL rfl (by first | with_reducible assumption | omega) (by first | with_reducible assumption | omega)
                  refine lv_ior hx hb dX9_hear_226 ?_
                  refine lv_topi (fun x_72 ex_72 => ?_)
                  replace hF := hF.trans (zL_eq ex_72)
                  refine va_put (D := (dC, dI)) (ci := 3) (v := .int x_72) (ty := .int) (C := RX3) (T := TX3) (N := 6) hx hb hts zl_X3 tyX3 tyX3_ok nmX3 hown hK hP hD hS 1 rfl rfl 4 (by decide) (hts _ zw_t1_165) (fun _ h9 => h9) rfl (by decide +kernel) rfl rfl (Nat.le_of_ble_eq_true rfl) dX9_hear_227 (fun H locs hP hD hS => ?_)
                  have hP : va_P (dC, dI) vwCl [(h0, .inr (9, [.ref tp, .int h0_tapeLength, .int h0_faultKind, .int h0_faultPlace, .ref nw, .ref im, .ref sl, .ref rd, .ref wk, .ref fm, .ref mt, .ref ch, .ref dy])), (nw, .inr (3, [.int nw_isKept, .ref tn, .int nw_strayed, .int nw_names, .int x_72, .int nw_gone])), (tn, .inr (7, [.int tn_hours, .int tn_courts, .int tn_gateCount, .int tn_people, .int tn_lines, .int tn_falseHours, .int tn_strayers, .int tn_deep, .ref tn_above, .ref tn_doors, .ref tn_degrees, .ref tn_neighbours, .ref tn_shows, .ref tn_oneEnd, .ref tn_otherEnd, .ref tn_told, .ref tn_strayParts, .ref tn_strayCourts])), (tn_shows, .inl (cA_tn_shows, 10, .inl f_tn_shows)), (tn_told, .inl (cA_tn_told, 480, .inl f_tn_told)), (tn_strayCourts, .inl (cA_tn_strayCourts, 10, .inl f_tn_strayCourts))] H := hP
                  have hD : va_D A [(h0, .inr (9, [.ref tp, .int h0_tapeLength, .int h0_faultKind, .int h0_faultPlace, .ref nw, .ref im, .ref sl, .ref rd, .ref wk, .ref fm, .ref mt, .ref ch, .ref dy])), (nw, .inr (3, [.int nw_isKept, .ref tn, .int nw_strayed, .int nw_names, .int x_72, .int nw_gone])), (tn, .inr (7, [.int tn_hours, .int tn_courts, .int tn_gateCount, .int tn_people, .int tn_lines, .int tn_falseHours, .int tn_strayers, .int tn_deep, .ref tn_above, .ref tn_doors, .ref tn_degrees, .ref tn_neighbours, .ref tn_shows, .ref tn_oneEnd, .ref tn_otherEnd, .ref tn_told, .ref tn_strayParts, .ref tn_strayCourts])), (tn_shows, .inl (cA_tn_shows, 10, .inl f_tn_shows)), (tn_told, .inl (cA_tn_told, 480, .inl f_tn_told)), (tn_strayCourts, .inl (cA_tn_strayCourts, 10, .inl f_tn_strayCourts))] := hD
                  refine lv_iload hx hb dX9_hear_230 (lv_at hl 1 rfl) ?_
                  refine lv_if_eq (tgt := 249) hx hb dX9_hear_232 (by decide) (fun _ => ?_) (fun q => absurd q (by decide))
                  refine lv_iconst (v := 1) hx hb dX9_hear_249 (by decide) ?_
                  have hF : RR = ((1 : Int32), x_72, nw_gone) := hF
                  have zc : Int32.toInt 1 = 1 := by decide
                  exact W.iret (v := 1) hx hb hr (fun t ht hW => by rw [← hQe]; exact ⟨⟨1, (), rfl, ⟨by decide, (by rw [← hRR, hF])⟩, ⟨x_72, nw_gone, (by rw [← hRR, hF]), (by rw [← hRR, hF]), z_ret hP hK hD ht hW [0, 1, 2, 3, 4, 5] [] rfl (by decide) rfl⟩⟩, hS.F ht⟩) hS.2.2 dX9_hear_250
              · have ic_67 := zz_neq rfl (show Int32.toInt 0 = 0 from by decide) c_67
                replace hF := hF.trans (if_neg c_67)
                refine lv_aload_n hx hb dX9_hear_105 rfl (lv_at hl 3 rfl) ?_
                refine va_get (D := (dC, dI)) (ci := 9) (v := .ref nw) (C := RX9) (T := TX9) (N := 13) hx hb hts zl_X9 hown hK hP 0 rfl rfl 4 (by decide) (hts _ zw_t2_193) (fun _ h9 => h9) rfl dX9_hear_106 ?_
                refine va_get (D := (dC, dI)) (ci := 3) (v := .int nw_gone) (C := RX3) (T := TX3) (N := 6) hx hb hts zl_X3 hown hK hP 1 rfl rfl 5 (by decide) (hts _ zw_t1_168) (fun _ h9 => h9) rfl dX9_hear_109 ?_
                refine lv_iload_n hx hb dX9_hear_112 rfl (lv_at hl 4 rfl) ?_
                obtain ⟨hPc, hDc, hFc⟩ := z_cut (wc := []) hP hD hS hA [] rfl (by decide +kernel)
                have hKc := hK.sub (tys' := []) [] rfl
                refine va_calli (va_runS (As := [.int nw_gone, .int p1]) (rest := []) ⟨hx, hb, hml, hown, hts⟩ (kf_X9_has l sa dC dI nw_gone p1 H.size) (va_cwS 2 hts (z_gS zw_t4_12 zw_t3_123 zw_t1_1 zw_t3_124) rfl rfl rfl (by decide +kernel) (by rw [← hRe]; exact ⟨(Nat.le_of_ble_eq_true rfl), (Nat.le_of_ble_eq_true rfl)⟩)) (z_preS hPc hKc hDc hN hXs hS hFc) rfl rfl hl.1 rfl (lv_room (Nat.le_of_ble_eq_true rfl)) dX9_hear_113 (by rw [← hRe]; exact ⟨(Nat.le_of_ble_eq_true rfl), (Nat.le_of_ble_eq_true rfl)⟩)) hS (fun q _ h => hFc q h) hFc (fun r_73 u t H1 locs ht hvm hw hB hz1 hk1 hS => ?_)
                obtain ⟨hP, hD, hK⟩ := z_after3 (wn := [(h0, .inr (9, [.ref tp, .int h0_tapeLength, .int h0_faultKind, .int h0_faultPlace, .ref nw, .ref im, .ref sl, .ref rd, .ref wk, .ref fm, .ref mt, .ref ch, .ref dy])), (nw, .inr (3, [.int nw_isKept, .ref tn, .int nw_strayed, .int nw_names, .int nw_known, .int nw_gone])), (tn_shows, .inl (cA_tn_shows, 10, .inl f_tn_shows)), (tn_told, .inl (cA_tn_told, 480, .inl f_tn_told)), (tn_strayCourts, .inl (cA_tn_strayCourts, 10, .inl f_tn_strayCourts)), (tn, .inr (7, [.int tn_hours, .int tn_courts, .int tn_gateCount, .int tn_people, .int tn_lines, .int tn_falseHours, .int tn_strayers, .int tn_deep, .ref tn_above, .ref tn_doors, .ref tn_degrees, .ref tn_neighbours, .ref tn_shows, .ref tn_oneEnd, .ref tn_otherEnd, .ref tn_told, .ref tn_strayParts, .ref tn_strayCourts]))]) hB ht hvm hP hD hK [] [0, 1, 2, 3, 4, 5] rfl 6 rfl (by decide +kernel) rfl (by decide +kernel) hk1 hFc
                generalize H1 = H at hP hS ⊢
                have hK : va_K (dC, dI) vwCl [(cA_tn_shows, .int), (cA_tn_told, .int), (cA_tn_strayCourts, .int)] s := hK
                have b_r_73 : 0 ≤ r_73.toInt ∧ r_73.toInt ≤ 1 := hw.1
                have sf_r_73 := hw.2
                replace hF := hF.trans (zL_eq sf_r_73)
                refine lv_if_ne (tgt := 123) hx hb dX9_hear_116 (by decide) (fun c_74 => ?_) (fun c_74 => ?_)
                · have ic_74 := zz_ne rfl (show Int32.toInt 0 = 0 from by decide) c_74
                  replace hF := hF.trans (if_neg c_74)
                  refine lv_iconst (v := 0) hx hb dX9_hear_123 (by decide) ?_
                  refine lv_istore (lv' := [(8, .int 0), (7, .int 0), (6, .int x_7), (5, .ref tn), (0, .ref h0), (1, .int p1), (2, .int p2), (3, .int p3), (4, .int p4)]) hx hb dX9_hear_124 hl (by decide) rfl (fun ls hl => ?_)
                  refine lv_iload hx hb dX9_hear_126 (lv_at hl 1 rfl) ?_
                  refine lv_if_eq (tgt := 153) hx hb dX9_hear_128 (by decide) (fun _ => ?_) (fun q => absurd q (by decide))
                  refine lv_iconst (v := 0) hx hb dX9_hear_153 (by decide) ?_
                  refine lv_istore (lv' := [(9, .int 0), (8, .int 0), (7, .int 0), (6, .int x_7), (5, .ref tn), (0, .ref h0), (1, .int p1), (2, .int p2), (3, .int p3), (4, .int p4)]) hx hb dX9_hear_154 hl (by decide) rfl (fun ls hl => ?_)
                  refine lv_iload hx hb dX9_hear_156 (lv_at hl 1 rfl) ?_
                  refine lv_if_eq (tgt := 182) hx hb dX9_hear_158 (by decide) (fun _ => ?_) (fun q => absurd q (by decide))
                  refine lv_iconst (v := 0) hx hb dX9_hear_182 (by decide) ?_
                  refine lv_istore (lv' := [(10, .int 0), (9, .int 0), (8, .int 0), (7, .int 0), (6, .int x_7), (5, .ref tn), (0, .ref h0), (1, .int p1), (2, .int p2), (3, .int p3), (4, .int p4)]) hx hb dX9_hear_183 hl (by decide) rfl (fun ls hl => ?_)
                  refine lv_iload hx hb dX9_hear_185 (lv_at hl 1 rfl) ?_
                  refine lv_if_ne (tgt := 198) hx hb dX9_hear_187 (by decide) (fun q => absurd q (by decide)) (fun _ => ?_)
                  refine lv_iload hx hb dX9_hear_190 (lv_at hl 0 rfl) ?_
                  refine lv_if_ne (tgt := 198) hx hb dX9_hear_192 (by decide) (fun q => absurd q (by decide)) (fun _ => ?_)
                  refine lv_bipush (v := (-5)) hx hb dX9_hear_195 (by decide) ?_
                  have hF : RR = ((-5 : Int32), nw_known, nw_gone) := hF
                  have zc : Int32.toInt (-5) = (-5) := by decide
                  exact W.iret (v := (-5)) hx hb hr (fun t ht hW => by rw [← hQe]; exact ⟨⟨(-5), (), rfl, ⟨by decide, (by rw [← hRR, hF])⟩, ⟨nw_known, nw_gone, (by rw [← hRR, hF]), (by rw [← hRR, hF]), z_ret hP hK hD ht hW [0, 1, 5, 2, 3, 4] [] rfl (by decide) rfl⟩⟩, hS.F ht⟩) hS.2.2 dX9_hear_197
                · have ic_74 := zz_nne rfl (show Int32.toInt 0 = 0 from by decide) c_74
                  replace hF := hF.trans (if_pos c_74)
                  refine lv_iconst (v := 1) hx hb dX9_hear_119 (by decide) ?_
                  refine lv_goto (tgt := 124) hx hb dX9_hear_120 (by decide) ?_
                  refine lv_istore (lv' := [(8, .int 1), (7, .int 0), (6, .int x_7), (5, .ref tn), (0, .ref h0), (1, .int p1), (2, .int p2), (3, .int p3), (4, .int p4)]) hx hb dX9_hear_124 hl (by decide) rfl (fun ls hl => ?_)
                  refine lv_iload hx hb dX9_hear_126 (lv_at hl 1 rfl) ?_
                  refine lv_if_eq (tgt := 153) hx hb dX9_hear_128 (by decide) (fun _ => ?_) (fun q => absurd q (by decide))
                  refine lv_iconst (v := 0) hx hb dX9_hear_153 (by decide) ?_
                  refine lv_istore (lv' := [(9, .int 0), (8, .int 1), (7, .int 0), (6, .int x_7), (5, .ref tn), (0, .ref h0), (1, .int p1), (2, .int p2), (3, .int p3), (4, .int p4)]) hx hb dX9_hear_154 hl (by decide) rfl (fun ls hl => ?_)
                  refine lv_iload hx hb dX9_hear_156 (lv_at hl 1 rfl) ?_
                  refine lv_if_eq (tgt := 182) hx hb dX9_hear_158 (by decide) (fun q => absurd q (by decide)) (fun _ => ?_)
                  refine lv_aload hx hb dX9_hear_161 (lv_at hl 4 rfl) ?_
                  refine lv_iload_n hx hb dX9_hear_163 rfl (lv_at hl 6 rfl) ?_
                  refine lv_iload_n hx hb dX9_hear_164 rfl (lv_at hl 8 rfl) ?_
                  refine lv_iconst (v := 0) hx hb dX9_hear_165 (by decide) ?_
                  obtain ⟨hPc, hDc, hFc⟩ := z_cut (wc := [(tn, .inr (7, [.int tn_hours, .int tn_courts, .int tn_gateCount, .int tn_people, .int tn_lines, .int tn_falseHours, .int tn_strayers, .int tn_deep, .ref tn_above, .ref tn_doors, .ref tn_degrees, .ref tn_neighbours, .ref tn_shows, .ref tn_oneEnd, .ref tn_otherEnd, .ref tn_told, .ref tn_strayParts, .ref tn_strayCourts])), (tn_shows, .inl (cA_tn_shows, 10, .inl f_tn_shows)), (tn_told, .inl (cA_tn_told, 480, .inl f_tn_told)), (tn_strayCourts, .inl (cA_tn_strayCourts, 10, .inl f_tn_strayCourts))]) hP hD hS hA [5, 2, 3, 4] rfl (by decide +kernel)
                  have hKc := hK.sub (tys' := [(cA_tn_shows, .int), (cA_tn_told, .int), (cA_tn_strayCourts, .int)]) [0, 1, 2] rfl
                  refine va_calli (va_runV (As := [.int p1, .int p3, .int 0]) (rest := []) ⟨hx, hb, hml, hown, hts⟩ (kf_X7_showsOf l sa dC dI tn p1 p3 (0) tn_hours tn_courts tn_gateCount tn_people tn_lines tn_falseHours tn_strayers tn_deep tn_above tn_doors tn_degrees tn_neighbours tn_shows tn_oneEnd tn_otherEnd tn_told tn_strayParts tn_strayCourts cA_tn_shows f_tn_shows cA_tn_told f_tn_told cA_tn_strayCourts f_tn_strayCourts (by first | with_reducible assumption | omega) (by first | with_reducible assumption | omega) (by first | with_reducible assumption | omega) (by first | with_reducible assumption | omega) (by first | with_reducible assumption | omega) (by first | with_reducible assumption | omega) (by first | with_reducible assumption | omega) (by first | with_reducible assumption | omega) b_f_tn_told b_f_tn_strayCourts H.size) (cwV 3 hts (z_gV zw_t5_133 zw_t3_206 zw_t3_207 zw_t1_3 zw_t3_208) rfl rfl rfl (by decide +kernel) (by rw [← hRe]; exact ⟨(Nat.le_of_ble_eq_true rfl), (Nat.le_of_ble_eq_true rfl)⟩)) (z_preV hPc hKc hDc hN hXs hS hFc (q := (RX7, TX7, 18)) (ci := 7) (q0 := 0) rfl rfl) rfl rfl hl.1 rfl (lv_room (Nat.le_of_ble_eq_true rfl)) dX9_hear_166 (by rw [← hRe]; exact ⟨(Nat.le_of_ble_eq_true rfl), (Nat.le_of_ble_eq_true rfl)⟩)) hS (fun q _ h => hFc q h) hFc (fun r_75 u t H1 locs ht hvm hw hB hz1 hk1 hS => ?_)
                  obtain ⟨hP, hD, hK⟩ := z_after3 (wn := [(h0, .inr (9, [.ref tp, .int h0_tapeLength, .int h0_faultKind, .int h0_faultPlace, .ref nw, .ref im, .ref sl, .ref rd, .ref wk, .ref fm, .ref mt, .ref ch, .ref dy])), (nw, .inr (3, [.int nw_isKept, .ref tn, .int nw_strayed, .int nw_names, .int nw_known, .int nw_gone])), (tn, .inr (7, [.int tn_hours, .int tn_courts, .int tn_gateCount, .int tn_people, .int tn_lines, .int tn_falseHours, .int tn_strayers, .int tn_deep, .ref tn_above, .ref tn_doors, .ref tn_degrees, .ref tn_neighbours, .ref tn_shows, .ref tn_oneEnd, .ref tn_otherEnd, .ref tn_told, .ref tn_strayParts, .ref tn_strayCourts])), (tn_shows, .inl (cA_tn_shows, 10, .inl f_tn_shows)), (tn_told, .inl (cA_tn_told, 480, .inl f_tn_told)), (tn_strayCourts, .inl (cA_tn_strayCourts, 10, .inl f_tn_strayCourts))]) hB ht hvm hP hD hK [5, 2, 3, 4] [0, 1] rfl 6 rfl (by decide +kernel) rfl (by decide +kernel) hk1 hFc
                  generalize H1 = H at hP hS ⊢
                  have hK : va_K (dC, dI) vwCl [(cA_tn_shows, .int), (cA_tn_told, .int), (cA_tn_strayCourts, .int)] s := hK
                  have sf_r_75 := hw
                  have za_0 : Int32.toInt 0 = 0 := by decide
                  replace hF := hF.trans (zL_eq sf_r_75)
                  refine lv_iload_n hx hb dX9_hear_169 rfl (lv_at hl 7 rfl) ?_
                  obtain ⟨hPc, hDc, hFc⟩ := z_cut (wc := []) hP hD hS hA [] rfl (by decide +kernel)
                  have hKc := hK.sub (tys' := []) [] rfl
                  refine va_calli (va_runS (As := [.int r_75, .int p2]) (rest := []) ⟨hx, hb, hml, hown, hts⟩ (kf_X9_has l sa dC dI r_75 p2 H.size) (va_cwS 2 hts (z_gS zw_t4_12 zw_t3_123 zw_t1_1 zw_t3_124) rfl rfl rfl (by decide +kernel) (by rw [← hRe]; exact ⟨(Nat.le_of_ble_eq_true rfl), (Nat.le_of_ble_eq_true rfl)⟩)) (z_preS hPc hKc hDc hN hXs hS hFc) rfl rfl hl.1 rfl (lv_room (Nat.le_of_ble_eq_true rfl)) dX9_hear_170 (by rw [← hRe]; exact ⟨(Nat.le_of_ble_eq_true rfl), (Nat.le_of_ble_eq_true rfl)⟩)) hS (fun q _ h => hFc q h) hFc (fun r_76 u t H1 locs ht hvm hw hB hz1 hk1 hS => ?_)
                  obtain ⟨hP, hD, hK⟩ := z_after3 (wn := [(h0, .inr (9, [.ref tp, .int h0_tapeLength, .int h0_faultKind, .int h0_faultPlace, .ref nw, .ref im, .ref sl, .ref rd, .ref wk, .ref fm, .ref mt, .ref ch, .ref dy])), (nw, .inr (3, [.int nw_isKept, .ref tn, .int nw_strayed, .int nw_names, .int nw_known, .int nw_gone])), (tn, .inr (7, [.int tn_hours, .int tn_courts, .int tn_gateCount, .int tn_people, .int tn_lines, .int tn_falseHours, .int tn_strayers, .int tn_deep, .ref tn_above, .ref tn_doors, .ref tn_degrees, .ref tn_neighbours, .ref tn_shows, .ref tn_oneEnd, .ref tn_otherEnd, .ref tn_told, .ref tn_strayParts, .ref tn_strayCourts])), (tn_shows, .inl (cA_tn_shows, 10, .inl f_tn_shows)), (tn_told, .inl (cA_tn_told, 480, .inl f_tn_told)), (tn_strayCourts, .inl (cA_tn_strayCourts, 10, .inl f_tn_strayCourts))]) hB ht hvm hP hD hK [] [0, 1, 2, 3, 4, 5] rfl 6 rfl (by decide +kernel) rfl (by decide +kernel) hk1 hFc
                  generalize H1 = H at hP hS ⊢
                  have hK : va_K (dC, dI) vwCl [(cA_tn_shows, .int), (cA_tn_told, .int), (cA_tn_strayCourts, .int)] s := hK
                  have b_r_76 : 0 ≤ r_76.toInt ∧ r_76.toInt ≤ 1 := hw.1
                  have sf_r_76 := hw.2
                  replace hF := hF.trans (zL_eq sf_r_76)
                  refine lv_iload hx hb dX9_hear_173 (lv_at hl 9 rfl) ?_
                  have nb_p4 := zi_nb p4
                  refine lv_icmp_ne (tgt := 182) hx hb dX9_hear_175 (by decide) (fun c_77 => ?_) (fun c_77 => ?_)
                  · have ic_77 := zz_ne rfl rfl c_77
                    replace hF := hF.trans (if_neg c_77)
                    refine lv_iconst (v := 0) hx hb dX9_hear_182 (by decide) ?_
                    refine lv_istore (lv' := [(10, .int 0), (9, .int 0), (8, .int 1), (7, .int 0), (6, .int x_7), (5, .ref tn), (0, .ref h0), (1, .int p1), (2, .int p2), (3, .int p3), (4, .int p4)]) hx hb dX9_hear_183 hl (by decide) rfl (fun ls hl => ?_)
                    refine lv_iload hx hb dX9_hear_185 (lv_at hl 1 rfl) ?_
                    refine lv_if_ne (tgt := 198) hx hb dX9_hear_187 (by decide) (fun q => absurd q (by decide)) (fun _ => ?_)
                    refine lv_iload hx hb dX9_hear_190 (lv_at hl 0 rfl) ?_
                    refine lv_if_ne (tgt := 198) hx hb dX9_hear_192 (by decide) (fun q => absurd q (by decide)) (fun _ => ?_)
                    refine lv_bipush (v := (-5)) hx hb dX9_hear_195 (by decide) ?_
                    have hF : RR = ((-5 : Int32), nw_known, nw_gone) := hF
                    have zc : Int32.toInt (-5) = (-5) := by decide
                    exact W.iret (v := (-5)) hx hb hr (fun t ht hW => by rw [← hQe]; exact ⟨⟨(-5), (), rfl, ⟨by decide, (by rw [← hRR, hF])⟩, ⟨nw_known, nw_gone, (by rw [← hRR, hF]), (by rw [← hRR, hF]), z_ret hP hK hD ht hW [0, 1, 2, 3, 4, 5] [] rfl (by decide) rfl⟩⟩, hS.F ht⟩) hS.2.2 dX9_hear_197
                  · have ic_77 := zz_nne rfl rfl c_77
                    replace hF := hF.trans (if_pos c_77)
                    refine lv_iconst (v := 1) hx hb dX9_hear_178 (by decide) ?_
                    refine lv_goto (tgt := 183) hx hb dX9_hear_179 (by decide) ?_
                    refine lv_istore (lv' := [(10, .int 1), (9, .int 0), (8, .int 1), (7, .int 0), (6, .int x_7), (5, .ref tn), (0, .ref h0), (1, .int p1), (2, .int p2), (3, .int p3), (4, .int p4)]) hx hb dX9_hear_183 hl (by decide) rfl (fun ls hl => ?_)
                    refine lv_iload hx hb dX9_hear_185 (lv_at hl 1 rfl) ?_
                    refine lv_if_ne (tgt := 198) hx hb dX9_hear_187 (by decide) (fun q => absurd q (by decide)) (fun _ => ?_)
                    refine lv_iload hx hb dX9_hear_190 (lv_at hl 0 rfl) ?_
                    refine lv_if_ne (tgt := 198) hx hb dX9_hear_192 (by decide) (fun _ => ?_) (fun q => absurd q (by decide))
                    refine lv_iload hx hb dX9_hear_198 (lv_at hl 1 rfl) ?_
                    refine lv_if_eq (tgt := 210) hx hb dX9_hear_200 (by decide) (fun _ => ?_) (fun q => absurd q (by decide))
                    refine lv_aload_n hx hb dX9_hear_210 rfl (lv_at hl 6 rfl) ?_
                    refine va_get (D := (dC, dI)) (ci := 9) (v := .ref nw) (C := RX9) (T := TX9) (N := 13) hx hb hts zl_X9 hown hK hP 0 rfl rfl 4 (by decide) (hts _ zw_t2_193) (fun _ h9 => h9) rfl dX9_hear_211 ?_
                    refine lv_dup hx hb dX9_hear_214 rfl ?_
                    refine va_get (D := (dC, dI)) (ci := 3) (v := .int nw_known) (C := RX3) (T := TX3) (N := 6) hx hb hts zl_X3 hown hK hP 1 rfl rfl 4 (by decide) (hts _ zw_t1_165) (fun _ h9 => h9) rfl dX9_hear_215 ?_
                    refine lv_iload hx hb dX9_hear_218 (lv_at hl 4 rfl) ?_
                    refine lv_aload hx hb dX9_hear_220 (lv_at hl 5 rfl) ?_
                    refine va_get (D := (dC, dI)) (ci := 7) (v := .int tn_strayers) (C := RX7) (T := TX7) (N := 18) hx hb hts zl_X7 hown hK hP 2 rfl rfl 6 (by decide) (hts _ zw_t1_74) (fun _ h9 => h9) rfl dX9_hear_222 ?_
                    refine lv_iand hx hb dX9_hear_225 ?_
                    refine lv_topi (fun x_78 ex_78 => ?_)
                    replace hF := hF.trans (zL_eq ex_78)
                    have b_x_78 : 0 ≤ x_78.toInt ∧ x_78.toInt ≤ x_7.toInt := by rw [ex_78]; exact zi_andL rfl (by first | with_reducible assumption | omega) (by first | with_reducible assumption | omega)
                    refine lv_ior hx hb dX9_hear_226 ?_
                    refine lv_topi (fun x_79 ex_79 => ?_)
                    replace hF := hF.trans (zL_eq ex_79)
                    refine va_put (D := (dC, dI)) (ci := 3) (v := .int x_79) (ty := .int) (C := RX3) (T := TX3) (N := 6) hx hb hts zl_X3 tyX3 tyX3_ok nmX3 hown hK hP hD hS 1 rfl rfl 4 (by decide) (hts _ zw_t1_165) (fun _ h9 => h9) rfl (by decide +kernel) rfl rfl (Nat.le_of_ble_eq_true rfl) dX9_hear_227 (fun H locs hP hD hS => ?_)
                    have hP : va_P (dC, dI) vwCl [(h0, .inr (9, [.ref tp, .int h0_tapeLength, .int h0_faultKind, .int h0_faultPlace, .ref nw, .ref im, .ref sl, .ref rd, .ref wk, .ref fm, .ref mt, .ref ch, .ref dy])), (nw, .inr (3, [.int nw_isKept, .ref tn, .int nw_strayed, .int nw_names, .int x_79, .int nw_gone])), (tn, .inr (7, [.int tn_hours, .int tn_courts, .int tn_gateCount, .int tn_people, .int tn_lines, .int tn_falseHours, .int tn_strayers, .int tn_deep, .ref tn_above, .ref tn_doors, .ref tn_degrees, .ref tn_neighbours, .ref tn_shows, .ref tn_oneEnd, .ref tn_otherEnd, .ref tn_told, .ref tn_strayParts, .ref tn_strayCourts])), (tn_shows, .inl (cA_tn_shows, 10, .inl f_tn_shows)), (tn_told, .inl (cA_tn_told, 480, .inl f_tn_told)), (tn_strayCourts, .inl (cA_tn_strayCourts, 10, .inl f_tn_strayCourts))] H := hP
                    have hD : va_D A [(h0, .inr (9, [.ref tp, .int h0_tapeLength, .int h0_faultKind, .int h0_faultPlace, .ref nw, .ref im, .ref sl, .ref rd, .ref wk, .ref fm, .ref mt, .ref ch, .ref dy])), (nw, .inr (3, [.int nw_isKept, .ref tn, .int nw_strayed, .int nw_names, .int x_79, .int nw_gone])), (tn, .inr (7, [.int tn_hours, .int tn_courts, .int tn_gateCount, .int tn_people, .int tn_lines, .int tn_falseHours, .int tn_strayers, .int tn_deep, .ref tn_above, .ref tn_doors, .ref tn_degrees, .ref tn_neighbours, .ref tn_shows, .ref tn_oneEnd, .ref tn_otherEnd, .ref tn_told, .ref tn_strayParts, .ref tn_strayCourts])), (tn_shows, .inl (cA_tn_shows, 10, .inl f_tn_shows)), (tn_told, .inl (cA_tn_told, 480, .inl f_tn_told)), (tn_strayCourts, .inl (cA_tn_strayCourts, 10, .inl f_tn_strayCourts))] := hD
                    refine lv_iload hx hb dX9_hear_230 (lv_at hl 1 rfl) ?_
                    refine lv_if_eq (tgt := 249) hx hb dX9_hear_232 (by decide) (fun _ => ?_) (fun q => absurd q (by decide))
                    refine lv_iconst (v := 1) hx hb dX9_hear_249 (by decide) ?_
                    have hF : RR = ((1 : Int32), x_79, nw_gone) := hF
                    have zc : Int32.toInt 1 = 1 := by decide
                    exact W.iret (v := 1) hx hb hr (fun t ht hW => by rw [← hQe]; exact ⟨⟨1, (), rfl, ⟨by decide, (by rw [← hRR, hF])⟩, ⟨x_79, nw_gone, (by rw [← hRR, hF]), (by rw [← hRR, hF]), z_ret hP hK hD ht hW [0, 1, 2, 3, 4, 5] [] rfl (by decide) rfl⟩⟩, hS.F ht⟩) hS.2.2 dX9_hear_250
            · have ic_65 := zz_neq rfl (show Int32.toInt 0 = 0 from by decide) c_65
              replace hF := hF.trans (if_neg c_65)
              refine lv_iconst (v := 1) hx hb dX9_hear_84 (by decide) ?_
              refine lv_goto (tgt := 89) hx hb dX9_hear_85 (by decide) ?_
              refine lv_istore (lv' := [(7, .int 1), (6, .int x_7), (5, .ref tn), (0, .ref h0), (1, .int p1), (2, .int p2), (3, .int p3), (4, .int p4)]) hx hb dX9_hear_89 hl (by decide) rfl (fun ls hl => ?_)
              refine lv_aload_n hx hb dX9_hear_91 rfl (lv_at hl 3 rfl) ?_
              refine va_get (D := (dC, dI)) (ci := 9) (v := .ref nw) (C := RX9) (T := TX9) (N := 13) hx hb hts zl_X9 hown hK hP 0 rfl rfl 4 (by decide) (hts _ zw_t2_193) (fun _ h9 => h9) rfl dX9_hear_92 ?_
              refine va_get (D := (dC, dI)) (ci := 3) (v := .int nw_known) (C := RX3) (T := TX3) (N := 6) hx hb hts zl_X3 hown hK hP 1 rfl rfl 4 (by decide) (hts _ zw_t1_165) (fun _ h9 => h9) rfl dX9_hear_95 ?_
              refine lv_iload_n hx hb dX9_hear_98 rfl (lv_at hl 4 rfl) ?_
              obtain ⟨hPc, hDc, hFc⟩ := z_cut (wc := []) hP hD hS hA [] rfl (by decide +kernel)
              have hKc := hK.sub (tys' := []) [] rfl
              refine va_calli (va_runS (As := [.int nw_known, .int p1]) (rest := []) ⟨hx, hb, hml, hown, hts⟩ (kf_X9_has l sa dC dI nw_known p1 H.size) (va_cwS 2 hts (z_gS zw_t4_12 zw_t3_123 zw_t1_1 zw_t3_124) rfl rfl rfl (by decide +kernel) (by rw [← hRe]; exact ⟨(Nat.le_of_ble_eq_true rfl), (Nat.le_of_ble_eq_true rfl)⟩)) (z_preS hPc hKc hDc hN hXs hS hFc) rfl rfl hl.1 rfl (lv_room (Nat.le_of_ble_eq_true rfl)) dX9_hear_99 (by rw [← hRe]; exact ⟨(Nat.le_of_ble_eq_true rfl), (Nat.le_of_ble_eq_true rfl)⟩)) hS (fun q _ h => hFc q h) hFc (fun r_80 u t H1 locs ht hvm hw hB hz1 hk1 hS => ?_)
              obtain ⟨hP, hD, hK⟩ := z_after3 (wn := [(h0, .inr (9, [.ref tp, .int h0_tapeLength, .int h0_faultKind, .int h0_faultPlace, .ref nw, .ref im, .ref sl, .ref rd, .ref wk, .ref fm, .ref mt, .ref ch, .ref dy])), (nw, .inr (3, [.int nw_isKept, .ref tn, .int nw_strayed, .int nw_names, .int nw_known, .int nw_gone])), (tn_shows, .inl (cA_tn_shows, 10, .inl f_tn_shows)), (tn_told, .inl (cA_tn_told, 480, .inl f_tn_told)), (tn_strayCourts, .inl (cA_tn_strayCourts, 10, .inl f_tn_strayCourts)), (tn, .inr (7, [.int tn_hours, .int tn_courts, .int tn_gateCount, .int tn_people, .int tn_lines, .int tn_falseHours, .int tn_strayers, .int tn_deep, .ref tn_above, .ref tn_doors, .ref tn_degrees, .ref tn_neighbours, .ref tn_shows, .ref tn_oneEnd, .ref tn_otherEnd, .ref tn_told, .ref tn_strayParts, .ref tn_strayCourts]))]) hB ht hvm hP hD hK [] [0, 1, 2, 3, 4, 5] rfl 6 rfl (by decide +kernel) rfl (by decide +kernel) hk1 hFc
              generalize H1 = H at hP hS ⊢
              have hK : va_K (dC, dI) vwCl [(cA_tn_shows, .int), (cA_tn_told, .int), (cA_tn_strayCourts, .int)] s := hK
              have b_r_80 : 0 ≤ r_80.toInt ∧ r_80.toInt ≤ 1 := hw.1
              have sf_r_80 := hw.2
              replace hF := hF.trans (zL_eq sf_r_80)
              refine lv_if_eq (tgt := 119) hx hb dX9_hear_102 (by decide) (fun c_81 => ?_) (fun c_81 => ?_)
              · have ic_81 := zz_eq rfl (show Int32.toInt 0 = 0 from by decide) c_81
                replace hF := hF.trans (if_pos c_81)
                refine lv_iconst (v := 1) hx hb dX9_hear_119 (by decide) ?_
                refine lv_goto (tgt := 124) hx hb dX9_hear_120 (by decide) ?_
                refine lv_istore (lv' := [(8, .int 1), (7, .int 1), (6, .int x_7), (5, .ref tn), (0, .ref h0), (1, .int p1), (2, .int p2), (3, .int p3), (4, .int p4)]) hx hb dX9_hear_124 hl (by decide) rfl (fun ls hl => ?_)
                refine lv_iload hx hb dX9_hear_126 (lv_at hl 1 rfl) ?_
                refine lv_if_eq (tgt := 153) hx hb dX9_hear_128 (by decide) (fun q => absurd q (by decide)) (fun _ => ?_)
                refine lv_aload hx hb dX9_hear_131 (lv_at hl 3 rfl) ?_
                refine lv_iload_n hx hb dX9_hear_133 rfl (lv_at hl 5 rfl) ?_
                refine lv_iload_n hx hb dX9_hear_134 rfl (lv_at hl 7 rfl) ?_
                refine lv_iload hx hb dX9_hear_135 (lv_at hl 2 rfl) ?_
                obtain ⟨hPc, hDc, hFc⟩ := z_cut (wc := [(tn, .inr (7, [.int tn_hours, .int tn_courts, .int tn_gateCount, .int tn_people, .int tn_lines, .int tn_falseHours, .int tn_strayers, .int tn_deep, .ref tn_above, .ref tn_doors, .ref tn_degrees, .ref tn_neighbours, .ref tn_shows, .ref tn_oneEnd, .ref tn_otherEnd, .ref tn_told, .ref tn_strayParts, .ref tn_strayCourts])), (tn_shows, .inl (cA_tn_shows, 10, .inl f_tn_shows)), (tn_told, .inl (cA_tn_told, 480, .inl f_tn_told)), (tn_strayCourts, .inl (cA_tn_strayCourts, 10, .inl f_tn_strayCourts))]) hP hD hS hA [5, 2, 3, 4] rfl (by decide +kernel)
                have hKc := hK.sub (tys' := [(cA_tn_shows, .int), (cA_tn_told, .int), (cA_tn_strayCourts, .int)]) [0, 1, 2] rfl
                refine va_calli (va_runV (As := [.int p1, .int p3, .int x_7]) (rest := []) ⟨hx, hb, hml, hown, hts⟩ (kf_X7_showsOf l sa dC dI tn p1 p3 x_7 tn_hours tn_courts tn_gateCount tn_people tn_lines tn_falseHours tn_strayers tn_deep tn_above tn_doors tn_degrees tn_neighbours tn_shows tn_oneEnd tn_otherEnd tn_told tn_strayParts tn_strayCourts cA_tn_shows f_tn_shows cA_tn_told f_tn_told cA_tn_strayCourts f_tn_strayCourts (by first | with_reducible assumption | omega) (by first | with_reducible assumption | omega) (by first | with_reducible assumption | omega) (by first | with_reducible assumption | omega) (by first | with_reducible assumption | omega) (by first | with_reducible assumption | omega) (by first | with_reducible assumption | omega) (by first | with_reducible assumption | omega) b_f_tn_told b_f_tn_strayCourts H.size) (cwV 3 hts (z_gV zw_t5_133 zw_t3_206 zw_t3_207 zw_t1_3 zw_t3_208) rfl rfl rfl (by decide +kernel) (by rw [← hRe]; exact ⟨(Nat.le_of_ble_eq_true rfl), (Nat.le_of_ble_eq_true rfl)⟩)) (z_preV hPc hKc hDc hN hXs hS hFc (q := (RX7, TX7, 18)) (ci := 7) (q0 := 0) rfl rfl) rfl rfl hl.1 rfl (lv_room (Nat.le_of_ble_eq_true rfl)) dX9_hear_137 (by rw [← hRe]; exact ⟨(Nat.le_of_ble_eq_true rfl), (Nat.le_of_ble_eq_true rfl)⟩)) hS (fun q _ h => hFc q h) hFc (fun r_82 u t H1 locs ht hvm hw hB hz1 hk1 hS => ?_)
                obtain ⟨hP, hD, hK⟩ := z_after3 (wn := [(h0, .inr (9, [.ref tp, .int h0_tapeLength, .int h0_faultKind, .int h0_faultPlace, .ref nw, .ref im, .ref sl, .ref rd, .ref wk, .ref fm, .ref mt, .ref ch, .ref dy])), (nw, .inr (3, [.int nw_isKept, .ref tn, .int nw_strayed, .int nw_names, .int nw_known, .int nw_gone])), (tn, .inr (7, [.int tn_hours, .int tn_courts, .int tn_gateCount, .int tn_people, .int tn_lines, .int tn_falseHours, .int tn_strayers, .int tn_deep, .ref tn_above, .ref tn_doors, .ref tn_degrees, .ref tn_neighbours, .ref tn_shows, .ref tn_oneEnd, .ref tn_otherEnd, .ref tn_told, .ref tn_strayParts, .ref tn_strayCourts])), (tn_shows, .inl (cA_tn_shows, 10, .inl f_tn_shows)), (tn_told, .inl (cA_tn_told, 480, .inl f_tn_told)), (tn_strayCourts, .inl (cA_tn_strayCourts, 10, .inl f_tn_strayCourts))]) hB ht hvm hP hD hK [5, 2, 3, 4] [0, 1] rfl 6 rfl (by decide +kernel) rfl (by decide +kernel) hk1 hFc
                generalize H1 = H at hP hS ⊢
                have hK : va_K (dC, dI) vwCl [(cA_tn_shows, .int), (cA_tn_told, .int), (cA_tn_strayCourts, .int)] s := hK
                have sf_r_82 := hw
                replace hF := hF.trans (zL_eq sf_r_82)
                refine lv_iload_n hx hb dX9_hear_140 rfl (lv_at hl 6 rfl) ?_
                obtain ⟨hPc, hDc, hFc⟩ := z_cut (wc := []) hP hD hS hA [] rfl (by decide +kernel)
                have hKc := hK.sub (tys' := []) [] rfl
                refine va_calli (va_runS (As := [.int r_82, .int p2]) (rest := []) ⟨hx, hb, hml, hown, hts⟩ (kf_X9_has l sa dC dI r_82 p2 H.size) (va_cwS 2 hts (z_gS zw_t4_12 zw_t3_123 zw_t1_1 zw_t3_124) rfl rfl rfl (by decide +kernel) (by rw [← hRe]; exact ⟨(Nat.le_of_ble_eq_true rfl), (Nat.le_of_ble_eq_true rfl)⟩)) (z_preS hPc hKc hDc hN hXs hS hFc) rfl rfl hl.1 rfl (lv_room (Nat.le_of_ble_eq_true rfl)) dX9_hear_141 (by rw [← hRe]; exact ⟨(Nat.le_of_ble_eq_true rfl), (Nat.le_of_ble_eq_true rfl)⟩)) hS (fun q _ h => hFc q h) hFc (fun r_83 u t H1 locs ht hvm hw hB hz1 hk1 hS => ?_)
                obtain ⟨hP, hD, hK⟩ := z_after3 (wn := [(h0, .inr (9, [.ref tp, .int h0_tapeLength, .int h0_faultKind, .int h0_faultPlace, .ref nw, .ref im, .ref sl, .ref rd, .ref wk, .ref fm, .ref mt, .ref ch, .ref dy])), (nw, .inr (3, [.int nw_isKept, .ref tn, .int nw_strayed, .int nw_names, .int nw_known, .int nw_gone])), (tn, .inr (7, [.int tn_hours, .int tn_courts, .int tn_gateCount, .int tn_people, .int tn_lines, .int tn_falseHours, .int tn_strayers, .int tn_deep, .ref tn_above, .ref tn_doors, .ref tn_degrees, .ref tn_neighbours, .ref tn_shows, .ref tn_oneEnd, .ref tn_otherEnd, .ref tn_told, .ref tn_strayParts, .ref tn_strayCourts])), (tn_shows, .inl (cA_tn_shows, 10, .inl f_tn_shows)), (tn_told, .inl (cA_tn_told, 480, .inl f_tn_told)), (tn_strayCourts, .inl (cA_tn_strayCourts, 10, .inl f_tn_strayCourts))]) hB ht hvm hP hD hK [] [0, 1, 2, 3, 4, 5] rfl 6 rfl (by decide +kernel) rfl (by decide +kernel) hk1 hFc
                generalize H1 = H at hP hS ⊢
                have hK : va_K (dC, dI) vwCl [(cA_tn_shows, .int), (cA_tn_told, .int), (cA_tn_strayCourts, .int)] s := hK
                have b_r_83 : 0 ≤ r_83.toInt ∧ r_83.toInt ≤ 1 := hw.1
                have sf_r_83 := hw.2
                replace hF := hF.trans (zL_eq sf_r_83)
                refine lv_iload hx hb dX9_hear_144 (lv_at hl 8 rfl) ?_
                have nb_p4 := zi_nb p4
                refine lv_icmp_ne (tgt := 153) hx hb dX9_hear_146 (by decide) (fun c_84 => ?_) (fun c_84 => ?_)
                · have ic_84 := zz_ne rfl rfl c_84
                  replace hF := hF.trans (if_neg c_84)
                  refine lv_iconst (v := 0) hx hb dX9_hear_153 (by decide) ?_
                  refine lv_istore (lv' := [(9, .int 0), (8, .int 1), (7, .int 1), (6, .int x_7), (5, .ref tn), (0, .ref h0), (1, .int p1), (2, .int p2), (3, .int p3), (4, .int p4)]) hx hb dX9_hear_154 hl (by decide) rfl (fun ls hl => ?_)
                  refine lv_iload hx hb dX9_hear_156 (lv_at hl 1 rfl) ?_
                  refine lv_if_eq (tgt := 182) hx hb dX9_hear_158 (by decide) (fun q => absurd q (by decide)) (fun _ => ?_)
                  refine lv_aload hx hb dX9_hear_161 (lv_at hl 4 rfl) ?_
                  refine lv_iload_n hx hb dX9_hear_163 rfl (lv_at hl 6 rfl) ?_
                  refine lv_iload_n hx hb dX9_hear_164 rfl (lv_at hl 8 rfl) ?_
                  refine lv_iconst (v := 0) hx hb dX9_hear_165 (by decide) ?_
                  obtain ⟨hPc, hDc, hFc⟩ := z_cut (wc := [(tn, .inr (7, [.int tn_hours, .int tn_courts, .int tn_gateCount, .int tn_people, .int tn_lines, .int tn_falseHours, .int tn_strayers, .int tn_deep, .ref tn_above, .ref tn_doors, .ref tn_degrees, .ref tn_neighbours, .ref tn_shows, .ref tn_oneEnd, .ref tn_otherEnd, .ref tn_told, .ref tn_strayParts, .ref tn_strayCourts])), (tn_shows, .inl (cA_tn_shows, 10, .inl f_tn_shows)), (tn_told, .inl (cA_tn_told, 480, .inl f_tn_told)), (tn_strayCourts, .inl (cA_tn_strayCourts, 10, .inl f_tn_strayCourts))]) hP hD hS hA [2, 3, 4, 5] rfl (by decide +kernel)
                  have hKc := hK.sub (tys' := [(cA_tn_shows, .int), (cA_tn_told, .int), (cA_tn_strayCourts, .int)]) [0, 1, 2] rfl
                  refine va_calli (va_runV (As := [.int p1, .int p3, .int 0]) (rest := []) ⟨hx, hb, hml, hown, hts⟩ (kf_X7_showsOf l sa dC dI tn p1 p3 (0) tn_hours tn_courts tn_gateCount tn_people tn_lines tn_falseHours tn_strayers tn_deep tn_above tn_doors tn_degrees tn_neighbours tn_shows tn_oneEnd tn_otherEnd tn_told tn_strayParts tn_strayCourts cA_tn_shows f_tn_shows cA_tn_told f_tn_told cA_tn_strayCourts f_tn_strayCourts (by first | with_reducible assumption | omega) (by first | with_reducible assumption | omega) (by first | with_reducible assumption | omega) (by first | with_reducible assumption | omega) (by first | with_reducible assumption | omega) (by first | with_reducible assumption | omega) (by first | with_reducible assumption | omega) (by first | with_reducible assumption | omega) b_f_tn_told b_f_tn_strayCourts H.size) (cwV 3 hts (z_gV zw_t5_133 zw_t3_206 zw_t3_207 zw_t1_3 zw_t3_208) rfl rfl rfl (by decide +kernel) (by rw [← hRe]; exact ⟨(Nat.le_of_ble_eq_true rfl), (Nat.le_of_ble_eq_true rfl)⟩)) (z_preV hPc hKc hDc hN hXs hS hFc (q := (RX7, TX7, 18)) (ci := 7) (q0 := 0) rfl rfl) rfl rfl hl.1 rfl (lv_room (Nat.le_of_ble_eq_true rfl)) dX9_hear_166 (by rw [← hRe]; exact ⟨(Nat.le_of_ble_eq_true rfl), (Nat.le_of_ble_eq_true rfl)⟩)) hS (fun q _ h => hFc q h) hFc (fun r_85 u t H1 locs ht hvm hw hB hz1 hk1 hS => ?_)
                  obtain ⟨hP, hD, hK⟩ := z_after3 (wn := [(h0, .inr (9, [.ref tp, .int h0_tapeLength, .int h0_faultKind, .int h0_faultPlace, .ref nw, .ref im, .ref sl, .ref rd, .ref wk, .ref fm, .ref mt, .ref ch, .ref dy])), (nw, .inr (3, [.int nw_isKept, .ref tn, .int nw_strayed, .int nw_names, .int nw_known, .int nw_gone])), (tn, .inr (7, [.int tn_hours, .int tn_courts, .int tn_gateCount, .int tn_people, .int tn_lines, .int tn_falseHours, .int tn_strayers, .int tn_deep, .ref tn_above, .ref tn_doors, .ref tn_degrees, .ref tn_neighbours, .ref tn_shows, .ref tn_oneEnd, .ref tn_otherEnd, .ref tn_told, .ref tn_strayParts, .ref tn_strayCourts])), (tn_shows, .inl (cA_tn_shows, 10, .inl f_tn_shows)), (tn_told, .inl (cA_tn_told, 480, .inl f_tn_told)), (tn_strayCourts, .inl (cA_tn_strayCourts, 10, .inl f_tn_strayCourts))]) hB ht hvm hP hD hK [2, 3, 4, 5] [0, 1] rfl 6 rfl (by decide +kernel) rfl (by decide +kernel) hk1 hFc
                  generalize H1 = H at hP hS ⊢
                  have hK : va_K (dC, dI) vwCl [(cA_tn_shows, .int), (cA_tn_told, .int), (cA_tn_strayCourts, .int)] s := hK
                  have sf_r_85 := hw
                  have za_0 : Int32.toInt 0 = 0 := by decide
                  replace hF := hF.trans (zL_eq sf_r_85)
                  refine lv_iload_n hx hb dX9_hear_169 rfl (lv_at hl 7 rfl) ?_
                  obtain ⟨hPc, hDc, hFc⟩ := z_cut (wc := []) hP hD hS hA [] rfl (by decide +kernel)
                  have hKc := hK.sub (tys' := []) [] rfl
                  refine va_calli (va_runS (As := [.int r_85, .int p2]) (rest := []) ⟨hx, hb, hml, hown, hts⟩ (kf_X9_has l sa dC dI r_85 p2 H.size) (va_cwS 2 hts (z_gS zw_t4_12 zw_t3_123 zw_t1_1 zw_t3_124) rfl rfl rfl (by decide +kernel) (by rw [← hRe]; exact ⟨(Nat.le_of_ble_eq_true rfl), (Nat.le_of_ble_eq_true rfl)⟩)) (z_preS hPc hKc hDc hN hXs hS hFc) rfl rfl hl.1 rfl (lv_room (Nat.le_of_ble_eq_true rfl)) dX9_hear_170 (by rw [← hRe]; exact ⟨(Nat.le_of_ble_eq_true rfl), (Nat.le_of_ble_eq_true rfl)⟩)) hS (fun q _ h => hFc q h) hFc (fun r_86 u t H1 locs ht hvm hw hB hz1 hk1 hS => ?_)
                  obtain ⟨hP, hD, hK⟩ := z_after3 (wn := [(h0, .inr (9, [.ref tp, .int h0_tapeLength, .int h0_faultKind, .int h0_faultPlace, .ref nw, .ref im, .ref sl, .ref rd, .ref wk, .ref fm, .ref mt, .ref ch, .ref dy])), (nw, .inr (3, [.int nw_isKept, .ref tn, .int nw_strayed, .int nw_names, .int nw_known, .int nw_gone])), (tn, .inr (7, [.int tn_hours, .int tn_courts, .int tn_gateCount, .int tn_people, .int tn_lines, .int tn_falseHours, .int tn_strayers, .int tn_deep, .ref tn_above, .ref tn_doors, .ref tn_degrees, .ref tn_neighbours, .ref tn_shows, .ref tn_oneEnd, .ref tn_otherEnd, .ref tn_told, .ref tn_strayParts, .ref tn_strayCourts])), (tn_shows, .inl (cA_tn_shows, 10, .inl f_tn_shows)), (tn_told, .inl (cA_tn_told, 480, .inl f_tn_told)), (tn_strayCourts, .inl (cA_tn_strayCourts, 10, .inl f_tn_strayCourts))]) hB ht hvm hP hD hK [] [0, 1, 2, 3, 4, 5] rfl 6 rfl (by decide +kernel) rfl (by decide +kernel) hk1 hFc
                  generalize H1 = H at hP hS ⊢
                  have hK : va_K (dC, dI) vwCl [(cA_tn_shows, .int), (cA_tn_told, .int), (cA_tn_strayCourts, .int)] s := hK
                  have b_r_86 : 0 ≤ r_86.toInt ∧ r_86.toInt ≤ 1 := hw.1
                  have sf_r_86 := hw.2
                  replace hF := hF.trans (zL_eq sf_r_86)
                  refine lv_iload hx hb dX9_hear_173 (lv_at hl 9 rfl) ?_
                  refine lv_icmp_ne (tgt := 182) hx hb dX9_hear_175 (by decide) (fun c_87 => ?_) (fun c_87 => ?_)
                  · have ic_87 := zz_ne rfl rfl c_87
                    replace hF := hF.trans (if_neg c_87)
                    refine lv_iconst (v := 0) hx hb dX9_hear_182 (by decide) ?_
                    refine lv_istore (lv' := [(10, .int 0), (9, .int 0), (8, .int 1), (7, .int 1), (6, .int x_7), (5, .ref tn), (0, .ref h0), (1, .int p1), (2, .int p2), (3, .int p3), (4, .int p4)]) hx hb dX9_hear_183 hl (by decide) rfl (fun ls hl => ?_)
                    refine lv_iload hx hb dX9_hear_185 (lv_at hl 1 rfl) ?_
                    refine lv_if_ne (tgt := 198) hx hb dX9_hear_187 (by decide) (fun q => absurd q (by decide)) (fun _ => ?_)
                    refine lv_iload hx hb dX9_hear_190 (lv_at hl 0 rfl) ?_
                    refine lv_if_ne (tgt := 198) hx hb dX9_hear_192 (by decide) (fun q => absurd q (by decide)) (fun _ => ?_)
                    refine lv_bipush (v := (-5)) hx hb dX9_hear_195 (by decide) ?_
                    have hF : RR = ((-5 : Int32), nw_known, nw_gone) := hF
                    have zc : Int32.toInt (-5) = (-5) := by decide
                    exact W.iret (v := (-5)) hx hb hr (fun t ht hW => by rw [← hQe]; exact ⟨⟨(-5), (), rfl, ⟨by decide, (by rw [← hRR, hF])⟩, ⟨nw_known, nw_gone, (by rw [← hRR, hF]), (by rw [← hRR, hF]), z_ret hP hK hD ht hW [0, 1, 2, 3, 4, 5] [] rfl (by decide) rfl⟩⟩, hS.F ht⟩) hS.2.2 dX9_hear_197
                  · have ic_87 := zz_nne rfl rfl c_87
                    replace hF := hF.trans (if_pos c_87)
                    refine lv_iconst (v := 1) hx hb dX9_hear_178 (by decide) ?_
                    refine lv_goto (tgt := 183) hx hb dX9_hear_179 (by decide) ?_
                    refine lv_istore (lv' := [(10, .int 1), (9, .int 0), (8, .int 1), (7, .int 1), (6, .int x_7), (5, .ref tn), (0, .ref h0), (1, .int p1), (2, .int p2), (3, .int p3), (4, .int p4)]) hx hb dX9_hear_183 hl (by decide) rfl (fun ls hl => ?_)
                    refine lv_iload hx hb dX9_hear_185 (lv_at hl 1 rfl) ?_
                    refine lv_if_ne (tgt := 198) hx hb dX9_hear_187 (by decide) (fun q => absurd q (by decide)) (fun _ => ?_)
                    refine lv_iload hx hb dX9_hear_190 (lv_at hl 0 rfl) ?_
                    refine lv_if_ne (tgt := 198) hx hb dX9_hear_192 (by decide) (fun _ => ?_) (fun q => absurd q (by decide))
                    refine lv_iload hx hb dX9_hear_198 (lv_at hl 1 rfl) ?_
                    refine lv_if_eq (tgt := 210) hx hb dX9_hear_200 (by decide) (fun _ => ?_) (fun q => absurd q (by decide))
                    refine lv_aload_n hx hb dX9_hear_210 rfl (lv_at hl 6 rfl) ?_
                    refine va_get (D := (dC, dI)) (ci := 9) (v := .ref nw) (C := RX9) (T := TX9) (N := 13) hx hb hts zl_X9 hown hK hP 0 rfl rfl 4 (by decide) (hts _ zw_t2_193) (fun _ h9 => h9) rfl dX9_hear_211 ?_
                    refine lv_dup hx hb dX9_hear_214 rfl ?_
                    refine va_get (D := (dC, dI)) (ci := 3) (v := .int nw_known) (C := RX3) (T := TX3) (N := 6) hx hb hts zl_X3 hown hK hP 1 rfl rfl 4 (by decide) (hts _ zw_t1_165) (fun _ h9 => h9) rfl dX9_hear_215 ?_
                    refine lv_iload hx hb dX9_hear_218 (lv_at hl 4 rfl) ?_
                    refine lv_aload hx hb dX9_hear_220 (lv_at hl 5 rfl) ?_
                    refine va_get (D := (dC, dI)) (ci := 7) (v := .int tn_strayers) (C := RX7) (T := TX7) (N := 18) hx hb hts zl_X7 hown hK hP 2 rfl rfl 6 (by decide) (hts _ zw_t1_74) (fun _ h9 => h9) rfl dX9_hear_222 ?_
                    refine lv_iand hx hb dX9_hear_225 ?_
                    refine lv_topi (fun x_88 ex_88 => ?_)
                    replace hF := hF.trans (zL_eq ex_88)
                    have b_x_88 : 0 ≤ x_88.toInt ∧ x_88.toInt ≤ x_7.toInt := by rw [ex_88]; exact zi_andL rfl (by first | with_reducible assumption | omega) (by first | with_reducible assumption | omega)
                    refine lv_ior hx hb dX9_hear_226 ?_
                    refine lv_topi (fun x_89 ex_89 => ?_)
                    replace hF := hF.trans (zL_eq ex_89)
                    refine va_put (D := (dC, dI)) (ci := 3) (v := .int x_89) (ty := .int) (C := RX3) (T := TX3) (N := 6) hx hb hts zl_X3 tyX3 tyX3_ok nmX3 hown hK hP hD hS 1 rfl rfl 4 (by decide) (hts _ zw_t1_165) (fun _ h9 => h9) rfl (by decide +kernel) rfl rfl (Nat.le_of_ble_eq_true rfl) dX9_hear_227 (fun H locs hP hD hS => ?_)
                    have hP : va_P (dC, dI) vwCl [(h0, .inr (9, [.ref tp, .int h0_tapeLength, .int h0_faultKind, .int h0_faultPlace, .ref nw, .ref im, .ref sl, .ref rd, .ref wk, .ref fm, .ref mt, .ref ch, .ref dy])), (nw, .inr (3, [.int nw_isKept, .ref tn, .int nw_strayed, .int nw_names, .int x_89, .int nw_gone])), (tn, .inr (7, [.int tn_hours, .int tn_courts, .int tn_gateCount, .int tn_people, .int tn_lines, .int tn_falseHours, .int tn_strayers, .int tn_deep, .ref tn_above, .ref tn_doors, .ref tn_degrees, .ref tn_neighbours, .ref tn_shows, .ref tn_oneEnd, .ref tn_otherEnd, .ref tn_told, .ref tn_strayParts, .ref tn_strayCourts])), (tn_shows, .inl (cA_tn_shows, 10, .inl f_tn_shows)), (tn_told, .inl (cA_tn_told, 480, .inl f_tn_told)), (tn_strayCourts, .inl (cA_tn_strayCourts, 10, .inl f_tn_strayCourts))] H := hP
                    have hD : va_D A [(h0, .inr (9, [.ref tp, .int h0_tapeLength, .int h0_faultKind, .int h0_faultPlace, .ref nw, .ref im, .ref sl, .ref rd, .ref wk, .ref fm, .ref mt, .ref ch, .ref dy])), (nw, .inr (3, [.int nw_isKept, .ref tn, .int nw_strayed, .int nw_names, .int x_89, .int nw_gone])), (tn, .inr (7, [.int tn_hours, .int tn_courts, .int tn_gateCount, .int tn_people, .int tn_lines, .int tn_falseHours, .int tn_strayers, .int tn_deep, .ref tn_above, .ref tn_doors, .ref tn_degrees, .ref tn_neighbours, .ref tn_shows, .ref tn_oneEnd, .ref tn_otherEnd, .ref tn_told, .ref tn_strayParts, .ref tn_strayCourts])), (tn_shows, .inl (cA_tn_shows, 10, .inl f_tn_shows)), (tn_told, .inl (cA_tn_told, 480, .inl f_tn_told)), (tn_strayCourts, .inl (cA_tn_strayCourts, 10, .inl f_tn_strayCourts))] := hD
                    refine lv_iload hx hb dX9_hear_230 (lv_at hl 1 rfl) ?_
                    refine lv_if_eq (tgt := 249) hx hb dX9_hear_232 (by decide) (fun _ => ?_) (fun q => absurd q (by decide))
                    refine lv_iconst (v := 1) hx hb dX9_hear_249 (by decide) ?_
                    have hF : RR = ((1 : Int32), x_89, nw_gone) := hF
                    have zc : Int32.toInt 1 = 1 := by decide
                    exact W.iret (v := 1) hx hb hr (fun t ht hW => by rw [← hQe]; exact ⟨⟨1, (), rfl, ⟨by decide, (by rw [← hRR, hF])⟩, ⟨x_89, nw_gone, (by rw [← hRR, hF]), (by rw [← hRR, hF]), z_ret hP hK hD ht hW [0, 1, 2, 3, 4, 5] [] rfl (by decide) rfl⟩⟩, hS.F ht⟩) hS.2.2 dX9_hear_250
                · have ic_84 := zz_nne rfl rfl c_84
                  replace hF := hF.trans (if_pos c_84)
                  refine lv_iconst (v := 1) hx hb dX9_hear_149 (by decide) ?_
                  refine lv_goto (tgt := 154) hx hb dX9_hear_150 (by decide) ?_
                  refine lv_istore (lv' := [(9, .int 1), (8, .int 1), (7, .int 1), (6, .int x_7), (5, .ref tn), (0, .ref h0), (1, .int p1), (2, .int p2), (3, .int p3), (4, .int p4)]) hx hb dX9_hear_154 hl (by decide) rfl (fun ls hl => ?_)
                  refine lv_iload hx hb dX9_hear_156 (lv_at hl 1 rfl) ?_
                  refine lv_if_eq (tgt := 182) hx hb dX9_hear_158 (by decide) (fun q => absurd q (by decide)) (fun _ => ?_)
                  refine lv_aload hx hb dX9_hear_161 (lv_at hl 4 rfl) ?_
                  refine lv_iload_n hx hb dX9_hear_163 rfl (lv_at hl 6 rfl) ?_
                  refine lv_iload_n hx hb dX9_hear_164 rfl (lv_at hl 8 rfl) ?_
                  refine lv_iconst (v := 0) hx hb dX9_hear_165 (by decide) ?_
                  obtain ⟨hPc, hDc, hFc⟩ := z_cut (wc := [(tn, .inr (7, [.int tn_hours, .int tn_courts, .int tn_gateCount, .int tn_people, .int tn_lines, .int tn_falseHours, .int tn_strayers, .int tn_deep, .ref tn_above, .ref tn_doors, .ref tn_degrees, .ref tn_neighbours, .ref tn_shows, .ref tn_oneEnd, .ref tn_otherEnd, .ref tn_told, .ref tn_strayParts, .ref tn_strayCourts])), (tn_shows, .inl (cA_tn_shows, 10, .inl f_tn_shows)), (tn_told, .inl (cA_tn_told, 480, .inl f_tn_told)), (tn_strayCourts, .inl (cA_tn_strayCourts, 10, .inl f_tn_strayCourts))]) hP hD hS hA [2, 3, 4, 5] rfl (by decide +kernel)
                  have hKc := hK.sub (tys' := [(cA_tn_shows, .int), (cA_tn_told, .int), (cA_tn_strayCourts, .int)]) [0, 1, 2] rfl
                  refine va_calli (va_runV (As := [.int p1, .int p3, .int 0]) (rest := []) ⟨hx, hb, hml, hown, hts⟩ (kf_X7_showsOf l sa dC dI tn p1 p3 (0) tn_hours tn_courts tn_gateCount tn_people tn_lines tn_falseHours tn_strayers tn_deep tn_above tn_doors tn_degrees tn_neighbours tn_shows tn_oneEnd tn_otherEnd tn_told tn_strayParts tn_strayCourts cA_tn_shows f_tn_shows cA_tn_told f_tn_told cA_tn_strayCourts f_tn_strayCourts (by first | with_reducible assumption | omega) (by first | with_reducible assumption | omega) (by first | with_reducible assumption | omega) (by first | with_reducible assumption | omega) (by first | with_reducible assumption | omega) (by first | with_reducible assumption | omega) (by first | with_reducible assumption | omega) (by first | with_reducible assumption | omega) b_f_tn_told b_f_tn_strayCourts H.size) (cwV 3 hts (z_gV zw_t5_133 zw_t3_206 zw_t3_207 zw_t1_3 zw_t3_208) rfl rfl rfl (by decide +kernel) (by rw [← hRe]; exact ⟨(Nat.le_of_ble_eq_true rfl), (Nat.le_of_ble_eq_true rfl)⟩)) (z_preV hPc hKc hDc hN hXs hS hFc (q := (RX7, TX7, 18)) (ci := 7) (q0 := 0) rfl rfl) rfl rfl hl.1 rfl (lv_room (Nat.le_of_ble_eq_true rfl)) dX9_hear_166 (by rw [← hRe]; exact ⟨(Nat.le_of_ble_eq_true rfl), (Nat.le_of_ble_eq_true rfl)⟩)) hS (fun q _ h => hFc q h) hFc (fun r_90 u t H1 locs ht hvm hw hB hz1 hk1 hS => ?_)
                  obtain ⟨hP, hD, hK⟩ := z_after3 (wn := [(h0, .inr (9, [.ref tp, .int h0_tapeLength, .int h0_faultKind, .int h0_faultPlace, .ref nw, .ref im, .ref sl, .ref rd, .ref wk, .ref fm, .ref mt, .ref ch, .ref dy])), (nw, .inr (3, [.int nw_isKept, .ref tn, .int nw_strayed, .int nw_names, .int nw_known, .int nw_gone])), (tn, .inr (7, [.int tn_hours, .int tn_courts, .int tn_gateCount, .int tn_people, .int tn_lines, .int tn_falseHours, .int tn_strayers, .int tn_deep, .ref tn_above, .ref tn_doors, .ref tn_degrees, .ref tn_neighbours, .ref tn_shows, .ref tn_oneEnd, .ref tn_otherEnd, .ref tn_told, .ref tn_strayParts, .ref tn_strayCourts])), (tn_shows, .inl (cA_tn_shows, 10, .inl f_tn_shows)), (tn_told, .inl (cA_tn_told, 480, .inl f_tn_told)), (tn_strayCourts, .inl (cA_tn_strayCourts, 10, .inl f_tn_strayCourts))]) hB ht hvm hP hD hK [2, 3, 4, 5] [0, 1] rfl 6 rfl (by decide +kernel) rfl (by decide +kernel) hk1 hFc
                  generalize H1 = H at hP hS ⊢
                  have hK : va_K (dC, dI) vwCl [(cA_tn_shows, .int), (cA_tn_told, .int), (cA_tn_strayCourts, .int)] s := hK
                  have sf_r_90 := hw
                  have za_0 : Int32.toInt 0 = 0 := by decide
                  replace hF := hF.trans (zL_eq sf_r_90)
                  refine lv_iload_n hx hb dX9_hear_169 rfl (lv_at hl 7 rfl) ?_
                  obtain ⟨hPc, hDc, hFc⟩ := z_cut (wc := []) hP hD hS hA [] rfl (by decide +kernel)
                  have hKc := hK.sub (tys' := []) [] rfl
                  refine va_calli (va_runS (As := [.int r_90, .int p2]) (rest := []) ⟨hx, hb, hml, hown, hts⟩ (kf_X9_has l sa dC dI r_90 p2 H.size) (va_cwS 2 hts (z_gS zw_t4_12 zw_t3_123 zw_t1_1 zw_t3_124) rfl rfl rfl (by decide +kernel) (by rw [← hRe]; exact ⟨(Nat.le_of_ble_eq_true rfl), (Nat.le_of_ble_eq_true rfl)⟩)) (z_preS hPc hKc hDc hN hXs hS hFc) rfl rfl hl.1 rfl (lv_room (Nat.le_of_ble_eq_true rfl)) dX9_hear_170 (by rw [← hRe]; exact ⟨(Nat.le_of_ble_eq_true rfl), (Nat.le_of_ble_eq_true rfl)⟩)) hS (fun q _ h => hFc q h) hFc (fun r_91 u t H1 locs ht hvm hw hB hz1 hk1 hS => ?_)
                  obtain ⟨hP, hD, hK⟩ := z_after3 (wn := [(h0, .inr (9, [.ref tp, .int h0_tapeLength, .int h0_faultKind, .int h0_faultPlace, .ref nw, .ref im, .ref sl, .ref rd, .ref wk, .ref fm, .ref mt, .ref ch, .ref dy])), (nw, .inr (3, [.int nw_isKept, .ref tn, .int nw_strayed, .int nw_names, .int nw_known, .int nw_gone])), (tn, .inr (7, [.int tn_hours, .int tn_courts, .int tn_gateCount, .int tn_people, .int tn_lines, .int tn_falseHours, .int tn_strayers, .int tn_deep, .ref tn_above, .ref tn_doors, .ref tn_degrees, .ref tn_neighbours, .ref tn_shows, .ref tn_oneEnd, .ref tn_otherEnd, .ref tn_told, .ref tn_strayParts, .ref tn_strayCourts])), (tn_shows, .inl (cA_tn_shows, 10, .inl f_tn_shows)), (tn_told, .inl (cA_tn_told, 480, .inl f_tn_told)), (tn_strayCourts, .inl (cA_tn_strayCourts, 10, .inl f_tn_strayCourts))]) hB ht hvm hP hD hK [] [0, 1, 2, 3, 4, 5] rfl 6 rfl (by decide +kernel) rfl (by decide +kernel) hk1 hFc
                  generalize H1 = H at hP hS ⊢
                  have hK : va_K (dC, dI) vwCl [(cA_tn_shows, .int), (cA_tn_told, .int), (cA_tn_strayCourts, .int)] s := hK
                  have b_r_91 : 0 ≤ r_91.toInt ∧ r_91.toInt ≤ 1 := hw.1
                  have sf_r_91 := hw.2
                  replace hF := hF.trans (zL_eq sf_r_91)
                  refine lv_iload hx hb dX9_hear_173 (lv_at hl 9 rfl) ?_
                  refine lv_icmp_ne (tgt := 182) hx hb dX9_hear_175 (by decide) (fun c_92 => ?_) (fun c_92 => ?_)
                  · have ic_92 := zz_ne rfl rfl c_92
                    replace hF := hF.trans (if_neg c_92)
                    refine lv_iconst (v := 0) hx hb dX9_hear_182 (by decide) ?_
                    refine lv_istore (lv' := [(10, .int 0), (9, .int 1), (8, .int 1), (7, .int 1), (6, .int x_7), (5, .ref tn), (0, .ref h0), (1, .int p1), (2, .int p2), (3, .int p3), (4, .int p4)]) hx hb dX9_hear_183 hl (by decide) rfl (fun ls hl => ?_)
                    refine lv_iload hx hb dX9_hear_185 (lv_at hl 1 rfl) ?_
                    refine lv_if_ne (tgt := 198) hx hb dX9_hear_187 (by decide) (fun _ => ?_) (fun q => absurd q (by decide))
                    refine lv_iload hx hb dX9_hear_198 (lv_at hl 1 rfl) ?_
                    refine lv_if_eq (tgt := 210) hx hb dX9_hear_200 (by decide) (fun q => absurd q (by decide)) (fun _ => ?_)
                    refine lv_iload hx hb dX9_hear_203 (lv_at hl 0 rfl) ?_
                    refine lv_if_eq (tgt := 210) hx hb dX9_hear_205 (by decide) (fun _ => ?_) (fun q => absurd q (by decide))
                    refine lv_aload_n hx hb dX9_hear_210 rfl (lv_at hl 6 rfl) ?_
                    refine va_get (D := (dC, dI)) (ci := 9) (v := .ref nw) (C := RX9) (T := TX9) (N := 13) hx hb hts zl_X9 hown hK hP 0 rfl rfl 4 (by decide) (hts _ zw_t2_193) (fun _ h9 => h9) rfl dX9_hear_211 ?_
                    refine lv_dup hx hb dX9_hear_214 rfl ?_
                    refine va_get (D := (dC, dI)) (ci := 3) (v := .int nw_known) (C := RX3) (T := TX3) (N := 6) hx hb hts zl_X3 hown hK hP 1 rfl rfl 4 (by decide) (hts _ zw_t1_165) (fun _ h9 => h9) rfl dX9_hear_215 ?_
                    refine lv_iload hx hb dX9_hear_218 (lv_at hl 4 rfl) ?_
                    refine lv_aload hx hb dX9_hear_220 (lv_at hl 5 rfl) ?_
                    refine va_get (D := (dC, dI)) (ci := 7) (v := .int tn_strayers) (C := RX7) (T := TX7) (N := 18) hx hb hts zl_X7 hown hK hP 2 rfl rfl 6 (by decide) (hts _ zw_t1_74) (fun _ h9 => h9) rfl dX9_hear_222 ?_
                    refine lv_iand hx hb dX9_hear_225 ?_
                    refine lv_topi (fun x_93 ex_93 => ?_)
                    replace hF := hF.trans (zL_eq ex_93)
                    have b_x_93 : 0 ≤ x_93.toInt ∧ x_93.toInt ≤ x_7.toInt := by rw [ex_93]; exact zi_andL rfl (by first | with_reducible assumption | omega) (by first | with_reducible assumption | omega)
                    refine lv_ior hx hb dX9_hear_226 ?_
                    refine lv_topi (fun x_94 ex_94 => ?_)
                    replace hF := hF.trans (zL_eq ex_94)
                    refine va_put (D := (dC, dI)) (ci := 3) (v := .int x_94) (ty := .int) (C := RX3) (T := TX3) (N := 6) hx hb hts zl_X3 tyX3 tyX3_ok nmX3 hown hK hP hD hS 1 rfl rfl 4 (by decide) (hts _ zw_t1_165) (fun _ h9 => h9) rfl (by decide +kernel) rfl rfl (Nat.le_of_ble_eq_true rfl) dX9_hear_227 (fun H locs hP hD hS => ?_)
                    have hP : va_P (dC, dI) vwCl [(h0, .inr (9, [.ref tp, .int h0_tapeLength, .int h0_faultKind, .int h0_faultPlace, .ref nw, .ref im, .ref sl, .ref rd, .ref wk, .ref fm, .ref mt, .ref ch, .ref dy])), (nw, .inr (3, [.int nw_isKept, .ref tn, .int nw_strayed, .int nw_names, .int x_94, .int nw_gone])), (tn, .inr (7, [.int tn_hours, .int tn_courts, .int tn_gateCount, .int tn_people, .int tn_lines, .int tn_falseHours, .int tn_strayers, .int tn_deep, .ref tn_above, .ref tn_doors, .ref tn_degrees, .ref tn_neighbours, .ref tn_shows, .ref tn_oneEnd, .ref tn_otherEnd, .ref tn_told, .ref tn_strayParts, .ref tn_strayCourts])), (tn_shows, .inl (cA_tn_shows, 10, .inl f_tn_shows)), (tn_told, .inl (cA_tn_told, 480, .inl f_tn_told)), (tn_strayCourts, .inl (cA_tn_strayCourts, 10, .inl f_tn_strayCourts))] H := hP
                    have hD : va_D A [(h0, .inr (9, [.ref tp, .int h0_tapeLength, .int h0_faultKind, .int h0_faultPlace, .ref nw, .ref im, .ref sl, .ref rd, .ref wk, .ref fm, .ref mt, .ref ch, .ref dy])), (nw, .inr (3, [.int nw_isKept, .ref tn, .int nw_strayed, .int nw_names, .int x_94, .int nw_gone])), (tn, .inr (7, [.int tn_hours, .int tn_courts, .int tn_gateCount, .int tn_people, .int tn_lines, .int tn_falseHours, .int tn_strayers, .int tn_deep, .ref tn_above, .ref tn_doors, .ref tn_degrees, .ref tn_neighbours, .ref tn_shows, .ref tn_oneEnd, .ref tn_otherEnd, .ref tn_told, .ref tn_strayParts, .ref tn_strayCourts])), (tn_shows, .inl (cA_tn_shows, 10, .inl f_tn_shows)), (tn_told, .inl (cA_tn_told, 480, .inl f_tn_told)), (tn_strayCourts, .inl (cA_tn_strayCourts, 10, .inl f_tn_strayCourts))] := hD
                    refine lv_iload hx hb dX9_hear_230 (lv_at hl 1 rfl) ?_
                    refine lv_if_eq (tgt := 249) hx hb dX9_hear_232 (by decide) (fun q => absurd q (by decide)) (fun _ => ?_)
                    refine lv_aload_n hx hb dX9_hear_235 rfl (lv_at hl 6 rfl) ?_
                    refine va_get (D := (dC, dI)) (ci := 9) (v := .ref nw) (C := RX9) (T := TX9) (N := 13) hx hb hts zl_X9 hown hK hP 0 rfl rfl 4 (by decide) (hts _ zw_t2_193) (fun _ h9 => h9) rfl dX9_hear_236 ?_
                    refine lv_dup hx hb dX9_hear_239 rfl ?_
                    refine va_get (D := (dC, dI)) (ci := 3) (v := .int nw_gone) (C := RX3) (T := TX3) (N := 6) hx hb hts zl_X3 hown hK hP 1 rfl rfl 5 (by decide) (hts _ zw_t1_168) (fun _ h9 => h9) rfl dX9_hear_240 ?_
                    refine lv_iload hx hb dX9_hear_243 (lv_at hl 4 rfl) ?_
                    refine lv_ior hx hb dX9_hear_245 ?_
                    refine lv_topi (fun x_95 ex_95 => ?_)
                    replace hF := hF.trans (zL_eq ex_95)
                    refine va_put (D := (dC, dI)) (ci := 3) (v := .int x_95) (ty := .int) (C := RX3) (T := TX3) (N := 6) hx hb hts zl_X3 tyX3 tyX3_ok nmX3 hown hK hP hD hS 1 rfl rfl 5 (by decide) (hts _ zw_t1_168) (fun _ h9 => h9) rfl (by decide +kernel) rfl rfl (Nat.le_of_ble_eq_true rfl) dX9_hear_246 (fun H locs hP hD hS => ?_)
                    have hP : va_P (dC, dI) vwCl [(h0, .inr (9, [.ref tp, .int h0_tapeLength, .int h0_faultKind, .int h0_faultPlace, .ref nw, .ref im, .ref sl, .ref rd, .ref wk, .ref fm, .ref mt, .ref ch, .ref dy])), (nw, .inr (3, [.int nw_isKept, .ref tn, .int nw_strayed, .int nw_names, .int x_94, .int x_95])), (tn, .inr (7, [.int tn_hours, .int tn_courts, .int tn_gateCount, .int tn_people, .int tn_lines, .int tn_falseHours, .int tn_strayers, .int tn_deep, .ref tn_above, .ref tn_doors, .ref tn_degrees, .ref tn_neighbours, .ref tn_shows, .ref tn_oneEnd, .ref tn_otherEnd, .ref tn_told, .ref tn_strayParts, .ref tn_strayCourts])), (tn_shows, .inl (cA_tn_shows, 10, .inl f_tn_shows)), (tn_told, .inl (cA_tn_told, 480, .inl f_tn_told)), (tn_strayCourts, .inl (cA_tn_strayCourts, 10, .inl f_tn_strayCourts))] H := hP
                    have hD : va_D A [(h0, .inr (9, [.ref tp, .int h0_tapeLength, .int h0_faultKind, .int h0_faultPlace, .ref nw, .ref im, .ref sl, .ref rd, .ref wk, .ref fm, .ref mt, .ref ch, .ref dy])), (nw, .inr (3, [.int nw_isKept, .ref tn, .int nw_strayed, .int nw_names, .int x_94, .int x_95])), (tn, .inr (7, [.int tn_hours, .int tn_courts, .int tn_gateCount, .int tn_people, .int tn_lines, .int tn_falseHours, .int tn_strayers, .int tn_deep, .ref tn_above, .ref tn_doors, .ref tn_degrees, .ref tn_neighbours, .ref tn_shows, .ref tn_oneEnd, .ref tn_otherEnd, .ref tn_told, .ref tn_strayParts, .ref tn_strayCourts])), (tn_shows, .inl (cA_tn_shows, 10, .inl f_tn_shows)), (tn_told, .inl (cA_tn_told, 480, .inl f_tn_told)), (tn_strayCourts, .inl (cA_tn_strayCourts, 10, .inl f_tn_strayCourts))] := hD
                    refine lv_iconst (v := 1) hx hb dX9_hear_249 (by decide) ?_
                    have hF : RR = ((1 : Int32), x_94, x_95) := hF
                    have zc : Int32.toInt 1 = 1 := by decide
                    exact W.iret (v := 1) hx hb hr (fun t ht hW => by rw [← hQe]; exact ⟨⟨1, (), rfl, ⟨by decide, (by rw [← hRR, hF])⟩, ⟨x_94, x_95, (by rw [← hRR, hF]), (by rw [← hRR, hF]), z_ret hP hK hD ht hW [0, 1, 2, 3, 4, 5] [] rfl (by decide) rfl⟩⟩, hS.F ht⟩) hS.2.2 dX9_hear_250
                  · have ic_92 := zz_nne rfl rfl c_92
                    replace hF := hF.trans (if_pos c_92)
                    refine lv_iconst (v := 1) hx hb dX9_hear_178 (by decide) ?_
                    refine lv_goto (tgt := 183) hx hb dX9_hear_179 (by decide) ?_
                    refine lv_istore (lv' := [(10, .int 1), (9, .int 1), (8, .int 1), (7, .int 1), (6, .int x_7), (5, .ref tn), (0, .ref h0), (1, .int p1), (2, .int p2), (3, .int p3), (4, .int p4)]) hx hb dX9_hear_183 hl (by decide) rfl (fun ls hl => ?_)
                    refine lv_iload hx hb dX9_hear_185 (lv_at hl 1 rfl) ?_
                    refine lv_if_ne (tgt := 198) hx hb dX9_hear_187 (by decide) (fun _ => ?_) (fun q => absurd q (by decide))
                    refine lv_iload hx hb dX9_hear_198 (lv_at hl 1 rfl) ?_
                    refine lv_if_eq (tgt := 210) hx hb dX9_hear_200 (by decide) (fun q => absurd q (by decide)) (fun _ => ?_)
                    refine lv_iload hx hb dX9_hear_203 (lv_at hl 0 rfl) ?_
                    refine lv_if_eq (tgt := 210) hx hb dX9_hear_205 (by decide) (fun q => absurd q (by decide)) (fun _ => ?_)
                    refine lv_iconst (v := 0) hx hb dX9_hear_208 (by decide) ?_
                    have hF : RR = ((0 : Int32), nw_known, nw_gone) := hF
                    have zc : Int32.toInt 0 = 0 := by decide
                    exact W.iret (v := 0) hx hb hr (fun t ht hW => by rw [← hQe]; exact ⟨⟨0, (), rfl, ⟨by decide, (by rw [← hRR, hF])⟩, ⟨nw_known, nw_gone, (by rw [← hRR, hF]), (by rw [← hRR, hF]), z_ret hP hK hD ht hW [0, 1, 2, 3, 4, 5] [] rfl (by decide) rfl⟩⟩, hS.F ht⟩) hS.2.2 dX9_hear_209
              · have ic_81 := zz_neq rfl (show Int32.toInt 0 = 0 from by decide) c_81
                replace hF := hF.trans (if_neg c_81)
                refine lv_aload_n hx hb dX9_hear_105 rfl (lv_at hl 3 rfl) ?_
                refine va_get (D := (dC, dI)) (ci := 9) (v := .ref nw) (C := RX9) (T := TX9) (N := 13) hx hb hts zl_X9 hown hK hP 0 rfl rfl 4 (by decide) (hts _ zw_t2_193) (fun _ h9 => h9) rfl dX9_hear_106 ?_
                refine va_get (D := (dC, dI)) (ci := 3) (v := .int nw_gone) (C := RX3) (T := TX3) (N := 6) hx hb hts zl_X3 hown hK hP 1 rfl rfl 5 (by decide) (hts _ zw_t1_168) (fun _ h9 => h9) rfl dX9_hear_109 ?_
                refine lv_iload_n hx hb dX9_hear_112 rfl (lv_at hl 4 rfl) ?_
                obtain ⟨hPc, hDc, hFc⟩ := z_cut (wc := []) hP hD hS hA [] rfl (by decide +kernel)
                have hKc := hK.sub (tys' := []) [] rfl
                refine va_calli (va_runS (As := [.int nw_gone, .int p1]) (rest := []) ⟨hx, hb, hml, hown, hts⟩ (kf_X9_has l sa dC dI nw_gone p1 H.size) (va_cwS 2 hts (z_gS zw_t4_12 zw_t3_123 zw_t1_1 zw_t3_124) rfl rfl rfl (by decide +kernel) (by rw [← hRe]; exact ⟨(Nat.le_of_ble_eq_true rfl), (Nat.le_of_ble_eq_true rfl)⟩)) (z_preS hPc hKc hDc hN hXs hS hFc) rfl rfl hl.1 rfl (lv_room (Nat.le_of_ble_eq_true rfl)) dX9_hear_113 (by rw [← hRe]; exact ⟨(Nat.le_of_ble_eq_true rfl), (Nat.le_of_ble_eq_true rfl)⟩)) hS (fun q _ h => hFc q h) hFc (fun r_96 u t H1 locs ht hvm hw hB hz1 hk1 hS => ?_)
                obtain ⟨hP, hD, hK⟩ := z_after3 (wn := [(h0, .inr (9, [.ref tp, .int h0_tapeLength, .int h0_faultKind, .int h0_faultPlace, .ref nw, .ref im, .ref sl, .ref rd, .ref wk, .ref fm, .ref mt, .ref ch, .ref dy])), (nw, .inr (3, [.int nw_isKept, .ref tn, .int nw_strayed, .int nw_names, .int nw_known, .int nw_gone])), (tn_shows, .inl (cA_tn_shows, 10, .inl f_tn_shows)), (tn_told, .inl (cA_tn_told, 480, .inl f_tn_told)), (tn_strayCourts, .inl (cA_tn_strayCourts, 10, .inl f_tn_strayCourts)), (tn, .inr (7, [.int tn_hours, .int tn_courts, .int tn_gateCount, .int tn_people, .int tn_lines, .int tn_falseHours, .int tn_strayers, .int tn_deep, .ref tn_above, .ref tn_doors, .ref tn_degrees, .ref tn_neighbours, .ref tn_shows, .ref tn_oneEnd, .ref tn_otherEnd, .ref tn_told, .ref tn_strayParts, .ref tn_strayCourts]))]) hB ht hvm hP hD hK [] [0, 1, 2, 3, 4, 5] rfl 6 rfl (by decide +kernel) rfl (by decide +kernel) hk1 hFc
                generalize H1 = H at hP hS ⊢
                have hK : va_K (dC, dI) vwCl [(cA_tn_shows, .int), (cA_tn_told, .int), (cA_tn_strayCourts, .int)] s := hK
                have b_r_96 : 0 ≤ r_96.toInt ∧ r_96.toInt ≤ 1 := hw.1
                have sf_r_96 := hw.2
                replace hF := hF.trans (zL_eq sf_r_96)
                refine lv_if_ne (tgt := 123) hx hb dX9_hear_116 (by decide) (fun c_97 => ?_) (fun c_97 => ?_)
                · have ic_97 := zz_ne rfl (show Int32.toInt 0 = 0 from by decide) c_97
                  replace hF := hF.trans (if_neg c_97)
                  refine lv_iconst (v := 0) hx hb dX9_hear_123 (by decide) ?_
                  refine lv_istore (lv' := [(8, .int 0), (7, .int 1), (6, .int x_7), (5, .ref tn), (0, .ref h0), (1, .int p1), (2, .int p2), (3, .int p3), (4, .int p4)]) hx hb dX9_hear_124 hl (by decide) rfl (fun ls hl => ?_)
                  refine lv_iload hx hb dX9_hear_126 (lv_at hl 1 rfl) ?_
                  refine lv_if_eq (tgt := 153) hx hb dX9_hear_128 (by decide) (fun q => absurd q (by decide)) (fun _ => ?_)
                  refine lv_aload hx hb dX9_hear_131 (lv_at hl 3 rfl) ?_
                  refine lv_iload_n hx hb dX9_hear_133 rfl (lv_at hl 5 rfl) ?_
                  refine lv_iload_n hx hb dX9_hear_134 rfl (lv_at hl 7 rfl) ?_
                  refine lv_iload hx hb dX9_hear_135 (lv_at hl 2 rfl) ?_
                  obtain ⟨hPc, hDc, hFc⟩ := z_cut (wc := [(tn, .inr (7, [.int tn_hours, .int tn_courts, .int tn_gateCount, .int tn_people, .int tn_lines, .int tn_falseHours, .int tn_strayers, .int tn_deep, .ref tn_above, .ref tn_doors, .ref tn_degrees, .ref tn_neighbours, .ref tn_shows, .ref tn_oneEnd, .ref tn_otherEnd, .ref tn_told, .ref tn_strayParts, .ref tn_strayCourts])), (tn_shows, .inl (cA_tn_shows, 10, .inl f_tn_shows)), (tn_told, .inl (cA_tn_told, 480, .inl f_tn_told)), (tn_strayCourts, .inl (cA_tn_strayCourts, 10, .inl f_tn_strayCourts))]) hP hD hS hA [5, 2, 3, 4] rfl (by decide +kernel)
                  have hKc := hK.sub (tys' := [(cA_tn_shows, .int), (cA_tn_told, .int), (cA_tn_strayCourts, .int)]) [0, 1, 2] rfl
                  refine va_calli (va_runV (As := [.int p1, .int p3, .int x_7]) (rest := []) ⟨hx, hb, hml, hown, hts⟩ (kf_X7_showsOf l sa dC dI tn p1 p3 x_7 tn_hours tn_courts tn_gateCount tn_people tn_lines tn_falseHours tn_strayers tn_deep tn_above tn_doors tn_degrees tn_neighbours tn_shows tn_oneEnd tn_otherEnd tn_told tn_strayParts tn_strayCourts cA_tn_shows f_tn_shows cA_tn_told f_tn_told cA_tn_strayCourts f_tn_strayCourts (by first | with_reducible assumption | omega) (by first | with_reducible assumption | omega) (by first | with_reducible assumption | omega) (by first | with_reducible assumption | omega) (by first | with_reducible assumption | omega) (by first | with_reducible assumption | omega) (by first | with_reducible assumption | omega) (by first | with_reducible assumption | omega) b_f_tn_told b_f_tn_strayCourts H.size) (cwV 3 hts (z_gV zw_t5_133 zw_t3_206 zw_t3_207 zw_t1_3 zw_t3_208) rfl rfl rfl (by decide +kernel) (by rw [← hRe]; exact ⟨(Nat.le_of_ble_eq_true rfl), (Nat.le_of_ble_eq_true rfl)⟩)) (z_preV hPc hKc hDc hN hXs hS hFc (q := (RX7, TX7, 18)) (ci := 7) (q0 := 0) rfl rfl) rfl rfl hl.1 rfl (lv_room (Nat.le_of_ble_eq_true rfl)) dX9_hear_137 (by rw [← hRe]; exact ⟨(Nat.le_of_ble_eq_true rfl), (Nat.le_of_ble_eq_true rfl)⟩)) hS (fun q _ h => hFc q h) hFc (fun r_98 u t H1 locs ht hvm hw hB hz1 hk1 hS => ?_)
                  obtain ⟨hP, hD, hK⟩ := z_after3 (wn := [(h0, .inr (9, [.ref tp, .int h0_tapeLength, .int h0_faultKind, .int h0_faultPlace, .ref nw, .ref im, .ref sl, .ref rd, .ref wk, .ref fm, .ref mt, .ref ch, .ref dy])), (nw, .inr (3, [.int nw_isKept, .ref tn, .int nw_strayed, .int nw_names, .int nw_known, .int nw_gone])), (tn, .inr (7, [.int tn_hours, .int tn_courts, .int tn_gateCount, .int tn_people, .int tn_lines, .int tn_falseHours, .int tn_strayers, .int tn_deep, .ref tn_above, .ref tn_doors, .ref tn_degrees, .ref tn_neighbours, .ref tn_shows, .ref tn_oneEnd, .ref tn_otherEnd, .ref tn_told, .ref tn_strayParts, .ref tn_strayCourts])), (tn_shows, .inl (cA_tn_shows, 10, .inl f_tn_shows)), (tn_told, .inl (cA_tn_told, 480, .inl f_tn_told)), (tn_strayCourts, .inl (cA_tn_strayCourts, 10, .inl f_tn_strayCourts))]) hB ht hvm hP hD hK [5, 2, 3, 4] [0, 1] rfl 6 rfl (by decide +kernel) rfl (by decide +kernel) hk1 hFc
                  generalize H1 = H at hP hS ⊢
                  have hK : va_K (dC, dI) vwCl [(cA_tn_shows, .int), (cA_tn_told, .int), (cA_tn_strayCourts, .int)] s := hK
                  have sf_r_98 := hw
                  replace hF := hF.trans (zL_eq sf_r_98)
                  refine lv_iload_n hx hb dX9_hear_140 rfl (lv_at hl 6 rfl) ?_
                  obtain ⟨hPc, hDc, hFc⟩ := z_cut (wc := []) hP hD hS hA [] rfl (by decide +kernel)
                  have hKc := hK.sub (tys' := []) [] rfl
                  refine va_calli (va_runS (As := [.int r_98, .int p2]) (rest := []) ⟨hx, hb, hml, hown, hts⟩ (kf_X9_has l sa dC dI r_98 p2 H.size) (va_cwS 2 hts (z_gS zw_t4_12 zw_t3_123 zw_t1_1 zw_t3_124) rfl rfl rfl (by decide +kernel) (by rw [← hRe]; exact ⟨(Nat.le_of_ble_eq_true rfl), (Nat.le_of_ble_eq_true rfl)⟩)) (z_preS hPc hKc hDc hN hXs hS hFc) rfl rfl hl.1 rfl (lv_room (Nat.le_of_ble_eq_true rfl)) dX9_hear_141 (by rw [← hRe]; exact ⟨(Nat.le_of_ble_eq_true rfl), (Nat.le_of_ble_eq_true rfl)⟩)) hS (fun q _ h => hFc q h) hFc (fun r_99 u t H1 locs ht hvm hw hB hz1 hk1 hS => ?_)
                  obtain ⟨hP, hD, hK⟩ := z_after3 (wn := [(h0, .inr (9, [.ref tp, .int h0_tapeLength, .int h0_faultKind, .int h0_faultPlace, .ref nw, .ref im, .ref sl, .ref rd, .ref wk, .ref fm, .ref mt, .ref ch, .ref dy])), (nw, .inr (3, [.int nw_isKept, .ref tn, .int nw_strayed, .int nw_names, .int nw_known, .int nw_gone])), (tn, .inr (7, [.int tn_hours, .int tn_courts, .int tn_gateCount, .int tn_people, .int tn_lines, .int tn_falseHours, .int tn_strayers, .int tn_deep, .ref tn_above, .ref tn_doors, .ref tn_degrees, .ref tn_neighbours, .ref tn_shows, .ref tn_oneEnd, .ref tn_otherEnd, .ref tn_told, .ref tn_strayParts, .ref tn_strayCourts])), (tn_shows, .inl (cA_tn_shows, 10, .inl f_tn_shows)), (tn_told, .inl (cA_tn_told, 480, .inl f_tn_told)), (tn_strayCourts, .inl (cA_tn_strayCourts, 10, .inl f_tn_strayCourts))]) hB ht hvm hP hD hK [] [0, 1, 2, 3, 4, 5] rfl 6 rfl (by decide +kernel) rfl (by decide +kernel) hk1 hFc
                  generalize H1 = H at hP hS ⊢
                  have hK : va_K (dC, dI) vwCl [(cA_tn_shows, .int), (cA_tn_told, .int), (cA_tn_strayCourts, .int)] s := hK
                  have b_r_99 : 0 ≤ r_99.toInt ∧ r_99.toInt ≤ 1 := hw.1
                  have sf_r_99 := hw.2
                  replace hF := hF.trans (zL_eq sf_r_99)
                  refine lv_iload hx hb dX9_hear_144 (lv_at hl 8 rfl) ?_
                  have nb_p4 := zi_nb p4
                  refine lv_icmp_ne (tgt := 153) hx hb dX9_hear_146 (by decide) (fun c_100 => ?_) (fun c_100 => ?_)
                  · have ic_100 := zz_ne rfl rfl c_100
                    replace hF := hF.trans (if_neg c_100)
                    refine lv_iconst (v := 0) hx hb dX9_hear_153 (by decide) ?_
                    refine lv_istore (lv' := [(9, .int 0), (8, .int 0), (7, .int 1), (6, .int x_7), (5, .ref tn), (0, .ref h0), (1, .int p1), (2, .int p2), (3, .int p3), (4, .int p4)]) hx hb dX9_hear_154 hl (by decide) rfl (fun ls hl => ?_)
                    refine lv_iload hx hb dX9_hear_156 (lv_at hl 1 rfl) ?_
                    refine lv_if_eq (tgt := 182) hx hb dX9_hear_158 (by decide) (fun _ => ?_) (fun q => absurd q (by decide))
                    refine lv_iconst (v := 0) hx hb dX9_hear_182 (by decide) ?_
                    refine lv_istore (lv' := [(10, .int 0), (9, .int 0), (8, .int 0), (7, .int 1), (6, .int x_7), (5, .ref tn), (0, .ref h0), (1, .int p1), (2, .int p2), (3, .int p3), (4, .int p4)]) hx hb dX9_hear_183 hl (by decide) rfl (fun ls hl => ?_)
                    refine lv_iload hx hb dX9_hear_185 (lv_at hl 1 rfl) ?_
                    refine lv_if_ne (tgt := 198) hx hb dX9_hear_187 (by decide) (fun q => absurd q (by decide)) (fun _ => ?_)
                    refine lv_iload hx hb dX9_hear_190 (lv_at hl 0 rfl) ?_
                    refine lv_if_ne (tgt := 198) hx hb dX9_hear_192 (by decide) (fun q => absurd q (by decide)) (fun _ => ?_)
                    refine lv_bipush (v := (-5)) hx hb dX9_hear_195 (by decide) ?_
                    have hF : RR = ((-5 : Int32), nw_known, nw_gone) := hF
                    have zc : Int32.toInt (-5) = (-5) := by decide
                    exact W.iret (v := (-5)) hx hb hr (fun t ht hW => by rw [← hQe]; exact ⟨⟨(-5), (), rfl, ⟨by decide, (by rw [← hRR, hF])⟩, ⟨nw_known, nw_gone, (by rw [← hRR, hF]), (by rw [← hRR, hF]), z_ret hP hK hD ht hW [0, 1, 2, 3, 4, 5] [] rfl (by decide) rfl⟩⟩, hS.F ht⟩) hS.2.2 dX9_hear_197
                  · have ic_100 := zz_nne rfl rfl c_100
                    replace hF := hF.trans (if_pos c_100)
                    refine lv_iconst (v := 1) hx hb dX9_hear_149 (by decide) ?_
                    refine lv_goto (tgt := 154) hx hb dX9_hear_150 (by decide) ?_
                    refine lv_istore (lv' := [(9, .int 1), (8, .int 0), (7, .int 1), (6, .int x_7), (5, .ref tn), (0, .ref h0), (1, .int p1), (2, .int p2), (3, .int p3), (4, .int p4)]) hx hb dX9_hear_154 hl (by decide) rfl (fun ls hl => ?_)
                    refine lv_iload hx hb dX9_hear_156 (lv_at hl 1 rfl) ?_
                    refine lv_if_eq (tgt := 182) hx hb dX9_hear_158 (by decide) (fun _ => ?_) (fun q => absurd q (by decide))
                    refine lv_iconst (v := 0) hx hb dX9_hear_182 (by decide) ?_
                    refine lv_istore (lv' := [(10, .int 0), (9, .int 1), (8, .int 0), (7, .int 1), (6, .int x_7), (5, .ref tn), (0, .ref h0), (1, .int p1), (2, .int p2), (3, .int p3), (4, .int p4)]) hx hb dX9_hear_183 hl (by decide) rfl (fun ls hl => ?_)
                    refine lv_iload hx hb dX9_hear_185 (lv_at hl 1 rfl) ?_
                    refine lv_if_ne (tgt := 198) hx hb dX9_hear_187 (by decide) (fun _ => ?_) (fun q => absurd q (by decide))
                    refine lv_iload hx hb dX9_hear_198 (lv_at hl 1 rfl) ?_
                    refine lv_if_eq (tgt := 210) hx hb dX9_hear_200 (by decide) (fun q => absurd q (by decide)) (fun _ => ?_)
                    refine lv_iload hx hb dX9_hear_203 (lv_at hl 0 rfl) ?_
                    refine lv_if_eq (tgt := 210) hx hb dX9_hear_205 (by decide) (fun _ => ?_) (fun q => absurd q (by decide))
                    refine lv_aload_n hx hb dX9_hear_210 rfl (lv_at hl 6 rfl) ?_
                    refine va_get (D := (dC, dI)) (ci := 9) (v := .ref nw) (C := RX9) (T := TX9) (N := 13) hx hb hts zl_X9 hown hK hP 0 rfl rfl 4 (by decide) (hts _ zw_t2_193) (fun _ h9 => h9) rfl dX9_hear_211 ?_
                    refine lv_dup hx hb dX9_hear_214 rfl ?_
                    refine va_get (D := (dC, dI)) (ci := 3) (v := .int nw_known) (C := RX3) (T := TX3) (N := 6) hx hb hts zl_X3 hown hK hP 1 rfl rfl 4 (by decide) (hts _ zw_t1_165) (fun _ h9 => h9) rfl dX9_hear_215 ?_
                    refine lv_iload hx hb dX9_hear_218 (lv_at hl 4 rfl) ?_
                    refine lv_aload hx hb dX9_hear_220 (lv_at hl 5 rfl) ?_
                    refine va_get (D := (dC, dI)) (ci := 7) (v := .int tn_strayers) (C := RX7) (T := TX7) (N := 18) hx hb hts zl_X7 hown hK hP 2 rfl rfl 6 (by decide) (hts _ zw_t1_74) (fun _ h9 => h9) rfl dX9_hear_222 ?_
                    refine lv_iand hx hb dX9_hear_225 ?_
                    refine lv_topi (fun x_101 ex_101 => ?_)
                    replace hF := hF.trans (zL_eq ex_101)
                    have b_x_101 : 0 ≤ x_101.toInt ∧ x_101.toInt ≤ x_7.toInt := by rw [ex_101]; exact zi_andL rfl (by first | with_reducible assumption | omega) (by first | with_reducible assumption | omega)
                    refine lv_ior hx hb dX9_hear_226 ?_
                    refine lv_topi (fun x_102 ex_102 => ?_)
                    replace hF := hF.trans (zL_eq ex_102)
                    refine va_put (D := (dC, dI)) (ci := 3) (v := .int x_102) (ty := .int) (C := RX3) (T := TX3) (N := 6) hx hb hts zl_X3 tyX3 tyX3_ok nmX3 hown hK hP hD hS 1 rfl rfl 4 (by decide) (hts _ zw_t1_165) (fun _ h9 => h9) rfl (by decide +kernel) rfl rfl (Nat.le_of_ble_eq_true rfl) dX9_hear_227 (fun H locs hP hD hS => ?_)
                    have hP : va_P (dC, dI) vwCl [(h0, .inr (9, [.ref tp, .int h0_tapeLength, .int h0_faultKind, .int h0_faultPlace, .ref nw, .ref im, .ref sl, .ref rd, .ref wk, .ref fm, .ref mt, .ref ch, .ref dy])), (nw, .inr (3, [.int nw_isKept, .ref tn, .int nw_strayed, .int nw_names, .int x_102, .int nw_gone])), (tn, .inr (7, [.int tn_hours, .int tn_courts, .int tn_gateCount, .int tn_people, .int tn_lines, .int tn_falseHours, .int tn_strayers, .int tn_deep, .ref tn_above, .ref tn_doors, .ref tn_degrees, .ref tn_neighbours, .ref tn_shows, .ref tn_oneEnd, .ref tn_otherEnd, .ref tn_told, .ref tn_strayParts, .ref tn_strayCourts])), (tn_shows, .inl (cA_tn_shows, 10, .inl f_tn_shows)), (tn_told, .inl (cA_tn_told, 480, .inl f_tn_told)), (tn_strayCourts, .inl (cA_tn_strayCourts, 10, .inl f_tn_strayCourts))] H := hP
                    have hD : va_D A [(h0, .inr (9, [.ref tp, .int h0_tapeLength, .int h0_faultKind, .int h0_faultPlace, .ref nw, .ref im, .ref sl, .ref rd, .ref wk, .ref fm, .ref mt, .ref ch, .ref dy])), (nw, .inr (3, [.int nw_isKept, .ref tn, .int nw_strayed, .int nw_names, .int x_102, .int nw_gone])), (tn, .inr (7, [.int tn_hours, .int tn_courts, .int tn_gateCount, .int tn_people, .int tn_lines, .int tn_falseHours, .int tn_strayers, .int tn_deep, .ref tn_above, .ref tn_doors, .ref tn_degrees, .ref tn_neighbours, .ref tn_shows, .ref tn_oneEnd, .ref tn_otherEnd, .ref tn_told, .ref tn_strayParts, .ref tn_strayCourts])), (tn_shows, .inl (cA_tn_shows, 10, .inl f_tn_shows)), (tn_told, .inl (cA_tn_told, 480, .inl f_tn_told)), (tn_strayCourts, .inl (cA_tn_strayCourts, 10, .inl f_tn_strayCourts))] := hD
                    refine lv_iload hx hb dX9_hear_230 (lv_at hl 1 rfl) ?_
                    refine lv_if_eq (tgt := 249) hx hb dX9_hear_232 (by decide) (fun q => absurd q (by decide)) (fun _ => ?_)
                    refine lv_aload_n hx hb dX9_hear_235 rfl (lv_at hl 6 rfl) ?_
                    refine va_get (D := (dC, dI)) (ci := 9) (v := .ref nw) (C := RX9) (T := TX9) (N := 13) hx hb hts zl_X9 hown hK hP 0 rfl rfl 4 (by decide) (hts _ zw_t2_193) (fun _ h9 => h9) rfl dX9_hear_236 ?_
                    refine lv_dup hx hb dX9_hear_239 rfl ?_
                    refine va_get (D := (dC, dI)) (ci := 3) (v := .int nw_gone) (C := RX3) (T := TX3) (N := 6) hx hb hts zl_X3 hown hK hP 1 rfl rfl 5 (by decide) (hts _ zw_t1_168) (fun _ h9 => h9) rfl dX9_hear_240 ?_
                    refine lv_iload hx hb dX9_hear_243 (lv_at hl 4 rfl) ?_
                    refine lv_ior hx hb dX9_hear_245 ?_
                    refine lv_topi (fun x_103 ex_103 => ?_)
                    replace hF := hF.trans (zL_eq ex_103)
                    refine va_put (D := (dC, dI)) (ci := 3) (v := .int x_103) (ty := .int) (C := RX3) (T := TX3) (N := 6) hx hb hts zl_X3 tyX3 tyX3_ok nmX3 hown hK hP hD hS 1 rfl rfl 5 (by decide) (hts _ zw_t1_168) (fun _ h9 => h9) rfl (by decide +kernel) rfl rfl (Nat.le_of_ble_eq_true rfl) dX9_hear_246 (fun H locs hP hD hS => ?_)
                    have hP : va_P (dC, dI) vwCl [(h0, .inr (9, [.ref tp, .int h0_tapeLength, .int h0_faultKind, .int h0_faultPlace, .ref nw, .ref im, .ref sl, .ref rd, .ref wk, .ref fm, .ref mt, .ref ch, .ref dy])), (nw, .inr (3, [.int nw_isKept, .ref tn, .int nw_strayed, .int nw_names, .int x_102, .int x_103])), (tn, .inr (7, [.int tn_hours, .int tn_courts, .int tn_gateCount, .int tn_people, .int tn_lines, .int tn_falseHours, .int tn_strayers, .int tn_deep, .ref tn_above, .ref tn_doors, .ref tn_degrees, .ref tn_neighbours, .ref tn_shows, .ref tn_oneEnd, .ref tn_otherEnd, .ref tn_told, .ref tn_strayParts, .ref tn_strayCourts])), (tn_shows, .inl (cA_tn_shows, 10, .inl f_tn_shows)), (tn_told, .inl (cA_tn_told, 480, .inl f_tn_told)), (tn_strayCourts, .inl (cA_tn_strayCourts, 10, .inl f_tn_strayCourts))] H := hP
                    have hD : va_D A [(h0, .inr (9, [.ref tp, .int h0_tapeLength, .int h0_faultKind, .int h0_faultPlace, .ref nw, .ref im, .ref sl, .ref rd, .ref wk, .ref fm, .ref mt, .ref ch, .ref dy])), (nw, .inr (3, [.int nw_isKept, .ref tn, .int nw_strayed, .int nw_names, .int x_102, .int x_103])), (tn, .inr (7, [.int tn_hours, .int tn_courts, .int tn_gateCount, .int tn_people, .int tn_lines, .int tn_falseHours, .int tn_strayers, .int tn_deep, .ref tn_above, .ref tn_doors, .ref tn_degrees, .ref tn_neighbours, .ref tn_shows, .ref tn_oneEnd, .ref tn_otherEnd, .ref tn_told, .ref tn_strayParts, .ref tn_strayCourts])), (tn_shows, .inl (cA_tn_shows, 10, .inl f_tn_shows)), (tn_told, .inl (cA_tn_told, 480, .inl f_tn_told)), (tn_strayCourts, .inl (cA_tn_strayCourts, 10, .inl f_tn_strayCourts))] := hD
                    refine lv_iconst (v := 1) hx hb dX9_hear_249 (by decide) ?_
                    have hF : RR = ((1 : Int32), x_102, x_103) := hF
                    have zc : Int32.toInt 1 = 1 := by decide
                    exact W.iret (v := 1) hx hb hr (fun t ht hW => by rw [← hQe]; exact ⟨⟨1, (), rfl, ⟨by decide, (by rw [← hRR, hF])⟩, ⟨x_102, x_103, (by rw [← hRR, hF]), (by rw [← hRR, hF]), z_ret hP hK hD ht hW [0, 1, 2, 3, 4, 5] [] rfl (by decide) rfl⟩⟩, hS.F ht⟩) hS.2.2 dX9_hear_250
                · have ic_97 := zz_nne rfl (show Int32.toInt 0 = 0 from by decide) c_97
                  replace hF := hF.trans (if_pos c_97)
                  refine lv_iconst (v := 1) hx hb dX9_hear_119 (by decide) ?_
                  refine lv_goto (tgt := 124) hx hb dX9_hear_120 (by decide) ?_
                  refine lv_istore (lv' := [(8, .int 1), (7, .int 1), (6, .int x_7), (5, .ref tn), (0, .ref h0), (1, .int p1), (2, .int p2), (3, .int p3), (4, .int p4)]) hx hb dX9_hear_124 hl (by decide) rfl (fun ls hl => ?_)
                  refine lv_iload hx hb dX9_hear_126 (lv_at hl 1 rfl) ?_
                  refine lv_if_eq (tgt := 153) hx hb dX9_hear_128 (by decide) (fun q => absurd q (by decide)) (fun _ => ?_)
                  refine lv_aload hx hb dX9_hear_131 (lv_at hl 3 rfl) ?_
                  refine lv_iload_n hx hb dX9_hear_133 rfl (lv_at hl 5 rfl) ?_
                  refine lv_iload_n hx hb dX9_hear_134 rfl (lv_at hl 7 rfl) ?_
                  refine lv_iload hx hb dX9_hear_135 (lv_at hl 2 rfl) ?_
                  obtain ⟨hPc, hDc, hFc⟩ := z_cut (wc := [(tn, .inr (7, [.int tn_hours, .int tn_courts, .int tn_gateCount, .int tn_people, .int tn_lines, .int tn_falseHours, .int tn_strayers, .int tn_deep, .ref tn_above, .ref tn_doors, .ref tn_degrees, .ref tn_neighbours, .ref tn_shows, .ref tn_oneEnd, .ref tn_otherEnd, .ref tn_told, .ref tn_strayParts, .ref tn_strayCourts])), (tn_shows, .inl (cA_tn_shows, 10, .inl f_tn_shows)), (tn_told, .inl (cA_tn_told, 480, .inl f_tn_told)), (tn_strayCourts, .inl (cA_tn_strayCourts, 10, .inl f_tn_strayCourts))]) hP hD hS hA [5, 2, 3, 4] rfl (by decide +kernel)
                  have hKc := hK.sub (tys' := [(cA_tn_shows, .int), (cA_tn_told, .int), (cA_tn_strayCourts, .int)]) [0, 1, 2] rfl
                  refine va_calli (va_runV (As := [.int p1, .int p3, .int x_7]) (rest := []) ⟨hx, hb, hml, hown, hts⟩ (kf_X7_showsOf l sa dC dI tn p1 p3 x_7 tn_hours tn_courts tn_gateCount tn_people tn_lines tn_falseHours tn_strayers tn_deep tn_above tn_doors tn_degrees tn_neighbours tn_shows tn_oneEnd tn_otherEnd tn_told tn_strayParts tn_strayCourts cA_tn_shows f_tn_shows cA_tn_told f_tn_told cA_tn_strayCourts f_tn_strayCourts (by first | with_reducible assumption | omega) (by first | with_reducible assumption | omega) (by first | with_reducible assumption | omega) (by first | with_reducible assumption | omega) (by first | with_reducible assumption | omega) (by first | with_reducible assumption | omega) (by first | with_reducible assumption | omega) (by first | with_reducible assumption | omega) b_f_tn_told b_f_tn_strayCourts H.size) (cwV 3 hts (z_gV zw_t5_133 zw_t3_206 zw_t3_207 zw_t1_3 zw_t3_208) rfl rfl rfl (by decide +kernel) (by rw [← hRe]; exact ⟨(Nat.le_of_ble_eq_true rfl), (Nat.le_of_ble_eq_true rfl)⟩)) (z_preV hPc hKc hDc hN hXs hS hFc (q := (RX7, TX7, 18)) (ci := 7) (q0 := 0) rfl rfl) rfl rfl hl.1 rfl (lv_room (Nat.le_of_ble_eq_true rfl)) dX9_hear_137 (by rw [← hRe]; exact ⟨(Nat.le_of_ble_eq_true rfl), (Nat.le_of_ble_eq_true rfl)⟩)) hS (fun q _ h => hFc q h) hFc (fun r_104 u t H1 locs ht hvm hw hB hz1 hk1 hS => ?_)
                  obtain ⟨hP, hD, hK⟩ := z_after3 (wn := [(h0, .inr (9, [.ref tp, .int h0_tapeLength, .int h0_faultKind, .int h0_faultPlace, .ref nw, .ref im, .ref sl, .ref rd, .ref wk, .ref fm, .ref mt, .ref ch, .ref dy])), (nw, .inr (3, [.int nw_isKept, .ref tn, .int nw_strayed, .int nw_names, .int nw_known, .int nw_gone])), (tn, .inr (7, [.int tn_hours, .int tn_courts, .int tn_gateCount, .int tn_people, .int tn_lines, .int tn_falseHours, .int tn_strayers, .int tn_deep, .ref tn_above, .ref tn_doors, .ref tn_degrees, .ref tn_neighbours, .ref tn_shows, .ref tn_oneEnd, .ref tn_otherEnd, .ref tn_told, .ref tn_strayParts, .ref tn_strayCourts])), (tn_shows, .inl (cA_tn_shows, 10, .inl f_tn_shows)), (tn_told, .inl (cA_tn_told, 480, .inl f_tn_told)), (tn_strayCourts, .inl (cA_tn_strayCourts, 10, .inl f_tn_strayCourts))]) hB ht hvm hP hD hK [5, 2, 3, 4] [0, 1] rfl 6 rfl (by decide +kernel) rfl (by decide +kernel) hk1 hFc
                  generalize H1 = H at hP hS ⊢
                  have hK : va_K (dC, dI) vwCl [(cA_tn_shows, .int), (cA_tn_told, .int), (cA_tn_strayCourts, .int)] s := hK
                  have sf_r_104 := hw
                  replace hF := hF.trans (zL_eq sf_r_104)
                  refine lv_iload_n hx hb dX9_hear_140 rfl (lv_at hl 6 rfl) ?_
                  obtain ⟨hPc, hDc, hFc⟩ := z_cut (wc := []) hP hD hS hA [] rfl (by decide +kernel)
                  have hKc := hK.sub (tys' := []) [] rfl
                  refine va_calli (va_runS (As := [.int r_104, .int p2]) (rest := []) ⟨hx, hb, hml, hown, hts⟩ (kf_X9_has l sa dC dI r_104 p2 H.size) (va_cwS 2 hts (z_gS zw_t4_12 zw_t3_123 zw_t1_1 zw_t3_124) rfl rfl rfl (by decide +kernel) (by rw [← hRe]; exact ⟨(Nat.le_of_ble_eq_true rfl), (Nat.le_of_ble_eq_true rfl)⟩)) (z_preS hPc hKc hDc hN hXs hS hFc) rfl rfl hl.1 rfl (lv_room (Nat.le_of_ble_eq_true rfl)) dX9_hear_141 (by rw [← hRe]; exact ⟨(Nat.le_of_ble_eq_true rfl), (Nat.le_of_ble_eq_true rfl)⟩)) hS (fun q _ h => hFc q h) hFc (fun r_105 u t H1 locs ht hvm hw hB hz1 hk1 hS => ?_)
                  obtain ⟨hP, hD, hK⟩ := z_after3 (wn := [(h0, .inr (9, [.ref tp, .int h0_tapeLength, .int h0_faultKind, .int h0_faultPlace, .ref nw, .ref im, .ref sl, .ref rd, .ref wk, .ref fm, .ref mt, .ref ch, .ref dy])), (nw, .inr (3, [.int nw_isKept, .ref tn, .int nw_strayed, .int nw_names, .int nw_known, .int nw_gone])), (tn, .inr (7, [.int tn_hours, .int tn_courts, .int tn_gateCount, .int tn_people, .int tn_lines, .int tn_falseHours, .int tn_strayers, .int tn_deep, .ref tn_above, .ref tn_doors, .ref tn_degrees, .ref tn_neighbours, .ref tn_shows, .ref tn_oneEnd, .ref tn_otherEnd, .ref tn_told, .ref tn_strayParts, .ref tn_strayCourts])), (tn_shows, .inl (cA_tn_shows, 10, .inl f_tn_shows)), (tn_told, .inl (cA_tn_told, 480, .inl f_tn_told)), (tn_strayCourts, .inl (cA_tn_strayCourts, 10, .inl f_tn_strayCourts))]) hB ht hvm hP hD hK [] [0, 1, 2, 3, 4, 5] rfl 6 rfl (by decide +kernel) rfl (by decide +kernel) hk1 hFc
                  generalize H1 = H at hP hS ⊢
                  have hK : va_K (dC, dI) vwCl [(cA_tn_shows, .int), (cA_tn_told, .int), (cA_tn_strayCourts, .int)] s := hK
                  have b_r_105 : 0 ≤ r_105.toInt ∧ r_105.toInt ≤ 1 := hw.1
                  have sf_r_105 := hw.2
                  replace hF := hF.trans (zL_eq sf_r_105)
                  refine lv_iload hx hb dX9_hear_144 (lv_at hl 8 rfl) ?_
                  have nb_p4 := zi_nb p4
                  refine lv_icmp_ne (tgt := 153) hx hb dX9_hear_146 (by decide) (fun c_106 => ?_) (fun c_106 => ?_)
                  · have ic_106 := zz_ne rfl rfl c_106
                    replace hF := hF.trans (if_neg c_106)
                    refine lv_iconst (v := 0) hx hb dX9_hear_153 (by decide) ?_
                    refine lv_istore (lv' := [(9, .int 0), (8, .int 1), (7, .int 1), (6, .int x_7), (5, .ref tn), (0, .ref h0), (1, .int p1), (2, .int p2), (3, .int p3), (4, .int p4)]) hx hb dX9_hear_154 hl (by decide) rfl (fun ls hl => ?_)
                    refine lv_iload hx hb dX9_hear_156 (lv_at hl 1 rfl) ?_
                    refine lv_if_eq (tgt := 182) hx hb dX9_hear_158 (by decide) (fun q => absurd q (by decide)) (fun _ => ?_)
                    refine lv_aload hx hb dX9_hear_161 (lv_at hl 4 rfl) ?_
                    refine lv_iload_n hx hb dX9_hear_163 rfl (lv_at hl 6 rfl) ?_
                    refine lv_iload_n hx hb dX9_hear_164 rfl (lv_at hl 8 rfl) ?_
                    refine lv_iconst (v := 0) hx hb dX9_hear_165 (by decide) ?_
                    obtain ⟨hPc, hDc, hFc⟩ := z_cut (wc := [(tn, .inr (7, [.int tn_hours, .int tn_courts, .int tn_gateCount, .int tn_people, .int tn_lines, .int tn_falseHours, .int tn_strayers, .int tn_deep, .ref tn_above, .ref tn_doors, .ref tn_degrees, .ref tn_neighbours, .ref tn_shows, .ref tn_oneEnd, .ref tn_otherEnd, .ref tn_told, .ref tn_strayParts, .ref tn_strayCourts])), (tn_shows, .inl (cA_tn_shows, 10, .inl f_tn_shows)), (tn_told, .inl (cA_tn_told, 480, .inl f_tn_told)), (tn_strayCourts, .inl (cA_tn_strayCourts, 10, .inl f_tn_strayCourts))]) hP hD hS hA [2, 3, 4, 5] rfl (by decide +kernel)
                    have hKc := hK.sub (tys' := [(cA_tn_shows, .int), (cA_tn_told, .int), (cA_tn_strayCourts, .int)]) [0, 1, 2] rfl
                    refine va_calli (va_runV (As := [.int p1, .int p3, .int 0]) (rest := []) ⟨hx, hb, hml, hown, hts⟩ (kf_X7_showsOf l sa dC dI tn p1 p3 (0) tn_hours tn_courts tn_gateCount tn_people tn_lines tn_falseHours tn_strayers tn_deep tn_above tn_doors tn_degrees tn_neighbours tn_shows tn_oneEnd tn_otherEnd tn_told tn_strayParts tn_strayCourts cA_tn_shows f_tn_shows cA_tn_told f_tn_told cA_tn_strayCourts f_tn_strayCourts (by first | with_reducible assumption | omega) (by first | with_reducible assumption | omega) (by first | with_reducible assumption | omega) (by first | with_reducible assumption | omega) (by first | with_reducible assumption | omega) (by first | with_reducible assumption | omega) (by first | with_reducible assumption | omega) (by first | with_reducible assumption | omega) b_f_tn_told b_f_tn_strayCourts H.size) (cwV 3 hts (z_gV zw_t5_133 zw_t3_206 zw_t3_207 zw_t1_3 zw_t3_208) rfl rfl rfl (by decide +kernel) (by rw [← hRe]; exact ⟨(Nat.le_of_ble_eq_true rfl), (Nat.le_of_ble_eq_true rfl)⟩)) (z_preV hPc hKc hDc hN hXs hS hFc (q := (RX7, TX7, 18)) (ci := 7) (q0 := 0) rfl rfl) rfl rfl hl.1 rfl (lv_room (Nat.le_of_ble_eq_true rfl)) dX9_hear_166 (by rw [← hRe]; exact ⟨(Nat.le_of_ble_eq_true rfl), (Nat.le_of_ble_eq_true rfl)⟩)) hS (fun q _ h => hFc q h) hFc (fun r_107 u t H1 locs ht hvm hw hB hz1 hk1 hS => ?_)
                    obtain ⟨hP, hD, hK⟩ := z_after3 (wn := [(h0, .inr (9, [.ref tp, .int h0_tapeLength, .int h0_faultKind, .int h0_faultPlace, .ref nw, .ref im, .ref sl, .ref rd, .ref wk, .ref fm, .ref mt, .ref ch, .ref dy])), (nw, .inr (3, [.int nw_isKept, .ref tn, .int nw_strayed, .int nw_names, .int nw_known, .int nw_gone])), (tn, .inr (7, [.int tn_hours, .int tn_courts, .int tn_gateCount, .int tn_people, .int tn_lines, .int tn_falseHours, .int tn_strayers, .int tn_deep, .ref tn_above, .ref tn_doors, .ref tn_degrees, .ref tn_neighbours, .ref tn_shows, .ref tn_oneEnd, .ref tn_otherEnd, .ref tn_told, .ref tn_strayParts, .ref tn_strayCourts])), (tn_shows, .inl (cA_tn_shows, 10, .inl f_tn_shows)), (tn_told, .inl (cA_tn_told, 480, .inl f_tn_told)), (tn_strayCourts, .inl (cA_tn_strayCourts, 10, .inl f_tn_strayCourts))]) hB ht hvm hP hD hK [2, 3, 4, 5] [0, 1] rfl 6 rfl (by decide +kernel) rfl (by decide +kernel) hk1 hFc
                    generalize H1 = H at hP hS ⊢
                    have hK : va_K (dC, dI) vwCl [(cA_tn_shows, .int), (cA_tn_told, .int), (cA_tn_strayCourts, .int)] s := hK
                    have sf_r_107 := hw
                    have za_0 : Int32.toInt 0 = 0 := by decide
                    replace hF := hF.trans (zL_eq sf_r_107)
                    refine lv_iload_n hx hb dX9_hear_169 rfl (lv_at hl 7 rfl) ?_
                    obtain ⟨hPc, hDc, hFc⟩ := z_cut (wc := []) hP hD hS hA [] rfl (by decide +kernel)
                    have hKc := hK.sub (tys' := []) [] rfl
                    refine va_calli (va_runS (As := [.int r_107, .int p2]) (rest := []) ⟨hx, hb, hml, hown, hts⟩ (kf_X9_has l sa dC dI r_107 p2 H.size) (va_cwS 2 hts (z_gS zw_t4_12 zw_t3_123 zw_t1_1 zw_t3_124) rfl rfl rfl (by decide +kernel) (by rw [← hRe]; exact ⟨(Nat.le_of_ble_eq_true rfl), (Nat.le_of_ble_eq_true rfl)⟩)) (z_preS hPc hKc hDc hN hXs hS hFc) rfl rfl hl.1 rfl (lv_room (Nat.le_of_ble_eq_true rfl)) dX9_hear_170 (by rw [← hRe]; exact ⟨(Nat.le_of_ble_eq_true rfl), (Nat.le_of_ble_eq_true rfl)⟩)) hS (fun q _ h => hFc q h) hFc (fun r_108 u t H1 locs ht hvm hw hB hz1 hk1 hS => ?_)
                    obtain ⟨hP, hD, hK⟩ := z_after3 (wn := [(h0, .inr (9, [.ref tp, .int h0_tapeLength, .int h0_faultKind, .int h0_faultPlace, .ref nw, .ref im, .ref sl, .ref rd, .ref wk, .ref fm, .ref mt, .ref ch, .ref dy])), (nw, .inr (3, [.int nw_isKept, .ref tn, .int nw_strayed, .int nw_names, .int nw_known, .int nw_gone])), (tn, .inr (7, [.int tn_hours, .int tn_courts, .int tn_gateCount, .int tn_people, .int tn_lines, .int tn_falseHours, .int tn_strayers, .int tn_deep, .ref tn_above, .ref tn_doors, .ref tn_degrees, .ref tn_neighbours, .ref tn_shows, .ref tn_oneEnd, .ref tn_otherEnd, .ref tn_told, .ref tn_strayParts, .ref tn_strayCourts])), (tn_shows, .inl (cA_tn_shows, 10, .inl f_tn_shows)), (tn_told, .inl (cA_tn_told, 480, .inl f_tn_told)), (tn_strayCourts, .inl (cA_tn_strayCourts, 10, .inl f_tn_strayCourts))]) hB ht hvm hP hD hK [] [0, 1, 2, 3, 4, 5] rfl 6 rfl (by decide +kernel) rfl (by decide +kernel) hk1 hFc
                    generalize H1 = H at hP hS ⊢
                    have hK : va_K (dC, dI) vwCl [(cA_tn_shows, .int), (cA_tn_told, .int), (cA_tn_strayCourts, .int)] s := hK
                    have b_r_108 : 0 ≤ r_108.toInt ∧ r_108.toInt ≤ 1 := hw.1
                    have sf_r_108 := hw.2
                    replace hF := hF.trans (zL_eq sf_r_108)
                    refine lv_iload hx hb dX9_hear_173 (lv_at hl 9 rfl) ?_
                    refine lv_icmp_ne (tgt := 182) hx hb dX9_hear_175 (by decide) (fun c_109 => ?_) (fun c_109 => ?_)
                    · have ic_109 := zz_ne rfl rfl c_109
                      replace hF := hF.trans (if_neg c_109)
                      refine lv_iconst (v := 0) hx hb dX9_hear_182 (by decide) ?_
                      refine lv_istore (lv' := [(10, .int 0), (9, .int 0), (8, .int 1), (7, .int 1), (6, .int x_7), (5, .ref tn), (0, .ref h0), (1, .int p1), (2, .int p2), (3, .int p3), (4, .int p4)]) hx hb dX9_hear_183 hl (by decide) rfl (fun ls hl => ?_)
                      refine lv_iload hx hb dX9_hear_185 (lv_at hl 1 rfl) ?_
                      refine lv_if_ne (tgt := 198) hx hb dX9_hear_187 (by decide) (fun q => absurd q (by decide)) (fun _ => ?_)
                      refine lv_iload hx hb dX9_hear_190 (lv_at hl 0 rfl) ?_
                      refine lv_if_ne (tgt := 198) hx hb dX9_hear_192 (by decide) (fun q => absurd q (by decide)) (fun _ => ?_)
                      refine lv_bipush (v := (-5)) hx hb dX9_hear_195 (by decide) ?_
                      have hF : RR = ((-5 : Int32), nw_known, nw_gone) := hF
                      have zc : Int32.toInt (-5) = (-5) := by decide
                      exact W.iret (v := (-5)) hx hb hr (fun t ht hW => by rw [← hQe]; exact ⟨⟨(-5), (), rfl, ⟨by decide, (by rw [← hRR, hF])⟩, ⟨nw_known, nw_gone, (by rw [← hRR, hF]), (by rw [← hRR, hF]), z_ret hP hK hD ht hW [0, 1, 2, 3, 4, 5] [] rfl (by decide) rfl⟩⟩, hS.F ht⟩) hS.2.2 dX9_hear_197
                    · have ic_109 := zz_nne rfl rfl c_109
                      replace hF := hF.trans (if_pos c_109)
                      refine lv_iconst (v := 1) hx hb dX9_hear_178 (by decide) ?_
                      refine lv_goto (tgt := 183) hx hb dX9_hear_179 (by decide) ?_
                      refine lv_istore (lv' := [(10, .int 1), (9, .int 0), (8, .int 1), (7, .int 1), (6, .int x_7), (5, .ref tn), (0, .ref h0), (1, .int p1), (2, .int p2), (3, .int p3), (4, .int p4)]) hx hb dX9_hear_183 hl (by decide) rfl (fun ls hl => ?_)
                      refine lv_iload hx hb dX9_hear_185 (lv_at hl 1 rfl) ?_
                      refine lv_if_ne (tgt := 198) hx hb dX9_hear_187 (by decide) (fun q => absurd q (by decide)) (fun _ => ?_)
                      refine lv_iload hx hb dX9_hear_190 (lv_at hl 0 rfl) ?_
                      refine lv_if_ne (tgt := 198) hx hb dX9_hear_192 (by decide) (fun _ => ?_) (fun q => absurd q (by decide))
                      refine lv_iload hx hb dX9_hear_198 (lv_at hl 1 rfl) ?_
                      refine lv_if_eq (tgt := 210) hx hb dX9_hear_200 (by decide) (fun _ => ?_) (fun q => absurd q (by decide))
                      refine lv_aload_n hx hb dX9_hear_210 rfl (lv_at hl 6 rfl) ?_
                      refine va_get (D := (dC, dI)) (ci := 9) (v := .ref nw) (C := RX9) (T := TX9) (N := 13) hx hb hts zl_X9 hown hK hP 0 rfl rfl 4 (by decide) (hts _ zw_t2_193) (fun _ h9 => h9) rfl dX9_hear_211 ?_
                      refine lv_dup hx hb dX9_hear_214 rfl ?_
                      refine va_get (D := (dC, dI)) (ci := 3) (v := .int nw_known) (C := RX3) (T := TX3) (N := 6) hx hb hts zl_X3 hown hK hP 1 rfl rfl 4 (by decide) (hts _ zw_t1_165) (fun _ h9 => h9) rfl dX9_hear_215 ?_
                      refine lv_iload hx hb dX9_hear_218 (lv_at hl 4 rfl) ?_
                      refine lv_aload hx hb dX9_hear_220 (lv_at hl 5 rfl) ?_
                      refine va_get (D := (dC, dI)) (ci := 7) (v := .int tn_strayers) (C := RX7) (T := TX7) (N := 18) hx hb hts zl_X7 hown hK hP 2 rfl rfl 6 (by decide) (hts _ zw_t1_74) (fun _ h9 => h9) rfl dX9_hear_222 ?_
                      refine lv_iand hx hb dX9_hear_225 ?_
                      refine lv_topi (fun x_110 ex_110 => ?_)
                      replace hF := hF.trans (zL_eq ex_110)
                      have b_x_110 : 0 ≤ x_110.toInt ∧ x_110.toInt ≤ x_7.toInt := by rw [ex_110]; exact zi_andL rfl (by first | with_reducible assumption | omega) (by first | with_reducible assumption | omega)
                      refine lv_ior hx hb dX9_hear_226 ?_
                      refine lv_topi (fun x_111 ex_111 => ?_)
                      replace hF := hF.trans (zL_eq ex_111)
                      refine va_put (D := (dC, dI)) (ci := 3) (v := .int x_111) (ty := .int) (C := RX3) (T := TX3) (N := 6) hx hb hts zl_X3 tyX3 tyX3_ok nmX3 hown hK hP hD hS 1 rfl rfl 4 (by decide) (hts _ zw_t1_165) (fun _ h9 => h9) rfl (by decide +kernel) rfl rfl (Nat.le_of_ble_eq_true rfl) dX9_hear_227 (fun H locs hP hD hS => ?_)
                      have hP : va_P (dC, dI) vwCl [(h0, .inr (9, [.ref tp, .int h0_tapeLength, .int h0_faultKind, .int h0_faultPlace, .ref nw, .ref im, .ref sl, .ref rd, .ref wk, .ref fm, .ref mt, .ref ch, .ref dy])), (nw, .inr (3, [.int nw_isKept, .ref tn, .int nw_strayed, .int nw_names, .int x_111, .int nw_gone])), (tn, .inr (7, [.int tn_hours, .int tn_courts, .int tn_gateCount, .int tn_people, .int tn_lines, .int tn_falseHours, .int tn_strayers, .int tn_deep, .ref tn_above, .ref tn_doors, .ref tn_degrees, .ref tn_neighbours, .ref tn_shows, .ref tn_oneEnd, .ref tn_otherEnd, .ref tn_told, .ref tn_strayParts, .ref tn_strayCourts])), (tn_shows, .inl (cA_tn_shows, 10, .inl f_tn_shows)), (tn_told, .inl (cA_tn_told, 480, .inl f_tn_told)), (tn_strayCourts, .inl (cA_tn_strayCourts, 10, .inl f_tn_strayCourts))] H := hP
                      have hD : va_D A [(h0, .inr (9, [.ref tp, .int h0_tapeLength, .int h0_faultKind, .int h0_faultPlace, .ref nw, .ref im, .ref sl, .ref rd, .ref wk, .ref fm, .ref mt, .ref ch, .ref dy])), (nw, .inr (3, [.int nw_isKept, .ref tn, .int nw_strayed, .int nw_names, .int x_111, .int nw_gone])), (tn, .inr (7, [.int tn_hours, .int tn_courts, .int tn_gateCount, .int tn_people, .int tn_lines, .int tn_falseHours, .int tn_strayers, .int tn_deep, .ref tn_above, .ref tn_doors, .ref tn_degrees, .ref tn_neighbours, .ref tn_shows, .ref tn_oneEnd, .ref tn_otherEnd, .ref tn_told, .ref tn_strayParts, .ref tn_strayCourts])), (tn_shows, .inl (cA_tn_shows, 10, .inl f_tn_shows)), (tn_told, .inl (cA_tn_told, 480, .inl f_tn_told)), (tn_strayCourts, .inl (cA_tn_strayCourts, 10, .inl f_tn_strayCourts))] := hD
                      refine lv_iload hx hb dX9_hear_230 (lv_at hl 1 rfl) ?_
                      refine lv_if_eq (tgt := 249) hx hb dX9_hear_232 (by decide) (fun _ => ?_) (fun q => absurd q (by decide))
                      refine lv_iconst (v := 1) hx hb dX9_hear_249 (by decide) ?_
                      have hF : RR = ((1 : Int32), x_111, nw_gone) := hF
                      have zc : Int32.toInt 1 = 1 := by decide
                      exact W.iret (v := 1) hx hb hr (fun t ht hW => by rw [← hQe]; exact ⟨⟨1, (), rfl, ⟨by decide, (by rw [← hRR, hF])⟩, ⟨x_111, nw_gone, (by rw [← hRR, hF]), (by rw [← hRR, hF]), z_ret hP hK hD ht hW [0, 1, 2, 3, 4, 5] [] rfl (by decide) rfl⟩⟩, hS.F ht⟩) hS.2.2 dX9_hear_250
                  · have ic_106 := zz_nne rfl rfl c_106
                    replace hF := hF.trans (if_pos c_106)
                    refine lv_iconst (v := 1) hx hb dX9_hear_149 (by decide) ?_
                    refine lv_goto (tgt := 154) hx hb dX9_hear_150 (by decide) ?_
                    refine lv_istore (lv' := [(9, .int 1), (8, .int 1), (7, .int 1), (6, .int x_7), (5, .ref tn), (0, .ref h0), (1, .int p1), (2, .int p2), (3, .int p3), (4, .int p4)]) hx hb dX9_hear_154 hl (by decide) rfl (fun ls hl => ?_)
                    refine lv_iload hx hb dX9_hear_156 (lv_at hl 1 rfl) ?_
                    refine lv_if_eq (tgt := 182) hx hb dX9_hear_158 (by decide) (fun q => absurd q (by decide)) (fun _ => ?_)
                    refine lv_aload hx hb dX9_hear_161 (lv_at hl 4 rfl) ?_
                    refine lv_iload_n hx hb dX9_hear_163 rfl (lv_at hl 6 rfl) ?_
                    refine lv_iload_n hx hb dX9_hear_164 rfl (lv_at hl 8 rfl) ?_
                    refine lv_iconst (v := 0) hx hb dX9_hear_165 (by decide) ?_
                    obtain ⟨hPc, hDc, hFc⟩ := z_cut (wc := [(tn, .inr (7, [.int tn_hours, .int tn_courts, .int tn_gateCount, .int tn_people, .int tn_lines, .int tn_falseHours, .int tn_strayers, .int tn_deep, .ref tn_above, .ref tn_doors, .ref tn_degrees, .ref tn_neighbours, .ref tn_shows, .ref tn_oneEnd, .ref tn_otherEnd, .ref tn_told, .ref tn_strayParts, .ref tn_strayCourts])), (tn_shows, .inl (cA_tn_shows, 10, .inl f_tn_shows)), (tn_told, .inl (cA_tn_told, 480, .inl f_tn_told)), (tn_strayCourts, .inl (cA_tn_strayCourts, 10, .inl f_tn_strayCourts))]) hP hD hS hA [2, 3, 4, 5] rfl (by decide +kernel)
                    have hKc := hK.sub (tys' := [(cA_tn_shows, .int), (cA_tn_told, .int), (cA_tn_strayCourts, .int)]) [0, 1, 2] rfl
                    refine va_calli (va_runV (As := [.int p1, .int p3, .int 0]) (rest := []) ⟨hx, hb, hml, hown, hts⟩ (kf_X7_showsOf l sa dC dI tn p1 p3 (0) tn_hours tn_courts tn_gateCount tn_people tn_lines tn_falseHours tn_strayers tn_deep tn_above tn_doors tn_degrees tn_neighbours tn_shows tn_oneEnd tn_otherEnd tn_told tn_strayParts tn_strayCourts cA_tn_shows f_tn_shows cA_tn_told f_tn_told cA_tn_strayCourts f_tn_strayCourts (by first | with_reducible assumption | omega) (by first | with_reducible assumption | omega) (by first | with_reducible assumption | omega) (by first | with_reducible assumption | omega) (by first | with_reducible assumption | omega) (by first | with_reducible assumption | omega) (by first | with_reducible assumption | omega) (by first | with_reducible assumption | omega) b_f_tn_told b_f_tn_strayCourts H.size) (cwV 3 hts (z_gV zw_t5_133 zw_t3_206 zw_t3_207 zw_t1_3 zw_t3_208) rfl rfl rfl (by decide +kernel) (by rw [← hRe]; exact ⟨(Nat.le_of_ble_eq_true rfl), (Nat.le_of_ble_eq_true rfl)⟩)) (z_preV hPc hKc hDc hN hXs hS hFc (q := (RX7, TX7, 18)) (ci := 7) (q0 := 0) rfl rfl) rfl rfl hl.1 rfl (lv_room (Nat.le_of_ble_eq_true rfl)) dX9_hear_166 (by rw [← hRe]; exact ⟨(Nat.le_of_ble_eq_true rfl), (Nat.le_of_ble_eq_true rfl)⟩)) hS (fun q _ h => hFc q h) hFc (fun r_112 u t H1 locs ht hvm hw hB hz1 hk1 hS => ?_)
                    obtain ⟨hP, hD, hK⟩ := z_after3 (wn := [(h0, .inr (9, [.ref tp, .int h0_tapeLength, .int h0_faultKind, .int h0_faultPlace, .ref nw, .ref im, .ref sl, .ref rd, .ref wk, .ref fm, .ref mt, .ref ch, .ref dy])), (nw, .inr (3, [.int nw_isKept, .ref tn, .int nw_strayed, .int nw_names, .int nw_known, .int nw_gone])), (tn, .inr (7, [.int tn_hours, .int tn_courts, .int tn_gateCount, .int tn_people, .int tn_lines, .int tn_falseHours, .int tn_strayers, .int tn_deep, .ref tn_above, .ref tn_doors, .ref tn_degrees, .ref tn_neighbours, .ref tn_shows, .ref tn_oneEnd, .ref tn_otherEnd, .ref tn_told, .ref tn_strayParts, .ref tn_strayCourts])), (tn_shows, .inl (cA_tn_shows, 10, .inl f_tn_shows)), (tn_told, .inl (cA_tn_told, 480, .inl f_tn_told)), (tn_strayCourts, .inl (cA_tn_strayCourts, 10, .inl f_tn_strayCourts))]) hB ht hvm hP hD hK [2, 3, 4, 5] [0, 1] rfl 6 rfl (by decide +kernel) rfl (by decide +kernel) hk1 hFc
                    generalize H1 = H at hP hS ⊢
                    have hK : va_K (dC, dI) vwCl [(cA_tn_shows, .int), (cA_tn_told, .int), (cA_tn_strayCourts, .int)] s := hK
                    have sf_r_112 := hw
                    have za_0 : Int32.toInt 0 = 0 := by decide
                    replace hF := hF.trans (zL_eq sf_r_112)
                    refine lv_iload_n hx hb dX9_hear_169 rfl (lv_at hl 7 rfl) ?_
                    obtain ⟨hPc, hDc, hFc⟩ := z_cut (wc := []) hP hD hS hA [] rfl (by decide +kernel)
                    have hKc := hK.sub (tys' := []) [] rfl
                    refine va_calli (va_runS (As := [.int r_112, .int p2]) (rest := []) ⟨hx, hb, hml, hown, hts⟩ (kf_X9_has l sa dC dI r_112 p2 H.size) (va_cwS 2 hts (z_gS zw_t4_12 zw_t3_123 zw_t1_1 zw_t3_124) rfl rfl rfl (by decide +kernel) (by rw [← hRe]; exact ⟨(Nat.le_of_ble_eq_true rfl), (Nat.le_of_ble_eq_true rfl)⟩)) (z_preS hPc hKc hDc hN hXs hS hFc) rfl rfl hl.1 rfl (lv_room (Nat.le_of_ble_eq_true rfl)) dX9_hear_170 (by rw [← hRe]; exact ⟨(Nat.le_of_ble_eq_true rfl), (Nat.le_of_ble_eq_true rfl)⟩)) hS (fun q _ h => hFc q h) hFc (fun r_113 u t H1 locs ht hvm hw hB hz1 hk1 hS => ?_)
                    obtain ⟨hP, hD, hK⟩ := z_after3 (wn := [(h0, .inr (9, [.ref tp, .int h0_tapeLength, .int h0_faultKind, .int h0_faultPlace, .ref nw, .ref im, .ref sl, .ref rd, .ref wk, .ref fm, .ref mt, .ref ch, .ref dy])), (nw, .inr (3, [.int nw_isKept, .ref tn, .int nw_strayed, .int nw_names, .int nw_known, .int nw_gone])), (tn, .inr (7, [.int tn_hours, .int tn_courts, .int tn_gateCount, .int tn_people, .int tn_lines, .int tn_falseHours, .int tn_strayers, .int tn_deep, .ref tn_above, .ref tn_doors, .ref tn_degrees, .ref tn_neighbours, .ref tn_shows, .ref tn_oneEnd, .ref tn_otherEnd, .ref tn_told, .ref tn_strayParts, .ref tn_strayCourts])), (tn_shows, .inl (cA_tn_shows, 10, .inl f_tn_shows)), (tn_told, .inl (cA_tn_told, 480, .inl f_tn_told)), (tn_strayCourts, .inl (cA_tn_strayCourts, 10, .inl f_tn_strayCourts))]) hB ht hvm hP hD hK [] [0, 1, 2, 3, 4, 5] rfl 6 rfl (by decide +kernel) rfl (by decide +kernel) hk1 hFc
                    generalize H1 = H at hP hS ⊢
                    have hK : va_K (dC, dI) vwCl [(cA_tn_shows, .int), (cA_tn_told, .int), (cA_tn_strayCourts, .int)] s := hK
                    have b_r_113 : 0 ≤ r_113.toInt ∧ r_113.toInt ≤ 1 := hw.1
                    have sf_r_113 := hw.2
                    replace hF := hF.trans (zL_eq sf_r_113)
                    refine lv_iload hx hb dX9_hear_173 (lv_at hl 9 rfl) ?_
                    refine lv_icmp_ne (tgt := 182) hx hb dX9_hear_175 (by decide) (fun c_114 => ?_) (fun c_114 => ?_)
                    · have ic_114 := zz_ne rfl rfl c_114
                      replace hF := hF.trans (if_neg c_114)
                      refine lv_iconst (v := 0) hx hb dX9_hear_182 (by decide) ?_
                      refine lv_istore (lv' := [(10, .int 0), (9, .int 1), (8, .int 1), (7, .int 1), (6, .int x_7), (5, .ref tn), (0, .ref h0), (1, .int p1), (2, .int p2), (3, .int p3), (4, .int p4)]) hx hb dX9_hear_183 hl (by decide) rfl (fun ls hl => ?_)
                      refine lv_iload hx hb dX9_hear_185 (lv_at hl 1 rfl) ?_
                      refine lv_if_ne (tgt := 198) hx hb dX9_hear_187 (by decide) (fun _ => ?_) (fun q => absurd q (by decide))
                      refine lv_iload hx hb dX9_hear_198 (lv_at hl 1 rfl) ?_
                      refine lv_if_eq (tgt := 210) hx hb dX9_hear_200 (by decide) (fun q => absurd q (by decide)) (fun _ => ?_)
                      refine lv_iload hx hb dX9_hear_203 (lv_at hl 0 rfl) ?_
                      refine lv_if_eq (tgt := 210) hx hb dX9_hear_205 (by decide) (fun _ => ?_) (fun q => absurd q (by decide))
                      refine lv_aload_n hx hb dX9_hear_210 rfl (lv_at hl 6 rfl) ?_
                      refine va_get (D := (dC, dI)) (ci := 9) (v := .ref nw) (C := RX9) (T := TX9) (N := 13) hx hb hts zl_X9 hown hK hP 0 rfl rfl 4 (by decide) (hts _ zw_t2_193) (fun _ h9 => h9) rfl dX9_hear_211 ?_
                      refine lv_dup hx hb dX9_hear_214 rfl ?_
                      refine va_get (D := (dC, dI)) (ci := 3) (v := .int nw_known) (C := RX3) (T := TX3) (N := 6) hx hb hts zl_X3 hown hK hP 1 rfl rfl 4 (by decide) (hts _ zw_t1_165) (fun _ h9 => h9) rfl dX9_hear_215 ?_
                      refine lv_iload hx hb dX9_hear_218 (lv_at hl 4 rfl) ?_
                      refine lv_aload hx hb dX9_hear_220 (lv_at hl 5 rfl) ?_
                      refine va_get (D := (dC, dI)) (ci := 7) (v := .int tn_strayers) (C := RX7) (T := TX7) (N := 18) hx hb hts zl_X7 hown hK hP 2 rfl rfl 6 (by decide) (hts _ zw_t1_74) (fun _ h9 => h9) rfl dX9_hear_222 ?_
                      refine lv_iand hx hb dX9_hear_225 ?_
                      refine lv_topi (fun x_115 ex_115 => ?_)
                      replace hF := hF.trans (zL_eq ex_115)
                      have b_x_115 : 0 ≤ x_115.toInt ∧ x_115.toInt ≤ x_7.toInt := by rw [ex_115]; exact zi_andL rfl (by first | with_reducible assumption | omega) (by first | with_reducible assumption | omega)
                      refine lv_ior hx hb dX9_hear_226 ?_
                      refine lv_topi (fun x_116 ex_116 => ?_)
                      replace hF := hF.trans (zL_eq ex_116)
                      refine va_put (D := (dC, dI)) (ci := 3) (v := .int x_116) (ty := .int) (C := RX3) (T := TX3) (N := 6) hx hb hts zl_X3 tyX3 tyX3_ok nmX3 hown hK hP hD hS 1 rfl rfl 4 (by decide) (hts _ zw_t1_165) (fun _ h9 => h9) rfl (by decide +kernel) rfl rfl (Nat.le_of_ble_eq_true rfl) dX9_hear_227 (fun H locs hP hD hS => ?_)
                      have hP : va_P (dC, dI) vwCl [(h0, .inr (9, [.ref tp, .int h0_tapeLength, .int h0_faultKind, .int h0_faultPlace, .ref nw, .ref im, .ref sl, .ref rd, .ref wk, .ref fm, .ref mt, .ref ch, .ref dy])), (nw, .inr (3, [.int nw_isKept, .ref tn, .int nw_strayed, .int nw_names, .int x_116, .int nw_gone])), (tn, .inr (7, [.int tn_hours, .int tn_courts, .int tn_gateCount, .int tn_people, .int tn_lines, .int tn_falseHours, .int tn_strayers, .int tn_deep, .ref tn_above, .ref tn_doors, .ref tn_degrees, .ref tn_neighbours, .ref tn_shows, .ref tn_oneEnd, .ref tn_otherEnd, .ref tn_told, .ref tn_strayParts, .ref tn_strayCourts])), (tn_shows, .inl (cA_tn_shows, 10, .inl f_tn_shows)), (tn_told, .inl (cA_tn_told, 480, .inl f_tn_told)), (tn_strayCourts, .inl (cA_tn_strayCourts, 10, .inl f_tn_strayCourts))] H := hP
                      have hD : va_D A [(h0, .inr (9, [.ref tp, .int h0_tapeLength, .int h0_faultKind, .int h0_faultPlace, .ref nw, .ref im, .ref sl, .ref rd, .ref wk, .ref fm, .ref mt, .ref ch, .ref dy])), (nw, .inr (3, [.int nw_isKept, .ref tn, .int nw_strayed, .int nw_names, .int x_116, .int nw_gone])), (tn, .inr (7, [.int tn_hours, .int tn_courts, .int tn_gateCount, .int tn_people, .int tn_lines, .int tn_falseHours, .int tn_strayers, .int tn_deep, .ref tn_above, .ref tn_doors, .ref tn_degrees, .ref tn_neighbours, .ref tn_shows, .ref tn_oneEnd, .ref tn_otherEnd, .ref tn_told, .ref tn_strayParts, .ref tn_strayCourts])), (tn_shows, .inl (cA_tn_shows, 10, .inl f_tn_shows)), (tn_told, .inl (cA_tn_told, 480, .inl f_tn_told)), (tn_strayCourts, .inl (cA_tn_strayCourts, 10, .inl f_tn_strayCourts))] := hD
                      refine lv_iload hx hb dX9_hear_230 (lv_at hl 1 rfl) ?_
                      refine lv_if_eq (tgt := 249) hx hb dX9_hear_232 (by decide) (fun q => absurd q (by decide)) (fun _ => ?_)
                      refine lv_aload_n hx hb dX9_hear_235 rfl (lv_at hl 6 rfl) ?_
                      refine va_get (D := (dC, dI)) (ci := 9) (v := .ref nw) (C := RX9) (T := TX9) (N := 13) hx hb hts zl_X9 hown hK hP 0 rfl rfl 4 (by decide) (hts _ zw_t2_193) (fun _ h9 => h9) rfl dX9_hear_236 ?_
                      refine lv_dup hx hb dX9_hear_239 rfl ?_
                      refine va_get (D := (dC, dI)) (ci := 3) (v := .int nw_gone) (C := RX3) (T := TX3) (N := 6) hx hb hts zl_X3 hown hK hP 1 rfl rfl 5 (by decide) (hts _ zw_t1_168) (fun _ h9 => h9) rfl dX9_hear_240 ?_
                      refine lv_iload hx hb dX9_hear_243 (lv_at hl 4 rfl) ?_
                      refine lv_ior hx hb dX9_hear_245 ?_
                      refine lv_topi (fun x_117 ex_117 => ?_)
                      replace hF := hF.trans (zL_eq ex_117)
                      refine va_put (D := (dC, dI)) (ci := 3) (v := .int x_117) (ty := .int) (C := RX3) (T := TX3) (N := 6) hx hb hts zl_X3 tyX3 tyX3_ok nmX3 hown hK hP hD hS 1 rfl rfl 5 (by decide) (hts _ zw_t1_168) (fun _ h9 => h9) rfl (by decide +kernel) rfl rfl (Nat.le_of_ble_eq_true rfl) dX9_hear_246 (fun H locs hP hD hS => ?_)
                      have hP : va_P (dC, dI) vwCl [(h0, .inr (9, [.ref tp, .int h0_tapeLength, .int h0_faultKind, .int h0_faultPlace, .ref nw, .ref im, .ref sl, .ref rd, .ref wk, .ref fm, .ref mt, .ref ch, .ref dy])), (nw, .inr (3, [.int nw_isKept, .ref tn, .int nw_strayed, .int nw_names, .int x_116, .int x_117])), (tn, .inr (7, [.int tn_hours, .int tn_courts, .int tn_gateCount, .int tn_people, .int tn_lines, .int tn_falseHours, .int tn_strayers, .int tn_deep, .ref tn_above, .ref tn_doors, .ref tn_degrees, .ref tn_neighbours, .ref tn_shows, .ref tn_oneEnd, .ref tn_otherEnd, .ref tn_told, .ref tn_strayParts, .ref tn_strayCourts])), (tn_shows, .inl (cA_tn_shows, 10, .inl f_tn_shows)), (tn_told, .inl (cA_tn_told, 480, .inl f_tn_told)), (tn_strayCourts, .inl (cA_tn_strayCourts, 10, .inl f_tn_strayCourts))] H := hP
                      have hD : va_D A [(h0, .inr (9, [.ref tp, .int h0_tapeLength, .int h0_faultKind, .int h0_faultPlace, .ref nw, .ref im, .ref sl, .ref rd, .ref wk, .ref fm, .ref mt, .ref ch, .ref dy])), (nw, .inr (3, [.int nw_isKept, .ref tn, .int nw_strayed, .int nw_names, .int x_116, .int x_117])), (tn, .inr (7, [.int tn_hours, .int tn_courts, .int tn_gateCount, .int tn_people, .int tn_lines, .int tn_falseHours, .int tn_strayers, .int tn_deep, .ref tn_above, .ref tn_doors, .ref tn_degrees, .ref tn_neighbours, .ref tn_shows, .ref tn_oneEnd, .ref tn_otherEnd, .ref tn_told, .ref tn_strayParts, .ref tn_strayCourts])), (tn_shows, .inl (cA_tn_shows, 10, .inl f_tn_shows)), (tn_told, .inl (cA_tn_told, 480, .inl f_tn_told)), (tn_strayCourts, .inl (cA_tn_strayCourts, 10, .inl f_tn_strayCourts))] := hD
                      refine lv_iconst (v := 1) hx hb dX9_hear_249 (by decide) ?_
                      have hF : RR = ((1 : Int32), x_116, x_117) := hF
                      have zc : Int32.toInt 1 = 1 := by decide
                      exact W.iret (v := 1) hx hb hr (fun t ht hW => by rw [← hQe]; exact ⟨⟨1, (), rfl, ⟨by decide, (by rw [← hRR, hF])⟩, ⟨x_116, x_117, (by rw [← hRR, hF]), (by rw [← hRR, hF]), z_ret hP hK hD ht hW [0, 1, 2, 3, 4, 5] [] rfl (by decide) rfl⟩⟩, hS.F ht⟩) hS.2.2 dX9_hear_250
                    · have ic_114 := zz_nne rfl rfl c_114
                      replace hF := hF.trans (if_pos c_114)
                      refine lv_iconst (v := 1) hx hb dX9_hear_178 (by decide) ?_
                      refine lv_goto (tgt := 183) hx hb dX9_hear_179 (by decide) ?_
                      refine lv_istore (lv' := [(10, .int 1), (9, .int 1), (8, .int 1), (7, .int 1), (6, .int x_7), (5, .ref tn), (0, .ref h0), (1, .int p1), (2, .int p2), (3, .int p3), (4, .int p4)]) hx hb dX9_hear_183 hl (by decide) rfl (fun ls hl => ?_)
                      refine lv_iload hx hb dX9_hear_185 (lv_at hl 1 rfl) ?_
                      refine lv_if_ne (tgt := 198) hx hb dX9_hear_187 (by decide) (fun _ => ?_) (fun q => absurd q (by decide))
                      refine lv_iload hx hb dX9_hear_198 (lv_at hl 1 rfl) ?_
                      refine lv_if_eq (tgt := 210) hx hb dX9_hear_200 (by decide) (fun q => absurd q (by decide)) (fun _ => ?_)
                      refine lv_iload hx hb dX9_hear_203 (lv_at hl 0 rfl) ?_
                      refine lv_if_eq (tgt := 210) hx hb dX9_hear_205 (by decide) (fun q => absurd q (by decide)) (fun _ => ?_)
                      refine lv_iconst (v := 0) hx hb dX9_hear_208 (by decide) ?_
                      have hF : RR = ((0 : Int32), nw_known, nw_gone) := hF
                      have zc : Int32.toInt 0 = 0 := by decide
                      exact W.iret (v := 0) hx hb hr (fun t ht hW => by rw [← hQe]; exact ⟨⟨0, (), rfl, ⟨by decide, (by rw [← hRR, hF])⟩, ⟨nw_known, nw_gone, (by rw [← hRR, hF]), (by rw [← hRR, hF]), z_ret hP hK hD ht hW [0, 1, 2, 3, 4, 5] [] rfl (by decide) rfl⟩⟩, hS.F ht⟩) hS.2.2 dX9_hear_209
      · have ic_6 := zz_nne rfl (show Int32.toInt 0 = 0 from by decide) c_6
        replace hF := hF.trans (if_pos c_6)
        refine lv_bipush (v := (-2)) hx hb dX9_hear_36 (by decide) ?_
        have hF : RR = ((-2 : Int32), nw_known, nw_gone) := hF
        have zc : Int32.toInt (-2) = (-2) := by decide
        exact W.iret (v := (-2)) hx hb hr (fun t ht hW => by rw [← hQe]; exact ⟨⟨(-2), (), rfl, ⟨by decide, (by rw [← hRR, hF])⟩, ⟨nw_known, nw_gone, (by rw [← hRR, hF]), (by rw [← hRR, hF]), z_ret hP hK hD ht hW [0, 1, 5, 2, 3, 4] [] rfl (by decide) rfl⟩⟩, hS.F ht⟩) hS.2.2 dX9_hear_38
