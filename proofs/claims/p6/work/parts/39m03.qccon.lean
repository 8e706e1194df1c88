set_option linter.all false
set_option maxHeartbeats 4000000 in
set_option maxRecDepth 100000 in
theorem kf_X9_forget (l : Launch) (sa : Nat → Nat) (dC : Nat → ClassId) (dI : Nat → Nat → Nat) (h0 : Nat) (tp : Nat) (h0_tapeLength : Int32) (h0_faultKind : Int32) (h0_faultPlace : Int32) (nw : Nat) (im : Nat) (sl : Nat) (rd : Nat) (wk : Nat) (fm : Nat) (mt : Nat) (ch : Nat) (dy : Nat) (nw_isKept : Int32) (tn : Nat) (nw_strayed : Int32) (nw_names : Int32) (nw_known : Int32) (nw_gone : Int32) (b_h0_tapeLength : 0 ≤ h0_tapeLength.toInt ∧ h0_tapeLength.toInt ≤ 1600) (b_nw_isKept : 0 ≤ nw_isKept.toInt ∧ nw_isKept.toInt ≤ 1) (b_nw_names : 0 ≤ nw_names.toInt ∧ nw_names.toInt ≤ 1023) (sz : Nat) : Met l yX9_forget (.code yX9_forget cX9_forget 2 (some .int) :: zT) ({ frames := 1, cells := 0, slots := 0, locals := 20 }) (va_Pc [.ref h0] (zB sa dC dI (zV252 h0 tp h0_tapeLength h0_faultKind h0_faultPlace nw im sl rd wk fm mt ch dy nw nw_isKept tn nw_strayed nw_names nw_known nw_gone) [] sz)) (va_Qi (fun (r : Int32) (_ : Unit) => (0 ≤ r.toInt ∧ r.toInt ≤ 63) ∧ r = (F_X9_forget nw_known).1) (fun _ t => ∃ (n_nw_4 : Int32) (n_nw_5 : Int32), (n_nw_4 = (F_X9_forget nw_known).2.1) ∧ (n_nw_5 = (F_X9_forget nw_known).2.2) ∧ zW dC dI (zV252 h0 tp h0_tapeLength h0_faultKind h0_faultPlace nw im sl rd wk fm mt ch dy nw nw_isKept tn nw_strayed nw_names n_nw_4 n_nw_5) [] (va_A (zV252 h0 tp h0_tapeLength h0_faultKind h0_faultPlace nw im sl rd wk fm mt ch dy nw nw_isKept tn nw_strayed nw_names nw_known nw_gone) sz) t) (va_A (zV252 h0 tp h0_tapeLength h0_faultKind h0_faultPlace nw im sl rd wk fm mt ch dy nw nw_isKept tn nw_strayed nw_names nw_known nw_gone) sz)) 0 0 (va_A (zV252 h0 tp h0_tapeLength h0_faultKind h0_faultPlace nw im sl rd wk fm mt ch dy nw nw_isKept tn nw_strayed nw_names nw_known nw_gone) sz) := by
  refine z_enter (by decide) (by exact (Nat.le_of_ble_eq_true rfl)) ?_
  intro p e s m args below meth c ls A R Qc hargs hsz hQe hAe hRe hx hb hml hr hts hown hlocks hin hl hP hK hD hN hXs hA hS
  rw [hAe] at hQe
  have hown : s.vm.findClass RX9 = some m.cls := hown
  have hl : lv_has ls 2 [(0, .ref h0)] := hl
  obtain ⟨RR, hRR⟩ : ∃ z : Int32 × Int32 × Int32, z = (F_X9_forget nw_known) := ⟨_, rfl⟩
  have hF : RR = (F_X9_forget nw_known) := hRR
  refine lv_aload_n hx hb dX9_forget_0 rfl (lv_at hl 0 rfl) ?_
  refine va_get (D := (dC, dI)) (ci := 9) (v := .ref nw) (C := RX9) (T := TX9) (N := 13) hx hb hts zl_X9 hown hK hP 0 rfl rfl 4 (by decide) (hts _ zw_t2_193) (fun _ h9 => h9) rfl dX9_forget_1 ?_
  refine va_get (D := (dC, dI)) (ci := 3) (v := .int nw_known) (C := RX3) (T := TX3) (N := 6) hx hb hts zl_X3 hown hK hP 1 rfl rfl 4 (by decide) (hts _ zw_t1_165) (fun _ h9 => h9) rfl dX9_forget_4 ?_
  obtain ⟨hPc, hDc, hFc⟩ := z_cut (wc := []) hP hD hS hA [] rfl (by decide +kernel)
  have hKc := hK.sub (tys' := []) [] rfl
  refine va_calli (va_runS (As := [.int nw_known]) (rest := []) ⟨hx, hb, hml, hown, hts⟩ (kf_J6_bitCount_0f7a4 l sa dC dI nw_known s.heap.size) (va_cwS 1 hts (z_gS zw_t3_215 zw_t3_216 zw_t1_17 zw_t3_217) rfl rfl rfl (by decide +kernel) (by rw [← hRe]; exact ⟨(Nat.le_of_ble_eq_true rfl), (Nat.le_of_ble_eq_true rfl)⟩)) (z_preS hPc hKc hDc hN hXs hS hFc) rfl rfl hl.1 rfl (lv_room (Nat.le_of_ble_eq_true rfl)) dX9_forget_7 (by rw [← hRe]; exact ⟨(Nat.le_of_ble_eq_true rfl), (Nat.le_of_ble_eq_true rfl)⟩)) hS (fun q _ h => hFc q h) hFc (fun r_1 u t H1 locs ht hvm hw hB hz1 hk1 hS => ?_)
  obtain ⟨hP, hD, hK⟩ := z_after3 (wn := (zV252 h0 tp h0_tapeLength h0_faultKind h0_faultPlace nw im sl rd wk fm mt ch dy nw nw_isKept tn nw_strayed nw_names nw_known nw_gone)) hB ht hvm hP hD hK [] [0, 1] rfl 2 rfl (by decide +kernel) rfl (by decide +kernel) hk1 hFc
  generalize H1 = H at hP hS ⊢
  have hK : va_K (dC, dI) vwCl [] s := hK
  have b_r_1 : 0 ≤ r_1.toInt ∧ r_1.toInt ≤ 63 := hw.1
  have sf_r_1 := hw.2
  replace hF := hF.trans (zL_eq sf_r_1)
  refine lv_istore_n (lv' := [(1, .int r_1), (0, .ref h0)]) hx hb dX9_forget_10 rfl hl (by decide) rfl (fun ls hl => ?_)
  refine lv_aload_n hx hb dX9_forget_11 rfl (lv_at hl 1 rfl) ?_
  refine va_get (D := (dC, dI)) (ci := 9) (v := .ref nw) (C := RX9) (T := TX9) (N := 13) hx hb hts zl_X9 hown hK hP 0 rfl rfl 4 (by decide) (hts _ zw_t2_193) (fun _ h9 => h9) rfl dX9_forget_12 ?_
  refine lv_iconst (v := 0) hx hb dX9_forget_15 (by decide) ?_
  refine va_put (D := (dC, dI)) (ci := 3) (v := .int 0) (ty := .int) (C := RX3) (T := TX3) (N := 6) hx hb hts zl_X3 tyX3 tyX3_ok nmX3 hown hK hP hD hS 1 rfl rfl 4 (by decide) (hts _ zw_t1_165) (fun _ h9 => h9) rfl (by decide +kernel) rfl rfl (Nat.le_of_ble_eq_true rfl) dX9_forget_16 (fun H locs hP hD hS => ?_)
  have hP : va_P (dC, dI) vwCl [(h0, .inr (9, [.ref tp, .int h0_tapeLength, .int h0_faultKind, .int h0_faultPlace, .ref nw, .ref im, .ref sl, .ref rd, .ref wk, .ref fm, .ref mt, .ref ch, .ref dy])), (nw, .inr (3, [.int nw_isKept, .ref tn, .int nw_strayed, .int nw_names, .int 0, .int nw_gone]))] H := hP
  have hD : va_D A [(h0, .inr (9, [.ref tp, .int h0_tapeLength, .int h0_faultKind, .int h0_faultPlace, .ref nw, .ref im, .ref sl, .ref rd, .ref wk, .ref fm, .ref mt, .ref ch, .ref dy])), (nw, .inr (3, [.int nw_isKept, .ref tn, .int nw_strayed, .int nw_names, .int 0, .int nw_gone]))] := hD
  refine lv_aload_n hx hb dX9_forget_19 rfl (lv_at hl 1 rfl) ?_
  refine va_get (D := (dC, dI)) (ci := 9) (v := .ref nw) (C := RX9) (T := TX9) (N := 13) hx hb hts zl_X9 hown hK hP 0 rfl rfl 4 (by decide) (hts _ zw_t2_193) (fun _ h9 => h9) rfl dX9_forget_20 ?_
  refine lv_iconst (v := 0) hx hb dX9_forget_23 (by decide) ?_
  refine va_put (D := (dC, dI)) (ci := 3) (v := .int 0) (ty := .int) (C := RX3) (T := TX3) (N := 6) hx hb hts zl_X3 tyX3 tyX3_ok nmX3 hown hK hP hD hS 1 rfl rfl 5 (by decide) (hts _ zw_t1_168) (fun _ h9 => h9) rfl (by decide +kernel) rfl rfl (Nat.le_of_ble_eq_true rfl) dX9_forget_24 (fun H locs hP hD hS => ?_)
  have hP : va_P (dC, dI) vwCl [(h0, .inr (9, [.ref tp, .int h0_tapeLength, .int h0_faultKind, .int h0_faultPlace, .ref nw, .ref im, .ref sl, .ref rd, .ref wk, .ref fm, .ref mt, .ref ch, .ref dy])), (nw, .inr (3, [.int nw_isKept, .ref tn, .int nw_strayed, .int nw_names, .int 0, .int 0]))] H := hP
  have hD : va_D A [(h0, .inr (9, [.ref tp, .int h0_tapeLength, .int h0_faultKind, .int h0_faultPlace, .ref nw, .ref im, .ref sl, .ref rd, .ref wk, .ref fm, .ref mt, .ref ch, .ref dy])), (nw, .inr (3, [.int nw_isKept, .ref tn, .int nw_strayed, .int nw_names, .int 0, .int 0]))] := hD
  refine lv_iload_n hx hb dX9_forget_27 rfl (lv_at hl 0 rfl) ?_
  have hF : RR = (r_1, (0 : Int32), (0 : Int32)) := hF
  exact W.iret (v := r_1) hx hb hr (fun t ht hW => by rw [← hQe]; exact ⟨⟨r_1, (), rfl, ⟨by omega, (by rw [← hRR, hF])⟩, ⟨(0), (0), (by rw [← hRR, hF]), (by rw [← hRR, hF]), z_ret hP hK hD ht hW [0, 1] [] rfl (by decide) rfl⟩⟩, hS.F ht⟩) hS.2.2 dX9_forget_28
set_option maxHeartbeats 4000000 in
set_option maxRecDepth 100000 in
theorem kf_X9_think (l : Launch) (sa : Nat → Nat) (dC : Nat → ClassId) (dI : Nat → Nat → Nat) (h0 : Nat) (p1 : Int32) (p2 : Int32) (p3 : Int32) (tp : Nat) (h0_tapeLength : Int32) (h0_faultKind : Int32) (h0_faultPlace : Int32) (nw : Nat) (im : Nat) (sl : Nat) (rd : Nat) (wk : Nat) (fm : Nat) (mt : Nat) (ch : Nat) (dy : Nat) (nw_isKept : Int32) (tn : Nat) (nw_strayed : Int32) (nw_names : Int32) (nw_known : Int32) (nw_gone : Int32) (tn_hours : Int32) (tn_courts : Int32) (tn_gateCount : Int32) (tn_people : Int32) (tn_lines : Int32) (tn_falseHours : Int32) (tn_strayers : Int32) (tn_deep : Int32) (tn_above : Nat) (tn_doors : Nat) (tn_degrees : Nat) (tn_neighbours : Nat) (tn_shows : Nat) (tn_oneEnd : Nat) (tn_otherEnd : Nat) (tn_told : Nat) (tn_strayParts : Nat) (tn_strayCourts : Nat) (cA_tn_shows : ClassId) (f_tn_shows : Nat → Int32) (cA_tn_told : ClassId) (f_tn_told : Nat → Int32) (cA_tn_strayParts : ClassId) (f_tn_strayParts : Nat → Int32) (cA_tn_strayCourts : ClassId) (f_tn_strayCourts : Nat → Int32) (b_h0_tapeLength : 0 ≤ h0_tapeLength.toInt ∧ h0_tapeLength.toInt ≤ 1600) (b_nw_isKept : 0 ≤ nw_isKept.toInt ∧ nw_isKept.toInt ≤ 1) (b_nw_names : 0 ≤ nw_names.toInt ∧ nw_names.toInt ≤ 1023) (b_tn_hours : 0 ≤ tn_hours.toInt ∧ tn_hours.toInt ≤ 48) (b_tn_courts : 0 ≤ tn_courts.toInt ∧ tn_courts.toInt ≤ 10) (b_tn_gateCount : 0 ≤ tn_gateCount.toInt ∧ tn_gateCount.toInt ≤ 16) (b_tn_people : 0 ≤ tn_people.toInt ∧ tn_people.toInt ≤ 10) (b_tn_falseHours : 0 ≤ tn_falseHours.toInt ∧ tn_falseHours.toInt ≤ 9) (b_tn_deep : 0 ≤ tn_deep.toInt ∧ tn_deep.toInt ≤ 1) (b_f_tn_told : ∀ j : Nat, 0 ≤ (f_tn_told j).toInt ∧ (f_tn_told j).toInt ≤ 9) (b_f_tn_strayParts : ∀ j : Nat, 0 ≤ (f_tn_strayParts j).toInt ∧ (f_tn_strayParts j).toInt ≤ 99) (b_f_tn_strayCourts : ∀ j : Nat, 0 ≤ (f_tn_strayCourts j).toInt ∧ (f_tn_strayCourts j).toInt ≤ 9) (sz : Nat) : Met l yX9_think (.code yX9_think cX9_think 5 (some .int) :: zT) ({ frames := 3, cells := 0, slots := 0, locals := 72 }) (va_Pc [.ref h0, .int p1, .int p2, .int p3] (zB sa dC dI (zV253 h0 tp h0_tapeLength h0_faultKind h0_faultPlace nw im sl rd wk fm mt ch dy nw nw_isKept tn nw_strayed nw_names nw_known nw_gone tn tn_hours tn_courts tn_gateCount tn_people tn_lines tn_falseHours tn_strayers tn_deep tn_above tn_doors tn_degrees tn_neighbours tn_shows tn_oneEnd tn_otherEnd tn_told tn_strayParts tn_strayCourts tn_shows cA_tn_shows f_tn_shows tn_told cA_tn_told f_tn_told tn_strayParts cA_tn_strayParts f_tn_strayParts tn_strayCourts cA_tn_strayCourts f_tn_strayCourts) [(cA_tn_shows, .int), (cA_tn_told, .int), (cA_tn_strayParts, .int), (cA_tn_strayCourts, .int)] sz)) (va_Qi (fun (r : Int32) (_ : Unit) => ((-2) ≤ r.toInt ∧ r.toInt ≤ 199) ∧ r = (F_X9_think p1 p2 p3 nw_known nw_gone tn_hours tn_courts tn_people tn_strayers f_tn_shows f_tn_told f_tn_strayParts f_tn_strayCourts)) (fun _ t => zW dC dI (zV253 h0 tp h0_tapeLength h0_faultKind h0_faultPlace nw im sl rd wk fm mt ch dy nw nw_isKept tn nw_strayed nw_names nw_known nw_gone tn tn_hours tn_courts tn_gateCount tn_people tn_lines tn_falseHours tn_strayers tn_deep tn_above tn_doors tn_degrees tn_neighbours tn_shows tn_oneEnd tn_otherEnd tn_told tn_strayParts tn_strayCourts tn_shows cA_tn_shows f_tn_shows tn_told cA_tn_told f_tn_told tn_strayParts cA_tn_strayParts f_tn_strayParts tn_strayCourts cA_tn_strayCourts f_tn_strayCourts) [] (va_A (zV253 h0 tp h0_tapeLength h0_faultKind h0_faultPlace nw im sl rd wk fm mt ch dy nw nw_isKept tn nw_strayed nw_names nw_known nw_gone tn tn_hours tn_courts tn_gateCount tn_people tn_lines tn_falseHours tn_strayers tn_deep tn_above tn_doors tn_degrees tn_neighbours tn_shows tn_oneEnd tn_otherEnd tn_told tn_strayParts tn_strayCourts tn_shows cA_tn_shows f_tn_shows tn_told cA_tn_told f_tn_told tn_strayParts cA_tn_strayParts f_tn_strayParts tn_strayCourts cA_tn_strayCourts f_tn_strayCourts) sz) t) (va_A (zV253 h0 tp h0_tapeLength h0_faultKind h0_faultPlace nw im sl rd wk fm mt ch dy nw nw_isKept tn nw_strayed nw_names nw_known nw_gone tn tn_hours tn_courts tn_gateCount tn_people tn_lines tn_falseHours tn_strayers tn_deep tn_above tn_doors tn_degrees tn_neighbours tn_shows tn_oneEnd tn_otherEnd tn_told tn_strayParts tn_strayCourts tn_shows cA_tn_shows f_tn_shows tn_told cA_tn_told f_tn_told tn_strayParts cA_tn_strayParts f_tn_strayParts tn_strayCourts cA_tn_strayCourts f_tn_strayCourts) sz)) 0 0 (va_A (zV253 h0 tp h0_tapeLength h0_faultKind h0_faultPlace nw im sl rd wk fm mt ch dy nw nw_isKept tn nw_strayed nw_names nw_known nw_gone tn tn_hours tn_courts tn_gateCount tn_people tn_lines tn_falseHours tn_strayers tn_deep tn_above tn_doors tn_degrees tn_neighbours tn_shows tn_oneEnd tn_otherEnd tn_told tn_strayParts tn_strayCourts tn_shows cA_tn_shows f_tn_shows tn_told cA_tn_told f_tn_told tn_strayParts cA_tn_strayParts f_tn_strayParts tn_strayCourts cA_tn_strayCourts f_tn_strayCourts) sz) := by
  refine z_enter (by decide) (by exact (Nat.le_of_ble_eq_true rfl)) ?_
  intro p e s m args below meth c ls A R Qc hargs hsz hQe hAe hRe hx hb hml hr hts hown hlocks hin hl hP hK hD hN hXs hA hS
  rw [hAe] at hQe
  have hown : s.vm.findClass RX9 = some m.cls := hown
  have hl : lv_has ls 5 [(0, .ref h0), (1, .int p1), (2, .int p2), (3, .int p3)] := hl
  obtain ⟨RR, hRR⟩ : ∃ z : Int32, z = (F_X9_think p1 p2 p3 nw_known nw_gone tn_hours tn_courts tn_people tn_strayers f_tn_shows f_tn_told f_tn_strayParts f_tn_strayCourts) := ⟨_, rfl⟩
  have hF : RR = (F_X9_think p1 p2 p3 nw_known nw_gone tn_hours tn_courts tn_people tn_strayers f_tn_shows f_tn_told f_tn_strayParts f_tn_strayCourts) := hRR
  refine lv_aload_n hx hb dX9_think_0 rfl (lv_at hl 0 rfl) ?_
  refine va_get (D := (dC, dI)) (ci := 9) (v := .ref nw) (C := RX9) (T := TX9) (N := 13) hx hb hts zl_X9 hown hK hP 0 rfl rfl 4 (by decide) (hts _ zw_t2_193) (fun _ h9 => h9) rfl dX9_think_1 ?_
  refine va_get (D := (dC, dI)) (ci := 3) (v := .ref tn) (C := RX3) (T := TX3) (N := 6) hx hb hts zl_X3 hown hK hP 1 rfl rfl 1 (by decide) (hts _ zw_t1_156) (fun _ h9 => h9) rfl dX9_think_4 ?_
  refine lv_astore (lv' := [(4, .ref tn), (0, .ref h0), (1, .int p1), (2, .int p2), (3, .int p3)]) hx hb dX9_think_7 hl (by decide) rfl (fun ls hl => ?_)
  refine lv_aload hx hb dX9_think_9 (lv_at hl 0 rfl) ?_
  refine lv_iload_n hx hb dX9_think_11 rfl (lv_at hl 2 rfl) ?_
  obtain ⟨hPc, hDc, hFc⟩ := z_cut (wc := (zV1 tn tn_hours tn_courts tn_gateCount tn_people tn_lines tn_falseHours tn_strayers tn_deep tn_above tn_doors tn_degrees tn_neighbours tn_shows tn_oneEnd tn_otherEnd tn_told tn_strayParts tn_strayCourts)) hP hD hS hA [2] rfl (by decide +kernel)
  have hKc := hK.sub (tys' := []) [] rfl
  refine va_calli (va_runV (As := [.int p1]) (rest := []) ⟨hx, hb, hml, hown, hts⟩ (kf_X7_hasPerson l sa dC dI tn p1 tn_hours tn_courts tn_gateCount tn_people tn_lines tn_falseHours tn_strayers tn_deep tn_above tn_doors tn_degrees tn_neighbours tn_shows tn_oneEnd tn_otherEnd tn_told tn_strayParts tn_strayCourts b_tn_hours b_tn_courts b_tn_gateCount b_tn_people b_tn_falseHours b_tn_deep s.heap.size) (cwV 1 hts (z_gV zw_t3_181 zw_t3_182 zw_t3_183 zw_t1_3 zw_t3_184) rfl rfl rfl (by decide +kernel) (by rw [← hRe]; exact ⟨(Nat.le_of_ble_eq_true rfl), (Nat.le_of_ble_eq_true rfl)⟩)) (z_preV hPc hKc hDc hN hXs hS hFc (q := (RX7, TX7, 18)) (ci := 7) (q0 := 0) rfl rfl) rfl rfl hl.1 rfl (lv_room (Nat.le_of_ble_eq_true rfl)) dX9_think_12 (by rw [← hRe]; exact ⟨(Nat.le_of_ble_eq_true rfl), (Nat.le_of_ble_eq_true rfl)⟩)) hS (fun q _ h => hFc q h) hFc (fun r_1 u t H1 locs ht hvm hw hB hz1 hk1 hS => ?_)
  obtain ⟨hP, hD, hK⟩ := z_after3 (wn := [(h0, .inr (9, [.ref tp, .int h0_tapeLength, .int h0_faultKind, .int h0_faultPlace, .ref nw, .ref im, .ref sl, .ref rd, .ref wk, .ref fm, .ref mt, .ref ch, .ref dy])), (nw, .inr (3, [.int nw_isKept, .ref tn, .int nw_strayed, .int nw_names, .int nw_known, .int nw_gone])), (tn_shows, .inl (cA_tn_shows, 10, .inl f_tn_shows)), (tn_told, .inl (cA_tn_told, 480, .inl f_tn_told)), (tn_strayParts, .inl (cA_tn_strayParts, 10, .inl f_tn_strayParts)), (tn_strayCourts, .inl (cA_tn_strayCourts, 10, .inl f_tn_strayCourts)), (tn, .inr (7, [.int tn_hours, .int tn_courts, .int tn_gateCount, .int tn_people, .int tn_lines, .int tn_falseHours, .int tn_strayers, .int tn_deep, .ref tn_above, .ref tn_doors, .ref tn_degrees, .ref tn_neighbours, .ref tn_shows, .ref tn_oneEnd, .ref tn_otherEnd, .ref tn_told, .ref tn_strayParts, .ref tn_strayCourts]))]) hB ht hvm hP hD hK [2] [0, 1, 3, 4, 5, 6] rfl 7 rfl (by decide +kernel) rfl (by decide +kernel) hk1 hFc
  generalize H1 = H at hP hS ⊢
  have hK : va_K (dC, dI) vwCl [(cA_tn_shows, .int), (cA_tn_told, .int), (cA_tn_strayParts, .int), (cA_tn_strayCourts, .int)] s := hK
  have b_r_1 : 0 ≤ r_1.toInt ∧ r_1.toInt ≤ 1 := hw.1
  have s_r_1 := hw.2.1
  have sf_r_1 := hw.2.2
  replace hF := hF.trans (zL_eq sf_r_1)
  refine lv_if_eq (tgt := 36) hx hb dX9_think_15 (by decide) (fun c_2 => ?_) (fun c_2 => ?_)
  · have ic_2 := zz_eq rfl (show Int32.toInt 0 = 0 from by decide) c_2
    replace hF := hF.trans (if_pos c_2)
    refine lv_bipush (v := (-2)) hx hb dX9_think_36 (by decide) ?_
    have hF : RR = (-2 : Int32) := hF
    have zc : Int32.toInt (-2) = (-2) := by decide
    exact W.iret (v := (-2)) hx hb hr (fun t ht hW => by rw [← hQe]; exact ⟨⟨(-2), (), rfl, ⟨by decide, (by rw [← hRR, hF])⟩, z_ret hP hK hD ht hW [0, 1, 6, 2, 3, 4, 5] [] rfl (by decide) rfl⟩, hS.F ht⟩) hS.2.2 dX9_think_38
  · have ic_2 := zz_neq rfl (show Int32.toInt 0 = 0 from by decide) c_2
    replace hF := hF.trans (if_neg c_2)
    refine lv_aload hx hb dX9_think_18 (lv_at hl 0 rfl) ?_
    refine lv_iload_n hx hb dX9_think_20 rfl (lv_at hl 3 rfl) ?_
    obtain ⟨hPc, hDc, hFc⟩ := z_cut (wc := (zV1 tn tn_hours tn_courts tn_gateCount tn_people tn_lines tn_falseHours tn_strayers tn_deep tn_above tn_doors tn_degrees tn_neighbours tn_shows tn_oneEnd tn_otherEnd tn_told tn_strayParts tn_strayCourts)) hP hD hS hA [6] rfl (by decide +kernel)
    have hKc := hK.sub (tys' := []) [] rfl
    refine va_calli (va_runV (As := [.int p2]) (rest := []) ⟨hx, hb, hml, hown, hts⟩ (kf_X7_hasCourt l sa dC dI tn p2 tn_hours tn_courts tn_gateCount tn_people tn_lines tn_falseHours tn_strayers tn_deep tn_above tn_doors tn_degrees tn_neighbours tn_shows tn_oneEnd tn_otherEnd tn_told tn_strayParts tn_strayCourts b_tn_hours b_tn_courts b_tn_gateCount b_tn_people b_tn_falseHours b_tn_deep H.size) (cwV 1 hts (z_gV zw_t3_197 zw_t3_198 zw_t3_199 zw_t1_3 zw_t3_200) rfl rfl rfl (by decide +kernel) (by rw [← hRe]; exact ⟨(Nat.le_of_ble_eq_true rfl), (Nat.le_of_ble_eq_true rfl)⟩)) (z_preV hPc hKc hDc hN hXs hS hFc (q := (RX7, TX7, 18)) (ci := 7) (q0 := 0) rfl rfl) rfl rfl hl.1 rfl (lv_room (Nat.le_of_ble_eq_true rfl)) dX9_think_21 (by rw [← hRe]; exact ⟨(Nat.le_of_ble_eq_true rfl), (Nat.le_of_ble_eq_true rfl)⟩)) hS (fun q _ h => hFc q h) hFc (fun r_3 u t H1 locs ht hvm hw hB hz1 hk1 hS => ?_)
    obtain ⟨hP, hD, hK⟩ := z_after3 (wn := [(h0, .inr (9, [.ref tp, .int h0_tapeLength, .int h0_faultKind, .int h0_faultPlace, .ref nw, .ref im, .ref sl, .ref rd, .ref wk, .ref fm, .ref mt, .ref ch, .ref dy])), (nw, .inr (3, [.int nw_isKept, .ref tn, .int nw_strayed, .int nw_names, .int nw_known, .int nw_gone])), (tn_shows, .inl (cA_tn_shows, 10, .inl f_tn_shows)), (tn_told, .inl (cA_tn_told, 480, .inl f_tn_told)), (tn_strayParts, .inl (cA_tn_strayParts, 10, .inl f_tn_strayParts)), (tn_strayCourts, .inl (cA_tn_strayCourts, 10, .inl f_tn_strayCourts)), (tn, .inr (7, [.int tn_hours, .int tn_courts, .int tn_gateCount, .int tn_people, .int tn_lines, .int tn_falseHours, .int tn_strayers, .int tn_deep, .ref tn_above, .ref tn_doors, .ref tn_degrees, .ref tn_neighbours, .ref tn_shows, .ref tn_oneEnd, .ref tn_otherEnd, .ref tn_told, .ref tn_strayParts, .ref tn_strayCourts]))]) hB ht hvm hP hD hK [6] [0, 1, 2, 3, 4, 5] rfl 7 rfl (by decide +kernel) rfl (by decide +kernel) hk1 hFc
    generalize H1 = H at hP hS ⊢
    have hK : va_K (dC, dI) vwCl [(cA_tn_shows, .int), (cA_tn_told, .int), (cA_tn_strayParts, .int), (cA_tn_strayCourts, .int)] s := hK
    have b_r_3 : 0 ≤ r_3.toInt ∧ r_3.toInt ≤ 1 := hw.1
    have s_r_3 := hw.2.1
    have sf_r_3 := hw.2.2
    replace hF := hF.trans (zL_eq sf_r_3)
    refine lv_if_eq (tgt := 36) hx hb dX9_think_24 (by decide) (fun c_4 => ?_) (fun c_4 => ?_)
    · have ic_4 := zz_eq rfl (show Int32.toInt 0 = 0 from by decide) c_4
      replace hF := hF.trans (if_pos c_4)
      refine lv_bipush (v := (-2)) hx hb dX9_think_36 (by decide) ?_
      have hF : RR = (-2 : Int32) := hF
      have zc : Int32.toInt (-2) = (-2) := by decide
      exact W.iret (v := (-2)) hx hb hr (fun t ht hW => by rw [← hQe]; exact ⟨⟨(-2), (), rfl, ⟨by decide, (by rw [← hRR, hF])⟩, z_ret hP hK hD ht hW [0, 1, 6, 2, 3, 4, 5] [] rfl (by decide) rfl⟩, hS.F ht⟩) hS.2.2 dX9_think_38
    · have ic_4 := zz_neq rfl (show Int32.toInt 0 = 0 from by decide) c_4
      replace hF := hF.trans (if_neg c_4)
      refine lv_aload hx hb dX9_think_27 (lv_at hl 0 rfl) ?_
      refine lv_iload_n hx hb dX9_think_29 rfl (lv_at hl 4 rfl) ?_
      obtain ⟨hPc, hDc, hFc⟩ := z_cut (wc := (zV1 tn tn_hours tn_courts tn_gateCount tn_people tn_lines tn_falseHours tn_strayers tn_deep tn_above tn_doors tn_degrees tn_neighbours tn_shows tn_oneEnd tn_otherEnd tn_told tn_strayParts tn_strayCourts)) hP hD hS hA [6] rfl (by decide +kernel)
      have hKc := hK.sub (tys' := []) [] rfl
      refine va_calli (va_runV (As := [.int p3]) (rest := []) ⟨hx, hb, hml, hown, hts⟩ (kf_X7_hasHour l sa dC dI tn p3 tn_hours tn_courts tn_gateCount tn_people tn_lines tn_falseHours tn_strayers tn_deep tn_above tn_doors tn_degrees tn_neighbours tn_shows tn_oneEnd tn_otherEnd tn_told tn_strayParts tn_strayCourts b_tn_hours b_tn_courts b_tn_gateCount b_tn_people b_tn_falseHours b_tn_deep H.size) (cwV 1 hts (z_gV zw_t3_185 zw_t3_186 zw_t3_187 zw_t1_3 zw_t3_188) rfl rfl rfl (by decide +kernel) (by rw [← hRe]; exact ⟨(Nat.le_of_ble_eq_true rfl), (Nat.le_of_ble_eq_true rfl)⟩)) (z_preV hPc hKc hDc hN hXs hS hFc (q := (RX7, TX7, 18)) (ci := 7) (q0 := 0) rfl rfl) rfl rfl hl.1 rfl (lv_room (Nat.le_of_ble_eq_true rfl)) dX9_think_30 (by rw [← hRe]; exact ⟨(Nat.le_of_ble_eq_true rfl), (Nat.le_of_ble_eq_true rfl)⟩)) hS (fun q _ h => hFc q h) hFc (fun r_5 u t H1 locs ht hvm hw hB hz1 hk1 hS => ?_)
      obtain ⟨hP, hD, hK⟩ := z_after3 (wn := [(h0, .inr (9, [.ref tp, .int h0_tapeLength, .int h0_faultKind, .int h0_faultPlace, .ref nw, .ref im, .ref sl, .ref rd, .ref wk, .ref fm, .ref mt, .ref ch, .ref dy])), (nw, .inr (3, [.int nw_isKept, .ref tn, .int nw_strayed, .int nw_names, .int nw_known, .int nw_gone])), (tn_shows, .inl (cA_tn_shows, 10, .inl f_tn_shows)), (tn_told, .inl (cA_tn_told, 480, .inl f_tn_told)), (tn_strayParts, .inl (cA_tn_strayParts, 10, .inl f_tn_strayParts)), (tn_strayCourts, .inl (cA_tn_strayCourts, 10, .inl f_tn_strayCourts)), (tn, .inr (7, [.int tn_hours, .int tn_courts, .int tn_gateCount, .int tn_people, .int tn_lines, .int tn_falseHours, .int tn_strayers, .int tn_deep, .ref tn_above, .ref tn_doors, .ref tn_degrees, .ref tn_neighbours, .ref tn_shows, .ref tn_oneEnd, .ref tn_otherEnd, .ref tn_told, .ref tn_strayParts, .ref tn_strayCourts]))]) hB ht hvm hP hD hK [6] [0, 1, 2, 3, 4, 5] rfl 7 rfl (by decide +kernel) rfl (by decide +kernel) hk1 hFc
      generalize H1 = H at hP hS ⊢
      have hK : va_K (dC, dI) vwCl [(cA_tn_shows, .int), (cA_tn_told, .int), (cA_tn_strayParts, .int), (cA_tn_strayCourts, .int)] s := hK
      have b_r_5 : 0 ≤ r_5.toInt ∧ r_5.toInt ≤ 1 := hw.1
      have s_r_5 := hw.2.1
      have sf_r_5 := hw.2.2
      replace hF := hF.trans (zL_eq sf_r_5)
      refine lv_if_ne (tgt := 39) hx hb dX9_think_33 (by decide) (fun c_6 => ?_) (fun c_6 => ?_)
      · have ic_6 := zz_ne rfl (show Int32.toInt 0 = 0 from by decide) c_6
        replace hF := hF.trans (if_neg c_6)
        refine lv_aload_n hx hb dX9_think_39 rfl (lv_at hl 1 rfl) ?_
        refine va_get (D := (dC, dI)) (ci := 9) (v := .ref nw) (C := RX9) (T := TX9) (N := 13) hx hb hts zl_X9 hown hK hP 0 rfl rfl 4 (by decide) (hts _ zw_t2_193) (fun _ h9 => h9) rfl dX9_think_40 ?_
        refine lv_iload_n hx hb dX9_think_43 rfl (lv_at hl 2 rfl) ?_
        refine lv_iload_n hx hb dX9_think_44 rfl (lv_at hl 3 rfl) ?_
        refine lv_iload_n hx hb dX9_think_45 rfl (lv_at hl 4 rfl) ?_
        obtain ⟨hPc, hDc, hFc⟩ := z_cut (wc := (zV244 nw nw_isKept tn nw_strayed nw_names nw_known nw_gone tn tn_hours tn_courts tn_gateCount tn_people tn_lines tn_falseHours tn_strayers tn_deep tn_above tn_doors tn_degrees tn_neighbours tn_shows tn_oneEnd tn_otherEnd tn_told tn_strayParts tn_strayCourts tn_shows cA_tn_shows f_tn_shows tn_told cA_tn_told f_tn_told tn_strayParts cA_tn_strayParts f_tn_strayParts tn_strayCourts cA_tn_strayCourts f_tn_strayCourts)) hP hD hS hA [1, 6, 2, 3, 4, 5] rfl (by decide +kernel)
        have hKc := hK.sub (tys' := [(cA_tn_shows, .int), (cA_tn_told, .int), (cA_tn_strayParts, .int), (cA_tn_strayCourts, .int)]) [0, 1, 2, 3] rfl
        refine va_calli (va_runV (As := [.int p1, .int p2, .int p3]) (rest := []) ⟨hx, hb, hml, hown, hts⟩ (kf_X3_thought l sa dC dI nw p1 p2 p3 nw_isKept tn nw_strayed nw_names nw_known nw_gone tn_hours tn_courts tn_gateCount tn_people tn_lines tn_falseHours tn_strayers tn_deep tn_above tn_doors tn_degrees tn_neighbours tn_shows tn_oneEnd tn_otherEnd tn_told tn_strayParts tn_strayCourts cA_tn_shows f_tn_shows cA_tn_told f_tn_told cA_tn_strayParts f_tn_strayParts cA_tn_strayCourts f_tn_strayCourts (by first | with_reducible assumption | omega) (by first | with_reducible assumption | omega) b_nw_isKept b_nw_names b_tn_hours b_tn_courts b_tn_gateCount b_tn_people b_tn_falseHours b_tn_deep b_f_tn_told b_f_tn_strayParts b_f_tn_strayCourts H.size) (cwV 3 hts (z_gV zw_t5_142 zw_t5_143 zw_t5_144 zw_t1_2 zw_t5_145) rfl rfl rfl (by decide +kernel) (by rw [← hRe]; exact ⟨(Nat.le_of_ble_eq_true rfl), (Nat.le_of_ble_eq_true rfl)⟩)) (z_preV hPc hKc hDc hN hXs hS hFc (q := (RX3, TX3, 6)) (ci := 3) (q0 := 0) rfl rfl) rfl rfl hl.1 rfl (lv_room (Nat.le_of_ble_eq_true rfl)) dX9_think_46 (by rw [← hRe]; exact ⟨(Nat.le_of_ble_eq_true rfl), (Nat.le_of_ble_eq_true rfl)⟩)) hS (fun q _ h => hFc q h) hFc (fun r_7 u t H1 locs ht hvm hw hB hz1 hk1 hS => ?_)
        obtain ⟨hP, hD, hK⟩ := z_after3 (wn := (zV253 h0 tp h0_tapeLength h0_faultKind h0_faultPlace nw im sl rd wk fm mt ch dy nw nw_isKept tn nw_strayed nw_names nw_known nw_gone tn tn_hours tn_courts tn_gateCount tn_people tn_lines tn_falseHours tn_strayers tn_deep tn_above tn_doors tn_degrees tn_neighbours tn_shows tn_oneEnd tn_otherEnd tn_told tn_strayParts tn_strayCourts tn_shows cA_tn_shows f_tn_shows tn_told cA_tn_told f_tn_told tn_strayParts cA_tn_strayParts f_tn_strayParts tn_strayCourts cA_tn_strayCourts f_tn_strayCourts)) hB ht hvm hP hD hK [1, 6, 2, 3, 4, 5] [0] rfl 7 rfl (by decide +kernel) rfl (by decide +kernel) hk1 hFc
        generalize H1 = H at hP hS ⊢
        have hK : va_K (dC, dI) vwCl [(cA_tn_shows, .int), (cA_tn_told, .int), (cA_tn_strayParts, .int), (cA_tn_strayCourts, .int)] s := hK
        have b_r_7 : 0 ≤ r_7.toInt ∧ r_7.toInt ≤ 199 := hw.1
        have sf_r_7 := hw.2
        replace hF := hF.trans (zL_eq sf_r_7)
        have hF : RR = r_7 := hF
        exact W.iret (v := r_7) hx hb hr (fun t ht hW => by rw [← hQe]; exact ⟨⟨r_7, (), rfl, ⟨by omega, (by rw [← hRR, hF])⟩, z_ret hP hK hD ht hW [0, 1, 2, 3, 4, 5, 6] [] rfl (by decide) rfl⟩, hS.F ht⟩) hS.2.2 dX9_think_49
      · have ic_6 := zz_nne rfl (show Int32.toInt 0 = 0 from by decide) c_6
        replace hF := hF.trans (if_pos c_6)
        refine lv_bipush (v := (-2)) hx hb dX9_think_36 (by decide) ?_
        have hF : RR = (-2 : Int32) := hF
        have zc : Int32.toInt (-2) = (-2) := by decide
        exact W.iret (v := (-2)) hx hb hr (fun t ht hW => by rw [← hQe]; exact ⟨⟨(-2), (), rfl, ⟨by decide, (by rw [← hRR, hF])⟩, z_ret hP hK hD ht hW [0, 1, 6, 2, 3, 4, 5] [] rfl (by decide) rfl⟩, hS.F ht⟩) hS.2.2 dX9_think_38
set_option maxHeartbeats 4000000 in
set_option maxRecDepth 100000 in
theorem kf_X9_likely (l : Launch) (sa : Nat → Nat) (dC : Nat → ClassId) (dI : Nat → Nat → Nat) (h0 : Nat) (p1 : Int32) (p2 : Int32) (p3 : Int32) (p4 : Int32) (tp : Nat) (h0_tapeLength : Int32) (h0_faultKind : Int32) (h0_faultPlace : Int32) (nw : Nat) (im : Nat) (sl : Nat) (rd : Nat) (wk : Nat) (fm : Nat) (mt : Nat) (ch : Nat) (dy : Nat) (nw_isKept : Int32) (tn : Nat) (nw_strayed : Int32) (nw_names : Int32) (nw_known : Int32) (nw_gone : Int32) (tn_hours : Int32) (tn_courts : Int32) (tn_gateCount : Int32) (tn_people : Int32) (tn_lines : Int32) (tn_falseHours : Int32) (tn_strayers : Int32) (tn_deep : Int32) (tn_above : Nat) (tn_doors : Nat) (tn_degrees : Nat) (tn_neighbours : Nat) (tn_shows : Nat) (tn_oneEnd : Nat) (tn_otherEnd : Nat) (tn_told : Nat) (tn_strayParts : Nat) (tn_strayCourts : Nat) (cA_tn_above : ClassId) (f_tn_above : Nat → Int32) (cA_tn_shows : ClassId) (f_tn_shows : Nat → Int32) (cA_tn_oneEnd : ClassId) (f_tn_oneEnd : Nat → Int32) (cA_tn_otherEnd : ClassId) (f_tn_otherEnd : Nat → Int32) (cA_tn_told : ClassId) (f_tn_told : Nat → Int32) (cA_tn_strayParts : ClassId) (f_tn_strayParts : Nat → Int32) (cA_tn_strayCourts : ClassId) (f_tn_strayCourts : Nat → Int32) (b_h0_tapeLength : 0 ≤ h0_tapeLength.toInt ∧ h0_tapeLength.toInt ≤ 1600) (b_nw_isKept : 0 ≤ nw_isKept.toInt ∧ nw_isKept.toInt ≤ 1) (b_nw_names : 0 ≤ nw_names.toInt ∧ nw_names.toInt ≤ 1023) (b_tn_hours : 0 ≤ tn_hours.toInt ∧ tn_hours.toInt ≤ 48) (b_tn_courts : 0 ≤ tn_courts.toInt ∧ tn_courts.toInt ≤ 10) (b_tn_gateCount : 0 ≤ tn_gateCount.toInt ∧ tn_gateCount.toInt ≤ 16) (b_tn_people : 0 ≤ tn_people.toInt ∧ tn_people.toInt ≤ 10) (b_tn_falseHours : 0 ≤ tn_falseHours.toInt ∧ tn_falseHours.toInt ≤ 9) (b_tn_deep : 0 ≤ tn_deep.toInt ∧ tn_deep.toInt ≤ 1) (b_f_tn_oneEnd : ∀ j : Nat, 0 ≤ (f_tn_oneEnd j).toInt ∧ (f_tn_oneEnd j).toInt ≤ 9) (b_f_tn_otherEnd : ∀ j : Nat, 0 ≤ (f_tn_otherEnd j).toInt ∧ (f_tn_otherEnd j).toInt ≤ 9) (b_f_tn_told : ∀ j : Nat, 0 ≤ (f_tn_told j).toInt ∧ (f_tn_told j).toInt ≤ 9) (b_f_tn_strayParts : ∀ j : Nat, 0 ≤ (f_tn_strayParts j).toInt ∧ (f_tn_strayParts j).toInt ≤ 99) (b_f_tn_strayCourts : ∀ j : Nat, 0 ≤ (f_tn_strayCourts j).toInt ∧ (f_tn_strayCourts j).toInt ≤ 9) (sz : Nat) : Met l yX9_likely (.code yX9_likely cX9_likely 10 (some .int) :: zT) ({ frames := 3, cells := 0, slots := 0, locals := 72 }) (va_Pc [.ref h0, .int p1, .int p2, .int p3, .int p4] (zB sa dC dI (zV254 h0 tp h0_tapeLength h0_faultKind h0_faultPlace nw im sl rd wk fm mt ch dy nw nw_isKept tn nw_strayed nw_names nw_known nw_gone tn tn_hours tn_courts tn_gateCount tn_people tn_lines tn_falseHours tn_strayers tn_deep tn_above tn_doors tn_degrees tn_neighbours tn_shows tn_oneEnd tn_otherEnd tn_told tn_strayParts tn_strayCourts tn_above cA_tn_above f_tn_above tn_shows cA_tn_shows f_tn_shows tn_oneEnd cA_tn_oneEnd f_tn_oneEnd tn_otherEnd cA_tn_otherEnd f_tn_otherEnd tn_told cA_tn_told f_tn_told tn_strayParts cA_tn_strayParts f_tn_strayParts tn_strayCourts cA_tn_strayCourts f_tn_strayCourts) [(cA_tn_above, .int), (cA_tn_shows, .int), (cA_tn_oneEnd, .int), (cA_tn_otherEnd, .int), (cA_tn_told, .int), (cA_tn_strayParts, .int), (cA_tn_strayCourts, .int)] sz)) (va_Qi (fun (r : Int32) (_ : Unit) => ((-2) ≤ r.toInt ∧ r.toInt ≤ 199) ∧ r = (F_X9_likely p1 p2 p3 p4 nw_names nw_known nw_gone tn_hours tn_courts tn_gateCount tn_people tn_strayers f_tn_above f_tn_shows f_tn_oneEnd f_tn_otherEnd f_tn_told f_tn_strayParts f_tn_strayCourts)) (fun _ t => zW dC dI (zV254 h0 tp h0_tapeLength h0_faultKind h0_faultPlace nw im sl rd wk fm mt ch dy nw nw_isKept tn nw_strayed nw_names nw_known nw_gone tn tn_hours tn_courts tn_gateCount tn_people tn_lines tn_falseHours tn_strayers tn_deep tn_above tn_doors tn_degrees tn_neighbours tn_shows tn_oneEnd tn_otherEnd tn_told tn_strayParts tn_strayCourts tn_above cA_tn_above f_tn_above tn_shows cA_tn_shows f_tn_shows tn_oneEnd cA_tn_oneEnd f_tn_oneEnd tn_otherEnd cA_tn_otherEnd f_tn_otherEnd tn_told cA_tn_told f_tn_told tn_strayParts cA_tn_strayParts f_tn_strayParts tn_strayCourts cA_tn_strayCourts f_tn_strayCourts) [] (va_A (zV254 h0 tp h0_tapeLength h0_faultKind h0_faultPlace nw im sl rd wk fm mt ch dy nw nw_isKept tn nw_strayed nw_names nw_known nw_gone tn tn_hours tn_courts tn_gateCount tn_people tn_lines tn_falseHours tn_strayers tn_deep tn_above tn_doors tn_degrees tn_neighbours tn_shows tn_oneEnd tn_otherEnd tn_told tn_strayParts tn_strayCourts tn_above cA_tn_above f_tn_above tn_shows cA_tn_shows f_tn_shows tn_oneEnd cA_tn_oneEnd f_tn_oneEnd tn_otherEnd cA_tn_otherEnd f_tn_otherEnd tn_told cA_tn_told f_tn_told tn_strayParts cA_tn_strayParts f_tn_strayParts tn_strayCourts cA_tn_strayCourts f_tn_strayCourts) sz) t) (va_A (zV254 h0 tp h0_tapeLength h0_faultKind h0_faultPlace nw im sl rd wk fm mt ch dy nw nw_isKept tn nw_strayed nw_names nw_known nw_gone tn tn_hours tn_courts tn_gateCount tn_people tn_lines tn_falseHours tn_strayers tn_deep tn_above tn_doors tn_degrees tn_neighbours tn_shows tn_oneEnd tn_otherEnd tn_told tn_strayParts tn_strayCourts tn_above cA_tn_above f_tn_above tn_shows cA_tn_shows f_tn_shows tn_oneEnd cA_tn_oneEnd f_tn_oneEnd tn_otherEnd cA_tn_otherEnd f_tn_otherEnd tn_told cA_tn_told f_tn_told tn_strayParts cA_tn_strayParts f_tn_strayParts tn_strayCourts cA_tn_strayCourts f_tn_strayCourts) sz)) 0 0 (va_A (zV254 h0 tp h0_tapeLength h0_faultKind h0_faultPlace nw im sl rd wk fm mt ch dy nw nw_isKept tn nw_strayed nw_names nw_known nw_gone tn tn_hours tn_courts tn_gateCount tn_people tn_lines tn_falseHours tn_strayers tn_deep tn_above tn_doors tn_degrees tn_neighbours tn_shows tn_oneEnd tn_otherEnd tn_told tn_strayParts tn_strayCourts tn_above cA_tn_above f_tn_above tn_shows cA_tn_shows f_tn_shows tn_oneEnd cA_tn_oneEnd f_tn_oneEnd tn_otherEnd cA_tn_otherEnd f_tn_otherEnd tn_told cA_tn_told f_tn_told tn_strayParts cA_tn_strayParts f_tn_strayParts tn_strayCourts cA_tn_strayCourts f_tn_strayCourts) sz) := by
  refine z_enter (by decide) (by exact (Nat.le_of_ble_eq_true rfl)) ?_
  intro p e s m args below meth c ls A R Qc hargs hsz hQe hAe hRe hx hb hml hr hts hown hlocks hin hl hP hK hD hN hXs hA hS
  rw [hAe] at hQe
  have hown : s.vm.findClass RX9 = some m.cls := hown
  have hl : lv_has ls 10 [(0, .ref h0), (1, .int p1), (2, .int p2), (3, .int p3), (4, .int p4)] := hl
  obtain ⟨RR, hRR⟩ : ∃ z : Int32, z = (F_X9_likely p1 p2 p3 p4 nw_names nw_known nw_gone tn_hours tn_courts tn_gateCount tn_people tn_strayers f_tn_above f_tn_shows f_tn_oneEnd f_tn_otherEnd f_tn_told f_tn_strayParts f_tn_strayCourts) := ⟨_, rfl⟩
  have hF : RR = (F_X9_likely p1 p2 p3 p4 nw_names nw_known nw_gone tn_hours tn_courts tn_gateCount tn_people tn_strayers f_tn_above f_tn_shows f_tn_oneEnd f_tn_otherEnd f_tn_told f_tn_strayParts f_tn_strayCourts) := hRR
  refine lv_aload_n hx hb dX9_likely_0 rfl (lv_at hl 0 rfl) ?_
  refine va_get (D := (dC, dI)) (ci := 9) (v := .ref nw) (C := RX9) (T := TX9) (N := 13) hx hb hts zl_X9 hown hK hP 0 rfl rfl 4 (by decide) (hts _ zw_t2_193) (fun _ h9 => h9) rfl dX9_likely_1 ?_
  refine va_get (D := (dC, dI)) (ci := 3) (v := .ref tn) (C := RX3) (T := TX3) (N := 6) hx hb hts zl_X3 hown hK hP 1 rfl rfl 1 (by decide) (hts _ zw_t1_156) (fun _ h9 => h9) rfl dX9_likely_4 ?_
  refine lv_astore (lv' := [(5, .ref tn), (0, .ref h0), (1, .int p1), (2, .int p2), (3, .int p3), (4, .int p4)]) hx hb dX9_likely_7 hl (by decide) rfl (fun ls hl => ?_)
  refine lv_aload hx hb dX9_likely_9 (lv_at hl 0 rfl) ?_
  refine lv_iload_n hx hb dX9_likely_11 rfl (lv_at hl 2 rfl) ?_
  refine lv_iload_n hx hb dX9_likely_12 rfl (lv_at hl 3 rfl) ?_
  refine lv_iload_n hx hb dX9_likely_13 rfl (lv_at hl 4 rfl) ?_
  obtain ⟨hPc, hDc, hFc⟩ := z_cut (wc := (zV1 tn tn_hours tn_courts tn_gateCount tn_people tn_lines tn_falseHours tn_strayers tn_deep tn_above tn_doors tn_degrees tn_neighbours tn_shows tn_oneEnd tn_otherEnd tn_told tn_strayParts tn_strayCourts)) hP hD hS hA [2] rfl (by decide +kernel)
  have hKc := hK.sub (tys' := []) [] rfl
  refine va_calli (va_runV (As := [.int p1, .int p2, .int p3]) (rest := []) ⟨hx, hb, hml, hown, hts⟩ (kf_X7_hasPassage l sa dC dI tn p1 p2 p3 tn_hours tn_courts tn_gateCount tn_people tn_lines tn_falseHours tn_strayers tn_deep tn_above tn_doors tn_degrees tn_neighbours tn_shows tn_oneEnd tn_otherEnd tn_told tn_strayParts tn_strayCourts b_tn_hours b_tn_courts b_tn_gateCount b_tn_people b_tn_falseHours b_tn_deep s.heap.size) (cwV 3 hts (z_gV zw_t4_5 zw_t4_6 zw_t4_7 zw_t1_3 zw_t4_8) rfl rfl rfl (by decide +kernel) (by rw [← hRe]; exact ⟨(Nat.le_of_ble_eq_true rfl), (Nat.le_of_ble_eq_true rfl)⟩)) (z_preV hPc hKc hDc hN hXs hS hFc (q := (RX7, TX7, 18)) (ci := 7) (q0 := 0) rfl rfl) rfl rfl hl.1 rfl (lv_room (Nat.le_of_ble_eq_true rfl)) dX9_likely_14 (by rw [← hRe]; exact ⟨(Nat.le_of_ble_eq_true rfl), (Nat.le_of_ble_eq_true rfl)⟩)) hS (fun q _ h => hFc q h) hFc (fun r_1 u t H1 locs ht hvm hw hB hz1 hk1 hS => ?_)
  obtain ⟨hP, hD, hK⟩ := z_after3 (wn := [(h0, .inr (9, [.ref tp, .int h0_tapeLength, .int h0_faultKind, .int h0_faultPlace, .ref nw, .ref im, .ref sl, .ref rd, .ref wk, .ref fm, .ref mt, .ref ch, .ref dy])), (nw, .inr (3, [.int nw_isKept, .ref tn, .int nw_strayed, .int nw_names, .int nw_known, .int nw_gone])), (tn_above, .inl (cA_tn_above, 10, .inl f_tn_above)), (tn_shows, .inl (cA_tn_shows, 10, .inl f_tn_shows)), (tn_oneEnd, .inl (cA_tn_oneEnd, 16, .inl f_tn_oneEnd)), (tn_otherEnd, .inl (cA_tn_otherEnd, 16, .inl f_tn_otherEnd)), (tn_told, .inl (cA_tn_told, 480, .inl f_tn_told)), (tn_strayParts, .inl (cA_tn_strayParts, 10, .inl f_tn_strayParts)), (tn_strayCourts, .inl (cA_tn_strayCourts, 10, .inl f_tn_strayCourts)), (tn, .inr (7, [.int tn_hours, .int tn_courts, .int tn_gateCount, .int tn_people, .int tn_lines, .int tn_falseHours, .int tn_strayers, .int tn_deep, .ref tn_above, .ref tn_doors, .ref tn_degrees, .ref tn_neighbours, .ref tn_shows, .ref tn_oneEnd, .ref tn_otherEnd, .ref tn_told, .ref tn_strayParts, .ref tn_strayCourts]))]) hB ht hvm hP hD hK [2] [0, 1, 3, 4, 5, 6, 7, 8, 9] rfl 10 rfl (by decide +kernel) rfl (by decide +kernel) hk1 hFc
  generalize H1 = H at hP hS ⊢
  have hK : va_K (dC, dI) vwCl [(cA_tn_above, .int), (cA_tn_shows, .int), (cA_tn_oneEnd, .int), (cA_tn_otherEnd, .int), (cA_tn_told, .int), (cA_tn_strayParts, .int), (cA_tn_strayCourts, .int)] s := hK
  have b_r_1 : 0 ≤ r_1.toInt ∧ r_1.toInt ≤ 1 := hw.1
  have s_r_1 := hw.2.1
  have sf_r_1 := hw.2.2
  replace hF := hF.trans (zL_eq sf_r_1)
  refine lv_if_eq (tgt := 31) hx hb dX9_likely_17 (by decide) (fun c_2 => ?_) (fun c_2 => ?_)
  · have ic_2 := zz_eq rfl (show Int32.toInt 0 = 0 from by decide) c_2
    replace hF := hF.trans (if_pos c_2)
    refine lv_bipush (v := (-2)) hx hb dX9_likely_31 (by decide) ?_
    have hF : RR = (-2 : Int32) := hF
    have zc : Int32.toInt (-2) = (-2) := by decide
    exact W.iret (v := (-2)) hx hb hr (fun t ht hW => by rw [← hQe]; exact ⟨⟨(-2), (), rfl, ⟨by decide, (by rw [← hRR, hF])⟩, z_ret hP hK hD ht hW [0, 1, 9, 2, 3, 4, 5, 6, 7, 8] [] rfl (by decide) rfl⟩, hS.F ht⟩) hS.2.2 dX9_likely_33
  · have ic_2 := zz_neq rfl (show Int32.toInt 0 = 0 from by decide) c_2
    replace hF := hF.trans (if_neg c_2)
    refine lv_iload hx hb dX9_likely_20 (lv_at hl 5 rfl) ?_
    have nb_p4 := zi_nb p4
    refine lv_if_lt (tgt := 31) hx hb dX9_likely_22 (by decide) (fun c_3 => ?_) (fun c_3 => ?_)
    · have ic_3 := zz_lt rfl (show Int32.toInt 0 = 0 from by decide) c_3
      replace hF := hF.trans (if_pos c_3)
      refine lv_bipush (v := (-2)) hx hb dX9_likely_31 (by decide) ?_
      have hF : RR = (-2 : Int32) := hF
      have zc : Int32.toInt (-2) = (-2) := by decide
      exact W.iret (v := (-2)) hx hb hr (fun t ht hW => by rw [← hQe]; exact ⟨⟨(-2), (), rfl, ⟨by decide, (by rw [← hRR, hF])⟩, z_ret hP hK hD ht hW [0, 1, 9, 2, 3, 4, 5, 6, 7, 8] [] rfl (by decide) rfl⟩, hS.F ht⟩) hS.2.2 dX9_likely_33
    · have ic_3 := zz_nlt rfl (show Int32.toInt 0 = 0 from by decide) c_3
      replace hF := hF.trans (if_neg c_3)
      refine lv_iload hx hb dX9_likely_25 (lv_at hl 5 rfl) ?_
      refine lv_iconst (v := 1) hx hb dX9_likely_27 (by decide) ?_
      refine lv_icmp_le (tgt := 34) hx hb dX9_likely_28 (by decide) (fun c_4 => ?_) (fun c_4 => ?_)
      · have ic_4 := zz_le rfl (show Int32.toInt 1 = 1 from by decide) c_4
        replace hF := hF.trans (if_pos c_4)
        refine lv_aload hx hb dX9_likely_34 (lv_at hl 0 rfl) ?_
        refine lv_iload_n hx hb dX9_likely_36 rfl (lv_at hl 2 rfl) ?_
        refine lv_iload_n hx hb dX9_likely_37 rfl (lv_at hl 3 rfl) ?_
        obtain ⟨hPc, hDc, hFc⟩ := z_cut (wc := (zV4 tn tn_hours tn_courts tn_gateCount tn_people tn_lines tn_falseHours tn_strayers tn_deep tn_above tn_doors tn_degrees tn_neighbours tn_shows tn_oneEnd tn_otherEnd tn_told tn_strayParts tn_strayCourts tn_oneEnd cA_tn_oneEnd f_tn_oneEnd tn_otherEnd cA_tn_otherEnd f_tn_otherEnd)) hP hD hS hA [9, 4, 5] rfl (by decide +kernel)
        have hKc := hK.sub (tys' := [(cA_tn_oneEnd, .int), (cA_tn_otherEnd, .int)]) [2, 3] rfl
        refine va_calli (va_runV (As := [.int p1, .int p2]) (rest := []) ⟨hx, hb, hml, hown, hts⟩ (kf_X7_beyond l sa dC dI tn p1 p2 tn_hours tn_courts tn_gateCount tn_people tn_lines tn_falseHours tn_strayers tn_deep tn_above tn_doors tn_degrees tn_neighbours tn_shows tn_oneEnd tn_otherEnd tn_told tn_strayParts tn_strayCourts cA_tn_oneEnd f_tn_oneEnd cA_tn_otherEnd f_tn_otherEnd (by first | with_reducible assumption | omega) b_tn_hours b_tn_courts b_tn_gateCount b_tn_people b_tn_falseHours b_tn_deep b_f_tn_oneEnd b_f_tn_otherEnd H.size) (cwV 2 hts (z_gV zw_t3_237 zw_t3_238 zw_t3_239 zw_t1_3 zw_t4_0) rfl rfl rfl (by decide +kernel) (by rw [← hRe]; exact ⟨(Nat.le_of_ble_eq_true rfl), (Nat.le_of_ble_eq_true rfl)⟩)) (z_preV hPc hKc hDc hN hXs hS hFc (q := (RX7, TX7, 18)) (ci := 7) (q0 := 0) rfl rfl) rfl rfl hl.1 rfl (lv_room (Nat.le_of_ble_eq_true rfl)) dX9_likely_38 (by rw [← hRe]; exact ⟨(Nat.le_of_ble_eq_true rfl), (Nat.le_of_ble_eq_true rfl)⟩)) hS (fun q _ h => hFc q h) hFc (fun r_5 u t H1 locs ht hvm hw hB hz1 hk1 hS => ?_)
        obtain ⟨hP, hD, hK⟩ := z_after3 (wn := [(h0, .inr (9, [.ref tp, .int h0_tapeLength, .int h0_faultKind, .int h0_faultPlace, .ref nw, .ref im, .ref sl, .ref rd, .ref wk, .ref fm, .ref mt, .ref ch, .ref dy])), (nw, .inr (3, [.int nw_isKept, .ref tn, .int nw_strayed, .int nw_names, .int nw_known, .int nw_gone])), (tn_above, .inl (cA_tn_above, 10, .inl f_tn_above)), (tn_shows, .inl (cA_tn_shows, 10, .inl f_tn_shows)), (tn_told, .inl (cA_tn_told, 480, .inl f_tn_told)), (tn_strayParts, .inl (cA_tn_strayParts, 10, .inl f_tn_strayParts)), (tn_strayCourts, .inl (cA_tn_strayCourts, 10, .inl f_tn_strayCourts)), (tn, .inr (7, [.int tn_hours, .int tn_courts, .int tn_gateCount, .int tn_people, .int tn_lines, .int tn_falseHours, .int tn_strayers, .int tn_deep, .ref tn_above, .ref tn_doors, .ref tn_degrees, .ref tn_neighbours, .ref tn_shows, .ref tn_oneEnd, .ref tn_otherEnd, .ref tn_told, .ref tn_strayParts, .ref tn_strayCourts])), (tn_oneEnd, .inl (cA_tn_oneEnd, 16, .inl f_tn_oneEnd)), (tn_otherEnd, .inl (cA_tn_otherEnd, 16, .inl f_tn_otherEnd))]) hB ht hvm hP hD hK [9, 4, 5] [0, 1, 2, 3, 6, 7, 8] rfl 10 rfl (by decide +kernel) rfl (by decide +kernel) hk1 hFc
        generalize H1 = H at hP hS ⊢
        have hK : va_K (dC, dI) vwCl [(cA_tn_above, .int), (cA_tn_shows, .int), (cA_tn_oneEnd, .int), (cA_tn_otherEnd, .int), (cA_tn_told, .int), (cA_tn_strayParts, .int), (cA_tn_strayCourts, .int)] s := hK
        have b_r_5 : (-1) ≤ r_5.toInt ∧ r_5.toInt ≤ 9 := hw.1
        have s_r_5 := hw.2.1
        have sf_r_5 := hw.2.2
        replace hF := hF.trans (zL_eq sf_r_5)
        refine lv_istore (lv' := [(6, .int r_5), (5, .ref tn), (0, .ref h0), (1, .int p1), (2, .int p2), (3, .int p3), (4, .int p4)]) hx hb dX9_likely_41 hl (by decide) rfl (fun ls hl => ?_)
        refine lv_iload hx hb dX9_likely_43 (lv_at hl 0 rfl) ?_
        refine lv_iconst (v := (-1)) hx hb dX9_likely_45 (by decide) ?_
        refine lv_icmp_eq (tgt := 60) hx hb dX9_likely_46 (by decide) (fun c_6 => ?_) (fun c_6 => ?_)
        · have ic_6 := zz_eq rfl (show Int32.toInt (-1) = (-1) from by decide) c_6
          replace hF := hF.trans (if_pos c_6)
          refine lv_iconst (v := (-1)) hx hb dX9_likely_60 (by decide) ?_
          have hF : RR = (-1 : Int32) := hF
          have zc : Int32.toInt (-1) = (-1) := by decide
          exact W.iret (v := (-1)) hx hb hr (fun t ht hW => by rw [← hQe]; exact ⟨⟨(-1), (), rfl, ⟨by decide, (by rw [← hRR, hF])⟩, z_ret hP hK hD ht hW [0, 1, 7, 2, 3, 8, 9, 4, 5, 6] [] rfl (by decide) rfl⟩, hS.F ht⟩) hS.2.2 dX9_likely_61
        · have ic_6 := zz_neq rfl (show Int32.toInt (-1) = (-1) from by decide) c_6
          replace hF := hF.trans (if_neg c_6)
          refine lv_aload hx hb dX9_likely_49 (lv_at hl 1 rfl) ?_
          refine lv_iload_n hx hb dX9_likely_51 rfl (lv_at hl 4 rfl) ?_
          refine lv_iload hx hb dX9_likely_52 (lv_at hl 0 rfl) ?_
          obtain ⟨hPc, hDc, hFc⟩ := z_cut (wc := (zV5 tn tn_hours tn_courts tn_gateCount tn_people tn_lines tn_falseHours tn_strayers tn_deep tn_above tn_doors tn_degrees tn_neighbours tn_shows tn_oneEnd tn_otherEnd tn_told tn_strayParts tn_strayCourts tn_above cA_tn_above f_tn_above)) hP hD hS hA [7, 2] rfl (by decide +kernel)
          have hKc := hK.sub (tys' := [(cA_tn_above, .int)]) [0] rfl
          refine va_calli (va_runV (As := [.int p2, .int r_5]) (rest := []) ⟨hx, hb, hml, hown, hts⟩ (kf_X7_isFree l sa dC dI tn p2 r_5 tn_hours tn_courts tn_gateCount tn_people tn_lines tn_falseHours tn_strayers tn_deep tn_above tn_doors tn_degrees tn_neighbours tn_shows tn_oneEnd tn_otherEnd tn_told tn_strayParts tn_strayCourts cA_tn_above f_tn_above (by first | with_reducible assumption | omega) b_tn_hours b_tn_courts b_tn_gateCount b_tn_people b_tn_falseHours b_tn_deep H.size) (cwV 2 hts (z_gV zw_t3_225 zw_t3_226 zw_t3_227 zw_t1_3 zw_t3_228) rfl rfl rfl (by decide +kernel) (by rw [← hRe]; exact ⟨(Nat.le_of_ble_eq_true rfl), (Nat.le_of_ble_eq_true rfl)⟩)) (z_preV hPc hKc hDc hN hXs hS hFc (q := (RX7, TX7, 18)) (ci := 7) (q0 := 0) rfl rfl) rfl rfl hl.1 rfl (lv_room (Nat.le_of_ble_eq_true rfl)) dX9_likely_54 (by rw [← hRe]; exact ⟨(Nat.le_of_ble_eq_true rfl), (Nat.le_of_ble_eq_true rfl)⟩)) hS (fun q _ h => hFc q h) hFc (fun r_7 u t H1 locs ht hvm hw hB hz1 hk1 hS => ?_)
          obtain ⟨hP, hD, hK⟩ := z_after3 (wn := (zV255 h0 tp h0_tapeLength h0_faultKind h0_faultPlace nw im sl rd wk fm mt ch dy nw nw_isKept tn nw_strayed nw_names nw_known nw_gone tn_shows cA_tn_shows f_tn_shows tn_told cA_tn_told f_tn_told tn_strayParts cA_tn_strayParts f_tn_strayParts tn_strayCourts cA_tn_strayCourts f_tn_strayCourts tn_oneEnd cA_tn_oneEnd f_tn_oneEnd tn_otherEnd cA_tn_otherEnd f_tn_otherEnd tn tn_hours tn_courts tn_gateCount tn_people tn_lines tn_falseHours tn_strayers tn_deep tn_above tn_doors tn_degrees tn_neighbours tn_shows tn_oneEnd tn_otherEnd tn_told tn_strayParts tn_strayCourts tn_above cA_tn_above f_tn_above)) hB ht hvm hP hD hK [7, 2] [0, 1, 3, 4, 5, 6, 8, 9] rfl 10 rfl (by decide +kernel) rfl (by decide +kernel) hk1 hFc
          generalize H1 = H at hP hS ⊢
          have hK : va_K (dC, dI) vwCl [(cA_tn_above, .int), (cA_tn_shows, .int), (cA_tn_oneEnd, .int), (cA_tn_otherEnd, .int), (cA_tn_told, .int), (cA_tn_strayParts, .int), (cA_tn_strayCourts, .int)] s := hK
          have b_r_7 : 0 ≤ r_7.toInt ∧ r_7.toInt ≤ 1 := hw.1
          have sf_r_7 := hw.2
          replace hF := hF.trans (zL_eq sf_r_7)
          refine lv_if_eq (tgt := 62) hx hb dX9_likely_57 (by decide) (fun c_8 => ?_) (fun c_8 => ?_)
          · have ic_8 := zz_eq rfl (show Int32.toInt 0 = 0 from by decide) c_8
            replace hF := hF.trans (if_pos c_8)
            refine lv_iconst (v := (-1)) hx hb dX9_likely_62 (by decide) ?_
            refine lv_istore (lv' := [(7, .int (-1)), (6, .int r_5), (5, .ref tn), (0, .ref h0), (1, .int p1), (2, .int p2), (3, .int p3), (4, .int p4)]) hx hb dX9_likely_63 hl (by decide) rfl (fun ls hl => ?_)
            refine lv_iconst (v := (-1)) hx hb dX9_likely_65 (by decide) ?_
            refine lv_istore (lv' := [(8, .int (-1)), (7, .int (-1)), (6, .int r_5), (5, .ref tn), (0, .ref h0), (1, .int p1), (2, .int p2), (3, .int p3), (4, .int p4)]) hx hb dX9_likely_66 hl (by decide) rfl (fun ls hl => ?_)
            refine lv_iconst (v := 0) hx hb dX9_likely_68 (by decide) ?_
            refine lv_istore (lv' := [(9, .int 0), (8, .int (-1)), (7, .int (-1)), (6, .int r_5), (5, .ref tn), (0, .ref h0), (1, .int p1), (2, .int p2), (3, .int p3), (4, .int p4)]) hx hb dX9_likely_69 hl (by decide) rfl (fun ls hl => ?_)
            have loop_1 : ∀ (t_1 : Nat) (v7_10 : Int32) (v8_11 : Int32) (v9_9 : Int32) (b_v7_10 : (-1) ≤ v7_10.toInt ∧ v7_10.toInt ≤ 199) (b_v8_11 : (-1) ≤ v8_11.toInt ∧ v8_11.toInt ≤ 9) (b_v9_9 : 0 ≤ v9_9.toInt ∧ v9_9.toInt ≤ 10) (H : Heap) (locs : List Loc) (ls : Array Slot), 10 - v9_9.toInt < (t_1 : Int) → RR = L_X9_likely_1 tn_people nw_names r_5 p3 nw_known nw_gone tn_strayers f_tn_shows f_tn_told f_tn_strayParts f_tn_strayCourts (K_X9_likely_1_0 p4) t_1 v7_10 v8_11 v9_9 → va_P (dC, dI) vwCl (zV255 h0 tp h0_tapeLength h0_faultKind h0_faultPlace nw im sl rd wk fm mt ch dy nw nw_isKept tn nw_strayed nw_names nw_known nw_gone tn_shows cA_tn_shows f_tn_shows tn_told cA_tn_told f_tn_told tn_strayParts cA_tn_strayParts f_tn_strayParts tn_strayCourts cA_tn_strayCourts f_tn_strayCourts tn_oneEnd cA_tn_oneEnd f_tn_oneEnd tn_otherEnd cA_tn_otherEnd f_tn_otherEnd tn tn_hours tn_courts tn_gateCount tn_people tn_lines tn_falseHours tn_strayers tn_deep tn_above tn_doors tn_degrees tn_neighbours tn_shows tn_oneEnd tn_otherEnd tn_told tn_strayParts tn_strayCourts tn_above cA_tn_above f_tn_above) H → va_D A (zV255 h0 tp h0_tapeLength h0_faultKind h0_faultPlace nw im sl rd wk fm mt ch dy nw nw_isKept tn nw_strayed nw_names nw_known nw_gone tn_shows cA_tn_shows f_tn_shows tn_told cA_tn_told f_tn_told tn_strayParts cA_tn_strayParts f_tn_strayParts tn_strayCourts cA_tn_strayCourts f_tn_strayCourts tn_oneEnd cA_tn_oneEnd f_tn_oneEnd tn_otherEnd cA_tn_otherEnd f_tn_otherEnd tn tn_hours tn_courts tn_gateCount tn_people tn_lines tn_falseHours tn_strayers tn_deep tn_above tn_doors tn_degrees tn_neighbours tn_shows tn_oneEnd tn_otherEnd tn_told tn_strayParts tn_strayCourts tn_above cA_tn_above f_tn_above) → va_S A s.heap H locs → lv_has ls 10 [(0, .ref h0), (1, .int p1), (2, .int p2), (3, .int p3), (4, .int p4), (5, .ref tn), (6, .int r_5), (7, .int v7_10), (8, .int v8_11), (9, .int v9_9)] → W p l e R s m args below meth c H locs 0 0 (MQ below Qc args s 0 0 A) (F0 m 71 ls []) := by
              intro t_1
              induction t_1 with
              | zero => intro v7_10 v8_11 v9_9 b_v7_10 b_v8_11 b_v9_9 H locs ls hmu _ _ _ _ _; exact absurd hmu (by first | with_reducible assumption | omega)
              | succ t_1 ih_1 =>
                intro v7_10 v8_11 v9_9 b_v7_10 b_v8_11 b_v9_9 H locs ls hmu hF hP hD hS hl
                replace hF := hF.trans L_X9_likely_1_s
                refine lv_iload hx hb dX9_likely_71 (lv_at hl 9 rfl) ?_
                refine lv_aload hx hb dX9_likely_73 (lv_at hl 5 rfl) ?_
                refine va_get (D := (dC, dI)) (ci := 7) (v := .int tn_people) (C := RX7) (T := TX7) (N := 18) hx hb hts zl_X7 hown hK hP 8 rfl rfl 3 (by decide) (hts _ zw_t1_65) (fun _ h9 => h9) rfl dX9_likely_75 ?_
                refine lv_icmp_ge (tgt := 137) hx hb dX9_likely_78 (by decide) (fun c_12 => ?_) (fun c_12 => ?_)
                · have ic_12 := zz_ge rfl rfl c_12
                  replace hF := hF.trans (if_pos c_12)
                  refine lv_iload hx hb dX9_likely_137 (lv_at hl 4 rfl) ?_
                  refine lv_if_ne (tgt := 147) hx hb dX9_likely_139 (by decide) (fun c_13 => ?_) (fun c_13 => ?_)
                  · have ic_13 := zz_ne rfl (show Int32.toInt 0 = 0 from by decide) c_13
                    replace hF := hF.trans (if_neg c_13)
                    refine lv_iload hx hb dX9_likely_147 (lv_at hl 7 rfl) ?_
                    have hF : RR = v7_10 := hF
                    exact W.iret (v := v7_10) hx hb hr (fun t ht hW => by rw [← hQe]; exact ⟨⟨v7_10, (), rfl, ⟨by omega, (by rw [← hRR, hF])⟩, z_ret hP hK hD ht hW [0, 1, 8, 9, 2, 6, 7, 3, 4, 5] [] rfl (by decide) rfl⟩, hS.F ht⟩) hS.2.2 dX9_likely_149
                  · have ic_13 := zz_nne rfl (show Int32.toInt 0 = 0 from by decide) c_13
                    replace hF := hF.trans (if_pos c_13)
                    refine lv_iload hx hb dX9_likely_142 (lv_at hl 8 rfl) ?_
                    refine lv_goto (tgt := 149) hx hb dX9_likely_144 (by decide) ?_
                    have hF : RR = v8_11 := hF
                    exact W.iret (v := v8_11) hx hb hr (fun t ht hW => by rw [← hQe]; exact ⟨⟨v8_11, (), rfl, ⟨by omega, (by rw [← hRR, hF])⟩, z_ret hP hK hD ht hW [0, 1, 8, 9, 2, 6, 7, 3, 4, 5] [] rfl (by decide) rfl⟩, hS.F ht⟩) hS.2.2 dX9_likely_149
                · have ic_12 := zz_nge rfl rfl c_12
                  replace hF := hF.trans (if_neg c_12)
                  refine lv_aload_n hx hb dX9_likely_81 rfl (lv_at hl 0 rfl) ?_
                  refine va_get (D := (dC, dI)) (ci := 9) (v := .ref nw) (C := RX9) (T := TX9) (N := 13) hx hb hts zl_X9 hown hK hP 0 rfl rfl 4 (by decide) (hts _ zw_t2_193) (fun _ h9 => h9) rfl dX9_likely_82 ?_
                  refine va_get (D := (dC, dI)) (ci := 3) (v := .int nw_names) (C := RX3) (T := TX3) (N := 6) hx hb hts zl_X3 hown hK hP 1 rfl rfl 3 (by decide) (hts _ zw_t1_163) (fun _ h9 => h9) rfl dX9_likely_85 ?_
                  refine lv_iload hx hb dX9_likely_88 (lv_at hl 9 rfl) ?_
                  obtain ⟨hPc, hDc, hFc⟩ := z_cut (wc := []) hP hD hS hA [] rfl (by decide +kernel)
                  have hKc := hK.sub (tys' := []) [] rfl
                  refine va_calli (va_runS (As := [.int nw_names, .int v9_9]) (rest := []) ⟨hx, hb, hml, hown, hts⟩ (kf_X9_has l sa dC dI nw_names v9_9 H.size) (va_cwS 2 hts (z_gS zw_t4_12 zw_t3_123 zw_t1_1 zw_t3_124) rfl rfl rfl (by decide +kernel) (by rw [← hRe]; exact ⟨(Nat.le_of_ble_eq_true rfl), (Nat.le_of_ble_eq_true rfl)⟩)) (z_preS hPc hKc hDc hN hXs hS hFc) rfl rfl hl.1 rfl (lv_room (Nat.le_of_ble_eq_true rfl)) dX9_likely_90 (by rw [← hRe]; exact ⟨(Nat.le_of_ble_eq_true rfl), (Nat.le_of_ble_eq_true rfl)⟩)) hS (fun q _ h => hFc q h) hFc (fun r_14 u t H1 locs ht hvm hw hB hz1 hk1 hS => ?_)
                  obtain ⟨hP, hD, hK⟩ := z_after3 (wn := (zV255 h0 tp h0_tapeLength h0_faultKind h0_faultPlace nw im sl rd wk fm mt ch dy nw nw_isKept tn nw_strayed nw_names nw_known nw_gone tn_shows cA_tn_shows f_tn_shows tn_told cA_tn_told f_tn_told tn_strayParts cA_tn_strayParts f_tn_strayParts tn_strayCourts cA_tn_strayCourts f_tn_strayCourts tn_oneEnd cA_tn_oneEnd f_tn_oneEnd tn_otherEnd cA_tn_otherEnd f_tn_otherEnd tn tn_hours tn_courts tn_gateCount tn_people tn_lines tn_falseHours tn_strayers tn_deep tn_above tn_doors tn_degrees tn_neighbours tn_shows tn_oneEnd tn_otherEnd tn_told tn_strayParts tn_strayCourts tn_above cA_tn_above f_tn_above)) hB ht hvm hP hD hK [] [0, 1, 2, 3, 4, 5, 6, 7, 8, 9] rfl 10 rfl (by decide +kernel) rfl (by decide +kernel) hk1 hFc
                  generalize H1 = H at hP hS ⊢
                  have hK : va_K (dC, dI) vwCl [(cA_tn_above, .int), (cA_tn_shows, .int), (cA_tn_oneEnd, .int), (cA_tn_otherEnd, .int), (cA_tn_told, .int), (cA_tn_strayParts, .int), (cA_tn_strayCourts, .int)] s := hK
                  have b_r_14 : 0 ≤ r_14.toInt ∧ r_14.toInt ≤ 1 := hw.1
                  have s_r_14 := hw.2.1
                  have sf_r_14 := hw.2.2
                  replace hF := hF.trans (zL_eq sf_r_14)
                  refine lv_if_eq (tgt := 131) hx hb dX9_likely_93 (by decide) (fun c_15 => ?_) (fun c_15 => ?_)
                  · have ic_15 := zz_eq rfl (show Int32.toInt 0 = 0 from by decide) c_15
                    replace hF := hF.trans (if_pos c_15)
                    obtain ⟨x_16, ex_16⟩ : ∃ z : Int32, z = v9_9 + Int32.ofInt 1 := ⟨_, rfl⟩
                    have b_x_16 : x_16.toInt = v9_9.toInt + 1 := by rw [ex_16]; exact zi_add rfl (show (Int32.ofInt 1).toInt = 1 from by decide) (z_rac b_v9_9 (by decide))
                    refine lv_iinc (v := x_16) (lv' := [(9, .int x_16), (0, .ref h0), (1, .int p1), (2, .int p2), (3, .int p3), (4, .int p4), (5, .ref tn), (6, .int r_5), (7, .int v7_10), (8, .int v8_11)]) hx hb dX9_likely_131 hl (k := 9) rfl ex_16.symm (by decide) rfl (fun ls hl => ?_)
                    replace hF := hF.trans (zL_eq ex_16)
                    refine lv_goto (tgt := 71) hx hb dX9_likely_134 (by decide) ?_
                    exact ih_1 v7_10 v8_11 x_16 (by first | with_reducible assumption | omega) (by first | with_reducible assumption | omega) (by first | with_reducible assumption | omega) _ _ _ (by first | with_reducible assumption | omega) hF (hP.sub (ws' := (zV255 h0 tp h0_tapeLength h0_faultKind h0_faultPlace nw im sl rd wk fm mt ch dy nw nw_isKept tn nw_strayed nw_names nw_known nw_gone tn_shows cA_tn_shows f_tn_shows tn_told cA_tn_told f_tn_told tn_strayParts cA_tn_strayParts f_tn_strayParts tn_strayCourts cA_tn_strayCourts f_tn_strayCourts tn_oneEnd cA_tn_oneEnd f_tn_oneEnd tn_otherEnd cA_tn_otherEnd f_tn_otherEnd tn tn_hours tn_courts tn_gateCount tn_people tn_lines tn_falseHours tn_strayers tn_deep tn_above tn_doors tn_degrees tn_neighbours tn_shows tn_oneEnd tn_otherEnd tn_told tn_strayParts tn_strayCourts tn_above cA_tn_above f_tn_above)) [0, 1, 2, 3, 4, 5, 6, 7, 8, 9] rfl) (hD.sub (ws' := (zV255 h0 tp h0_tapeLength h0_faultKind h0_faultPlace nw im sl rd wk fm mt ch dy nw nw_isKept tn nw_strayed nw_names nw_known nw_gone tn_shows cA_tn_shows f_tn_shows tn_told cA_tn_told f_tn_told tn_strayParts cA_tn_strayParts f_tn_strayParts tn_strayCourts cA_tn_strayCourts f_tn_strayCourts tn_oneEnd cA_tn_oneEnd f_tn_oneEnd tn_otherEnd cA_tn_otherEnd f_tn_otherEnd tn tn_hours tn_courts tn_gateCount tn_people tn_lines tn_falseHours tn_strayers tn_deep tn_above tn_doors tn_degrees tn_neighbours tn_shows tn_oneEnd tn_otherEnd tn_told tn_strayParts tn_strayCourts tn_above cA_tn_above f_tn_above)) [0, 1, 2, 3, 4, 5, 6, 7, 8, 9] (by decide) rfl) hS (lv_sub hl [1, 2, 3, 4, 5, 6, 7, 8, 9, 0] rfl)
                  · have ic_15 := zz_neq rfl (show Int32.toInt 0 = 0 from by decide) c_15
                    replace hF := hF.trans (if_neg c_15)
                    refine lv_aload_n hx hb dX9_likely_96 rfl (lv_at hl 0 rfl) ?_
                    refine va_get (D := (dC, dI)) (ci := 9) (v := .ref nw) (C := RX9) (T := TX9) (N := 13) hx hb hts zl_X9 hown hK hP 0 rfl rfl 4 (by decide) (hts _ zw_t2_193) (fun _ h9 => h9) rfl dX9_likely_97 ?_
                    refine lv_iload hx hb dX9_likely_100 (lv_at hl 9 rfl) ?_
                    refine lv_iload hx hb dX9_likely_102 (lv_at hl 6 rfl) ?_
                    refine lv_iload_n hx hb dX9_likely_104 rfl (lv_at hl 3 rfl) ?_
                    obtain ⟨hPc, hDc, hFc⟩ := z_cut (wc := (zV244 nw nw_isKept tn nw_strayed nw_names nw_known nw_gone tn tn_hours tn_courts tn_gateCount tn_people tn_lines tn_falseHours tn_strayers tn_deep tn_above tn_doors tn_degrees tn_neighbours tn_shows tn_oneEnd tn_otherEnd tn_told tn_strayParts tn_strayCourts tn_shows cA_tn_shows f_tn_shows tn_told cA_tn_told f_tn_told tn_strayParts cA_tn_strayParts f_tn_strayParts tn_strayCourts cA_tn_strayCourts f_tn_strayCourts)) hP hD hS hA [1, 8, 2, 3, 4, 5] rfl (by decide +kernel)
                    have hKc := hK.sub (tys' := [(cA_tn_shows, .int), (cA_tn_told, .int), (cA_tn_strayParts, .int), (cA_tn_strayCourts, .int)]) [1, 4, 5, 6] rfl
                    refine va_calli (va_runV (As := [.int v9_9, .int r_5, .int p3]) (rest := []) ⟨hx, hb, hml, hown, hts⟩ (kf_X3_thought l sa dC dI nw v9_9 r_5 p3 nw_isKept tn nw_strayed nw_names nw_known nw_gone tn_hours tn_courts tn_gateCount tn_people tn_lines tn_falseHours tn_strayers tn_deep tn_above tn_doors tn_degrees tn_neighbours tn_shows tn_oneEnd tn_otherEnd tn_told tn_strayParts tn_strayCourts cA_tn_shows f_tn_shows cA_tn_told f_tn_told cA_tn_strayParts f_tn_strayParts cA_tn_strayCourts f_tn_strayCourts (by first | with_reducible assumption | omega) (by first | with_reducible assumption | omega) b_nw_isKept b_nw_names b_tn_hours b_tn_courts b_tn_gateCount b_tn_people b_tn_falseHours b_tn_deep b_f_tn_told b_f_tn_strayParts b_f_tn_strayCourts H.size) (cwV 3 hts (z_gV zw_t5_142 zw_t5_143 zw_t5_144 zw_t1_2 zw_t5_145) rfl rfl rfl (by decide +kernel) (by rw [← hRe]; exact ⟨(Nat.le_of_ble_eq_true rfl), (Nat.le_of_ble_eq_true rfl)⟩)) (z_preV hPc hKc hDc hN hXs hS hFc (q := (RX3, TX3, 6)) (ci := 3) (q0 := 0) rfl rfl) rfl rfl hl.1 rfl (lv_room (Nat.le_of_ble_eq_true rfl)) dX9_likely_105 (by rw [← hRe]; exact ⟨(Nat.le_of_ble_eq_true rfl), (Nat.le_of_ble_eq_true rfl)⟩)) hS (fun q _ h => hFc q h) hFc (fun r_17 u t H1 locs ht hvm hw hB hz1 hk1 hS => ?_)
                    obtain ⟨hP, hD, hK⟩ := z_after3 (wn := [(h0, .inr (9, [.ref tp, .int h0_tapeLength, .int h0_faultKind, .int h0_faultPlace, .ref nw, .ref im, .ref sl, .ref rd, .ref wk, .ref fm, .ref mt, .ref ch, .ref dy])), (tn_oneEnd, .inl (cA_tn_oneEnd, 16, .inl f_tn_oneEnd)), (tn_otherEnd, .inl (cA_tn_otherEnd, 16, .inl f_tn_otherEnd)), (tn_above, .inl (cA_tn_above, 10, .inl f_tn_above)), (nw, .inr (3, [.int nw_isKept, .ref tn, .int nw_strayed, .int nw_names, .int nw_known, .int nw_gone])), (tn, .inr (7, [.int tn_hours, .int tn_courts, .int tn_gateCount, .int tn_people, .int tn_lines, .int tn_falseHours, .int tn_strayers, .int tn_deep, .ref tn_above, .ref tn_doors, .ref tn_degrees, .ref tn_neighbours, .ref tn_shows, .ref tn_oneEnd, .ref tn_otherEnd, .ref tn_told, .ref tn_strayParts, .ref tn_strayCourts])), (tn_shows, .inl (cA_tn_shows, 10, .inl f_tn_shows)), (tn_told, .inl (cA_tn_told, 480, .inl f_tn_told)), (tn_strayParts, .inl (cA_tn_strayParts, 10, .inl f_tn_strayParts)), (tn_strayCourts, .inl (cA_tn_strayCourts, 10, .inl f_tn_strayCourts))]) hB ht hvm hP hD hK [1, 8, 2, 3, 4, 5] [0, 6, 7, 9] rfl 10 rfl (by decide +kernel) rfl (by decide +kernel) hk1 hFc
                    generalize H1 = H at hP hS ⊢
                    have hK : va_K (dC, dI) vwCl [(cA_tn_above, .int), (cA_tn_shows, .int), (cA_tn_oneEnd, .int), (cA_tn_otherEnd, .int), (cA_tn_told, .int), (cA_tn_strayParts, .int), (cA_tn_strayCourts, .int)] s := hK
                    have b_r_17 : 0 ≤ r_17.toInt ∧ r_17.toInt ≤ 199 := hw.1
                    have sf_r_17 := hw.2
                    replace hF := hF.trans (zL_eq sf_r_17)
                    refine lv_iload hx hb dX9_likely_108 (lv_at hl 7 rfl) ?_
                    refine lv_icmp_le (tgt := 131) hx hb dX9_likely_110 (by decide) (fun c_18 => ?_) (fun c_18 => ?_)
                    · have ic_18 := zz_le rfl rfl c_18
                      replace hF := hF.trans (if_pos c_18)
                      obtain ⟨x_19, ex_19⟩ : ∃ z : Int32, z = v9_9 + Int32.ofInt 1 := ⟨_, rfl⟩
                      have b_x_19 : x_19.toInt = v9_9.toInt + 1 := by rw [ex_19]; exact zi_add rfl (show (Int32.ofInt 1).toInt = 1 from by decide) (z_rac b_v9_9 (by decide))
                      refine lv_iinc (v := x_19) (lv' := [(9, .int x_19), (0, .ref h0), (1, .int p1), (2, .int p2), (3, .int p3), (4, .int p4), (5, .ref tn), (6, .int r_5), (7, .int v7_10), (8, .int v8_11)]) hx hb dX9_likely_131 hl (k := 9) rfl ex_19.symm (by decide) rfl (fun ls hl => ?_)
                      replace hF := hF.trans (zL_eq ex_19)
                      refine lv_goto (tgt := 71) hx hb dX9_likely_134 (by decide) ?_
                      exact ih_1 v7_10 v8_11 x_19 (by first | with_reducible assumption | omega) (by first | with_reducible assumption | omega) (by first | with_reducible assumption | omega) _ _ _ (by first | with_reducible assumption | omega) hF (hP.sub (ws' := (zV255 h0 tp h0_tapeLength h0_faultKind h0_faultPlace nw im sl rd wk fm mt ch dy nw nw_isKept tn nw_strayed nw_names nw_known nw_gone tn_shows cA_tn_shows f_tn_shows tn_told cA_tn_told f_tn_told tn_strayParts cA_tn_strayParts f_tn_strayParts tn_strayCourts cA_tn_strayCourts f_tn_strayCourts tn_oneEnd cA_tn_oneEnd f_tn_oneEnd tn_otherEnd cA_tn_otherEnd f_tn_otherEnd tn tn_hours tn_courts tn_gateCount tn_people tn_lines tn_falseHours tn_strayers tn_deep tn_above tn_doors tn_degrees tn_neighbours tn_shows tn_oneEnd tn_otherEnd tn_told tn_strayParts tn_strayCourts tn_above cA_tn_above f_tn_above)) [0, 4, 6, 7, 8, 9, 1, 2, 5, 3] rfl) (hD.sub (ws' := (zV255 h0 tp h0_tapeLength h0_faultKind h0_faultPlace nw im sl rd wk fm mt ch dy nw nw_isKept tn nw_strayed nw_names nw_known nw_gone tn_shows cA_tn_shows f_tn_shows tn_told cA_tn_told f_tn_told tn_strayParts cA_tn_strayParts f_tn_strayParts tn_strayCourts cA_tn_strayCourts f_tn_strayCourts tn_oneEnd cA_tn_oneEnd f_tn_oneEnd tn_otherEnd cA_tn_otherEnd f_tn_otherEnd tn tn_hours tn_courts tn_gateCount tn_people tn_lines tn_falseHours tn_strayers tn_deep tn_above tn_doors tn_degrees tn_neighbours tn_shows tn_oneEnd tn_otherEnd tn_told tn_strayParts tn_strayCourts tn_above cA_tn_above f_tn_above)) [0, 4, 6, 7, 8, 9, 1, 2, 5, 3] (by decide) rfl) hS (lv_sub hl [1, 2, 3, 4, 5, 6, 7, 8, 9, 0] rfl)
                    · have ic_18 := zz_nle rfl rfl c_18
                      replace hF := hF.trans (if_neg c_18)
                      refine lv_aload_n hx hb dX9_likely_113 rfl (lv_at hl 0 rfl) ?_
                      refine va_get (D := (dC, dI)) (ci := 9) (v := .ref nw) (C := RX9) (T := TX9) (N := 13) hx hb hts zl_X9 hown hK hP 0 rfl rfl 4 (by decide) (hts _ zw_t2_193) (fun _ h9 => h9) rfl dX9_likely_114 ?_
                      refine lv_iload hx hb dX9_likely_117 (lv_at hl 9 rfl) ?_
                      refine lv_iload hx hb dX9_likely_119 (lv_at hl 6 rfl) ?_
                      refine lv_iload_n hx hb dX9_likely_121 rfl (lv_at hl 3 rfl) ?_
                      obtain ⟨hPc, hDc, hFc⟩ := z_cut (wc := (zV244 nw nw_isKept tn nw_strayed nw_names nw_known nw_gone tn tn_hours tn_courts tn_gateCount tn_people tn_lines tn_falseHours tn_strayers tn_deep tn_above tn_doors tn_degrees tn_neighbours tn_shows tn_oneEnd tn_otherEnd tn_told tn_strayParts tn_strayCourts tn_shows cA_tn_shows f_tn_shows tn_told cA_tn_told f_tn_told tn_strayParts cA_tn_strayParts f_tn_strayParts tn_strayCourts cA_tn_strayCourts f_tn_strayCourts)) hP hD hS hA [4, 5, 6, 7, 8, 9] rfl (by decide +kernel)
                      have hKc := hK.sub (tys' := [(cA_tn_shows, .int), (cA_tn_told, .int), (cA_tn_strayParts, .int), (cA_tn_strayCourts, .int)]) [1, 4, 5, 6] rfl
                      refine va_calli (va_runV (As := [.int v9_9, .int r_5, .int p3]) (rest := []) ⟨hx, hb, hml, hown, hts⟩ (kf_X3_thought l sa dC dI nw v9_9 r_5 p3 nw_isKept tn nw_strayed nw_names nw_known nw_gone tn_hours tn_courts tn_gateCount tn_people tn_lines tn_falseHours tn_strayers tn_deep tn_above tn_doors tn_degrees tn_neighbours tn_shows tn_oneEnd tn_otherEnd tn_told tn_strayParts tn_strayCourts cA_tn_shows f_tn_shows cA_tn_told f_tn_told cA_tn_strayParts f_tn_strayParts cA_tn_strayCourts f_tn_strayCourts (by first | with_reducible assumption | omega) (by first | with_reducible assumption | omega) b_nw_isKept b_nw_names b_tn_hours b_tn_courts b_tn_gateCount b_tn_people b_tn_falseHours b_tn_deep b_f_tn_told b_f_tn_strayParts b_f_tn_strayCourts H.size) (cwV 3 hts (z_gV zw_t5_142 zw_t5_143 zw_t5_144 zw_t1_2 zw_t5_145) rfl rfl rfl (by decide +kernel) (by rw [← hRe]; exact ⟨(Nat.le_of_ble_eq_true rfl), (Nat.le_of_ble_eq_true rfl)⟩)) (z_preV hPc hKc hDc hN hXs hS hFc (q := (RX3, TX3, 6)) (ci := 3) (q0 := 0) rfl rfl) rfl rfl hl.1 rfl (lv_room (Nat.le_of_ble_eq_true rfl)) dX9_likely_122 (by rw [← hRe]; exact ⟨(Nat.le_of_ble_eq_true rfl), (Nat.le_of_ble_eq_true rfl)⟩)) hS (fun q _ h => hFc q h) hFc (fun r_20 u t H1 locs ht hvm hw hB hz1 hk1 hS => ?_)
                      obtain ⟨hP, hD, hK⟩ := z_after3 (wn := [(h0, .inr (9, [.ref tp, .int h0_tapeLength, .int h0_faultKind, .int h0_faultPlace, .ref nw, .ref im, .ref sl, .ref rd, .ref wk, .ref fm, .ref mt, .ref ch, .ref dy])), (tn_oneEnd, .inl (cA_tn_oneEnd, 16, .inl f_tn_oneEnd)), (tn_otherEnd, .inl (cA_tn_otherEnd, 16, .inl f_tn_otherEnd)), (tn_above, .inl (cA_tn_above, 10, .inl f_tn_above)), (nw, .inr (3, [.int nw_isKept, .ref tn, .int nw_strayed, .int nw_names, .int nw_known, .int nw_gone])), (tn, .inr (7, [.int tn_hours, .int tn_courts, .int tn_gateCount, .int tn_people, .int tn_lines, .int tn_falseHours, .int tn_strayers, .int tn_deep, .ref tn_above, .ref tn_doors, .ref tn_degrees, .ref tn_neighbours, .ref tn_shows, .ref tn_oneEnd, .ref tn_otherEnd, .ref tn_told, .ref tn_strayParts, .ref tn_strayCourts])), (tn_shows, .inl (cA_tn_shows, 10, .inl f_tn_shows)), (tn_told, .inl (cA_tn_told, 480, .inl f_tn_told)), (tn_strayParts, .inl (cA_tn_strayParts, 10, .inl f_tn_strayParts)), (tn_strayCourts, .inl (cA_tn_strayCourts, 10, .inl f_tn_strayCourts))]) hB ht hvm hP hD hK [4, 5, 6, 7, 8, 9] [0, 1, 2, 3] rfl 10 rfl (by decide +kernel) rfl (by decide +kernel) hk1 hFc
                      generalize H1 = H at hP hS ⊢
                      have hK : va_K (dC, dI) vwCl [(cA_tn_above, .int), (cA_tn_shows, .int), (cA_tn_oneEnd, .int), (cA_tn_otherEnd, .int), (cA_tn_told, .int), (cA_tn_strayParts, .int), (cA_tn_strayCourts, .int)] s := hK
                      have b_r_20 : 0 ≤ r_20.toInt ∧ r_20.toInt ≤ 199 := hw.1
                      have sf_r_20 := hw.2
                      replace hF := hF.trans (zL_eq sf_r_20)
                      refine lv_istore (lv' := [(7, .int r_20), (0, .ref h0), (1, .int p1), (2, .int p2), (3, .int p3), (4, .int p4), (5, .ref tn), (6, .int r_5), (8, .int v8_11), (9, .int v9_9)]) hx hb dX9_likely_125 hl (by decide) rfl (fun ls hl => ?_)
                      refine lv_iload hx hb dX9_likely_127 (lv_at hl 9 rfl) ?_
                      refine lv_istore (lv' := [(8, .int v9_9), (7, .int r_20), (0, .ref h0), (1, .int p1), (2, .int p2), (3, .int p3), (4, .int p4), (5, .ref tn), (6, .int r_5), (9, .int v9_9)]) hx hb dX9_likely_129 hl (by decide) rfl (fun ls hl => ?_)
                      obtain ⟨x_21, ex_21⟩ : ∃ z : Int32, z = v9_9 + Int32.ofInt 1 := ⟨_, rfl⟩
                      have b_x_21 : x_21.toInt = v9_9.toInt + 1 := by rw [ex_21]; exact zi_add rfl (show (Int32.ofInt 1).toInt = 1 from by decide) (z_rac b_v9_9 (by decide))
                      refine lv_iinc (v := x_21) (lv' := [(9, .int x_21), (8, .int v9_9), (7, .int r_20), (0, .ref h0), (1, .int p1), (2, .int p2), (3, .int p3), (4, .int p4), (5, .ref tn), (6, .int r_5)]) hx hb dX9_likely_131 hl (k := 9) rfl ex_21.symm (by decide) rfl (fun ls hl => ?_)
                      replace hF := hF.trans (zL_eq ex_21)
                      refine lv_goto (tgt := 71) hx hb dX9_likely_134 (by decide) ?_
                      exact ih_1 r_20 v9_9 x_21 (by first | with_reducible assumption | omega) (by first | with_reducible assumption | omega) (by first | with_reducible assumption | omega) _ _ _ (by first | with_reducible assumption | omega) hF (hP.sub (ws' := (zV255 h0 tp h0_tapeLength h0_faultKind h0_faultPlace nw im sl rd wk fm mt ch dy nw nw_isKept tn nw_strayed nw_names nw_known nw_gone tn_shows cA_tn_shows f_tn_shows tn_told cA_tn_told f_tn_told tn_strayParts cA_tn_strayParts f_tn_strayParts tn_strayCourts cA_tn_strayCourts f_tn_strayCourts tn_oneEnd cA_tn_oneEnd f_tn_oneEnd tn_otherEnd cA_tn_otherEnd f_tn_otherEnd tn tn_hours tn_courts tn_gateCount tn_people tn_lines tn_falseHours tn_strayers tn_deep tn_above tn_doors tn_degrees tn_neighbours tn_shows tn_oneEnd tn_otherEnd tn_told tn_strayParts tn_strayCourts tn_above cA_tn_above f_tn_above)) [0, 4, 6, 7, 8, 9, 1, 2, 5, 3] rfl) (hD.sub (ws' := (zV255 h0 tp h0_tapeLength h0_faultKind h0_faultPlace nw im sl rd wk fm mt ch dy nw nw_isKept tn nw_strayed nw_names nw_known nw_gone tn_shows cA_tn_shows f_tn_shows tn_told cA_tn_told f_tn_told tn_strayParts cA_tn_strayParts f_tn_strayParts tn_strayCourts cA_tn_strayCourts f_tn_strayCourts tn_oneEnd cA_tn_oneEnd f_tn_oneEnd tn_otherEnd cA_tn_otherEnd f_tn_otherEnd tn tn_hours tn_courts tn_gateCount tn_people tn_lines tn_falseHours tn_strayers tn_deep tn_above tn_doors tn_degrees tn_neighbours tn_shows tn_oneEnd tn_otherEnd tn_told tn_strayParts tn_strayCourts tn_above cA_tn_above f_tn_above)) [0, 4, 6, 7, 8, 9, 1, 2, 5, 3] (by decide) rfl) hS (lv_sub hl [3, 4, 5, 6, 7, 8, 9, 2, 1, 0] rfl)
            exact loop_1 12 (-1) (-1) (0) (by decide) (by decide) (by decide) _ _ _ (by decide) hF hP hD hS (lv_sub hl [5, 6, 7, 8, 9, 4, 3, 2, 1, 0] rfl)
          · have ic_8 := zz_neq rfl (show Int32.toInt 0 = 0 from by decide) c_8
            replace hF := hF.trans (if_neg c_8)
            refine lv_iconst (v := (-1)) hx hb dX9_likely_60 (by decide) ?_
            have hF : RR = (-1 : Int32) := hF
            have zc : Int32.toInt (-1) = (-1) := by decide
            exact W.iret (v := (-1)) hx hb hr (fun t ht hW => by rw [← hQe]; exact ⟨⟨(-1), (), rfl, ⟨by decide, (by rw [← hRR, hF])⟩, z_ret hP hK hD ht hW [0, 1, 8, 9, 2, 6, 7, 3, 4, 5] [] rfl (by decide) rfl⟩, hS.F ht⟩) hS.2.2 dX9_likely_61
      · have ic_4 := zz_nle rfl (show Int32.toInt 1 = 1 from by decide) c_4
        replace hF := hF.trans (if_neg c_4)
        refine lv_bipush (v := (-2)) hx hb dX9_likely_31 (by decide) ?_
        have hF : RR = (-2 : Int32) := hF
        have zc : Int32.toInt (-2) = (-2) := by decide
        exact W.iret (v := (-2)) hx hb hr (fun t ht hW => by rw [← hQe]; exact ⟨⟨(-2), (), rfl, ⟨by decide, (by rw [← hRR, hF])⟩, z_ret hP hK hD ht hW [0, 1, 9, 2, 3, 4, 5, 6, 7, 8] [] rfl (by decide) rfl⟩, hS.F ht⟩) hS.2.2 dX9_likely_33
set_option maxHeartbeats 4000000 in
set_option maxRecDepth 100000 in
theorem kf_X9_draw (l : Launch) (sa : Nat → Nat) (dC : Nat → ClassId) (dI : Nat → Nat → Nat) (h0 : Nat) (p1 : Int32) (tp : Nat) (h0_tapeLength : Int32) (h0_faultKind : Int32) (h0_faultPlace : Int32) (nw : Nat) (im : Nat) (sl : Nat) (rd : Nat) (wk : Nat) (fm : Nat) (mt : Nat) (ch : Nat) (dy : Nat) (nw_isKept : Int32) (tn : Nat) (nw_strayed : Int32) (nw_names : Int32) (nw_known : Int32) (nw_gone : Int32) (tn_hours : Int32) (tn_courts : Int32) (tn_gateCount : Int32) (tn_people : Int32) (tn_lines : Int32) (tn_falseHours : Int32) (tn_strayers : Int32) (tn_deep : Int32) (tn_above : Nat) (tn_doors : Nat) (tn_degrees : Nat) (tn_neighbours : Nat) (tn_shows : Nat) (tn_oneEnd : Nat) (tn_otherEnd : Nat) (tn_told : Nat) (tn_strayParts : Nat) (tn_strayCourts : Nat) (cA_tn_strayParts : ClassId) (f_tn_strayParts : Nat → Int32) (b_h0_tapeLength : 0 ≤ h0_tapeLength.toInt ∧ h0_tapeLength.toInt ≤ 1600) (b_nw_isKept : 0 ≤ nw_isKept.toInt ∧ nw_isKept.toInt ≤ 1) (b_nw_names : 0 ≤ nw_names.toInt ∧ nw_names.toInt ≤ 1023) (b_tn_hours : 0 ≤ tn_hours.toInt ∧ tn_hours.toInt ≤ 48) (b_tn_courts : 0 ≤ tn_courts.toInt ∧ tn_courts.toInt ≤ 10) (b_tn_gateCount : 0 ≤ tn_gateCount.toInt ∧ tn_gateCount.toInt ≤ 16) (b_tn_people : 0 ≤ tn_people.toInt ∧ tn_people.toInt ≤ 10) (b_tn_falseHours : 0 ≤ tn_falseHours.toInt ∧ tn_falseHours.toInt ≤ 9) (b_tn_deep : 0 ≤ tn_deep.toInt ∧ tn_deep.toInt ≤ 1) (b_f_tn_strayParts : ∀ j : Nat, 0 ≤ (f_tn_strayParts j).toInt ∧ (f_tn_strayParts j).toInt ≤ 99) (sz : Nat) : Met l yX9_draw (.code yX9_draw cX9_draw 2 (some .int) :: zT) ({ frames := 2, cells := 0, slots := 0, locals := 47 }) (va_Pc [.ref h0, .int p1] (zB sa dC dI (zV249 h0 tp h0_tapeLength h0_faultKind h0_faultPlace nw im sl rd wk fm mt ch dy nw nw_isKept tn nw_strayed nw_names nw_known nw_gone tn tn_hours tn_courts tn_gateCount tn_people tn_lines tn_falseHours tn_strayers tn_deep tn_above tn_doors tn_degrees tn_neighbours tn_shows tn_oneEnd tn_otherEnd tn_told tn_strayParts tn_strayCourts tn_strayParts cA_tn_strayParts f_tn_strayParts) [(cA_tn_strayParts, .int)] sz)) (va_Qi (fun (r : Int32) (_ : Unit) => ((-2) ≤ r.toInt ∧ r.toInt ≤ 1023) ∧ r = (F_X9_draw p1 tn_hours tn_people tn_strayers f_tn_strayParts)) (fun _ t => zW dC dI (zV249 h0 tp h0_tapeLength h0_faultKind h0_faultPlace nw im sl rd wk fm mt ch dy nw nw_isKept tn nw_strayed nw_names nw_known nw_gone tn tn_hours tn_courts tn_gateCount tn_people tn_lines tn_falseHours tn_strayers tn_deep tn_above tn_doors tn_degrees tn_neighbours tn_shows tn_oneEnd tn_otherEnd tn_told tn_strayParts tn_strayCourts tn_strayParts cA_tn_strayParts f_tn_strayParts) [] (va_A (zV249 h0 tp h0_tapeLength h0_faultKind h0_faultPlace nw im sl rd wk fm mt ch dy nw nw_isKept tn nw_strayed nw_names nw_known nw_gone tn tn_hours tn_courts tn_gateCount tn_people tn_lines tn_falseHours tn_strayers tn_deep tn_above tn_doors tn_degrees tn_neighbours tn_shows tn_oneEnd tn_otherEnd tn_told tn_strayParts tn_strayCourts tn_strayParts cA_tn_strayParts f_tn_strayParts) sz) t) (va_A (zV249 h0 tp h0_tapeLength h0_faultKind h0_faultPlace nw im sl rd wk fm mt ch dy nw nw_isKept tn nw_strayed nw_names nw_known nw_gone tn tn_hours tn_courts tn_gateCount tn_people tn_lines tn_falseHours tn_strayers tn_deep tn_above tn_doors tn_degrees tn_neighbours tn_shows tn_oneEnd tn_otherEnd tn_told tn_strayParts tn_strayCourts tn_strayParts cA_tn_strayParts f_tn_strayParts) sz)) 0 0 (va_A (zV249 h0 tp h0_tapeLength h0_faultKind h0_faultPlace nw im sl rd wk fm mt ch dy nw nw_isKept tn nw_strayed nw_names nw_known nw_gone tn tn_hours tn_courts tn_gateCount tn_people tn_lines tn_falseHours tn_strayers tn_deep tn_above tn_doors tn_degrees tn_neighbours tn_shows tn_oneEnd tn_otherEnd tn_told tn_strayParts tn_strayCourts tn_strayParts cA_tn_strayParts f_tn_strayParts) sz) := by
  refine z_enter (by decide) (by exact (Nat.le_of_ble_eq_true rfl)) ?_
  intro p e s m args below meth c ls A R Qc hargs hsz hQe hAe hRe hx hb hml hr hts hown hlocks hin hl hP hK hD hN hXs hA hS
  rw [hAe] at hQe
  have hown : s.vm.findClass RX9 = some m.cls := hown
  have hl : lv_has ls 2 [(0, .ref h0), (1, .int p1)] := hl
  obtain ⟨RR, hRR⟩ : ∃ z : Int32, z = (F_X9_draw p1 tn_hours tn_people tn_strayers f_tn_strayParts) := ⟨_, rfl⟩
  have hF : RR = (F_X9_draw p1 tn_hours tn_people tn_strayers f_tn_strayParts) := hRR
  refine lv_iload_n hx hb dX9_draw_0 rfl (lv_at hl 1 rfl) ?_
  have nb_p1 := zi_nb p1
  refine lv_if_lt (tgt := 24) hx hb dX9_draw_1 (by decide) (fun c_1 => ?_) (fun c_1 => ?_)
  · have ic_1 := zz_lt rfl (show Int32.toInt 0 = 0 from by decide) c_1
    replace hF := hF.trans (if_pos c_1)
    refine lv_bipush (v := (-2)) hx hb dX9_draw_24 (by decide) ?_
    have hF : RR = (-2 : Int32) := hF
    have zc : Int32.toInt (-2) = (-2) := by decide
    exact W.iret (v := (-2)) hx hb hr (fun t ht hW => by rw [← hQe]; exact ⟨⟨(-2), (), rfl, ⟨by decide, (by rw [← hRR, hF])⟩, z_ret hP hK hD ht hW [0, 1, 2, 3] [] rfl (by decide) rfl⟩, hS.F ht⟩) hS.2.2 dX9_draw_26
  · have ic_1 := zz_nlt rfl (show Int32.toInt 0 = 0 from by decide) c_1
    replace hF := hF.trans (if_neg c_1)
    refine lv_iload_n hx hb dX9_draw_4 rfl (lv_at hl 1 rfl) ?_
    refine lv_ldcw (v := 2000000000) hx hb hown (hts _ zw_t6_14) dX9_draw_5 ?_
    refine lv_icmp_gt (tgt := 24) hx hb dX9_draw_8 (by decide) (fun c_2 => ?_) (fun c_2 => ?_)
    · have ic_2 := zz_gt rfl (show Int32.toInt 2000000000 = 2000000000 from by decide) c_2
      replace hF := hF.trans (if_pos c_2)
      refine lv_bipush (v := (-2)) hx hb dX9_draw_24 (by decide) ?_
      have hF : RR = (-2 : Int32) := hF
      have zc : Int32.toInt (-2) = (-2) := by decide
      exact W.iret (v := (-2)) hx hb hr (fun t ht hW => by rw [← hQe]; exact ⟨⟨(-2), (), rfl, ⟨by decide, (by rw [← hRR, hF])⟩, z_ret hP hK hD ht hW [0, 1, 2, 3] [] rfl (by decide) rfl⟩, hS.F ht⟩) hS.2.2 dX9_draw_26
    · have ic_2 := zz_ngt rfl (show Int32.toInt 2000000000 = 2000000000 from by decide) c_2
      replace hF := hF.trans (if_neg c_2)
      refine lv_aload_n hx hb dX9_draw_11 rfl (lv_at hl 0 rfl) ?_
      refine va_get (D := (dC, dI)) (ci := 9) (v := .ref nw) (C := RX9) (T := TX9) (N := 13) hx hb hts zl_X9 hown hK hP 0 rfl rfl 4 (by decide) (hts _ zw_t2_193) (fun _ h9 => h9) rfl dX9_draw_12 ?_
      refine va_get (D := (dC, dI)) (ci := 3) (v := .ref tn) (C := RX3) (T := TX3) (N := 6) hx hb hts zl_X3 hown hK hP 1 rfl rfl 1 (by decide) (hts _ zw_t1_156) (fun _ h9 => h9) rfl dX9_draw_15 ?_
      refine va_get (D := (dC, dI)) (ci := 7) (v := .int tn_hours) (C := RX7) (T := TX7) (N := 18) hx hb hts zl_X7 hown hK hP 2 rfl rfl 0 (by decide) (hts _ zw_t1_46) (fun _ h9 => h9) rfl dX9_draw_18 ?_
      refine lv_if_ne (tgt := 27) hx hb dX9_draw_21 (by decide) (fun c_3 => ?_) (fun c_3 => ?_)
      · have ic_3 := zz_ne rfl (show Int32.toInt 0 = 0 from by decide) c_3
        replace hF := hF.trans (if_neg c_3)
        refine lv_aload_n hx hb dX9_draw_27 rfl (lv_at hl 0 rfl) ?_
        refine va_get (D := (dC, dI)) (ci := 9) (v := .ref nw) (C := RX9) (T := TX9) (N := 13) hx hb hts zl_X9 hown hK hP 0 rfl rfl 4 (by decide) (hts _ zw_t2_193) (fun _ h9 => h9) rfl dX9_draw_28 ?_
        refine va_get (D := (dC, dI)) (ci := 3) (v := .ref tn) (C := RX3) (T := TX3) (N := 6) hx hb hts zl_X3 hown hK hP 1 rfl rfl 1 (by decide) (hts _ zw_t1_156) (fun _ h9 => h9) rfl dX9_draw_31 ?_
        refine lv_iload_n hx hb dX9_draw_34 rfl (lv_at hl 1 rfl) ?_
        refine lv_i2l (v := _) hx hb dX9_draw_35 rfl ?_
        refine lv_topl (fun x_4 ex_4 => ?_)
        replace hF := hF.trans (zL_eq ex_4)
        have b_x_4 : x_4.toInt = p1.toInt := by rw [ex_4]; exact z_l64 _
        obtain ⟨hPc, hDc, hFc⟩ := z_cut (wc := (zV5 tn tn_hours tn_courts tn_gateCount tn_people tn_lines tn_falseHours tn_strayers tn_deep tn_above tn_doors tn_degrees tn_neighbours tn_shows tn_oneEnd tn_otherEnd tn_told tn_strayParts tn_strayCourts tn_strayParts cA_tn_strayParts f_tn_strayParts)) hP hD hS hA [2, 3] rfl (by decide +kernel)
        have hKc := hK.sub (tys' := [(cA_tn_strayParts, .int)]) [0] rfl
        refine va_calli (va_runV (As := [.long x_4]) (rest := []) ⟨hx, hb, hml, hown, hts⟩ (kf_X7_drawn l sa dC dI tn x_4 tn_hours tn_courts tn_gateCount tn_people tn_lines tn_falseHours tn_strayers tn_deep tn_above tn_doors tn_degrees tn_neighbours tn_shows tn_oneEnd tn_otherEnd tn_told tn_strayParts tn_strayCourts cA_tn_strayParts f_tn_strayParts b_tn_hours b_tn_courts b_tn_gateCount b_tn_people b_tn_falseHours b_tn_deep b_f_tn_strayParts s.heap.size) (cwV 1 hts (z_gV zw_t6_15 zw_t6_16 zw_t6_17 zw_t1_3 zw_t6_18) rfl rfl rfl (by decide +kernel) (by rw [← hRe]; exact ⟨(Nat.le_of_ble_eq_true rfl), (Nat.le_of_ble_eq_true rfl)⟩)) (z_preV hPc hKc hDc hN hXs hS hFc (q := (RX7, TX7, 18)) (ci := 7) (q0 := 0) rfl rfl) rfl rfl hl.1 rfl (lv_room (Nat.le_of_ble_eq_true rfl)) dX9_draw_36 (by rw [← hRe]; exact ⟨(Nat.le_of_ble_eq_true rfl), (Nat.le_of_ble_eq_true rfl)⟩)) hS (fun q _ h => hFc q h) hFc (fun r_5 u t H1 locs ht hvm hw hB hz1 hk1 hS => ?_)
        obtain ⟨hP, hD, hK⟩ := z_after3 (wn := (zV249 h0 tp h0_tapeLength h0_faultKind h0_faultPlace nw im sl rd wk fm mt ch dy nw nw_isKept tn nw_strayed nw_names nw_known nw_gone tn tn_hours tn_courts tn_gateCount tn_people tn_lines tn_falseHours tn_strayers tn_deep tn_above tn_doors tn_degrees tn_neighbours tn_shows tn_oneEnd tn_otherEnd tn_told tn_strayParts tn_strayCourts tn_strayParts cA_tn_strayParts f_tn_strayParts)) hB ht hvm hP hD hK [2, 3] [0, 1] rfl 4 rfl (by decide +kernel) rfl (by decide +kernel) hk1 hFc
        generalize H1 = H at hP hS ⊢
        have hK : va_K (dC, dI) vwCl [(cA_tn_strayParts, .int)] s := hK
        have b_r_5 : 0 ≤ r_5.toInt ∧ r_5.toInt ≤ 1023 := hw.1
        have sf_r_5 := hw.2
        replace hF := hF.trans (zL_eq sf_r_5)
        have hF : RR = r_5 := hF
        exact W.iret (v := r_5) hx hb hr (fun t ht hW => by rw [← hQe]; exact ⟨⟨r_5, (), rfl, ⟨by omega, (by rw [← hRR, hF])⟩, z_ret hP hK hD ht hW [0, 1, 2, 3] [] rfl (by decide) rfl⟩, hS.F ht⟩) hS.2.2 dX9_draw_39
      · have ic_3 := zz_nne rfl (show Int32.toInt 0 = 0 from by decide) c_3
        replace hF := hF.trans (if_pos c_3)
        refine lv_bipush (v := (-2)) hx hb dX9_draw_24 (by decide) ?_
        have hF : RR = (-2 : Int32) := hF
        have zc : Int32.toInt (-2) = (-2) := by decide
        exact W.iret (v := (-2)) hx hb hr (fun t ht hW => by rw [← hQe]; exact ⟨⟨(-2), (), rfl, ⟨by decide, (by rw [← hRR, hF])⟩, z_ret hP hK hD ht hW [0, 1, 2, 3] [] rfl (by decide) rfl⟩, hS.F ht⟩) hS.2.2 dX9_draw_26
set_option maxHeartbeats 4000000 in
set_option maxRecDepth 100000 in
theorem kf_X9_rowsThere (l : Launch) (sa : Nat → Nat) (dC : Nat → ClassId) (dI : Nat → Nat → Nat) (h0 : Nat) (tp : Nat) (h0_tapeLength : Int32) (h0_faultKind : Int32) (h0_faultPlace : Int32) (nw : Nat) (im : Nat) (sl : Nat) (rd : Nat) (wk : Nat) (fm : Nat) (mt : Nat) (ch : Nat) (dy : Nat) (cA_sl : ClassId) (f_sl : Nat → Option Nat) (r0 : Nat) (r1 : Nat) (r2 : Nat) (r3 : Nat) (r0_width : Int32) (r0_size : Int32) (r0_numbers : Nat) (r1_width : Int32) (r1_size : Int32) (r1_numbers : Nat) (r2_width : Int32) (r2_size : Int32) (r2_numbers : Nat) (r3_width : Int32) (r3_size : Int32) (r3_numbers : Nat) (b_h0_tapeLength : 0 ≤ h0_tapeLength.toInt ∧ h0_tapeLength.toInt ≤ 1600) (hsl0 : f_sl 0 = some r0) (hsl1 : f_sl 1 = some r1) (hsl2 : f_sl 2 = some r2) (hsl3 : f_sl 3 = some r3) (b_r0_size : 0 ≤ r0_size.toInt ∧ r0_size.toInt ≤ 60) (b_r1_size : 0 ≤ r1_size.toInt ∧ r1_size.toInt ≤ 60) (b_r2_size : 0 ≤ r2_size.toInt ∧ r2_size.toInt ≤ 60) (b_r3_size : 0 ≤ r3_size.toInt ∧ r3_size.toInt ≤ 60) (sz : Nat) : Met l yX9_rowsThere (.code yX9_rowsThere cX9_rowsThere 3 (some .int) :: zT) ({ frames := 1, cells := 0, slots := 0, locals := 20 }) (va_Pc [.ref h0] (zB sa dC dI (zV256 h0 tp h0_tapeLength h0_faultKind h0_faultPlace nw im sl rd wk fm mt ch dy sl cA_sl f_sl r0 r0_width r0_size r0_numbers r1 r1_width r1_size r1_numbers r2 r2_width r2_size r2_numbers r3 r3_width r3_size r3_numbers) [(cA_sl, .object RX6)] sz)) (va_Qi (fun (r : Int32) (_ : Unit) => r = (F_X9_rowsThere r0_width r1_width r2_width r3_width)) (fun _ t => zW dC dI (zV256 h0 tp h0_tapeLength h0_faultKind h0_faultPlace nw im sl rd wk fm mt ch dy sl cA_sl f_sl r0 r0_width r0_size r0_numbers r1 r1_width r1_size r1_numbers r2 r2_width r2_size r2_numbers r3 r3_width r3_size r3_numbers) [] (va_A (zV256 h0 tp h0_tapeLength h0_faultKind h0_faultPlace nw im sl rd wk fm mt ch dy sl cA_sl f_sl r0 r0_width r0_size r0_numbers r1 r1_width r1_size r1_numbers r2 r2_width r2_size r2_numbers r3 r3_width r3_size r3_numbers) sz) t) (va_A (zV256 h0 tp h0_tapeLength h0_faultKind h0_faultPlace nw im sl rd wk fm mt ch dy sl cA_sl f_sl r0 r0_width r0_size r0_numbers r1 r1_width r1_size r1_numbers r2 r2_width r2_size r2_numbers r3 r3_width r3_size r3_numbers) sz)) 0 0 (va_A (zV256 h0 tp h0_tapeLength h0_faultKind h0_faultPlace nw im sl rd wk fm mt ch dy sl cA_sl f_sl r0 r0_width r0_size r0_numbers r1 r1_width r1_size r1_numbers r2 r2_width r2_size r2_numbers r3 r3_width r3_size r3_numbers) sz) := by
  refine z_enter (by decide) (by exact (Nat.le_of_ble_eq_true rfl)) ?_
  intro p e s m args below meth c ls A R Qc hargs hsz hQe hAe hRe hx hb hml hr hts hown hlocks hin hl hP hK hD hN hXs hA hS
  rw [hAe] at hQe
  have hown : s.vm.findClass RX9 = some m.cls := hown
  have hl : lv_has ls 3 [(0, .ref h0)] := hl
  obtain ⟨RR, hRR⟩ : ∃ z : Int32, z = (F_X9_rowsThere r0_width r1_width r2_width r3_width) := ⟨_, rfl⟩
  have hF : RR = (F_X9_rowsThere r0_width r1_width r2_width r3_width) := hRR
  refine lv_iconst (v := 0) hx hb dX9_rowsThere_0 (by decide) ?_
  refine lv_istore_n (lv' := [(1, .int 0), (0, .ref h0)]) hx hb dX9_rowsThere_1 rfl hl (by decide) rfl (fun ls hl => ?_)
  refine lv_iconst (v := 0) hx hb dX9_rowsThere_2 (by decide) ?_
  refine lv_istore_n (lv' := [(2, .int 0), (1, .int 0), (0, .ref h0)]) hx hb dX9_rowsThere_3 rfl hl (by decide) rfl (fun ls hl => ?_)
  have loop_1 : ∀ (t_1 : Nat) (v1_2 : Int32) (v2_1 : Int32) (b_v2_1 : 0 ≤ v2_1.toInt ∧ v2_1.toInt ≤ 4) (H : Heap) (locs : List Loc) (ls : Array Slot), 4 - v2_1.toInt < (t_1 : Int) → RR = L_X9_rowsThere_1 r0_width r1_width r2_width r3_width K_X9_rowsThere_1_0 t_1 v1_2 v2_1 → va_P (dC, dI) vwCl (zV256 h0 tp h0_tapeLength h0_faultKind h0_faultPlace nw im sl rd wk fm mt ch dy sl cA_sl f_sl r0 r0_width r0_size r0_numbers r1 r1_width r1_size r1_numbers r2 r2_width r2_size r2_numbers r3 r3_width r3_size r3_numbers) H → va_D A (zV256 h0 tp h0_tapeLength h0_faultKind h0_faultPlace nw im sl rd wk fm mt ch dy sl cA_sl f_sl r0 r0_width r0_size r0_numbers r1 r1_width r1_size r1_numbers r2 r2_width r2_size r2_numbers r3 r3_width r3_size r3_numbers) → va_S A s.heap H locs → lv_has ls 3 [(0, .ref h0), (1, .int v1_2), (2, .int v2_1)] → W p l e R s m args below meth c H locs 0 0 (MQ below Qc args s 0 0 A) (F0 m 4 ls []) := by
    intro t_1
    induction t_1 with
    | zero => intro v1_2 v2_1 b_v2_1 H locs ls hmu _ _ _ _ _; exact absurd hmu (by first | with_reducible assumption | omega)
    | succ t_1 ih_1 =>
      intro v1_2 v2_1 b_v2_1 H locs ls hmu hF hP hD hS hl
      replace hF := hF.trans L_X9_rowsThere_1_s
      refine lv_iload_n hx hb dX9_rowsThere_4 rfl (lv_at hl 2 rfl) ?_
      refine lv_iconst (v := 4) hx hb dX9_rowsThere_5 (by decide) ?_
      refine lv_icmp_ge (tgt := 30) hx hb dX9_rowsThere_6 (by decide) (fun c_3 => ?_) (fun c_3 => ?_)
      · have ic_3 := zz_ge rfl (show Int32.toInt 4 = 4 from by decide) c_3
        replace hF := hF.trans (if_pos c_3)
        refine lv_iload_n hx hb dX9_rowsThere_30 rfl (lv_at hl 1 rfl) ?_
        have hF : RR = v1_2 := hF
        exact W.iret (v := v1_2) hx hb hr (fun t ht hW => by rw [← hQe]; exact ⟨⟨v1_2, (), rfl, (by rw [← hRR, hF]), z_ret hP hK hD ht hW [0, 1, 2, 3, 4, 5] [] rfl (by decide) rfl⟩, hS.F ht⟩) hS.2.2 dX9_rowsThere_31
      · have ic_3 := zz_nge rfl (show Int32.toInt 4 = 4 from by decide) c_3
        replace hF := hF.trans (if_neg c_3)
        refine lv_aload_n hx hb dX9_rowsThere_9 rfl (lv_at hl 0 rfl) ?_
        refine va_get (D := (dC, dI)) (ci := 9) (v := .ref sl) (C := RX9) (T := TX9) (N := 13) hx hb hts zl_X9 hown hK hP 0 rfl rfl 6 (by decide) (hts _ zw_t2_195) (fun _ h9 => h9) rfl dX9_rowsThere_10 ?_
        refine lv_iload_n hx hb dX9_rowsThere_13 rfl (lv_at hl 2 rfl) ?_
        rcases z_s3 v2_1 with q_sw | rfl | rfl | rfl | rfl | q_sw
        · omega
        · replace hF := hF.trans (if_pos rfl)
          have zc_0 : Int32.toInt 0 = 0 := by decide
          refine va_aldq hx hb hK hP 1 0 rfl rfl (zi_in (show Int32.toInt 0 = 0 from by decide) (by decide)) dX9_rowsThere_14 ?_
          refine W.eq (g2 := F0 m 15 ls (.ref r0 :: [])) (by rw [show f_sl (Int32.toNatClampNeg 0) = some r0 from (by rw [show Int32.toNatClampNeg 0 = 0 from by decide]; exact hsl0)]; rfl) ?_
          obtain ⟨hPc, hDc, hFc⟩ := z_cut (wc := (zV6 r0 r0_width r0_size r0_numbers)) hP hD hS hA [2] rfl (by decide +kernel)
          have hKc := hK.sub (tys' := []) [] rfl
          refine va_calli (va_runV (As := []) (rest := []) ⟨hx, hb, hml, hown, hts⟩ (kf_X6_isThere l sa dC dI r0 r0_width r0_size r0_numbers b_r0_size H.size) (cwV 0 hts (z_gV zw_t5_222 zw_t5_223 zw_t5_224 zw_t1_10 zw_t5_225) rfl rfl rfl (by decide +kernel) (by rw [← hRe]; exact ⟨(Nat.le_of_ble_eq_true rfl), (Nat.le_of_ble_eq_true rfl)⟩)) (z_preV hPc hKc hDc hN hXs hS hFc (q := (RX6, TX6, 3)) (ci := 6) (q0 := 0) rfl rfl) rfl rfl hl.1 rfl (lv_room (Nat.le_of_ble_eq_true rfl)) dX9_rowsThere_15 (by rw [← hRe]; exact ⟨(Nat.le_of_ble_eq_true rfl), (Nat.le_of_ble_eq_true rfl)⟩)) hS (fun q _ h => hFc q h) hFc (fun r_4 u t H1 locs ht hvm hw hB hz1 hk1 hS => ?_)
          obtain ⟨hP, hD, hK⟩ := z_after3 (wn := (zV256 h0 tp h0_tapeLength h0_faultKind h0_faultPlace nw im sl rd wk fm mt ch dy sl cA_sl f_sl r1 r1_width r1_size r1_numbers r2 r2_width r2_size r2_numbers r3 r3_width r3_size r3_numbers r0 r0_width r0_size r0_numbers)) hB ht hvm hP hD hK [2] [0, 1, 3, 4, 5] rfl 6 rfl (by decide +kernel) rfl (by decide +kernel) hk1 hFc
          generalize H1 = H at hP hS ⊢
          have hK : va_K (dC, dI) vwCl [(cA_sl, .object RX6)] s := hK
          have b_r_4 : 0 ≤ r_4.toInt ∧ r_4.toInt ≤ 1 := hw.1
          have sf_r_4 := hw.2
          replace hF := hF.trans (zL_eq sf_r_4)
          refine lv_if_eq (tgt := 24) hx hb dX9_rowsThere_18 (by decide) (fun c_5 => ?_) (fun c_5 => ?_)
          · have ic_5 := zz_eq rfl (show Int32.toInt 0 = 0 from by decide) c_5
            replace hF := hF.trans (if_pos c_5)
            refine lv_iinc (v := 1) (lv' := [(2, .int 1), (0, .ref h0), (1, .int v1_2)]) hx hb dX9_rowsThere_24 hl (k := 2) rfl (by decide) (by decide) rfl (fun ls hl => ?_)
            refine lv_goto (tgt := 4) hx hb dX9_rowsThere_27 (by decide) ?_
            have zb_1 : Int32.toInt 1 = 1 := by decide
            exact ih_1 v1_2 (1) (by decide) _ _ _ (by first | with_reducible assumption | omega) hF (hP.sub (ws' := (zV256 h0 tp h0_tapeLength h0_faultKind h0_faultPlace nw im sl rd wk fm mt ch dy sl cA_sl f_sl r0 r0_width r0_size r0_numbers r1 r1_width r1_size r1_numbers r2 r2_width r2_size r2_numbers r3 r3_width r3_size r3_numbers)) [0, 1, 5, 2, 3, 4] rfl) (hD.sub (ws' := (zV256 h0 tp h0_tapeLength h0_faultKind h0_faultPlace nw im sl rd wk fm mt ch dy sl cA_sl f_sl r0 r0_width r0_size r0_numbers r1 r1_width r1_size r1_numbers r2 r2_width r2_size r2_numbers r3 r3_width r3_size r3_numbers)) [0, 1, 5, 2, 3, 4] (by decide) rfl) hS (lv_sub hl [1, 2, 0] rfl)
          · have ic_5 := zz_neq rfl (show Int32.toInt 0 = 0 from by decide) c_5
            replace hF := hF.trans (if_neg c_5)
            obtain ⟨x_6, ex_6⟩ : ∃ z : Int32, z = v1_2 + Int32.ofInt 1 := ⟨_, rfl⟩
            refine lv_iinc (v := x_6) (lv' := [(1, .int x_6), (0, .ref h0), (2, .int 0)]) hx hb dX9_rowsThere_21 hl (k := 1) rfl ex_6.symm (by decide) rfl (fun ls hl => ?_)
            replace hF := hF.trans (zL_eq ex_6)
            refine lv_iinc (v := 1) (lv' := [(2, .int 1), (1, .int x_6), (0, .ref h0)]) hx hb dX9_rowsThere_24 hl (k := 2) rfl (by decide) (by decide) rfl (fun ls hl => ?_)
            refine lv_goto (tgt := 4) hx hb dX9_rowsThere_27 (by decide) ?_
            have zb_1 : Int32.toInt 1 = 1 := by decide
            exact ih_1 x_6 (1) (by decide) _ _ _ (by first | with_reducible assumption | omega) hF (hP.sub (ws' := (zV256 h0 tp h0_tapeLength h0_faultKind h0_faultPlace nw im sl rd wk fm mt ch dy sl cA_sl f_sl r0 r0_width r0_size r0_numbers r1 r1_width r1_size r1_numbers r2 r2_width r2_size r2_numbers r3 r3_width r3_size r3_numbers)) [0, 1, 5, 2, 3, 4] rfl) (hD.sub (ws' := (zV256 h0 tp h0_tapeLength h0_faultKind h0_faultPlace nw im sl rd wk fm mt ch dy sl cA_sl f_sl r0 r0_width r0_size r0_numbers r1 r1_width r1_size r1_numbers r2 r2_width r2_size r2_numbers r3 r3_width r3_size r3_numbers)) [0, 1, 5, 2, 3, 4] (by decide) rfl) hS (lv_sub hl [2, 1, 0] rfl)
        · replace hF := hF.trans ((if_neg (by decide)).trans (if_pos rfl))
          have zc_1 : Int32.toInt 1 = 1 := by decide
          refine va_aldq hx hb hK hP 1 0 rfl rfl (zi_in (show Int32.toInt 1 = 1 from by decide) (by decide)) dX9_rowsThere_14 ?_
          refine W.eq (g2 := F0 m 15 ls (.ref r1 :: [])) (by rw [show f_sl (Int32.toNatClampNeg 1) = some r1 from (by rw [show Int32.toNatClampNeg 1 = 1 from by decide]; exact hsl1)]; rfl) ?_
          obtain ⟨hPc, hDc, hFc⟩ := z_cut (wc := (zV6 r1 r1_width r1_size r1_numbers)) hP hD hS hA [3] rfl (by decide +kernel)
          have hKc := hK.sub (tys' := []) [] rfl
          refine va_calli (va_runV (As := []) (rest := []) ⟨hx, hb, hml, hown, hts⟩ (kf_X6_isThere l sa dC dI r1 r1_width r1_size r1_numbers b_r1_size H.size) (cwV 0 hts (z_gV zw_t5_222 zw_t5_223 zw_t5_224 zw_t1_10 zw_t5_225) rfl rfl rfl (by decide +kernel) (by rw [← hRe]; exact ⟨(Nat.le_of_ble_eq_true rfl), (Nat.le_of_ble_eq_true rfl)⟩)) (z_preV hPc hKc hDc hN hXs hS hFc (q := (RX6, TX6, 3)) (ci := 6) (q0 := 0) rfl rfl) rfl rfl hl.1 rfl (lv_room (Nat.le_of_ble_eq_true rfl)) dX9_rowsThere_15 (by rw [← hRe]; exact ⟨(Nat.le_of_ble_eq_true rfl), (Nat.le_of_ble_eq_true rfl)⟩)) hS (fun q _ h => hFc q h) hFc (fun r_7 u t H1 locs ht hvm hw hB hz1 hk1 hS => ?_)
          obtain ⟨hP, hD, hK⟩ := z_after3 (wn := (zV256 h0 tp h0_tapeLength h0_faultKind h0_faultPlace nw im sl rd wk fm mt ch dy sl cA_sl f_sl r0 r0_width r0_size r0_numbers r2 r2_width r2_size r2_numbers r3 r3_width r3_size r3_numbers r1 r1_width r1_size r1_numbers)) hB ht hvm hP hD hK [3] [0, 1, 2, 4, 5] rfl 6 rfl (by decide +kernel) rfl (by decide +kernel) hk1 hFc
          generalize H1 = H at hP hS ⊢
          have hK : va_K (dC, dI) vwCl [(cA_sl, .object RX6)] s := hK
          have b_r_7 : 0 ≤ r_7.toInt ∧ r_7.toInt ≤ 1 := hw.1
          have sf_r_7 := hw.2
          replace hF := hF.trans (zL_eq sf_r_7)
          refine lv_if_eq (tgt := 24) hx hb dX9_rowsThere_18 (by decide) (fun c_8 => ?_) (fun c_8 => ?_)
          · have ic_8 := zz_eq rfl (show Int32.toInt 0 = 0 from by decide) c_8
            replace hF := hF.trans (if_pos c_8)
            refine lv_iinc (v := 2) (lv' := [(2, .int 2), (0, .ref h0), (1, .int v1_2)]) hx hb dX9_rowsThere_24 hl (k := 2) rfl (by decide) (by decide) rfl (fun ls hl => ?_)
            refine lv_goto (tgt := 4) hx hb dX9_rowsThere_27 (by decide) ?_
            have zb_2 : Int32.toInt 2 = 2 := by decide
            exact ih_1 v1_2 (2) (by decide) _ _ _ (by first | with_reducible assumption | omega) hF (hP.sub (ws' := (zV256 h0 tp h0_tapeLength h0_faultKind h0_faultPlace nw im sl rd wk fm mt ch dy sl cA_sl f_sl r0 r0_width r0_size r0_numbers r1 r1_width r1_size r1_numbers r2 r2_width r2_size r2_numbers r3 r3_width r3_size r3_numbers)) [0, 1, 2, 5, 3, 4] rfl) (hD.sub (ws' := (zV256 h0 tp h0_tapeLength h0_faultKind h0_faultPlace nw im sl rd wk fm mt ch dy sl cA_sl f_sl r0 r0_width r0_size r0_numbers r1 r1_width r1_size r1_numbers r2 r2_width r2_size r2_numbers r3 r3_width r3_size r3_numbers)) [0, 1, 2, 5, 3, 4] (by decide) rfl) hS (lv_sub hl [1, 2, 0] rfl)
          · have ic_8 := zz_neq rfl (show Int32.toInt 0 = 0 from by decide) c_8
            replace hF := hF.trans (if_neg c_8)
            obtain ⟨x_9, ex_9⟩ : ∃ z : Int32, z = v1_2 + Int32.ofInt 1 := ⟨_, rfl⟩
            refine lv_iinc (v := x_9) (lv' := [(1, .int x_9), (0, .ref h0), (2, .int 1)]) hx hb dX9_rowsThere_21 hl (k := 1) rfl ex_9.symm (by decide) rfl (fun ls hl => ?_)
            replace hF := hF.trans (zL_eq ex_9)
            refine lv_iinc (v := 2) (lv' := [(2, .int 2), (1, .int x_9), (0, .ref h0)]) hx hb dX9_rowsThere_24 hl (k := 2) rfl (by decide) (by decide) rfl (fun ls hl => ?_)
            refine lv_goto (tgt := 4) hx hb dX9_rowsThere_27 (by decide) ?_
            have zb_2 : Int32.toInt 2 = 2 := by decide
            exact ih_1 x_9 (2) (by decide) _ _ _ (by first | with_reducible assumption | omega) hF (hP.sub (ws' := (zV256 h0 tp h0_tapeLength h0_faultKind h0_faultPlace nw im sl rd wk fm mt ch dy sl cA_sl f_sl r0 r0_width r0_size r0_numbers r1 r1_width r1_size r1_numbers r2 r2_width r2_size r2_numbers r3 r3_width r3_size r3_numbers)) [0, 1, 2, 5, 3, 4] rfl) (hD.sub (ws' := (zV256 h0 tp h0_tapeLength h0_faultKind h0_faultPlace nw im sl rd wk fm mt ch dy sl cA_sl f_sl r0 r0_width r0_size r0_numbers r1 r1_width r1_size r1_numbers r2 r2_width r2_size r2_numbers r3 r3_width r3_size r3_numbers)) [0, 1, 2, 5, 3, 4] (by decide) rfl) hS (lv_sub hl [2, 1, 0] rfl)
        · replace hF := hF.trans ((if_neg (by decide)).trans ((if_neg (by decide)).trans (if_pos rfl)))
          have zc_2 : Int32.toInt 2 = 2 := by decide
          refine va_aldq hx hb hK hP 1 0 rfl rfl (zi_in (show Int32.toInt 2 = 2 from by decide) (by decide)) dX9_rowsThere_14 ?_
          refine W.eq (g2 := F0 m 15 ls (.ref r2 :: [])) (by rw [show f_sl (Int32.toNatClampNeg 2) = some r2 from (by rw [show Int32.toNatClampNeg 2 = 2 from by decide]; exact hsl2)]; rfl) ?_
          obtain ⟨hPc, hDc, hFc⟩ := z_cut (wc := (zV6 r2 r2_width r2_size r2_numbers)) hP hD hS hA [4] rfl (by decide +kernel)
          have hKc := hK.sub (tys' := []) [] rfl
          refine va_calli (va_runV (As := []) (rest := []) ⟨hx, hb, hml, hown, hts⟩ (kf_X6_isThere l sa dC dI r2 r2_width r2_size r2_numbers b_r2_size H.size) (cwV 0 hts (z_gV zw_t5_222 zw_t5_223 zw_t5_224 zw_t1_10 zw_t5_225) rfl rfl rfl (by decide +kernel) (by rw [← hRe]; exact ⟨(Nat.le_of_ble_eq_true rfl), (Nat.le_of_ble_eq_true rfl)⟩)) (z_preV hPc hKc hDc hN hXs hS hFc (q := (RX6, TX6, 3)) (ci := 6) (q0 := 0) rfl rfl) rfl rfl hl.1 rfl (lv_room (Nat.le_of_ble_eq_true rfl)) dX9_rowsThere_15 (by rw [← hRe]; exact ⟨(Nat.le_of_ble_eq_true rfl), (Nat.le_of_ble_eq_true rfl)⟩)) hS (fun q _ h => hFc q h) hFc (fun r_10 u t H1 locs ht hvm hw hB hz1 hk1 hS => ?_)
          obtain ⟨hP, hD, hK⟩ := z_after3 (wn := (zV256 h0 tp h0_tapeLength h0_faultKind h0_faultPlace nw im sl rd wk fm mt ch dy sl cA_sl f_sl r0 r0_width r0_size r0_numbers r1 r1_width r1_size r1_numbers r3 r3_width r3_size r3_numbers r2 r2_width r2_size r2_numbers)) hB ht hvm hP hD hK [4] [0, 1, 2, 3, 5] rfl 6 rfl (by decide +kernel) rfl (by decide +kernel) hk1 hFc
          generalize H1 = H at hP hS ⊢
          have hK : va_K (dC, dI) vwCl [(cA_sl, .object RX6)] s := hK
          have b_r_10 : 0 ≤ r_10.toInt ∧ r_10.toInt ≤ 1 := hw.1
          have sf_r_10 := hw.2
          replace hF := hF.trans (zL_eq sf_r_10)
          refine lv_if_eq (tgt := 24) hx hb dX9_rowsThere_18 (by decide) (fun c_11 => ?_) (fun c_11 => ?_)
          · have ic_11 := zz_eq rfl (show Int32.toInt 0 = 0 from by decide) c_11
            replace hF := hF.trans (if_pos c_11)
            refine lv_iinc (v := 3) (lv' := [(2, .int 3), (0, .ref h0), (1, .int v1_2)]) hx hb dX9_rowsThere_24 hl (k := 2) rfl (by decide) (by decide) rfl (fun ls hl => ?_)
            refine lv_goto (tgt := 4) hx hb dX9_rowsThere_27 (by decide) ?_
            have zb_3 : Int32.toInt 3 = 3 := by decide
            exact ih_1 v1_2 (3) (by decide) _ _ _ (by first | with_reducible assumption | omega) hF (hP.sub (ws' := (zV256 h0 tp h0_tapeLength h0_faultKind h0_faultPlace nw im sl rd wk fm mt ch dy sl cA_sl f_sl r0 r0_width r0_size r0_numbers r1 r1_width r1_size r1_numbers r2 r2_width r2_size r2_numbers r3 r3_width r3_size r3_numbers)) [0, 1, 2, 3, 5, 4] rfl) (hD.sub (ws' := (zV256 h0 tp h0_tapeLength h0_faultKind h0_faultPlace nw im sl rd wk fm mt ch dy sl cA_sl f_sl r0 r0_width r0_size r0_numbers r1 r1_width r1_size r1_numbers r2 r2_width r2_size r2_numbers r3 r3_width r3_size r3_numbers)) [0, 1, 2, 3, 5, 4] (by decide) rfl) hS (lv_sub hl [1, 2, 0] rfl)
          · have ic_11 := zz_neq rfl (show Int32.toInt 0 = 0 from by decide) c_11
            replace hF := hF.trans (if_neg c_11)
            obtain ⟨x_12, ex_12⟩ : ∃ z : Int32, z = v1_2 + Int32.ofInt 1 := ⟨_, rfl⟩
            refine lv_iinc (v := x_12) (lv' := [(1, .int x_12), (0, .ref h0), (2, .int 2)]) hx hb dX9_rowsThere_21 hl (k := 1) rfl ex_12.symm (by decide) rfl (fun ls hl => ?_)
            replace hF := hF.trans (zL_eq ex_12)
            refine lv_iinc (v := 3) (lv' := [(2, .int 3), (1, .int x_12), (0, .ref h0)]) hx hb dX9_rowsThere_24 hl (k := 2) rfl (by decide) (by decide) rfl (fun ls hl => ?_)
            refine lv_goto (tgt := 4) hx hb dX9_rowsThere_27 (by decide) ?_
            have zb_3 : Int32.toInt 3 = 3 := by decide
            exact ih_1 x_12 (3) (by decide) _ _ _ (by first | with_reducible assumption | omega) hF (hP.sub (ws' := (zV256 h0 tp h0_tapeLength h0_faultKind h0_faultPlace nw im sl rd wk fm mt ch dy sl cA_sl f_sl r0 r0_width r0_size r0_numbers r1 r1_width r1_size r1_numbers r2 r2_width r2_size r2_numbers r3 r3_width r3_size r3_numbers)) [0, 1, 2, 3, 5, 4] rfl) (hD.sub (ws' := (zV256 h0 tp h0_tapeLength h0_faultKind h0_faultPlace nw im sl rd wk fm mt ch dy sl cA_sl f_sl r0 r0_width r0_size r0_numbers r1 r1_width r1_size r1_numbers r2 r2_width r2_size r2_numbers r3 r3_width r3_size r3_numbers)) [0, 1, 2, 3, 5, 4] (by decide) rfl) hS (lv_sub hl [2, 1, 0] rfl)
        · replace hF := hF.trans ((if_neg (by decide)).trans ((if_neg (by decide)).trans ((if_neg (by decide)).trans (if_pos rfl))))
          have zc_3 : Int32.toInt 3 = 3 := by decide
          refine va_aldq hx hb hK hP 1 0 rfl rfl (zi_in (show Int32.toInt 3 = 3 from by decide) (by decide)) dX9_rowsThere_14 ?_
          refine W.eq (g2 := F0 m 15 ls (.ref r3 :: [])) (by rw [show f_sl (Int32.toNatClampNeg 3) = some r3 from (by rw [show Int32.toNatClampNeg 3 = 3 from by decide]; exact hsl3)]; rfl) ?_
          obtain ⟨hPc, hDc, hFc⟩ := z_cut (wc := (zV6 r3 r3_width r3_size r3_numbers)) hP hD hS hA [5] rfl (by decide +kernel)
          have hKc := hK.sub (tys' := []) [] rfl
          refine va_calli (va_runV (As := []) (rest := []) ⟨hx, hb, hml, hown, hts⟩ (kf_X6_isThere l sa dC dI r3 r3_width r3_size r3_numbers b_r3_size H.size) (cwV 0 hts (z_gV zw_t5_222 zw_t5_223 zw_t5_224 zw_t1_10 zw_t5_225) rfl rfl rfl (by decide +kernel) (by rw [← hRe]; exact ⟨(Nat.le_of_ble_eq_true rfl), (Nat.le_of_ble_eq_true rfl)⟩)) (z_preV hPc hKc hDc hN hXs hS hFc (q := (RX6, TX6, 3)) (ci := 6) (q0 := 0) rfl rfl) rfl rfl hl.1 rfl (lv_room (Nat.le_of_ble_eq_true rfl)) dX9_rowsThere_15 (by rw [← hRe]; exact ⟨(Nat.le_of_ble_eq_true rfl), (Nat.le_of_ble_eq_true rfl)⟩)) hS (fun q _ h => hFc q h) hFc (fun r_13 u t H1 locs ht hvm hw hB hz1 hk1 hS => ?_)
          obtain ⟨hP, hD, hK⟩ := z_after3 (wn := (zV256 h0 tp h0_tapeLength h0_faultKind h0_faultPlace nw im sl rd wk fm mt ch dy sl cA_sl f_sl r0 r0_width r0_size r0_numbers r1 r1_width r1_size r1_numbers r2 r2_width r2_size r2_numbers r3 r3_width r3_size r3_numbers)) hB ht hvm hP hD hK [5] [0, 1, 2, 3, 4] rfl 6 rfl (by decide +kernel) rfl (by decide +kernel) hk1 hFc
          generalize H1 = H at hP hS ⊢
          have hK : va_K (dC, dI) vwCl [(cA_sl, .object RX6)] s := hK
          have b_r_13 : 0 ≤ r_13.toInt ∧ r_13.toInt ≤ 1 := hw.1
          have sf_r_13 := hw.2
          replace hF := hF.trans (zL_eq sf_r_13)
          refine lv_if_eq (tgt := 24) hx hb dX9_rowsThere_18 (by decide) (fun c_14 => ?_) (fun c_14 => ?_)
          · have ic_14 := zz_eq rfl (show Int32.toInt 0 = 0 from by decide) c_14
            replace hF := hF.trans (if_pos c_14)
            refine lv_iinc (v := 4) (lv' := [(2, .int 4), (0, .ref h0), (1, .int v1_2)]) hx hb dX9_rowsThere_24 hl (k := 2) rfl (by decide) (by decide) rfl (fun ls hl => ?_)
            refine lv_goto (tgt := 4) hx hb dX9_rowsThere_27 (by decide) ?_
            have zb_4 : Int32.toInt 4 = 4 := by decide
            exact ih_1 v1_2 (4) (by decide) _ _ _ (by first | with_reducible assumption | omega) hF (hP.sub (ws' := (zV256 h0 tp h0_tapeLength h0_faultKind h0_faultPlace nw im sl rd wk fm mt ch dy sl cA_sl f_sl r0 r0_width r0_size r0_numbers r1 r1_width r1_size r1_numbers r2 r2_width r2_size r2_numbers r3 r3_width r3_size r3_numbers)) [0, 1, 2, 3, 4, 5] rfl) (hD.sub (ws' := (zV256 h0 tp h0_tapeLength h0_faultKind h0_faultPlace nw im sl rd wk fm mt ch dy sl cA_sl f_sl r0 r0_width r0_size r0_numbers r1 r1_width r1_size r1_numbers r2 r2_width r2_size r2_numbers r3 r3_width r3_size r3_numbers)) [0, 1, 2, 3, 4, 5] (by decide) rfl) hS (lv_sub hl [1, 2, 0] rfl)
          · have ic_14 := zz_neq rfl (show Int32.toInt 0 = 0 from by decide) c_14
            replace hF := hF.trans (if_neg c_14)
            obtain ⟨x_15, ex_15⟩ : ∃ z : Int32, z = v1_2 + Int32.ofInt 1 := ⟨_, rfl⟩
            refine lv_iinc (v := x_15) (lv' := [(1, .int x_15), (0, .ref h0), (2, .int 3)]) hx hb dX9_rowsThere_21 hl (k := 1) rfl ex_15.symm (by decide) rfl (fun ls hl => ?_)
            replace hF := hF.trans (zL_eq ex_15)
            refine lv_iinc (v := 4) (lv' := [(2, .int 4), (1, .int x_15), (0, .ref h0)]) hx hb dX9_rowsThere_24 hl (k := 2) rfl (by decide) (by decide) rfl (fun ls hl => ?_)
            refine lv_goto (tgt := 4) hx hb dX9_rowsThere_27 (by decide) ?_
            have zb_4 : Int32.toInt 4 = 4 := by decide
            exact ih_1 x_15 (4) (by decide) _ _ _ (by first | with_reducible assumption | omega) hF (hP.sub (ws' := (zV256 h0 tp h0_tapeLength h0_faultKind h0_faultPlace nw im sl rd wk fm mt ch dy sl cA_sl f_sl r0 r0_width r0_size r0_numbers r1 r1_width r1_size r1_numbers r2 r2_width r2_size r2_numbers r3 r3_width r3_size r3_numbers)) [0, 1, 2, 3, 4, 5] rfl) (hD.sub (ws' := (zV256 h0 tp h0_tapeLength h0_faultKind h0_faultPlace nw im sl rd wk fm mt ch dy sl cA_sl f_sl r0 r0_width r0_size r0_numbers r1 r1_width r1_size r1_numbers r2 r2_width r2_size r2_numbers r3 r3_width r3_size r3_numbers)) [0, 1, 2, 3, 4, 5] (by decide) rfl) hS (lv_sub hl [2, 1, 0] rfl)
        · omega
  exact loop_1 6 (0) (0) (by decide) _ _ _ (by decide) hF hP hD hS (lv_sub hl [2, 1, 0] rfl)
set_option maxHeartbeats 4000000 in
set_option maxRecDepth 100000 in
theorem kf_X9_count (l : Launch) (sa : Nat → Nat) (dC : Nat → ClassId) (dI : Nat → Nat → Nat) (h0 : Nat) (p1 : Int32) (tp : Nat) (h0_tapeLength : Int32) (h0_faultKind : Int32) (h0_faultPlace : Int32) (nw : Nat) (im : Nat) (sl : Nat) (rd : Nat) (wk : Nat) (fm : Nat) (mt : Nat) (ch : Nat) (dy : Nat) (cA_sl : ClassId) (f_sl : Nat → Option Nat) (r0 : Nat) (r1 : Nat) (r2 : Nat) (r3 : Nat) (nw_isKept : Int32) (tn : Nat) (nw_strayed : Int32) (nw_names : Int32) (nw_known : Int32) (nw_gone : Int32) (tn_hours : Int32) (tn_courts : Int32) (tn_gateCount : Int32) (tn_people : Int32) (tn_lines : Int32) (tn_falseHours : Int32) (tn_strayers : Int32) (tn_deep : Int32) (tn_above : Nat) (tn_doors : Nat) (tn_degrees : Nat) (tn_neighbours : Nat) (tn_shows : Nat) (tn_oneEnd : Nat) (tn_otherEnd : Nat) (tn_told : Nat) (tn_strayParts : Nat) (tn_strayCourts : Nat) (r0_width : Int32) (r0_size : Int32) (r0_numbers : Nat) (r1_width : Int32) (r1_size : Int32) (r1_numbers : Nat) (r2_width : Int32) (r2_size : Int32) (r2_numbers : Nat) (r3_width : Int32) (r3_size : Int32) (r3_numbers : Nat) (b_h0_tapeLength : 0 ≤ h0_tapeLength.toInt ∧ h0_tapeLength.toInt ≤ 1600) (hsl0 : f_sl 0 = some r0) (hsl1 : f_sl 1 = some r1) (hsl2 : f_sl 2 = some r2) (hsl3 : f_sl 3 = some r3) (b_nw_isKept : 0 ≤ nw_isKept.toInt ∧ nw_isKept.toInt ≤ 1) (b_nw_names : 0 ≤ nw_names.toInt ∧ nw_names.toInt ≤ 1023) (b_tn_hours : 0 ≤ tn_hours.toInt ∧ tn_hours.toInt ≤ 48) (b_tn_courts : 0 ≤ tn_courts.toInt ∧ tn_courts.toInt ≤ 10) (b_tn_gateCount : 0 ≤ tn_gateCount.toInt ∧ tn_gateCount.toInt ≤ 16) (b_tn_people : 0 ≤ tn_people.toInt ∧ tn_people.toInt ≤ 10) (b_tn_falseHours : 0 ≤ tn_falseHours.toInt ∧ tn_falseHours.toInt ≤ 9) (b_tn_deep : 0 ≤ tn_deep.toInt ∧ tn_deep.toInt ≤ 1) (b_r0_size : 0 ≤ r0_size.toInt ∧ r0_size.toInt ≤ 60) (b_r1_size : 0 ≤ r1_size.toInt ∧ r1_size.toInt ≤ 60) (b_r2_size : 0 ≤ r2_size.toInt ∧ r2_size.toInt ≤ 60) (b_r3_size : 0 ≤ r3_size.toInt ∧ r3_size.toInt ≤ 60) (sz : Nat) : Met l yX9_count (.code yX9_count cX9_count 3 (some .int) :: zT) ({ frames := 2, cells := 0, slots := 0, locals := 42 }) (va_Pc [.ref h0, .int p1] (zB sa dC dI (zV257 h0 tp h0_tapeLength h0_faultKind h0_faultPlace nw im sl rd wk fm mt ch dy sl cA_sl f_sl nw nw_isKept tn nw_strayed nw_names nw_known nw_gone tn tn_hours tn_courts tn_gateCount tn_people tn_lines tn_falseHours tn_strayers tn_deep tn_above tn_doors tn_degrees tn_neighbours tn_shows tn_oneEnd tn_otherEnd tn_told tn_strayParts tn_strayCourts r0 r0_width r0_size r0_numbers r1 r1_width r1_size r1_numbers r2 r2_width r2_size r2_numbers r3 r3_width r3_size r3_numbers) [(cA_sl, .object RX6)] sz)) (va_Qi (fun (r : Int32) (_ : Unit) => r = (F_X9_count p1 h0_tapeLength nw_known tn_hours tn_courts tn_gateCount tn_people tn_lines tn_falseHours tn_strayers tn_deep r0_width r1_width r2_width r3_width)) (fun _ t => zW dC dI (zV257 h0 tp h0_tapeLength h0_faultKind h0_faultPlace nw im sl rd wk fm mt ch dy sl cA_sl f_sl nw nw_isKept tn nw_strayed nw_names nw_known nw_gone tn tn_hours tn_courts tn_gateCount tn_people tn_lines tn_falseHours tn_strayers tn_deep tn_above tn_doors tn_degrees tn_neighbours tn_shows tn_oneEnd tn_otherEnd tn_told tn_strayParts tn_strayCourts r0 r0_width r0_size r0_numbers r1 r1_width r1_size r1_numbers r2 r2_width r2_size r2_numbers r3 r3_width r3_size r3_numbers) [] (va_A (zV257 h0 tp h0_tapeLength h0_faultKind h0_faultPlace nw im sl rd wk fm mt ch dy sl cA_sl f_sl nw nw_isKept tn nw_strayed nw_names nw_known nw_gone tn tn_hours tn_courts tn_gateCount tn_people tn_lines tn_falseHours tn_strayers tn_deep tn_above tn_doors tn_degrees tn_neighbours tn_shows tn_oneEnd tn_otherEnd tn_told tn_strayParts tn_strayCourts r0 r0_width r0_size r0_numbers r1 r1_width r1_size r1_numbers r2 r2_width r2_size r2_numbers r3 r3_width r3_size r3_numbers) sz) t) (va_A (zV257 h0 tp h0_tapeLength h0_faultKind h0_faultPlace nw im sl rd wk fm mt ch dy sl cA_sl f_sl nw nw_isKept tn nw_strayed nw_names nw_known nw_gone tn tn_hours tn_courts tn_gateCount tn_people tn_lines tn_falseHours tn_strayers tn_deep tn_above tn_doors tn_degrees tn_neighbours tn_shows tn_oneEnd tn_otherEnd tn_told tn_strayParts tn_strayCourts r0 r0_width r0_size r0_numbers r1 r1_width r1_size r1_numbers r2 r2_width r2_size r2_numbers r3 r3_width r3_size r3_numbers) sz)) 0 0 (va_A (zV257 h0 tp h0_tapeLength h0_faultKind h0_faultPlace nw im sl rd wk fm mt ch dy sl cA_sl f_sl nw nw_isKept tn nw_strayed nw_names nw_known nw_gone tn tn_hours tn_courts tn_gateCount tn_people tn_lines tn_falseHours tn_strayers tn_deep tn_above tn_doors tn_degrees tn_neighbours tn_shows tn_oneEnd tn_otherEnd tn_told tn_strayParts tn_strayCourts r0 r0_width r0_size r0_numbers r1 r1_width r1_size r1_numbers r2 r2_width r2_size r2_numbers r3 r3_width r3_size r3_numbers) sz) := by
  refine z_enter (by decide) (by exact (Nat.le_of_ble_eq_true rfl)) ?_
  intro p e s m args below meth c ls A R Qc hargs hsz hQe hAe hRe hx hb hml hr hts hown hlocks hin hl hP hK hD hN hXs hA hS
  rw [hAe] at hQe
  have hown : s.vm.findClass RX9 = some m.cls := hown
  have hl : lv_has ls 3 [(0, .ref h0), (1, .int p1)] := hl
  obtain ⟨RR, hRR⟩ : ∃ z : Int32, z = (F_X9_count p1 h0_tapeLength nw_known tn_hours tn_courts tn_gateCount tn_people tn_lines tn_falseHours tn_strayers tn_deep r0_width r1_width r2_width r3_width) := ⟨_, rfl⟩
  have hF : RR = (F_X9_count p1 h0_tapeLength nw_known tn_hours tn_courts tn_gateCount tn_people tn_lines tn_falseHours tn_strayers tn_deep r0_width r1_width r2_width r3_width) := hRR
  refine lv_aload_n hx hb dX9_count_0 rfl (lv_at hl 0 rfl) ?_
  refine va_get (D := (dC, dI)) (ci := 9) (v := .ref nw) (C := RX9) (T := TX9) (N := 13) hx hb hts zl_X9 hown hK hP 0 rfl rfl 4 (by decide) (hts _ zw_t2_193) (fun _ h9 => h9) rfl dX9_count_1 ?_
  refine va_get (D := (dC, dI)) (ci := 3) (v := .ref tn) (C := RX3) (T := TX3) (N := 6) hx hb hts zl_X3 hown hK hP 2 rfl rfl 1 (by decide) (hts _ zw_t1_156) (fun _ h9 => h9) rfl dX9_count_4 ?_
  refine lv_astore_n (lv' := [(2, .ref tn), (0, .ref h0), (1, .int p1)]) hx hb dX9_count_7 rfl hl (by decide) rfl (fun ls hl => ?_)
  refine lv_iload_n hx hb dX9_count_8 rfl (lv_at hl 2 rfl) ?_
  rcases z_s10 p1 with q_sw | rfl | rfl | rfl | rfl | rfl | rfl | rfl | rfl | rfl | rfl | rfl | q_sw
  · replace hF := hF.trans ((if_neg (zz_sw q_sw (by decide))).trans ((if_neg (zz_sw q_sw (by decide))).trans ((if_neg (zz_sw q_sw (by decide))).trans ((if_neg (zz_sw q_sw (by decide))).trans ((if_neg (zz_sw q_sw (by decide))).trans ((if_neg (zz_sw q_sw (by decide))).trans ((if_neg (zz_sw q_sw (by decide))).trans ((if_neg (zz_sw q_sw (by decide))).trans ((if_neg (zz_sw q_sw (by decide))).trans ((if_neg (zz_sw q_sw (by decide))).trans (if_neg (zz_sw q_sw (by decide)))))))))))))
    refine lv_tableOut (tgt := 134) hx hb dX9_count_9 (by first | with_reducible assumption | omega) (by decide) ?_
    refine lv_iconst (v := (-1)) hx hb dX9_count_134 (by decide) ?_
    have hF : RR = (-1 : Int32) := hF
    have zc : Int32.toInt (-1) = (-1) := by decide
    exact W.iret (v := (-1)) hx hb hr (fun t ht hW => by rw [← hQe]; exact ⟨⟨(-1), (), rfl, (by rw [← hRR, hF]), z_ret hP hK hD ht hW [0, 1, 2, 3, 4, 5, 6, 7] [] rfl (by decide) rfl⟩, hS.F ht⟩) hS.2.2 dX9_count_135
  · replace hF := hF.trans (if_pos rfl)
    refine lv_tableIn (tgt := 68) (off := 59) hx hb dX9_count_9 (by decide) (by decide) (by decide) (by decide) ?_
    refine lv_aload_n hx hb dX9_count_68 rfl (lv_at hl 0 rfl) ?_
    refine va_get (D := (dC, dI)) (ci := 7) (v := .int tn_courts) (C := RX7) (T := TX7) (N := 18) hx hb hts zl_X7 hown hK hP 3 rfl rfl 1 (by decide) (hts _ zw_t1_53) (fun _ h9 => h9) rfl dX9_count_69 ?_
    have hF : RR = tn_courts := hF
    exact W.iret (v := tn_courts) hx hb hr (fun t ht hW => by rw [← hQe]; exact ⟨⟨tn_courts, (), rfl, (by rw [← hRR, hF]), z_ret hP hK hD ht hW [0, 1, 2, 3, 4, 5, 6, 7] [] rfl (by decide) rfl⟩, hS.F ht⟩) hS.2.2 dX9_count_72
  · replace hF := hF.trans ((if_neg (by decide)).trans (if_pos rfl))
    refine lv_tableIn (tgt := 73) (off := 64) hx hb dX9_count_9 (by decide) (by decide) (by decide) (by decide) ?_
    refine lv_aload_n hx hb dX9_count_73 rfl (lv_at hl 0 rfl) ?_
    refine va_get (D := (dC, dI)) (ci := 7) (v := .int tn_hours) (C := RX7) (T := TX7) (N := 18) hx hb hts zl_X7 hown hK hP 3 rfl rfl 0 (by decide) (hts _ zw_t1_46) (fun _ h9 => h9) rfl dX9_count_74 ?_
    have hF : RR = tn_hours := hF
    exact W.iret (v := tn_hours) hx hb hr (fun t ht hW => by rw [← hQe]; exact ⟨⟨tn_hours, (), rfl, (by rw [← hRR, hF]), z_ret hP hK hD ht hW [0, 1, 2, 3, 4, 5, 6, 7] [] rfl (by decide) rfl⟩, hS.F ht⟩) hS.2.2 dX9_count_77
  · replace hF := hF.trans ((if_neg (by decide)).trans ((if_neg (by decide)).trans (if_pos rfl)))
    refine lv_tableIn (tgt := 78) (off := 69) hx hb dX9_count_9 (by decide) (by decide) (by decide) (by decide) ?_
    refine lv_aload_n hx hb dX9_count_78 rfl (lv_at hl 0 rfl) ?_
    refine va_get (D := (dC, dI)) (ci := 7) (v := .int tn_gateCount) (C := RX7) (T := TX7) (N := 18) hx hb hts zl_X7 hown hK hP 3 rfl rfl 2 (by decide) (hts _ zw_t1_59) (fun _ h9 => h9) rfl dX9_count_79 ?_
    have hF : RR = tn_gateCount := hF
    exact W.iret (v := tn_gateCount) hx hb hr (fun t ht hW => by rw [← hQe]; exact ⟨⟨tn_gateCount, (), rfl, (by rw [← hRR, hF]), z_ret hP hK hD ht hW [0, 1, 2, 3, 4, 5, 6, 7] [] rfl (by decide) rfl⟩, hS.F ht⟩) hS.2.2 dX9_count_82
  · replace hF := hF.trans ((if_neg (by decide)).trans ((if_neg (by decide)).trans ((if_neg (by decide)).trans (if_pos rfl))))
    refine lv_tableIn (tgt := 83) (off := 74) hx hb dX9_count_9 (by decide) (by decide) (by decide) (by decide) ?_
    refine lv_aload_n hx hb dX9_count_83 rfl (lv_at hl 0 rfl) ?_
    refine va_get (D := (dC, dI)) (ci := 7) (v := .int tn_people) (C := RX7) (T := TX7) (N := 18) hx hb hts zl_X7 hown hK hP 3 rfl rfl 3 (by decide) (hts _ zw_t1_65) (fun _ h9 => h9) rfl dX9_count_84 ?_
    have hF : RR = tn_people := hF
    exact W.iret (v := tn_people) hx hb hr (fun t ht hW => by rw [← hQe]; exact ⟨⟨tn_people, (), rfl, (by rw [← hRR, hF]), z_ret hP hK hD ht hW [0, 1, 2, 3, 4, 5, 6, 7] [] rfl (by decide) rfl⟩, hS.F ht⟩) hS.2.2 dX9_count_87
  · replace hF := hF.trans ((if_neg (by decide)).trans ((if_neg (by decide)).trans ((if_neg (by decide)).trans ((if_neg (by decide)).trans (if_pos rfl)))))
    refine lv_tableIn (tgt := 88) (off := 79) hx hb dX9_count_9 (by decide) (by decide) (by decide) (by decide) ?_
    refine lv_aload_n hx hb dX9_count_88 rfl (lv_at hl 0 rfl) ?_
    refine va_get (D := (dC, dI)) (ci := 7) (v := .int tn_lines) (C := RX7) (T := TX7) (N := 18) hx hb hts zl_X7 hown hK hP 3 rfl rfl 4 (by decide) (hts _ zw_t1_66) (fun _ h9 => h9) rfl dX9_count_89 ?_
    have hF : RR = tn_lines := hF
    exact W.iret (v := tn_lines) hx hb hr (fun t ht hW => by rw [← hQe]; exact ⟨⟨tn_lines, (), rfl, (by rw [← hRR, hF]), z_ret hP hK hD ht hW [0, 1, 2, 3, 4, 5, 6, 7] [] rfl (by decide) rfl⟩, hS.F ht⟩) hS.2.2 dX9_count_92
  · replace hF := hF.trans ((if_neg (by decide)).trans ((if_neg (by decide)).trans ((if_neg (by decide)).trans ((if_neg (by decide)).trans ((if_neg (by decide)).trans (if_pos rfl))))))
    refine lv_tableIn (tgt := 93) (off := 84) hx hb dX9_count_9 (by decide) (by decide) (by decide) (by decide) ?_
    refine lv_aload_n hx hb dX9_count_93 rfl (lv_at hl 1 rfl) ?_
    refine va_get (D := (dC, dI)) (ci := 9) (v := .int h0_tapeLength) (C := RX9) (T := TX9) (N := 13) hx hb hts zl_X9 hown hK hP 0 rfl rfl 1 (by decide) (hts _ zw_t2_190) (fun _ h9 => h9) rfl dX9_count_94 ?_
    have hF : RR = h0_tapeLength := hF
    exact W.iret (v := h0_tapeLength) hx hb hr (fun t ht hW => by rw [← hQe]; exact ⟨⟨h0_tapeLength, (), rfl, (by rw [← hRR, hF]), z_ret hP hK hD ht hW [0, 1, 2, 3, 4, 5, 6, 7] [] rfl (by decide) rfl⟩, hS.F ht⟩) hS.2.2 dX9_count_97
  · replace hF := hF.trans ((if_neg (by decide)).trans ((if_neg (by decide)).trans ((if_neg (by decide)).trans ((if_neg (by decide)).trans ((if_neg (by decide)).trans ((if_neg (by decide)).trans (if_pos rfl)))))))
    refine lv_tableIn (tgt := 98) (off := 89) hx hb dX9_count_9 (by decide) (by decide) (by decide) (by decide) ?_
    refine lv_aload_n hx hb dX9_count_98 rfl (lv_at hl 0 rfl) ?_
    refine va_get (D := (dC, dI)) (ci := 7) (v := .int tn_strayers) (C := RX7) (T := TX7) (N := 18) hx hb hts zl_X7 hown hK hP 3 rfl rfl 6 (by decide) (hts _ zw_t1_74) (fun _ h9 => h9) rfl dX9_count_99 ?_
    have hF : RR = tn_strayers := hF
    exact W.iret (v := tn_strayers) hx hb hr (fun t ht hW => by rw [← hQe]; exact ⟨⟨tn_strayers, (), rfl, (by rw [← hRR, hF]), z_ret hP hK hD ht hW [0, 1, 2, 3, 4, 5, 6, 7] [] rfl (by decide) rfl⟩, hS.F ht⟩) hS.2.2 dX9_count_102
  · replace hF := hF.trans ((if_neg (by decide)).trans ((if_neg (by decide)).trans ((if_neg (by decide)).trans ((if_neg (by decide)).trans ((if_neg (by decide)).trans ((if_neg (by decide)).trans ((if_neg (by decide)).trans (if_pos rfl))))))))
    refine lv_tableIn (tgt := 103) (off := 94) hx hb dX9_count_9 (by decide) (by decide) (by decide) (by decide) ?_
    refine lv_aload_n hx hb dX9_count_103 rfl (lv_at hl 1 rfl) ?_
    refine va_get (D := (dC, dI)) (ci := 9) (v := .ref nw) (C := RX9) (T := TX9) (N := 13) hx hb hts zl_X9 hown hK hP 0 rfl rfl 4 (by decide) (hts _ zw_t2_193) (fun _ h9 => h9) rfl dX9_count_104 ?_
    refine va_get (D := (dC, dI)) (ci := 3) (v := .int nw_known) (C := RX3) (T := TX3) (N := 6) hx hb hts zl_X3 hown hK hP 2 rfl rfl 4 (by decide) (hts _ zw_t1_165) (fun _ h9 => h9) rfl dX9_count_107 ?_
    have hF : RR = nw_known := hF
    exact W.iret (v := nw_known) hx hb hr (fun t ht hW => by rw [← hQe]; exact ⟨⟨nw_known, (), rfl, (by rw [← hRR, hF]), z_ret hP hK hD ht hW [0, 1, 2, 3, 4, 5, 6, 7] [] rfl (by decide) rfl⟩, hS.F ht⟩) hS.2.2 dX9_count_110
  · replace hF := hF.trans ((if_neg (by decide)).trans ((if_neg (by decide)).trans ((if_neg (by decide)).trans ((if_neg (by decide)).trans ((if_neg (by decide)).trans ((if_neg (by decide)).trans ((if_neg (by decide)).trans ((if_neg (by decide)).trans (if_pos rfl)))))))))
    refine lv_tableIn (tgt := 111) (off := 102) hx hb dX9_count_9 (by decide) (by decide) (by decide) (by decide) ?_
    refine lv_aload_n hx hb dX9_count_111 rfl (lv_at hl 0 rfl) ?_
    refine va_get (D := (dC, dI)) (ci := 7) (v := .int tn_falseHours) (C := RX7) (T := TX7) (N := 18) hx hb hts zl_X7 hown hK hP 3 rfl rfl 5 (by decide) (hts _ zw_t1_71) (fun _ h9 => h9) rfl dX9_count_112 ?_
    have hF : RR = tn_falseHours := hF
    exact W.iret (v := tn_falseHours) hx hb hr (fun t ht hW => by rw [← hQe]; exact ⟨⟨tn_falseHours, (), rfl, (by rw [← hRR, hF]), z_ret hP hK hD ht hW [0, 1, 2, 3, 4, 5, 6, 7] [] rfl (by decide) rfl⟩, hS.F ht⟩) hS.2.2 dX9_count_115
  · replace hF := hF.trans ((if_neg (by decide)).trans ((if_neg (by decide)).trans ((if_neg (by decide)).trans ((if_neg (by decide)).trans ((if_neg (by decide)).trans ((if_neg (by decide)).trans ((if_neg (by decide)).trans ((if_neg (by decide)).trans ((if_neg (by decide)).trans (if_pos rfl))))))))))
    refine lv_tableIn (tgt := 116) (off := 107) hx hb dX9_count_9 (by decide) (by decide) (by decide) (by decide) ?_
    refine lv_aload_n hx hb dX9_count_116 rfl (lv_at hl 0 rfl) ?_
    refine va_get (D := (dC, dI)) (ci := 7) (v := .int tn_deep) (C := RX7) (T := TX7) (N := 18) hx hb hts zl_X7 hown hK hP 3 rfl rfl 7 (by decide) (hts _ zw_t1_78) (fun _ h9 => h9) rfl dX9_count_117 ?_
    refine lv_if_eq (tgt := 127) hx hb dX9_count_120 (by decide) (fun c_1 => ?_) (fun c_1 => ?_)
    · have ic_1 := zz_eq rfl (show Int32.toInt 0 = 0 from by decide) c_1
      replace hF := hF.trans (if_pos c_1)
      refine lv_iconst (v := 0) hx hb dX9_count_127 (by decide) ?_
      have hF : RR = (0 : Int32) := hF
      have zc : Int32.toInt 0 = 0 := by decide
      exact W.iret (v := 0) hx hb hr (fun t ht hW => by rw [← hQe]; exact ⟨⟨0, (), rfl, (by rw [← hRR, hF]), z_ret hP hK hD ht hW [0, 1, 2, 3, 4, 5, 6, 7] [] rfl (by decide) rfl⟩, hS.F ht⟩) hS.2.2 dX9_count_128
    · have ic_1 := zz_neq rfl (show Int32.toInt 0 = 0 from by decide) c_1
      replace hF := hF.trans (if_neg c_1)
      refine lv_iconst (v := 1) hx hb dX9_count_123 (by decide) ?_
      refine lv_goto (tgt := 128) hx hb dX9_count_124 (by decide) ?_
      have hF : RR = (1 : Int32) := hF
      have zc : Int32.toInt 1 = 1 := by decide
      exact W.iret (v := 1) hx hb hr (fun t ht hW => by rw [← hQe]; exact ⟨⟨1, (), rfl, (by rw [← hRR, hF]), z_ret hP hK hD ht hW [0, 1, 2, 3, 4, 5, 6, 7] [] rfl (by decide) rfl⟩, hS.F ht⟩) hS.2.2 dX9_count_128
  · replace hF := hF.trans ((if_neg (by decide)).trans ((if_neg (by decide)).trans ((if_neg (by decide)).trans ((if_neg (by decide)).trans ((if_neg (by decide)).trans ((if_neg (by decide)).trans ((if_neg (by decide)).trans ((if_neg (by decide)).trans ((if_neg (by decide)).trans ((if_neg (by decide)).trans (if_pos rfl)))))))))))
    refine lv_tableIn (tgt := 129) (off := 120) hx hb dX9_count_9 (by decide) (by decide) (by decide) (by decide) ?_
    refine lv_aload_n hx hb dX9_count_129 rfl (lv_at hl 1 rfl) ?_
    obtain ⟨hPc, hDc, hFc⟩ := z_cut (wc := (zV256 h0 tp h0_tapeLength h0_faultKind h0_faultPlace nw im sl rd wk fm mt ch dy sl cA_sl f_sl r0 r0_width r0_size r0_numbers r1 r1_width r1_size r1_numbers r2 r2_width r2_size r2_numbers r3 r3_width r3_size r3_numbers)) hP hD hS hA [0, 1, 4, 5, 6, 7] rfl (by decide +kernel)
    have hKc := hK.sub (tys' := [(cA_sl, .object RX6)]) [0] rfl
    refine va_calli (va_runV (As := []) (rest := []) ⟨hx, hb, hml, hown, hts⟩ (kf_X9_rowsThere l sa dC dI h0 tp h0_tapeLength h0_faultKind h0_faultPlace nw im sl rd wk fm mt ch dy cA_sl f_sl r0 r1 r2 r3 r0_width r0_size r0_numbers r1_width r1_size r1_numbers r2_width r2_size r2_numbers r3_width r3_size r3_numbers b_h0_tapeLength hsl0 hsl1 hsl2 hsl3 b_r0_size b_r1_size b_r2_size b_r3_size s.heap.size) (cwV 0 hts (z_gV zw_t6_48 zw_t6_50 zw_s4_5 zw_t1_1 zw_t6_51) rfl rfl rfl (by decide +kernel) (by rw [← hRe]; exact ⟨(Nat.le_of_ble_eq_true rfl), (Nat.le_of_ble_eq_true rfl)⟩)) (z_preV hPc hKc hDc hN hXs hS hFc (q := (RX9, TX9, 13)) (ci := 9) (q0 := 0) rfl rfl) rfl rfl hl.1 rfl (lv_room (Nat.le_of_ble_eq_true rfl)) dX9_count_130 (by rw [← hRe]; exact ⟨(Nat.le_of_ble_eq_true rfl), (Nat.le_of_ble_eq_true rfl)⟩)) hS (fun q _ h => hFc q h) hFc (fun r_2 u t H1 locs ht hvm hw hB hz1 hk1 hS => ?_)
    obtain ⟨hP, hD, hK⟩ := z_after3 (wn := [(nw, .inr (3, [.int nw_isKept, .ref tn, .int nw_strayed, .int nw_names, .int nw_known, .int nw_gone])), (tn, .inr (7, [.int tn_hours, .int tn_courts, .int tn_gateCount, .int tn_people, .int tn_lines, .int tn_falseHours, .int tn_strayers, .int tn_deep, .ref tn_above, .ref tn_doors, .ref tn_degrees, .ref tn_neighbours, .ref tn_shows, .ref tn_oneEnd, .ref tn_otherEnd, .ref tn_told, .ref tn_strayParts, .ref tn_strayCourts])), (h0, .inr (9, [.ref tp, .int h0_tapeLength, .int h0_faultKind, .int h0_faultPlace, .ref nw, .ref im, .ref sl, .ref rd, .ref wk, .ref fm, .ref mt, .ref ch, .ref dy])), (sl, .inl (cA_sl, 4, .inr (.inr (.inr (.inr f_sl))))), (r0, .inr (6, [.int r0_width, .int r0_size, .ref r0_numbers])), (r1, .inr (6, [.int r1_width, .int r1_size, .ref r1_numbers])), (r2, .inr (6, [.int r2_width, .int r2_size, .ref r2_numbers])), (r3, .inr (6, [.int r3_width, .int r3_size, .ref r3_numbers]))]) hB ht hvm hP hD hK [0, 1, 4, 5, 6, 7] [2, 3] rfl 8 rfl (by decide +kernel) rfl (by decide +kernel) hk1 hFc
    generalize H1 = H at hP hS ⊢
    have hK : va_K (dC, dI) vwCl [(cA_sl, .object RX6)] s := hK
    have sf_r_2 := hw
    replace hF := hF.trans (zL_eq sf_r_2)
    have hF : RR = r_2 := hF
    exact W.iret (v := r_2) hx hb hr (fun t ht hW => by rw [← hQe]; exact ⟨⟨r_2, (), rfl, (by rw [← hRR, hF]), z_ret hP hK hD ht hW [2, 3, 0, 1, 4, 5, 6, 7] [] rfl (by decide) rfl⟩, hS.F ht⟩) hS.2.2 dX9_count_133
  · replace hF := hF.trans ((if_neg (zz_sw q_sw (by decide))).trans ((if_neg (zz_sw q_sw (by decide))).trans ((if_neg (zz_sw q_sw (by decide))).trans ((if_neg (zz_sw q_sw (by decide))).trans ((if_neg (zz_sw q_sw (by decide))).trans ((if_neg (zz_sw q_sw (by decide))).trans ((if_neg (zz_sw q_sw (by decide))).trans ((if_neg (zz_sw q_sw (by decide))).trans ((if_neg (zz_sw q_sw (by decide))).trans ((if_neg (zz_sw q_sw (by decide))).trans (if_neg (zz_sw q_sw (by decide)))))))))))))
    refine lv_tableOut (tgt := 134) hx hb dX9_count_9 (by first | with_reducible assumption | omega) (by decide) ?_
    refine lv_iconst (v := (-1)) hx hb dX9_count_134 (by decide) ?_
    have hF : RR = (-1 : Int32) := hF
    have zc : Int32.toInt (-1) = (-1) := by decide
    exact W.iret (v := (-1)) hx hb hr (fun t ht hW => by rw [← hQe]; exact ⟨⟨(-1), (), rfl, (by rw [← hRR, hF]), z_ret hP hK hD ht hW [0, 1, 2, 3, 4, 5, 6, 7] [] rfl (by decide) rfl⟩, hS.F ht⟩) hS.2.2 dX9_count_135
