set_option linter.all false
set_option maxHeartbeats 4000000 in
set_option maxRecDepth 100000 in
theorem k_X9_isImage_v1 (l : Launch) (sa : Nat → Nat) (dC : Nat → ClassId) (dI : Nat → Nat → Nat) (p1 : Int32)  (sz : Nat) : Met l yX9_isImage (.code yX9_isImage cX9_isImage 1 (some .boolean) :: zT) ({ frames := 0, cells := 0, slots := 0, locals := 0 }) (va_Pc [.int p1] (zB sa dC dI [] [] sz)) (va_Qi (fun (r : Int32) (_ : Unit) => (0 ≤ r.toInt ∧ r.toInt ≤ 1) ∧ ((r.toInt = 0 ∧ (p1.toInt < 0 ∨ 2 < p1.toInt)) ∨ (r.toInt = 1 ∧ 0 ≤ p1.toInt ∧ p1.toInt ≤ 2))) (fun _ t => zW dC dI [] [] (va_A [] sz) t) (va_A [] sz)) 0 0 (va_A [] sz) := by
  refine z_enter (by decide) (by exact (Nat.le_of_ble_eq_true rfl)) ?_
  intro p e s m args below meth c ls A R Qc hargs hsz hQe hAe hRe hx hb hml hr hts hown hlocks hin hl hP hK hD hN hXs hA hS
  rw [hAe] at hQe
  have hown : s.vm.findClass RX9 = some m.cls := hown
  have hl : lv_has ls 1 [(0, .int p1)] := hl
  refine lv_iload_n hx hb dX9_isImage_0 rfl (lv_at hl 0 rfl) ?_
  have nb_p1 := zi_nb p1
  refine lv_if_lt (tgt := 13) hx hb dX9_isImage_1 (by decide) (fun c_1 => ?_) (fun c_1 => ?_)
  · have ic_1 := zz_lt rfl (show Int32.toInt 0 = 0 from by decide) c_1
    refine lv_iconst (v := 0) hx hb dX9_isImage_13 (by decide) ?_
    have zc : Int32.toInt 0 = 0 := by decide
    exact W.zret (v := 0) hx hb hr (by decide) (fun t ht hW => by rw [← hQe]; exact ⟨⟨0, (), rfl, (by first | decide | omega), z_ret hP hK hD ht hW [] [] rfl (by decide) rfl⟩, hS.F ht⟩) hS.2.2 dX9_isImage_14
  · have ic_1 := zz_nlt rfl (show Int32.toInt 0 = 0 from by decide) c_1
    refine lv_iload_n hx hb dX9_isImage_4 rfl (lv_at hl 0 rfl) ?_
    refine lv_iconst (v := 3) hx hb dX9_isImage_5 (by decide) ?_
    refine lv_icmp_ge (tgt := 13) hx hb dX9_isImage_6 (by decide) (fun c_2 => ?_) (fun c_2 => ?_)
    · have ic_2 := zz_ge rfl (show Int32.toInt 3 = 3 from by decide) c_2
      refine lv_iconst (v := 0) hx hb dX9_isImage_13 (by decide) ?_
      have zc : Int32.toInt 0 = 0 := by decide
      exact W.zret (v := 0) hx hb hr (by decide) (fun t ht hW => by rw [← hQe]; exact ⟨⟨0, (), rfl, (by first | decide | omega), z_ret hP hK hD ht hW [] [] rfl (by decide) rfl⟩, hS.F ht⟩) hS.2.2 dX9_isImage_14
    · have ic_2 := zz_nge rfl (show Int32.toInt 3 = 3 from by decide) c_2
      refine lv_iconst (v := 1) hx hb dX9_isImage_9 (by decide) ?_
      refine lv_goto (tgt := 14) hx hb dX9_isImage_10 (by decide) ?_
      have zc : Int32.toInt 1 = 1 := by decide
      exact W.zret (v := 1) hx hb hr (by decide) (fun t ht hW => by rw [← hQe]; exact ⟨⟨1, (), rfl, (by first | decide | omega), z_ret hP hK hD ht hW [] [] rfl (by decide) rfl⟩, hS.F ht⟩) hS.2.2 dX9_isImage_14
set_option maxHeartbeats 4000000 in
set_option maxRecDepth 100000 in
theorem k_X9_keep_v1 (l : Launch) (sa : Nat → Nat) (dC : Nat → ClassId) (dI : Nat → Nat → Nat) (h0 : Nat) (p1 : Int32) (tp : Nat) (h0_tapeLength : Int32) (h0_faultKind : Int32) (h0_faultPlace : Int32) (nw : Nat) (im : Nat) (sl : Nat) (rd : Nat) (wk : Nat) (fm : Nat) (mt : Nat) (ch : Nat) (dy : Nat) (cA_im : ClassId) (f_im : Nat → Option Nat) (i0 : Nat) (i1 : Nat) (i2 : Nat) (nw_isKept : Int32) (tn : Nat) (nw_strayed : Int32) (nw_names : Int32) (nw_known : Int32) (nw_gone : Int32) (i0_isKept : Int32) (it0 : Nat) (i0_strayed : Int32) (i0_names : Int32) (i0_known : Int32) (i0_gone : Int32) (i1_isKept : Int32) (it1 : Nat) (i1_strayed : Int32) (i1_names : Int32) (i1_known : Int32) (i1_gone : Int32) (i2_isKept : Int32) (it2 : Nat) (i2_strayed : Int32) (i2_names : Int32) (i2_known : Int32) (i2_gone : Int32) (b_h0_tapeLength : 0 ≤ h0_tapeLength.toInt ∧ h0_tapeLength.toInt ≤ 1600) (him0 : f_im 0 = some i0) (him1 : f_im 1 = some i1) (him2 : f_im 2 = some i2) (b_nw_isKept : 0 ≤ nw_isKept.toInt ∧ nw_isKept.toInt ≤ 1) (b_nw_names : 0 ≤ nw_names.toInt ∧ nw_names.toInt ≤ 1023) (b_i0_isKept : 0 ≤ i0_isKept.toInt ∧ i0_isKept.toInt ≤ 1) (b_i0_names : 0 ≤ i0_names.toInt ∧ i0_names.toInt ≤ 1023) (b_i1_isKept : 0 ≤ i1_isKept.toInt ∧ i1_isKept.toInt ≤ 1) (b_i1_names : 0 ≤ i1_names.toInt ∧ i1_names.toInt ≤ 1023) (b_i2_isKept : 0 ≤ i2_isKept.toInt ∧ i2_isKept.toInt ≤ 1) (b_i2_names : 0 ≤ i2_names.toInt ∧ i2_names.toInt ≤ 1023) (sz : Nat) : Met l yX9_keep (.code yX9_keep cX9_keep 2 (some .int) :: zT) ({ frames := 1, cells := 0, slots := 0, locals := 21 }) (va_Pc [.ref h0, .int p1] (zB sa dC dI (zV203 h0 tp h0_tapeLength h0_faultKind h0_faultPlace nw im sl rd wk fm mt ch dy im cA_im f_im nw nw_isKept tn nw_strayed nw_names nw_known nw_gone i0 i0_isKept it0 i0_strayed i0_names i0_known i0_gone i1 i1_isKept it1 i1_strayed i1_names i1_known i1_gone i2 i2_isKept it2 i2_strayed i2_names i2_known i2_gone) [(cA_im, .object RX3)] sz)) (va_Qi (fun (r : Int32) (_ : Unit) => ((-2) ≤ r.toInt ∧ r.toInt ≤ 0) ∧ ((r.toInt = -2 ∧ (p1.toInt < 0 ∨ 2 < p1.toInt)) ∨ (r.toInt = 0 ∧ 0 ≤ p1.toInt ∧ p1.toInt ≤ 2))) (fun _ t => ∃ (n_i0_0 : Int32) (n_i0_1 : Nat) (n_i0_2 : Int32) (n_i0_3 : Int32) (n_i0_4 : Int32) (n_i0_5 : Int32) (n_i1_0 : Int32) (n_i1_1 : Nat) (n_i1_2 : Int32) (n_i1_3 : Int32) (n_i1_4 : Int32) (n_i1_5 : Int32) (n_i2_0 : Int32) (n_i2_1 : Nat) (n_i2_2 : Int32) (n_i2_3 : Int32) (n_i2_4 : Int32) (n_i2_5 : Int32), (0 ≤ n_i0_0.toInt ∧ n_i0_0.toInt ≤ 1) ∧ (0 ≤ n_i0_3.toInt ∧ n_i0_3.toInt ≤ 1023) ∧ (0 ≤ n_i1_0.toInt ∧ n_i1_0.toInt ≤ 1) ∧ (0 ≤ n_i1_3.toInt ∧ n_i1_3.toInt ≤ 1023) ∧ (0 ≤ n_i2_0.toInt ∧ n_i2_0.toInt ≤ 1) ∧ (0 ≤ n_i2_3.toInt ∧ n_i2_3.toInt ≤ 1023) ∧ (n_i0_1 = it0 ∨ n_i0_1 = tn) ∧ (n_i1_1 = it1 ∨ n_i1_1 = tn) ∧ (n_i2_1 = it2 ∨ n_i2_1 = tn) ∧ ((p1.toInt = 0 ∧ n_i0_0.toInt = 1) ∨ (¬ p1.toInt = 0 ∧ n_i0_0.toInt = i0_isKept.toInt)) ∧ ((p1.toInt = 1 ∧ n_i1_0.toInt = 1) ∨ (¬ p1.toInt = 1 ∧ n_i1_0.toInt = i1_isKept.toInt)) ∧ ((p1.toInt = 2 ∧ n_i2_0.toInt = 1) ∨ (¬ p1.toInt = 2 ∧ n_i2_0.toInt = i2_isKept.toInt)) ∧ ((p1.toInt = 0 ∧ n_i0_1 = tn ∧ n_i0_2.toInt = nw_strayed.toInt ∧ n_i0_3.toInt = nw_names.toInt ∧ n_i0_4.toInt = nw_known.toInt ∧ n_i0_5.toInt = nw_gone.toInt) ∨ (¬ p1.toInt = 0 ∧ n_i0_1 = it0 ∧ n_i0_2.toInt = i0_strayed.toInt ∧ n_i0_3.toInt = i0_names.toInt ∧ n_i0_4.toInt = i0_known.toInt ∧ n_i0_5.toInt = i0_gone.toInt)) ∧ ((p1.toInt = 1 ∧ n_i1_1 = tn ∧ n_i1_2.toInt = nw_strayed.toInt ∧ n_i1_3.toInt = nw_names.toInt ∧ n_i1_4.toInt = nw_known.toInt ∧ n_i1_5.toInt = nw_gone.toInt) ∨ (¬ p1.toInt = 1 ∧ n_i1_1 = it1 ∧ n_i1_2.toInt = i1_strayed.toInt ∧ n_i1_3.toInt = i1_names.toInt ∧ n_i1_4.toInt = i1_known.toInt ∧ n_i1_5.toInt = i1_gone.toInt)) ∧ ((p1.toInt = 2 ∧ n_i2_1 = tn ∧ n_i2_2.toInt = nw_strayed.toInt ∧ n_i2_3.toInt = nw_names.toInt ∧ n_i2_4.toInt = nw_known.toInt ∧ n_i2_5.toInt = nw_gone.toInt) ∨ (¬ p1.toInt = 2 ∧ n_i2_1 = it2 ∧ n_i2_2.toInt = i2_strayed.toInt ∧ n_i2_3.toInt = i2_names.toInt ∧ n_i2_4.toInt = i2_known.toInt ∧ n_i2_5.toInt = i2_gone.toInt)) ∧ zW dC dI (zV203 h0 tp h0_tapeLength h0_faultKind h0_faultPlace nw im sl rd wk fm mt ch dy im cA_im f_im nw nw_isKept tn nw_strayed nw_names nw_known nw_gone i0 n_i0_0 n_i0_1 n_i0_2 n_i0_3 n_i0_4 n_i0_5 i1 n_i1_0 n_i1_1 n_i1_2 n_i1_3 n_i1_4 n_i1_5 i2 n_i2_0 n_i2_1 n_i2_2 n_i2_3 n_i2_4 n_i2_5) [] (va_A (zV203 h0 tp h0_tapeLength h0_faultKind h0_faultPlace nw im sl rd wk fm mt ch dy im cA_im f_im nw nw_isKept tn nw_strayed nw_names nw_known nw_gone i0 i0_isKept it0 i0_strayed i0_names i0_known i0_gone i1 i1_isKept it1 i1_strayed i1_names i1_known i1_gone i2 i2_isKept it2 i2_strayed i2_names i2_known i2_gone) sz) t) (va_A (zV203 h0 tp h0_tapeLength h0_faultKind h0_faultPlace nw im sl rd wk fm mt ch dy im cA_im f_im nw nw_isKept tn nw_strayed nw_names nw_known nw_gone i0 i0_isKept it0 i0_strayed i0_names i0_known i0_gone i1 i1_isKept it1 i1_strayed i1_names i1_known i1_gone i2 i2_isKept it2 i2_strayed i2_names i2_known i2_gone) sz)) 0 0 (va_A (zV203 h0 tp h0_tapeLength h0_faultKind h0_faultPlace nw im sl rd wk fm mt ch dy im cA_im f_im nw nw_isKept tn nw_strayed nw_names nw_known nw_gone i0 i0_isKept it0 i0_strayed i0_names i0_known i0_gone i1 i1_isKept it1 i1_strayed i1_names i1_known i1_gone i2 i2_isKept it2 i2_strayed i2_names i2_known i2_gone) sz) := by
  refine z_enter (by decide) (by exact (Nat.le_of_ble_eq_true rfl)) ?_
  intro p e s m args below meth c ls A R Qc hargs hsz hQe hAe hRe hx hb hml hr hts hown hlocks hin hl hP hK hD hN hXs hA hS
  rw [hAe] at hQe
  have hown : s.vm.findClass RX9 = some m.cls := hown
  have hl : lv_has ls 2 [(0, .ref h0), (1, .int p1)] := hl
  refine lv_iload_n hx hb dX9_keep_0 rfl (lv_at hl 1 rfl) ?_
  obtain ⟨hPc, hDc, hFc⟩ := z_cut (wc := []) hP hD hS hA [] rfl (by decide +kernel)
  have hKc := hK.sub (tys' := []) [] rfl
  refine va_calli (va_runS (As := [.int p1]) (rest := []) ⟨hx, hb, hml, hown, hts⟩ (k_X9_isImage_v1 l sa dC dI p1 s.heap.size) (va_cwS 1 hts (z_gS zw_t6_56 zw_t6_57 zw_t1_1 zw_t6_58) rfl rfl rfl (by decide +kernel) (by rw [← hRe]; exact ⟨(Nat.le_of_ble_eq_true rfl), (Nat.le_of_ble_eq_true rfl)⟩)) (z_preS hPc hKc hDc hN hXs hS hFc) rfl rfl hl.1 rfl (lv_room (Nat.le_of_ble_eq_true rfl)) dX9_keep_1 (by rw [← hRe]; exact ⟨(Nat.le_of_ble_eq_true rfl), (Nat.le_of_ble_eq_true rfl)⟩)) hS (fun q _ h => hFc q h) hFc (fun r_1 u t H1 locs ht hvm hw hB hz1 hk1 hS => ?_)
  obtain ⟨hP, hD, hK⟩ := z_after3 (wn := (zV203 h0 tp h0_tapeLength h0_faultKind h0_faultPlace nw im sl rd wk fm mt ch dy im cA_im f_im nw nw_isKept tn nw_strayed nw_names nw_known nw_gone i0 i0_isKept it0 i0_strayed i0_names i0_known i0_gone i1 i1_isKept it1 i1_strayed i1_names i1_known i1_gone i2 i2_isKept it2 i2_strayed i2_names i2_known i2_gone)) hB ht hvm hP hD hK [] [0, 1, 2, 3, 4, 5] rfl 6 rfl (by decide +kernel) rfl (by decide +kernel) hk1 hFc
  generalize H1 = H at hP hS ⊢
  have hK : va_K (dC, dI) vwCl [(cA_im, .object RX3)] s := hK
  have b_r_1 : 0 ≤ r_1.toInt ∧ r_1.toInt ≤ 1 := hw.1
  have s_r_1 := hw.2
  refine lv_if_ne (tgt := 10) hx hb dX9_keep_4 (by decide) (fun c_2 => ?_) (fun c_2 => ?_)
  · have ic_2 := zz_ne rfl (show Int32.toInt 0 = 0 from by decide) c_2
    refine lv_aload_n hx hb dX9_keep_10 rfl (lv_at hl 0 rfl) ?_
    refine va_get (D := (dC, dI)) (ci := 9) (v := .ref im) (C := RX9) (T := TX9) (N := 13) hx hb hts zl_X9 hown hK hP 0 rfl rfl 5 (by decide) (hts _ zw_t2_194) (fun _ h9 => h9) rfl dX9_keep_11 ?_
    refine lv_iload_n hx hb dX9_keep_14 rfl (lv_at hl 1 rfl) ?_
    rcases z_s2 p1 with q_sw | rfl | rfl | rfl | q_sw
    · omega
    · have zc_0 : Int32.toInt 0 = 0 := by decide
      refine va_aldq hx hb hK hP 1 0 rfl rfl (zi_in (show Int32.toInt 0 = 0 from by decide) (by decide)) dX9_keep_15 ?_
      refine W.eq (g2 := F0 m 16 ls (.ref i0 :: [])) (by rw [show f_im (Int32.toNatClampNeg 0) = some i0 from (by rw [show Int32.toNatClampNeg 0 = 0 from by decide]; exact him0)]; rfl) ?_
      refine lv_aload_n hx hb dX9_keep_16 rfl (lv_at hl 0 rfl) ?_
      refine va_get (D := (dC, dI)) (ci := 9) (v := .ref nw) (C := RX9) (T := TX9) (N := 13) hx hb hts zl_X9 hown hK hP 0 rfl rfl 4 (by decide) (hts _ zw_t2_193) (fun _ h9 => h9) rfl dX9_keep_17 ?_
      obtain ⟨hPc, hDc, hFc⟩ := z_cut (wc := (zV8 i0 i0_isKept it0 i0_strayed i0_names i0_known i0_gone nw nw_isKept tn nw_strayed nw_names nw_known nw_gone)) hP hD hS hA [3, 2] rfl (by decide +kernel)
      have hKc := hK.sub (tys' := []) [] rfl
      refine va_callv (va_runV (As := [.ref nw]) (rest := []) ⟨hx, hb, hml, hown, hts⟩ (k_X3_take l sa dC dI i0 nw i0_isKept it0 i0_strayed i0_names i0_known i0_gone nw_isKept tn nw_strayed nw_names nw_known nw_gone b_i0_isKept b_i0_names b_nw_isKept b_nw_names H.size) (cwV 1 hts (z_gV zw_t6_59 zw_t6_60 zw_t6_61 zw_t1_2 zw_t6_62) rfl rfl rfl (by decide +kernel) (by rw [← hRe]; exact ⟨(Nat.le_of_ble_eq_true rfl), (Nat.le_of_ble_eq_true rfl)⟩)) (z_preV hPc hKc hDc hN hXs hS hFc (q := (RX3, TX3, 6)) (ci := 3) (q0 := 0) rfl rfl) rfl rfl hl.1 rfl (lv_room (Nat.le_of_ble_eq_true rfl)) dX9_keep_20 (by rw [← hRe]; exact ⟨(Nat.le_of_ble_eq_true rfl), (Nat.le_of_ble_eq_true rfl)⟩)) hS (fun q _ h => hFc q h) hFc (fun u t H1 locs ht hvm hw hB hz1 hk1 hS => ?_)
      refine hB.elim fun n_nw_4 ze1 => ze1.elim fun n_nw_5 ze2 => ze2.elim fun n_nw_6 ze3 => ze3.elim fun n_nw_7 ze4 => ze4.elim fun b_n_nw_5 ze5 => ?_
      clear hB ze1 ze2 ze3 ze4
      have hB := ze5
      clear ze5
      obtain ⟨hP, hD, hK⟩ := z_after3 (wn := (zV203 h0 tp h0_tapeLength h0_faultKind h0_faultPlace nw im sl rd wk fm mt ch dy im cA_im f_im i1 i1_isKept it1 i1_strayed i1_names i1_known i1_gone i2 i2_isKept it2 i2_strayed i2_names i2_known i2_gone i0 i0_isKept tn n_nw_4 n_nw_5 n_nw_6 n_nw_7 nw nw_isKept tn nw_strayed nw_names nw_known nw_gone)) hB ht hvm hP hD hK [3, 2] [0, 1, 4, 5] rfl 6 rfl (by decide +kernel) rfl (by decide +kernel) hk1 hFc
      generalize H1 = H at hP hS ⊢
      have hK : va_K (dC, dI) vwCl [(cA_im, .object RX3)] s := hK
      refine lv_aload_n hx hb dX9_keep_23 rfl (lv_at hl 0 rfl) ?_
      refine va_get (D := (dC, dI)) (ci := 9) (v := .ref im) (C := RX9) (T := TX9) (N := 13) hx hb hts zl_X9 hown hK hP 0 rfl rfl 5 (by decide) (hts _ zw_t2_194) (fun _ h9 => h9) rfl dX9_keep_24 ?_
      refine lv_iload_n hx hb dX9_keep_27 rfl (lv_at hl 1 rfl) ?_
      refine va_aldq hx hb hK hP 1 0 rfl rfl (zi_in (show Int32.toInt 0 = 0 from by decide) (by decide)) dX9_keep_28 ?_
      refine W.eq (g2 := F0 m 29 ls (.ref i0 :: [])) (by rw [show f_im (Int32.toNatClampNeg 0) = some i0 from (by rw [show Int32.toNatClampNeg 0 = 0 from by decide]; exact him0)]; rfl) ?_
      refine lv_iconst (v := 1) hx hb dX9_keep_29 (by decide) ?_
      refine va_put (D := (dC, dI)) (ci := 3) (v := .int 1) (ty := .boolean) (C := RX3) (T := TX3) (N := 6) hx hb hts zl_X3 tyX3 tyX3_ok nmX3 hown hK hP hD hS 4 rfl rfl 0 (by decide) (hts _ zw_t1_152) (fun _ h9 => h9) rfl (by decide +kernel) (by decide) (by decide) (Nat.le_of_ble_eq_true rfl) dX9_keep_30 (fun H locs hP hD hS => ?_)
      have hP : va_P (dC, dI) vwCl (zV204 h0 tp h0_tapeLength h0_faultKind h0_faultPlace nw im sl rd wk fm mt ch dy im cA_im f_im i1 i1_isKept it1 i1_strayed i1_names i1_known i1_gone i2 i2_isKept it2 i2_strayed i2_names i2_known i2_gone i0 tn n_nw_4 n_nw_5 n_nw_6 n_nw_7 nw nw_isKept tn nw_strayed nw_names nw_known nw_gone) H := hP
      have hD : va_D A (zV204 h0 tp h0_tapeLength h0_faultKind h0_faultPlace nw im sl rd wk fm mt ch dy im cA_im f_im i1 i1_isKept it1 i1_strayed i1_names i1_known i1_gone i2 i2_isKept it2 i2_strayed i2_names i2_known i2_gone i0 tn n_nw_4 n_nw_5 n_nw_6 n_nw_7 nw nw_isKept tn nw_strayed nw_names nw_known nw_gone) := hD
      refine lv_iconst (v := 0) hx hb dX9_keep_33 (by decide) ?_
      have zq_1 : Int32.toInt 1 = 1 := by decide
      have zc : Int32.toInt 0 = 0 := by decide
      exact W.iret (v := 0) hx hb hr (fun t ht hW => by rw [← hQe]; exact ⟨⟨0, (), rfl, (by first | with_reducible assumption | omega), ⟨(1), tn, n_nw_4, n_nw_5, n_nw_6, n_nw_7, i1_isKept, it1, i1_strayed, i1_names, i1_known, i1_gone, i2_isKept, it2, i2_strayed, i2_names, i2_known, i2_gone, (by decide), (by first | with_reducible assumption | omega), (by first | with_reducible assumption | omega), (by first | with_reducible assumption | omega), (by first | with_reducible assumption | omega), (by first | with_reducible assumption | omega), (by first | omega | assumption), (by first | omega | assumption), (by first | omega | assumption), (by first | omega | assumption), (by first | omega | assumption), (by first | omega | assumption), (by first | omega | assumption), (by first | omega | assumption), (by first | omega | assumption), z_ret hP hK hD ht hW [0, 1, 5, 4, 2, 3] [] rfl (by decide) rfl⟩⟩, hS.F ht⟩) hS.2.2 dX9_keep_34
    · have zc_1 : Int32.toInt 1 = 1 := by decide
      refine va_aldq hx hb hK hP 1 0 rfl rfl (zi_in (show Int32.toInt 1 = 1 from by decide) (by decide)) dX9_keep_15 ?_
      refine W.eq (g2 := F0 m 16 ls (.ref i1 :: [])) (by rw [show f_im (Int32.toNatClampNeg 1) = some i1 from (by rw [show Int32.toNatClampNeg 1 = 1 from by decide]; exact him1)]; rfl) ?_
      refine lv_aload_n hx hb dX9_keep_16 rfl (lv_at hl 0 rfl) ?_
      refine va_get (D := (dC, dI)) (ci := 9) (v := .ref nw) (C := RX9) (T := TX9) (N := 13) hx hb hts zl_X9 hown hK hP 0 rfl rfl 4 (by decide) (hts _ zw_t2_193) (fun _ h9 => h9) rfl dX9_keep_17 ?_
      obtain ⟨hPc, hDc, hFc⟩ := z_cut (wc := (zV8 i1 i1_isKept it1 i1_strayed i1_names i1_known i1_gone nw nw_isKept tn nw_strayed nw_names nw_known nw_gone)) hP hD hS hA [4, 2] rfl (by decide +kernel)
      have hKc := hK.sub (tys' := []) [] rfl
      refine va_callv (va_runV (As := [.ref nw]) (rest := []) ⟨hx, hb, hml, hown, hts⟩ (k_X3_take l sa dC dI i1 nw i1_isKept it1 i1_strayed i1_names i1_known i1_gone nw_isKept tn nw_strayed nw_names nw_known nw_gone b_i1_isKept b_i1_names b_nw_isKept b_nw_names H.size) (cwV 1 hts (z_gV zw_t6_59 zw_t6_60 zw_t6_61 zw_t1_2 zw_t6_62) rfl rfl rfl (by decide +kernel) (by rw [← hRe]; exact ⟨(Nat.le_of_ble_eq_true rfl), (Nat.le_of_ble_eq_true rfl)⟩)) (z_preV hPc hKc hDc hN hXs hS hFc (q := (RX3, TX3, 6)) (ci := 3) (q0 := 0) rfl rfl) rfl rfl hl.1 rfl (lv_room (Nat.le_of_ble_eq_true rfl)) dX9_keep_20 (by rw [← hRe]; exact ⟨(Nat.le_of_ble_eq_true rfl), (Nat.le_of_ble_eq_true rfl)⟩)) hS (fun q _ h => hFc q h) hFc (fun u t H1 locs ht hvm hw hB hz1 hk1 hS => ?_)
      refine hB.elim fun n_nw_9 ze1 => ze1.elim fun n_nw_10 ze2 => ze2.elim fun n_nw_11 ze3 => ze3.elim fun n_nw_12 ze4 => ze4.elim fun b_n_nw_10 ze5 => ?_
      clear hB ze1 ze2 ze3 ze4
      have hB := ze5
      clear ze5
      obtain ⟨hP, hD, hK⟩ := z_after3 (wn := (zV203 h0 tp h0_tapeLength h0_faultKind h0_faultPlace nw im sl rd wk fm mt ch dy im cA_im f_im i0 i0_isKept it0 i0_strayed i0_names i0_known i0_gone i2 i2_isKept it2 i2_strayed i2_names i2_known i2_gone i1 i1_isKept tn n_nw_9 n_nw_10 n_nw_11 n_nw_12 nw nw_isKept tn nw_strayed nw_names nw_known nw_gone)) hB ht hvm hP hD hK [4, 2] [0, 1, 3, 5] rfl 6 rfl (by decide +kernel) rfl (by decide +kernel) hk1 hFc
      generalize H1 = H at hP hS ⊢
      have hK : va_K (dC, dI) vwCl [(cA_im, .object RX3)] s := hK
      refine lv_aload_n hx hb dX9_keep_23 rfl (lv_at hl 0 rfl) ?_
      refine va_get (D := (dC, dI)) (ci := 9) (v := .ref im) (C := RX9) (T := TX9) (N := 13) hx hb hts zl_X9 hown hK hP 0 rfl rfl 5 (by decide) (hts _ zw_t2_194) (fun _ h9 => h9) rfl dX9_keep_24 ?_
      refine lv_iload_n hx hb dX9_keep_27 rfl (lv_at hl 1 rfl) ?_
      refine va_aldq hx hb hK hP 1 0 rfl rfl (zi_in (show Int32.toInt 1 = 1 from by decide) (by decide)) dX9_keep_28 ?_
      refine W.eq (g2 := F0 m 29 ls (.ref i1 :: [])) (by rw [show f_im (Int32.toNatClampNeg 1) = some i1 from (by rw [show Int32.toNatClampNeg 1 = 1 from by decide]; exact him1)]; rfl) ?_
      refine lv_iconst (v := 1) hx hb dX9_keep_29 (by decide) ?_
      refine va_put (D := (dC, dI)) (ci := 3) (v := .int 1) (ty := .boolean) (C := RX3) (T := TX3) (N := 6) hx hb hts zl_X3 tyX3 tyX3_ok nmX3 hown hK hP hD hS 4 rfl rfl 0 (by decide) (hts _ zw_t1_152) (fun _ h9 => h9) rfl (by decide +kernel) (by decide) (by decide) (Nat.le_of_ble_eq_true rfl) dX9_keep_30 (fun H locs hP hD hS => ?_)
      have hP : va_P (dC, dI) vwCl (zV204 h0 tp h0_tapeLength h0_faultKind h0_faultPlace nw im sl rd wk fm mt ch dy im cA_im f_im i0 i0_isKept it0 i0_strayed i0_names i0_known i0_gone i2 i2_isKept it2 i2_strayed i2_names i2_known i2_gone i1 tn n_nw_9 n_nw_10 n_nw_11 n_nw_12 nw nw_isKept tn nw_strayed nw_names nw_known nw_gone) H := hP
      have hD : va_D A (zV204 h0 tp h0_tapeLength h0_faultKind h0_faultPlace nw im sl rd wk fm mt ch dy im cA_im f_im i0 i0_isKept it0 i0_strayed i0_names i0_known i0_gone i2 i2_isKept it2 i2_strayed i2_names i2_known i2_gone i1 tn n_nw_9 n_nw_10 n_nw_11 n_nw_12 nw nw_isKept tn nw_strayed nw_names nw_known nw_gone) := hD
      refine lv_iconst (v := 0) hx hb dX9_keep_33 (by decide) ?_
      have zq_1 : Int32.toInt 1 = 1 := by decide
      have zc : Int32.toInt 0 = 0 := by decide
      exact W.iret (v := 0) hx hb hr (fun t ht hW => by rw [← hQe]; exact ⟨⟨0, (), rfl, (by first | with_reducible assumption | omega), ⟨i0_isKept, it0, i0_strayed, i0_names, i0_known, i0_gone, (1), tn, n_nw_9, n_nw_10, n_nw_11, n_nw_12, i2_isKept, it2, i2_strayed, i2_names, i2_known, i2_gone, (by first | with_reducible assumption | omega), (by first | with_reducible assumption | omega), (by decide), (by first | with_reducible assumption | omega), (by first | with_reducible assumption | omega), (by first | with_reducible assumption | omega), (by first | omega | assumption), (by first | omega | assumption), (by first | omega | assumption), (by first | omega | assumption), (by first | omega | assumption), (by first | omega | assumption), (by first | omega | assumption), (by first | omega | assumption), (by first | omega | assumption), z_ret hP hK hD ht hW [0, 1, 5, 2, 4, 3] [] rfl (by decide) rfl⟩⟩, hS.F ht⟩) hS.2.2 dX9_keep_34
    · have zc_2 : Int32.toInt 2 = 2 := by decide
      refine va_aldq hx hb hK hP 1 0 rfl rfl (zi_in (show Int32.toInt 2 = 2 from by decide) (by decide)) dX9_keep_15 ?_
      refine W.eq (g2 := F0 m 16 ls (.ref i2 :: [])) (by rw [show f_im (Int32.toNatClampNeg 2) = some i2 from (by rw [show Int32.toNatClampNeg 2 = 2 from by decide]; exact him2)]; rfl) ?_
      refine lv_aload_n hx hb dX9_keep_16 rfl (lv_at hl 0 rfl) ?_
      refine va_get (D := (dC, dI)) (ci := 9) (v := .ref nw) (C := RX9) (T := TX9) (N := 13) hx hb hts zl_X9 hown hK hP 0 rfl rfl 4 (by decide) (hts _ zw_t2_193) (fun _ h9 => h9) rfl dX9_keep_17 ?_
      obtain ⟨hPc, hDc, hFc⟩ := z_cut (wc := (zV8 i2 i2_isKept it2 i2_strayed i2_names i2_known i2_gone nw nw_isKept tn nw_strayed nw_names nw_known nw_gone)) hP hD hS hA [5, 2] rfl (by decide +kernel)
      have hKc := hK.sub (tys' := []) [] rfl
      refine va_callv (va_runV (As := [.ref nw]) (rest := []) ⟨hx, hb, hml, hown, hts⟩ (k_X3_take l sa dC dI i2 nw i2_isKept it2 i2_strayed i2_names i2_known i2_gone nw_isKept tn nw_strayed nw_names nw_known nw_gone b_i2_isKept b_i2_names b_nw_isKept b_nw_names H.size) (cwV 1 hts (z_gV zw_t6_59 zw_t6_60 zw_t6_61 zw_t1_2 zw_t6_62) rfl rfl rfl (by decide +kernel) (by rw [← hRe]; exact ⟨(Nat.le_of_ble_eq_true rfl), (Nat.le_of_ble_eq_true rfl)⟩)) (z_preV hPc hKc hDc hN hXs hS hFc (q := (RX3, TX3, 6)) (ci := 3) (q0 := 0) rfl rfl) rfl rfl hl.1 rfl (lv_room (Nat.le_of_ble_eq_true rfl)) dX9_keep_20 (by rw [← hRe]; exact ⟨(Nat.le_of_ble_eq_true rfl), (Nat.le_of_ble_eq_true rfl)⟩)) hS (fun q _ h => hFc q h) hFc (fun u t H1 locs ht hvm hw hB hz1 hk1 hS => ?_)
      refine hB.elim fun n_nw_14 ze1 => ze1.elim fun n_nw_15 ze2 => ze2.elim fun n_nw_16 ze3 => ze3.elim fun n_nw_17 ze4 => ze4.elim fun b_n_nw_15 ze5 => ?_
      clear hB ze1 ze2 ze3 ze4
      have hB := ze5
      clear ze5
      obtain ⟨hP, hD, hK⟩ := z_after3 (wn := (zV203 h0 tp h0_tapeLength h0_faultKind h0_faultPlace nw im sl rd wk fm mt ch dy im cA_im f_im i0 i0_isKept it0 i0_strayed i0_names i0_known i0_gone i1 i1_isKept it1 i1_strayed i1_names i1_known i1_gone i2 i2_isKept tn n_nw_14 n_nw_15 n_nw_16 n_nw_17 nw nw_isKept tn nw_strayed nw_names nw_known nw_gone)) hB ht hvm hP hD hK [5, 2] [0, 1, 3, 4] rfl 6 rfl (by decide +kernel) rfl (by decide +kernel) hk1 hFc
      generalize H1 = H at hP hS ⊢
      have hK : va_K (dC, dI) vwCl [(cA_im, .object RX3)] s := hK
      refine lv_aload_n hx hb dX9_keep_23 rfl (lv_at hl 0 rfl) ?_
      refine va_get (D := (dC, dI)) (ci := 9) (v := .ref im) (C := RX9) (T := TX9) (N := 13) hx hb hts zl_X9 hown hK hP 0 rfl rfl 5 (by decide) (hts _ zw_t2_194) (fun _ h9 => h9) rfl dX9_keep_24 ?_
      refine lv_iload_n hx hb dX9_keep_27 rfl (lv_at hl 1 rfl) ?_
      refine va_aldq hx hb hK hP 1 0 rfl rfl (zi_in (show Int32.toInt 2 = 2 from by decide) (by decide)) dX9_keep_28 ?_
      refine W.eq (g2 := F0 m 29 ls (.ref i2 :: [])) (by rw [show f_im (Int32.toNatClampNeg 2) = some i2 from (by rw [show Int32.toNatClampNeg 2 = 2 from by decide]; exact him2)]; rfl) ?_
      refine lv_iconst (v := 1) hx hb dX9_keep_29 (by decide) ?_
      refine va_put (D := (dC, dI)) (ci := 3) (v := .int 1) (ty := .boolean) (C := RX3) (T := TX3) (N := 6) hx hb hts zl_X3 tyX3 tyX3_ok nmX3 hown hK hP hD hS 4 rfl rfl 0 (by decide) (hts _ zw_t1_152) (fun _ h9 => h9) rfl (by decide +kernel) (by decide) (by decide) (Nat.le_of_ble_eq_true rfl) dX9_keep_30 (fun H locs hP hD hS => ?_)
      have hP : va_P (dC, dI) vwCl (zV204 h0 tp h0_tapeLength h0_faultKind h0_faultPlace nw im sl rd wk fm mt ch dy im cA_im f_im i0 i0_isKept it0 i0_strayed i0_names i0_known i0_gone i1 i1_isKept it1 i1_strayed i1_names i1_known i1_gone i2 tn n_nw_14 n_nw_15 n_nw_16 n_nw_17 nw nw_isKept tn nw_strayed nw_names nw_known nw_gone) H := hP
      have hD : va_D A (zV204 h0 tp h0_tapeLength h0_faultKind h0_faultPlace nw im sl rd wk fm mt ch dy im cA_im f_im i0 i0_isKept it0 i0_strayed i0_names i0_known i0_gone i1 i1_isKept it1 i1_strayed i1_names i1_known i1_gone i2 tn n_nw_14 n_nw_15 n_nw_16 n_nw_17 nw nw_isKept tn nw_strayed nw_names nw_known nw_gone) := hD
      refine lv_iconst (v := 0) hx hb dX9_keep_33 (by decide) ?_
      have zq_1 : Int32.toInt 1 = 1 := by decide
      have zc : Int32.toInt 0 = 0 := by decide
      exact W.iret (v := 0) hx hb hr (fun t ht hW => by rw [← hQe]; exact ⟨⟨0, (), rfl, (by first | with_reducible assumption | omega), ⟨i0_isKept, it0, i0_strayed, i0_names, i0_known, i0_gone, i1_isKept, it1, i1_strayed, i1_names, i1_known, i1_gone, (1), tn, n_nw_14, n_nw_15, n_nw_16, n_nw_17, (by first | with_reducible assumption | omega), (by first | with_reducible assumption | omega), (by first | with_reducible assumption | omega), (by first | with_reducible assumption | omega), (by decide), (by first | with_reducible assumption | omega), (by first | omega | assumption), (by first | omega | assumption), (by first | omega | assumption), (by first | omega | assumption), (by first | omega | assumption), (by first | omega | assumption), (by first | omega | assumption), (by first | omega | assumption), (by first | omega | assumption), z_ret hP hK hD ht hW [0, 1, 5, 2, 3, 4] [] rfl (by decide) rfl⟩⟩, hS.F ht⟩) hS.2.2 dX9_keep_34
    · omega
  · have ic_2 := zz_nne rfl (show Int32.toInt 0 = 0 from by decide) c_2
    refine lv_bipush (v := (-2)) hx hb dX9_keep_7 (by decide) ?_
    have zq_1 : Int32.toInt 1 = 1 := by decide
    have zc : Int32.toInt (-2) = (-2) := by decide
    exact W.iret (v := (-2)) hx hb hr (fun t ht hW => by rw [← hQe]; exact ⟨⟨(-2), (), rfl, (by first | with_reducible assumption | omega), ⟨i0_isKept, it0, i0_strayed, i0_names, i0_known, i0_gone, i1_isKept, it1, i1_strayed, i1_names, i1_known, i1_gone, i2_isKept, it2, i2_strayed, i2_names, i2_known, i2_gone, (by first | with_reducible assumption | omega), (by first | with_reducible assumption | omega), (by first | with_reducible assumption | omega), (by first | with_reducible assumption | omega), (by first | with_reducible assumption | omega), (by first | with_reducible assumption | omega), (by first | omega | assumption), (by first | omega | assumption), (by first | omega | assumption), (by first | omega | assumption), (by first | omega | assumption), (by first | omega | assumption), (by first | omega | assumption), (by first | omega | assumption), (by first | omega | assumption), z_ret hP hK hD ht hW [0, 1, 2, 3, 4, 5] [] rfl (by decide) rfl⟩⟩, hS.F ht⟩) hS.2.2 dX9_keep_9
set_option maxHeartbeats 4000000 in
set_option maxRecDepth 100000 in
theorem k_X9_back_v1 (l : Launch) (sa : Nat → Nat) (dC : Nat → ClassId) (dI : Nat → Nat → Nat) (h0 : Nat) (p1 : Int32) (tp : Nat) (h0_tapeLength : Int32) (h0_faultKind : Int32) (h0_faultPlace : Int32) (nw : Nat) (im : Nat) (sl : Nat) (rd : Nat) (wk : Nat) (fm : Nat) (mt : Nat) (ch : Nat) (dy : Nat) (cA_im : ClassId) (f_im : Nat → Option Nat) (i0 : Nat) (i1 : Nat) (i2 : Nat) (nw_isKept : Int32) (tn : Nat) (nw_strayed : Int32) (nw_names : Int32) (nw_known : Int32) (nw_gone : Int32) (i0_isKept : Int32) (it0 : Nat) (i0_strayed : Int32) (i0_names : Int32) (i0_known : Int32) (i0_gone : Int32) (i1_isKept : Int32) (it1 : Nat) (i1_strayed : Int32) (i1_names : Int32) (i1_known : Int32) (i1_gone : Int32) (i2_isKept : Int32) (it2 : Nat) (i2_strayed : Int32) (i2_names : Int32) (i2_known : Int32) (i2_gone : Int32) (b_h0_tapeLength : 0 ≤ h0_tapeLength.toInt ∧ h0_tapeLength.toInt ≤ 1600) (him0 : f_im 0 = some i0) (him1 : f_im 1 = some i1) (him2 : f_im 2 = some i2) (b_nw_isKept : 0 ≤ nw_isKept.toInt ∧ nw_isKept.toInt ≤ 1) (b_nw_names : 0 ≤ nw_names.toInt ∧ nw_names.toInt ≤ 1023) (b_i0_isKept : 0 ≤ i0_isKept.toInt ∧ i0_isKept.toInt ≤ 1) (b_i0_names : 0 ≤ i0_names.toInt ∧ i0_names.toInt ≤ 1023) (b_i1_isKept : 0 ≤ i1_isKept.toInt ∧ i1_isKept.toInt ≤ 1) (b_i1_names : 0 ≤ i1_names.toInt ∧ i1_names.toInt ≤ 1023) (b_i2_isKept : 0 ≤ i2_isKept.toInt ∧ i2_isKept.toInt ≤ 1) (b_i2_names : 0 ≤ i2_names.toInt ∧ i2_names.toInt ≤ 1023) (sz : Nat) : Met l yX9_back (.code yX9_back cX9_back 2 (some .int) :: zT) ({ frames := 1, cells := 0, slots := 0, locals := 21 }) (va_Pc [.ref h0, .int p1] (zB sa dC dI (zV203 h0 tp h0_tapeLength h0_faultKind h0_faultPlace nw im sl rd wk fm mt ch dy im cA_im f_im nw nw_isKept tn nw_strayed nw_names nw_known nw_gone i0 i0_isKept it0 i0_strayed i0_names i0_known i0_gone i1 i1_isKept it1 i1_strayed i1_names i1_known i1_gone i2 i2_isKept it2 i2_strayed i2_names i2_known i2_gone) [(cA_im, .object RX3)] sz)) (va_Qi (fun (r : Int32) (u : Int32) => u = r ∧ ((-6) ≤ r.toInt ∧ r.toInt ≤ 0) ∧ ((r.toInt = -2 ∧ (p1.toInt < 0 ∨ 2 < p1.toInt)) ∨ (r.toInt = -6 ∧ ((p1.toInt = 0 ∧ i0_isKept.toInt = 0) ∨ (p1.toInt = 1 ∧ i1_isKept.toInt = 0) ∨ (p1.toInt = 2 ∧ i2_isKept.toInt = 0))) ∨ (r.toInt = 0 ∧ ((p1.toInt = 0 ∧ i0_isKept.toInt = 1) ∨ (p1.toInt = 1 ∧ i1_isKept.toInt = 1) ∨ (p1.toInt = 2 ∧ i2_isKept.toInt = 1))))) (fun u t => ∃ (n_nw_1 : Nat) (n_nw_2 : Int32) (n_nw_3 : Int32) (n_nw_4 : Int32) (n_nw_5 : Int32), (0 ≤ n_nw_3.toInt ∧ n_nw_3.toInt ≤ 1023) ∧ (n_nw_1 = tn ∨ n_nw_1 = it0 ∨ n_nw_1 = it1 ∨ n_nw_1 = it2) ∧ ((¬ u.toInt = 0 ∧ n_nw_1 = tn ∧ n_nw_2.toInt = nw_strayed.toInt ∧ n_nw_3.toInt = nw_names.toInt ∧ n_nw_4.toInt = nw_known.toInt ∧ n_nw_5.toInt = nw_gone.toInt) ∨ (p1.toInt = 0 ∧ u.toInt = 0 ∧ i0_isKept.toInt = 1 ∧ n_nw_1 = it0 ∧ n_nw_2.toInt = i0_strayed.toInt ∧ n_nw_3.toInt = i0_names.toInt ∧ n_nw_4.toInt = i0_known.toInt ∧ n_nw_5.toInt = i0_gone.toInt) ∨ (p1.toInt = 1 ∧ u.toInt = 0 ∧ i1_isKept.toInt = 1 ∧ n_nw_1 = it1 ∧ n_nw_2.toInt = i1_strayed.toInt ∧ n_nw_3.toInt = i1_names.toInt ∧ n_nw_4.toInt = i1_known.toInt ∧ n_nw_5.toInt = i1_gone.toInt) ∨ (p1.toInt = 2 ∧ u.toInt = 0 ∧ i2_isKept.toInt = 1 ∧ n_nw_1 = it2 ∧ n_nw_2.toInt = i2_strayed.toInt ∧ n_nw_3.toInt = i2_names.toInt ∧ n_nw_4.toInt = i2_known.toInt ∧ n_nw_5.toInt = i2_gone.toInt)) ∧ zW dC dI (zV203 h0 tp h0_tapeLength h0_faultKind h0_faultPlace nw im sl rd wk fm mt ch dy im cA_im f_im nw nw_isKept n_nw_1 n_nw_2 n_nw_3 n_nw_4 n_nw_5 i0 i0_isKept it0 i0_strayed i0_names i0_known i0_gone i1 i1_isKept it1 i1_strayed i1_names i1_known i1_gone i2 i2_isKept it2 i2_strayed i2_names i2_known i2_gone) [] (va_A (zV203 h0 tp h0_tapeLength h0_faultKind h0_faultPlace nw im sl rd wk fm mt ch dy im cA_im f_im nw nw_isKept tn nw_strayed nw_names nw_known nw_gone i0 i0_isKept it0 i0_strayed i0_names i0_known i0_gone i1 i1_isKept it1 i1_strayed i1_names i1_known i1_gone i2 i2_isKept it2 i2_strayed i2_names i2_known i2_gone) sz) t) (va_A (zV203 h0 tp h0_tapeLength h0_faultKind h0_faultPlace nw im sl rd wk fm mt ch dy im cA_im f_im nw nw_isKept tn nw_strayed nw_names nw_known nw_gone i0 i0_isKept it0 i0_strayed i0_names i0_known i0_gone i1 i1_isKept it1 i1_strayed i1_names i1_known i1_gone i2 i2_isKept it2 i2_strayed i2_names i2_known i2_gone) sz)) 0 0 (va_A (zV203 h0 tp h0_tapeLength h0_faultKind h0_faultPlace nw im sl rd wk fm mt ch dy im cA_im f_im nw nw_isKept tn nw_strayed nw_names nw_known nw_gone i0 i0_isKept it0 i0_strayed i0_names i0_known i0_gone i1 i1_isKept it1 i1_strayed i1_names i1_known i1_gone i2 i2_isKept it2 i2_strayed i2_names i2_known i2_gone) sz) := by
  refine z_enter (by decide) (by exact (Nat.le_of_ble_eq_true rfl)) ?_
  intro p e s m args below meth c ls A R Qc hargs hsz hQe hAe hRe hx hb hml hr hts hown hlocks hin hl hP hK hD hN hXs hA hS
  rw [hAe] at hQe
  have hown : s.vm.findClass RX9 = some m.cls := hown
  have hl : lv_has ls 2 [(0, .ref h0), (1, .int p1)] := hl
  refine lv_iload_n hx hb dX9_back_0 rfl (lv_at hl 1 rfl) ?_
  obtain ⟨hPc, hDc, hFc⟩ := z_cut (wc := []) hP hD hS hA [] rfl (by decide +kernel)
  have hKc := hK.sub (tys' := []) [] rfl
  refine va_calli (va_runS (As := [.int p1]) (rest := []) ⟨hx, hb, hml, hown, hts⟩ (k_X9_isImage_v1 l sa dC dI p1 s.heap.size) (va_cwS 1 hts (z_gS zw_t6_56 zw_t6_57 zw_t1_1 zw_t6_58) rfl rfl rfl (by decide +kernel) (by rw [← hRe]; exact ⟨(Nat.le_of_ble_eq_true rfl), (Nat.le_of_ble_eq_true rfl)⟩)) (z_preS hPc hKc hDc hN hXs hS hFc) rfl rfl hl.1 rfl (lv_room (Nat.le_of_ble_eq_true rfl)) dX9_back_1 (by rw [← hRe]; exact ⟨(Nat.le_of_ble_eq_true rfl), (Nat.le_of_ble_eq_true rfl)⟩)) hS (fun q _ h => hFc q h) hFc (fun r_1 u t H1 locs ht hvm hw hB hz1 hk1 hS => ?_)
  obtain ⟨hP, hD, hK⟩ := z_after3 (wn := (zV203 h0 tp h0_tapeLength h0_faultKind h0_faultPlace nw im sl rd wk fm mt ch dy im cA_im f_im nw nw_isKept tn nw_strayed nw_names nw_known nw_gone i0 i0_isKept it0 i0_strayed i0_names i0_known i0_gone i1 i1_isKept it1 i1_strayed i1_names i1_known i1_gone i2 i2_isKept it2 i2_strayed i2_names i2_known i2_gone)) hB ht hvm hP hD hK [] [0, 1, 2, 3, 4, 5] rfl 6 rfl (by decide +kernel) rfl (by decide +kernel) hk1 hFc
  generalize H1 = H at hP hS ⊢
  have hK : va_K (dC, dI) vwCl [(cA_im, .object RX3)] s := hK
  have b_r_1 : 0 ≤ r_1.toInt ∧ r_1.toInt ≤ 1 := hw.1
  have s_r_1 := hw.2
  refine lv_if_ne (tgt := 10) hx hb dX9_back_4 (by decide) (fun c_2 => ?_) (fun c_2 => ?_)
  · have ic_2 := zz_ne rfl (show Int32.toInt 0 = 0 from by decide) c_2
    refine lv_aload_n hx hb dX9_back_10 rfl (lv_at hl 0 rfl) ?_
    refine va_get (D := (dC, dI)) (ci := 9) (v := .ref im) (C := RX9) (T := TX9) (N := 13) hx hb hts zl_X9 hown hK hP 0 rfl rfl 5 (by decide) (hts _ zw_t2_194) (fun _ h9 => h9) rfl dX9_back_11 ?_
    refine lv_iload_n hx hb dX9_back_14 rfl (lv_at hl 1 rfl) ?_
    rcases z_s2 p1 with q_sw | rfl | rfl | rfl | q_sw
    · omega
    · have zc_0 : Int32.toInt 0 = 0 := by decide
      refine va_aldq hx hb hK hP 1 0 rfl rfl (zi_in (show Int32.toInt 0 = 0 from by decide) (by decide)) dX9_back_15 ?_
      refine W.eq (g2 := F0 m 16 ls (.ref i0 :: [])) (by rw [show f_im (Int32.toNatClampNeg 0) = some i0 from (by rw [show Int32.toNatClampNeg 0 = 0 from by decide]; exact him0)]; rfl) ?_
      refine va_get (D := (dC, dI)) (ci := 3) (v := .int i0_isKept) (C := RX3) (T := TX3) (N := 6) hx hb hts zl_X3 hown hK hP 3 rfl rfl 0 (by decide) (hts _ zw_t1_152) (fun _ h9 => h9) rfl dX9_back_16 ?_
      refine lv_if_ne (tgt := 25) hx hb dX9_back_19 (by decide) (fun c_3 => ?_) (fun c_3 => ?_)
      · have ic_3 := zz_ne rfl (show Int32.toInt 0 = 0 from by decide) c_3
        refine lv_aload_n hx hb dX9_back_25 rfl (lv_at hl 0 rfl) ?_
        refine va_get (D := (dC, dI)) (ci := 9) (v := .ref nw) (C := RX9) (T := TX9) (N := 13) hx hb hts zl_X9 hown hK hP 0 rfl rfl 4 (by decide) (hts _ zw_t2_193) (fun _ h9 => h9) rfl dX9_back_26 ?_
        refine lv_aload_n hx hb dX9_back_29 rfl (lv_at hl 0 rfl) ?_
        refine va_get (D := (dC, dI)) (ci := 9) (v := .ref im) (C := RX9) (T := TX9) (N := 13) hx hb hts zl_X9 hown hK hP 0 rfl rfl 5 (by decide) (hts _ zw_t2_194) (fun _ h9 => h9) rfl dX9_back_30 ?_
        refine lv_iload_n hx hb dX9_back_33 rfl (lv_at hl 1 rfl) ?_
        refine va_aldq hx hb hK hP 1 0 rfl rfl (zi_in (show Int32.toInt 0 = 0 from by decide) (by decide)) dX9_back_34 ?_
        refine W.eq (g2 := F0 m 35 ls (.ref i0 :: [.ref nw])) (by rw [show f_im (Int32.toNatClampNeg 0) = some i0 from (by rw [show Int32.toNatClampNeg 0 = 0 from by decide]; exact him0)]; rfl) ?_
        obtain ⟨hPc, hDc, hFc⟩ := z_cut (wc := (zV8 nw nw_isKept tn nw_strayed nw_names nw_known nw_gone i0 i0_isKept it0 i0_strayed i0_names i0_known i0_gone)) hP hD hS hA [2, 3] rfl (by decide +kernel)
        have hKc := hK.sub (tys' := []) [] rfl
        refine va_callv (va_runV (As := [.ref i0]) (rest := []) ⟨hx, hb, hml, hown, hts⟩ (k_X3_take l sa dC dI nw i0 nw_isKept tn nw_strayed nw_names nw_known nw_gone i0_isKept it0 i0_strayed i0_names i0_known i0_gone b_nw_isKept b_nw_names b_i0_isKept b_i0_names H.size) (cwV 1 hts (z_gV zw_t6_59 zw_t6_60 zw_t6_61 zw_t1_2 zw_t6_62) rfl rfl rfl (by decide +kernel) (by rw [← hRe]; exact ⟨(Nat.le_of_ble_eq_true rfl), (Nat.le_of_ble_eq_true rfl)⟩)) (z_preV hPc hKc hDc hN hXs hS hFc (q := (RX3, TX3, 6)) (ci := 3) (q0 := 0) rfl rfl) rfl rfl hl.1 rfl (lv_room (Nat.le_of_ble_eq_true rfl)) dX9_back_35 (by rw [← hRe]; exact ⟨(Nat.le_of_ble_eq_true rfl), (Nat.le_of_ble_eq_true rfl)⟩)) hS (fun q _ h => hFc q h) hFc (fun u t H1 locs ht hvm hw hB hz1 hk1 hS => ?_)
        refine hB.elim fun n_nw_5 ze1 => ze1.elim fun n_nw_6 ze2 => ze2.elim fun n_nw_7 ze3 => ze3.elim fun n_nw_8 ze4 => ze4.elim fun b_n_nw_6 ze5 => ?_
        clear hB ze1 ze2 ze3 ze4
        have hB := ze5
        clear ze5
        obtain ⟨hP, hD, hK⟩ := z_after3 (wn := (zV203 h0 tp h0_tapeLength h0_faultKind h0_faultPlace nw im sl rd wk fm mt ch dy im cA_im f_im i1 i1_isKept it1 i1_strayed i1_names i1_known i1_gone i2 i2_isKept it2 i2_strayed i2_names i2_known i2_gone nw nw_isKept it0 n_nw_5 n_nw_6 n_nw_7 n_nw_8 i0 i0_isKept it0 i0_strayed i0_names i0_known i0_gone)) hB ht hvm hP hD hK [2, 3] [0, 1, 4, 5] rfl 6 rfl (by decide +kernel) rfl (by decide +kernel) hk1 hFc
        generalize H1 = H at hP hS ⊢
        have hK : va_K (dC, dI) vwCl [(cA_im, .object RX3)] s := hK
        refine lv_iconst (v := 0) hx hb dX9_back_38 (by decide) ?_
        have zc : Int32.toInt 0 = 0 := by decide
        exact W.iret (v := 0) hx hb hr (fun t ht hW => by rw [← hQe]; exact ⟨⟨0, 0, rfl, ⟨rfl, (by first | with_reducible assumption | omega)⟩, ⟨it0, n_nw_5, n_nw_6, n_nw_7, n_nw_8, (by first | with_reducible assumption | omega), (by first | omega | assumption), (by first | omega | assumption), z_ret hP hK hD ht hW [0, 1, 4, 5, 2, 3] [] rfl (by decide) rfl⟩⟩, hS.F ht⟩) hS.2.2 dX9_back_39
      · have ic_3 := zz_nne rfl (show Int32.toInt 0 = 0 from by decide) c_3
        refine lv_bipush (v := (-6)) hx hb dX9_back_22 (by decide) ?_
        have zc : Int32.toInt (-6) = (-6) := by decide
        exact W.iret (v := (-6)) hx hb hr (fun t ht hW => by rw [← hQe]; exact ⟨⟨(-6), (-6), rfl, ⟨rfl, (by first | with_reducible assumption | omega)⟩, ⟨tn, nw_strayed, nw_names, nw_known, nw_gone, (by first | with_reducible assumption | omega), (by first | omega | assumption), (by first | omega | assumption), z_ret hP hK hD ht hW [0, 1, 2, 3, 4, 5] [] rfl (by decide) rfl⟩⟩, hS.F ht⟩) hS.2.2 dX9_back_24
    · have zc_1 : Int32.toInt 1 = 1 := by decide
      refine va_aldq hx hb hK hP 1 0 rfl rfl (zi_in (show Int32.toInt 1 = 1 from by decide) (by decide)) dX9_back_15 ?_
      refine W.eq (g2 := F0 m 16 ls (.ref i1 :: [])) (by rw [show f_im (Int32.toNatClampNeg 1) = some i1 from (by rw [show Int32.toNatClampNeg 1 = 1 from by decide]; exact him1)]; rfl) ?_
      refine va_get (D := (dC, dI)) (ci := 3) (v := .int i1_isKept) (C := RX3) (T := TX3) (N := 6) hx hb hts zl_X3 hown hK hP 4 rfl rfl 0 (by decide) (hts _ zw_t1_152) (fun _ h9 => h9) rfl dX9_back_16 ?_
      refine lv_if_ne (tgt := 25) hx hb dX9_back_19 (by decide) (fun c_9 => ?_) (fun c_9 => ?_)
      · have ic_9 := zz_ne rfl (show Int32.toInt 0 = 0 from by decide) c_9
        refine lv_aload_n hx hb dX9_back_25 rfl (lv_at hl 0 rfl) ?_
        refine va_get (D := (dC, dI)) (ci := 9) (v := .ref nw) (C := RX9) (T := TX9) (N := 13) hx hb hts zl_X9 hown hK hP 0 rfl rfl 4 (by decide) (hts _ zw_t2_193) (fun _ h9 => h9) rfl dX9_back_26 ?_
        refine lv_aload_n hx hb dX9_back_29 rfl (lv_at hl 0 rfl) ?_
        refine va_get (D := (dC, dI)) (ci := 9) (v := .ref im) (C := RX9) (T := TX9) (N := 13) hx hb hts zl_X9 hown hK hP 0 rfl rfl 5 (by decide) (hts _ zw_t2_194) (fun _ h9 => h9) rfl dX9_back_30 ?_
        refine lv_iload_n hx hb dX9_back_33 rfl (lv_at hl 1 rfl) ?_
        refine va_aldq hx hb hK hP 1 0 rfl rfl (zi_in (show Int32.toInt 1 = 1 from by decide) (by decide)) dX9_back_34 ?_
        refine W.eq (g2 := F0 m 35 ls (.ref i1 :: [.ref nw])) (by rw [show f_im (Int32.toNatClampNeg 1) = some i1 from (by rw [show Int32.toNatClampNeg 1 = 1 from by decide]; exact him1)]; rfl) ?_
        obtain ⟨hPc, hDc, hFc⟩ := z_cut (wc := (zV8 nw nw_isKept tn nw_strayed nw_names nw_known nw_gone i1 i1_isKept it1 i1_strayed i1_names i1_known i1_gone)) hP hD hS hA [2, 4] rfl (by decide +kernel)
        have hKc := hK.sub (tys' := []) [] rfl
        refine va_callv (va_runV (As := [.ref i1]) (rest := []) ⟨hx, hb, hml, hown, hts⟩ (k_X3_take l sa dC dI nw i1 nw_isKept tn nw_strayed nw_names nw_known nw_gone i1_isKept it1 i1_strayed i1_names i1_known i1_gone b_nw_isKept b_nw_names b_i1_isKept b_i1_names H.size) (cwV 1 hts (z_gV zw_t6_59 zw_t6_60 zw_t6_61 zw_t1_2 zw_t6_62) rfl rfl rfl (by decide +kernel) (by rw [← hRe]; exact ⟨(Nat.le_of_ble_eq_true rfl), (Nat.le_of_ble_eq_true rfl)⟩)) (z_preV hPc hKc hDc hN hXs hS hFc (q := (RX3, TX3, 6)) (ci := 3) (q0 := 0) rfl rfl) rfl rfl hl.1 rfl (lv_room (Nat.le_of_ble_eq_true rfl)) dX9_back_35 (by rw [← hRe]; exact ⟨(Nat.le_of_ble_eq_true rfl), (Nat.le_of_ble_eq_true rfl)⟩)) hS (fun q _ h => hFc q h) hFc (fun u t H1 locs ht hvm hw hB hz1 hk1 hS => ?_)
        refine hB.elim fun n_nw_11 ze1 => ze1.elim fun n_nw_12 ze2 => ze2.elim fun n_nw_13 ze3 => ze3.elim fun n_nw_14 ze4 => ze4.elim fun b_n_nw_12 ze5 => ?_
        clear hB ze1 ze2 ze3 ze4
        have hB := ze5
        clear ze5
        obtain ⟨hP, hD, hK⟩ := z_after3 (wn := (zV203 h0 tp h0_tapeLength h0_faultKind h0_faultPlace nw im sl rd wk fm mt ch dy im cA_im f_im i0 i0_isKept it0 i0_strayed i0_names i0_known i0_gone i2 i2_isKept it2 i2_strayed i2_names i2_known i2_gone nw nw_isKept it1 n_nw_11 n_nw_12 n_nw_13 n_nw_14 i1 i1_isKept it1 i1_strayed i1_names i1_known i1_gone)) hB ht hvm hP hD hK [2, 4] [0, 1, 3, 5] rfl 6 rfl (by decide +kernel) rfl (by decide +kernel) hk1 hFc
        generalize H1 = H at hP hS ⊢
        have hK : va_K (dC, dI) vwCl [(cA_im, .object RX3)] s := hK
        refine lv_iconst (v := 0) hx hb dX9_back_38 (by decide) ?_
        have zc : Int32.toInt 0 = 0 := by decide
        exact W.iret (v := 0) hx hb hr (fun t ht hW => by rw [← hQe]; exact ⟨⟨0, 0, rfl, ⟨rfl, (by first | with_reducible assumption | omega)⟩, ⟨it1, n_nw_11, n_nw_12, n_nw_13, n_nw_14, (by first | with_reducible assumption | omega), (by first | omega | assumption), (by first | omega | assumption), z_ret hP hK hD ht hW [0, 1, 4, 2, 5, 3] [] rfl (by decide) rfl⟩⟩, hS.F ht⟩) hS.2.2 dX9_back_39
      · have ic_9 := zz_nne rfl (show Int32.toInt 0 = 0 from by decide) c_9
        refine lv_bipush (v := (-6)) hx hb dX9_back_22 (by decide) ?_
        have zc : Int32.toInt (-6) = (-6) := by decide
        exact W.iret (v := (-6)) hx hb hr (fun t ht hW => by rw [← hQe]; exact ⟨⟨(-6), (-6), rfl, ⟨rfl, (by first | with_reducible assumption | omega)⟩, ⟨tn, nw_strayed, nw_names, nw_known, nw_gone, (by first | with_reducible assumption | omega), (by first | omega | assumption), (by first | omega | assumption), z_ret hP hK hD ht hW [0, 1, 2, 3, 4, 5] [] rfl (by decide) rfl⟩⟩, hS.F ht⟩) hS.2.2 dX9_back_24
    · have zc_2 : Int32.toInt 2 = 2 := by decide
      refine va_aldq hx hb hK hP 1 0 rfl rfl (zi_in (show Int32.toInt 2 = 2 from by decide) (by decide)) dX9_back_15 ?_
      refine W.eq (g2 := F0 m 16 ls (.ref i2 :: [])) (by rw [show f_im (Int32.toNatClampNeg 2) = some i2 from (by rw [show Int32.toNatClampNeg 2 = 2 from by decide]; exact him2)]; rfl) ?_
      refine va_get (D := (dC, dI)) (ci := 3) (v := .int i2_isKept) (C := RX3) (T := TX3) (N := 6) hx hb hts zl_X3 hown hK hP 5 rfl rfl 0 (by decide) (hts _ zw_t1_152) (fun _ h9 => h9) rfl dX9_back_16 ?_
      refine lv_if_ne (tgt := 25) hx hb dX9_back_19 (by decide) (fun c_15 => ?_) (fun c_15 => ?_)
      · have ic_15 := zz_ne rfl (show Int32.toInt 0 = 0 from by decide) c_15
        refine lv_aload_n hx hb dX9_back_25 rfl (lv_at hl 0 rfl) ?_
        refine va_get (D := (dC, dI)) (ci := 9) (v := .ref nw) (C := RX9) (T := TX9) (N := 13) hx hb hts zl_X9 hown hK hP 0 rfl rfl 4 (by decide) (hts _ zw_t2_193) (fun _ h9 => h9) rfl dX9_back_26 ?_
        refine lv_aload_n hx hb dX9_back_29 rfl (lv_at hl 0 rfl) ?_
        refine va_get (D := (dC, dI)) (ci := 9) (v := .ref im) (C := RX9) (T := TX9) (N := 13) hx hb hts zl_X9 hown hK hP 0 rfl rfl 5 (by decide) (hts _ zw_t2_194) (fun _ h9 => h9) rfl dX9_back_30 ?_
        refine lv_iload_n hx hb dX9_back_33 rfl (lv_at hl 1 rfl) ?_
        refine va_aldq hx hb hK hP 1 0 rfl rfl (zi_in (show Int32.toInt 2 = 2 from by decide) (by decide)) dX9_back_34 ?_
        refine W.eq (g2 := F0 m 35 ls (.ref i2 :: [.ref nw])) (by rw [show f_im (Int32.toNatClampNeg 2) = some i2 from (by rw [show Int32.toNatClampNeg 2 = 2 from by decide]; exact him2)]; rfl) ?_
        obtain ⟨hPc, hDc, hFc⟩ := z_cut (wc := (zV8 nw nw_isKept tn nw_strayed nw_names nw_known nw_gone i2 i2_isKept it2 i2_strayed i2_names i2_known i2_gone)) hP hD hS hA [2, 5] rfl (by decide +kernel)
        have hKc := hK.sub (tys' := []) [] rfl
        refine va_callv (va_runV (As := [.ref i2]) (rest := []) ⟨hx, hb, hml, hown, hts⟩ (k_X3_take l sa dC dI nw i2 nw_isKept tn nw_strayed nw_names nw_known nw_gone i2_isKept it2 i2_strayed i2_names i2_known i2_gone b_nw_isKept b_nw_names b_i2_isKept b_i2_names H.size) (cwV 1 hts (z_gV zw_t6_59 zw_t6_60 zw_t6_61 zw_t1_2 zw_t6_62) rfl rfl rfl (by decide +kernel) (by rw [← hRe]; exact ⟨(Nat.le_of_ble_eq_true rfl), (Nat.le_of_ble_eq_true rfl)⟩)) (z_preV hPc hKc hDc hN hXs hS hFc (q := (RX3, TX3, 6)) (ci := 3) (q0 := 0) rfl rfl) rfl rfl hl.1 rfl (lv_room (Nat.le_of_ble_eq_true rfl)) dX9_back_35 (by rw [← hRe]; exact ⟨(Nat.le_of_ble_eq_true rfl), (Nat.le_of_ble_eq_true rfl)⟩)) hS (fun q _ h => hFc q h) hFc (fun u t H1 locs ht hvm hw hB hz1 hk1 hS => ?_)
        refine hB.elim fun n_nw_17 ze1 => ze1.elim fun n_nw_18 ze2 => ze2.elim fun n_nw_19 ze3 => ze3.elim fun n_nw_20 ze4 => ze4.elim fun b_n_nw_18 ze5 => ?_
        clear hB ze1 ze2 ze3 ze4
        have hB := ze5
        clear ze5
        obtain ⟨hP, hD, hK⟩ := z_after3 (wn := (zV203 h0 tp h0_tapeLength h0_faultKind h0_faultPlace nw im sl rd wk fm mt ch dy im cA_im f_im i0 i0_isKept it0 i0_strayed i0_names i0_known i0_gone i1 i1_isKept it1 i1_strayed i1_names i1_known i1_gone nw nw_isKept it2 n_nw_17 n_nw_18 n_nw_19 n_nw_20 i2 i2_isKept it2 i2_strayed i2_names i2_known i2_gone)) hB ht hvm hP hD hK [2, 5] [0, 1, 3, 4] rfl 6 rfl (by decide +kernel) rfl (by decide +kernel) hk1 hFc
        generalize H1 = H at hP hS ⊢
        have hK : va_K (dC, dI) vwCl [(cA_im, .object RX3)] s := hK
        refine lv_iconst (v := 0) hx hb dX9_back_38 (by decide) ?_
        have zc : Int32.toInt 0 = 0 := by decide
        exact W.iret (v := 0) hx hb hr (fun t ht hW => by rw [← hQe]; exact ⟨⟨0, 0, rfl, ⟨rfl, (by first | with_reducible assumption | omega)⟩, ⟨it2, n_nw_17, n_nw_18, n_nw_19, n_nw_20, (by first | with_reducible assumption | omega), (by first | omega | assumption), (by first | omega | assumption), z_ret hP hK hD ht hW [0, 1, 4, 2, 3, 5] [] rfl (by decide) rfl⟩⟩, hS.F ht⟩) hS.2.2 dX9_back_39
      · have ic_15 := zz_nne rfl (show Int32.toInt 0 = 0 from by decide) c_15
        refine lv_bipush (v := (-6)) hx hb dX9_back_22 (by decide) ?_
        have zc : Int32.toInt (-6) = (-6) := by decide
        exact W.iret (v := (-6)) hx hb hr (fun t ht hW => by rw [← hQe]; exact ⟨⟨(-6), (-6), rfl, ⟨rfl, (by first | with_reducible assumption | omega)⟩, ⟨tn, nw_strayed, nw_names, nw_known, nw_gone, (by first | with_reducible assumption | omega), (by first | omega | assumption), (by first | omega | assumption), z_ret hP hK hD ht hW [0, 1, 2, 3, 4, 5] [] rfl (by decide) rfl⟩⟩, hS.F ht⟩) hS.2.2 dX9_back_24
    · omega
  · have ic_2 := zz_nne rfl (show Int32.toInt 0 = 0 from by decide) c_2
    refine lv_bipush (v := (-2)) hx hb dX9_back_7 (by decide) ?_
    have zc : Int32.toInt (-2) = (-2) := by decide
    exact W.iret (v := (-2)) hx hb hr (fun t ht hW => by rw [← hQe]; exact ⟨⟨(-2), (-2), rfl, ⟨rfl, (by first | with_reducible assumption | omega)⟩, ⟨tn, nw_strayed, nw_names, nw_known, nw_gone, (by first | with_reducible assumption | omega), (by first | omega | assumption), (by first | omega | assumption), z_ret hP hK hD ht hW [0, 1, 2, 3, 4, 5] [] rfl (by decide) rfl⟩⟩, hS.F ht⟩) hS.2.2 dX9_back_9
