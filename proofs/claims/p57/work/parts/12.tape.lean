theorem zw_s1_0 : Cond.selects RX9 yX9_putFour yX9_putFour ∈ zT := zs_1 (List.mem_of_getElem? (i := 0) (by decide +kernel))
theorem zw_t2_189 : Cond.fieldLink RX9 9 "NameGate" "tape" "[B" ∈ zT := zt_2 (List.mem_of_getElem? (i := 189) (by decide +kernel)) (by decide +kernel)
theorem zw_t2_233 : Cond.methodLink RX9 80 yX9_putFour ∈ zT := zt_2 (List.mem_of_getElem? (i := 233) (by decide +kernel)) (by decide +kernel)
theorem zw_t2_235 : Cond.instanceMethod yX9_putFour ∈ zT := zt_2 (List.mem_of_getElem? (i := 235) (by decide +kernel)) (by decide +kernel)
theorem zw_t2_236 : Cond.code yX9_putFour cX9_putFour 3 none ∈ zT := zt_2 (List.mem_of_getElem? (i := 236) (by decide +kernel)) (by decide +kernel)
def bcX9_feed_0 : List Nat := [42, 180, 0, 77, 16, 20, 96, 17, 6, 64, 164, 0, 5, 2, 172, 42, 27, 182, 0, 80, 42, 28, 182, 0, 80, 42, 29, 182, 0, 80, 42, 21, 4, 182, 0, 80, 42, 21, 5, 182, 0, 80, 42, 180, 0, 77, 172]
theorem bcX9_feed_0_ok : z_bys cX9_feed 0 bcX9_feed_0 = true := by decide +kernel
theorem dX9_feed_0 : decode cX9_feed 0 = .ok (.aload_n 0, 1) := zo_42 (z_byk bcX9_feed_0 0 0 _ bcX9_feed_0_ok rfl)
theorem dX9_feed_1 : decode cX9_feed 1 = .ok (.getfield 77, 3) := zo_180 (z_byk bcX9_feed_0 0 1 _ bcX9_feed_0_ok rfl) (z_byk bcX9_feed_0 0 2 _ bcX9_feed_0_ok rfl) (z_byk bcX9_feed_0 0 3 _ bcX9_feed_0_ok rfl) rfl
theorem dX9_feed_10 : decode cX9_feed 10 = .ok (.if_icmp .le 5, 3) := zo_164 (z_byk bcX9_feed_0 0 10 _ bcX9_feed_0_ok rfl) (z_byk bcX9_feed_0 0 11 _ bcX9_feed_0_ok rfl) (z_byk bcX9_feed_0 0 12 _ bcX9_feed_0_ok rfl) rfl
theorem dX9_feed_13 : decode cX9_feed 13 = .ok (.iconst (-1), 1) := zo_2 (z_byk bcX9_feed_0 0 13 _ bcX9_feed_0_ok rfl)
theorem dX9_feed_14 : decode cX9_feed 14 = .ok (.ireturn, 1) := zo_172 (z_byk bcX9_feed_0 0 14 _ bcX9_feed_0_ok rfl)
theorem dX9_feed_15 : decode cX9_feed 15 = .ok (.aload_n 0, 1) := zo_42 (z_byk bcX9_feed_0 0 15 _ bcX9_feed_0_ok rfl)
theorem dX9_feed_16 : decode cX9_feed 16 = .ok (.iload_n 1, 1) := zo_27 (z_byk bcX9_feed_0 0 16 _ bcX9_feed_0_ok rfl)
theorem dX9_feed_17 : decode cX9_feed 17 = .ok (.invokevirtual 80, 3) := zo_182 (z_byk bcX9_feed_0 0 17 _ bcX9_feed_0_ok rfl) (z_byk bcX9_feed_0 0 18 _ bcX9_feed_0_ok rfl) (z_byk bcX9_feed_0 0 19 _ bcX9_feed_0_ok rfl) rfl
theorem dX9_feed_20 : decode cX9_feed 20 = .ok (.aload_n 0, 1) := zo_42 (z_byk bcX9_feed_0 0 20 _ bcX9_feed_0_ok rfl)
theorem dX9_feed_21 : decode cX9_feed 21 = .ok (.iload_n 2, 1) := zo_28 (z_byk bcX9_feed_0 0 21 _ bcX9_feed_0_ok rfl)
theorem dX9_feed_22 : decode cX9_feed 22 = .ok (.invokevirtual 80, 3) := zo_182 (z_byk bcX9_feed_0 0 22 _ bcX9_feed_0_ok rfl) (z_byk bcX9_feed_0 0 23 _ bcX9_feed_0_ok rfl) (z_byk bcX9_feed_0 0 24 _ bcX9_feed_0_ok rfl) rfl
theorem dX9_feed_25 : decode cX9_feed 25 = .ok (.aload_n 0, 1) := zo_42 (z_byk bcX9_feed_0 0 25 _ bcX9_feed_0_ok rfl)
theorem dX9_feed_26 : decode cX9_feed 26 = .ok (.iload_n 3, 1) := zo_29 (z_byk bcX9_feed_0 0 26 _ bcX9_feed_0_ok rfl)
theorem dX9_feed_27 : decode cX9_feed 27 = .ok (.invokevirtual 80, 3) := zo_182 (z_byk bcX9_feed_0 0 27 _ bcX9_feed_0_ok rfl) (z_byk bcX9_feed_0 0 28 _ bcX9_feed_0_ok rfl) (z_byk bcX9_feed_0 0 29 _ bcX9_feed_0_ok rfl) rfl
theorem dX9_feed_30 : decode cX9_feed 30 = .ok (.aload_n 0, 1) := zo_42 (z_byk bcX9_feed_0 0 30 _ bcX9_feed_0_ok rfl)
theorem dX9_feed_31 : decode cX9_feed 31 = .ok (.iload 4, 2) := zo_21 (z_byk bcX9_feed_0 0 31 _ bcX9_feed_0_ok rfl) (z_byk bcX9_feed_0 0 32 _ bcX9_feed_0_ok rfl)
theorem dX9_feed_33 : decode cX9_feed 33 = .ok (.invokevirtual 80, 3) := zo_182 (z_byk bcX9_feed_0 0 33 _ bcX9_feed_0_ok rfl) (z_byk bcX9_feed_0 0 34 _ bcX9_feed_0_ok rfl) (z_byk bcX9_feed_0 0 35 _ bcX9_feed_0_ok rfl) rfl
theorem dX9_feed_36 : decode cX9_feed 36 = .ok (.aload_n 0, 1) := zo_42 (z_byk bcX9_feed_0 0 36 _ bcX9_feed_0_ok rfl)
theorem dX9_feed_37 : decode cX9_feed 37 = .ok (.iload 5, 2) := zo_21 (z_byk bcX9_feed_0 0 37 _ bcX9_feed_0_ok rfl) (z_byk bcX9_feed_0 0 38 _ bcX9_feed_0_ok rfl)
theorem dX9_feed_39 : decode cX9_feed 39 = .ok (.invokevirtual 80, 3) := zo_182 (z_byk bcX9_feed_0 0 39 _ bcX9_feed_0_ok rfl) (z_byk bcX9_feed_0 0 40 _ bcX9_feed_0_ok rfl) (z_byk bcX9_feed_0 0 41 _ bcX9_feed_0_ok rfl) rfl
theorem dX9_feed_4 : decode cX9_feed 4 = .ok (.bipush 20, 2) := zo_16 (z_byk bcX9_feed_0 0 4 _ bcX9_feed_0_ok rfl) (z_byk bcX9_feed_0 0 5 _ bcX9_feed_0_ok rfl) rfl
theorem dX9_feed_42 : decode cX9_feed 42 = .ok (.aload_n 0, 1) := zo_42 (z_byk bcX9_feed_0 0 42 _ bcX9_feed_0_ok rfl)
theorem dX9_feed_43 : decode cX9_feed 43 = .ok (.getfield 77, 3) := zo_180 (z_byk bcX9_feed_0 0 43 _ bcX9_feed_0_ok rfl) (z_byk bcX9_feed_0 0 44 _ bcX9_feed_0_ok rfl) (z_byk bcX9_feed_0 0 45 _ bcX9_feed_0_ok rfl) rfl
theorem dX9_feed_46 : decode cX9_feed 46 = .ok (.ireturn, 1) := zo_172 (z_byk bcX9_feed_0 0 46 _ bcX9_feed_0_ok rfl)
theorem dX9_feed_6 : decode cX9_feed 6 = .ok (.iadd, 1) := zo_96 (z_byk bcX9_feed_0 0 6 _ bcX9_feed_0_ok rfl)
theorem dX9_feed_7 : decode cX9_feed 7 = .ok (.sipush 1600, 3) := zo_17 (z_byk bcX9_feed_0 0 7 _ bcX9_feed_0_ok rfl) (z_byk bcX9_feed_0 0 8 _ bcX9_feed_0_ok rfl) (z_byk bcX9_feed_0 0 9 _ bcX9_feed_0_ok rfl) rfl
def bcX9_putFour_0 : List Nat := [16, 24, 61, 28, 155, 0, 32, 42, 180, 0, 9, 42, 180, 0, 77, 27, 28, 122, 145, 84, 42, 89, 180, 0, 77, 4, 96, 181, 0, 77, 132, 2, 248, 167, 255, 226, 177]
theorem bcX9_putFour_0_ok : z_bys cX9_putFour 0 bcX9_putFour_0 = true := by decide +kernel
theorem dX9_putFour_0 : decode cX9_putFour 0 = .ok (.bipush 24, 2) := zo_16 (z_byk bcX9_putFour_0 0 0 _ bcX9_putFour_0_ok rfl) (z_byk bcX9_putFour_0 0 1 _ bcX9_putFour_0_ok rfl) rfl
theorem dX9_putFour_11 : decode cX9_putFour 11 = .ok (.aload_n 0, 1) := zo_42 (z_byk bcX9_putFour_0 0 11 _ bcX9_putFour_0_ok rfl)
theorem dX9_putFour_12 : decode cX9_putFour 12 = .ok (.getfield 77, 3) := zo_180 (z_byk bcX9_putFour_0 0 12 _ bcX9_putFour_0_ok rfl) (z_byk bcX9_putFour_0 0 13 _ bcX9_putFour_0_ok rfl) (z_byk bcX9_putFour_0 0 14 _ bcX9_putFour_0_ok rfl) rfl
theorem dX9_putFour_15 : decode cX9_putFour 15 = .ok (.iload_n 1, 1) := zo_27 (z_byk bcX9_putFour_0 0 15 _ bcX9_putFour_0_ok rfl)
theorem dX9_putFour_16 : decode cX9_putFour 16 = .ok (.iload_n 2, 1) := zo_28 (z_byk bcX9_putFour_0 0 16 _ bcX9_putFour_0_ok rfl)
theorem dX9_putFour_17 : decode cX9_putFour 17 = .ok (.ishr, 1) := zo_122 (z_byk bcX9_putFour_0 0 17 _ bcX9_putFour_0_ok rfl)
theorem dX9_putFour_18 : decode cX9_putFour 18 = .ok (.i2b, 1) := zo_145 (z_byk bcX9_putFour_0 0 18 _ bcX9_putFour_0_ok rfl)
theorem dX9_putFour_19 : decode cX9_putFour 19 = .ok (.bastore, 1) := zo_84 (z_byk bcX9_putFour_0 0 19 _ bcX9_putFour_0_ok rfl)
theorem dX9_putFour_2 : decode cX9_putFour 2 = .ok (.istore_n 2, 1) := zo_61 (z_byk bcX9_putFour_0 0 2 _ bcX9_putFour_0_ok rfl)
theorem dX9_putFour_20 : decode cX9_putFour 20 = .ok (.aload_n 0, 1) := zo_42 (z_byk bcX9_putFour_0 0 20 _ bcX9_putFour_0_ok rfl)
theorem dX9_putFour_21 : decode cX9_putFour 21 = .ok (.dup, 1) := zo_89 (z_byk bcX9_putFour_0 0 21 _ bcX9_putFour_0_ok rfl)
theorem dX9_putFour_22 : decode cX9_putFour 22 = .ok (.getfield 77, 3) := zo_180 (z_byk bcX9_putFour_0 0 22 _ bcX9_putFour_0_ok rfl) (z_byk bcX9_putFour_0 0 23 _ bcX9_putFour_0_ok rfl) (z_byk bcX9_putFour_0 0 24 _ bcX9_putFour_0_ok rfl) rfl
theorem dX9_putFour_25 : decode cX9_putFour 25 = .ok (.iconst 1, 1) := zo_4 (z_byk bcX9_putFour_0 0 25 _ bcX9_putFour_0_ok rfl)
theorem dX9_putFour_26 : decode cX9_putFour 26 = .ok (.iadd, 1) := zo_96 (z_byk bcX9_putFour_0 0 26 _ bcX9_putFour_0_ok rfl)
theorem dX9_putFour_27 : decode cX9_putFour 27 = .ok (.putfield 77, 3) := zo_181 (z_byk bcX9_putFour_0 0 27 _ bcX9_putFour_0_ok rfl) (z_byk bcX9_putFour_0 0 28 _ bcX9_putFour_0_ok rfl) (z_byk bcX9_putFour_0 0 29 _ bcX9_putFour_0_ok rfl) rfl
theorem dX9_putFour_3 : decode cX9_putFour 3 = .ok (.iload_n 2, 1) := zo_28 (z_byk bcX9_putFour_0 0 3 _ bcX9_putFour_0_ok rfl)
theorem dX9_putFour_30 : decode cX9_putFour 30 = .ok (.iinc 2 (-8), 3) := zo_132 (z_byk bcX9_putFour_0 0 30 _ bcX9_putFour_0_ok rfl) (z_byk bcX9_putFour_0 0 31 _ bcX9_putFour_0_ok rfl) (z_byk bcX9_putFour_0 0 32 _ bcX9_putFour_0_ok rfl) rfl
theorem dX9_putFour_33 : decode cX9_putFour 33 = .ok (.goto (-30), 3) := zo_167 (z_byk bcX9_putFour_0 0 33 _ bcX9_putFour_0_ok rfl) (z_byk bcX9_putFour_0 0 34 _ bcX9_putFour_0_ok rfl) (z_byk bcX9_putFour_0 0 35 _ bcX9_putFour_0_ok rfl) rfl
theorem dX9_putFour_36 : decode cX9_putFour 36 = .ok (.return_, 1) := zo_177 (z_byk bcX9_putFour_0 0 36 _ bcX9_putFour_0_ok rfl)
theorem dX9_putFour_4 : decode cX9_putFour 4 = .ok (.ifCond .lt 32, 3) := zo_155 (z_byk bcX9_putFour_0 0 4 _ bcX9_putFour_0_ok rfl) (z_byk bcX9_putFour_0 0 5 _ bcX9_putFour_0_ok rfl) (z_byk bcX9_putFour_0 0 6 _ bcX9_putFour_0_ok rfl) rfl
theorem dX9_putFour_7 : decode cX9_putFour 7 = .ok (.aload_n 0, 1) := zo_42 (z_byk bcX9_putFour_0 0 7 _ bcX9_putFour_0_ok rfl)
theorem dX9_putFour_8 : decode cX9_putFour 8 = .ok (.getfield 9, 3) := zo_180 (z_byk bcX9_putFour_0 0 8 _ bcX9_putFour_0_ok rfl) (z_byk bcX9_putFour_0 0 9 _ bcX9_putFour_0_ok rfl) (z_byk bcX9_putFour_0 0 10 _ bcX9_putFour_0_ok rfl) rfl
set_option maxHeartbeats 4000000 in
set_option maxRecDepth 100000 in
theorem k_X9_putFour (l : Launch) (sa : Nat → Nat) (dC : Nat → ClassId) (dI : Nat → Nat → Nat) (h0 : Nat) (p1 : Int32) (tp : Nat) (h0_tapeLength : Int32) (h0_faultKind : Int32) (h0_faultPlace : Int32) (nw : Nat) (im : Nat) (sl : Nat) (rd : Nat) (wk : Nat) (fm : Nat) (mt : Nat) (ch : Nat) (dy : Nat) (cA_tp : ClassId) (f_tp : Nat → Int32) (b_h0_tapeLength : 0 ≤ h0_tapeLength.toInt ∧ h0_tapeLength.toInt ≤ 1596) (sz : Nat) : Met l yX9_putFour (.code yX9_putFour cX9_putFour 3 none :: zT) ({ frames := 0, cells := 0, slots := 0, locals := 0 }) (va_Pc [.ref h0, .int p1] (zB sa dC dI (zV171 h0 tp h0_tapeLength h0_faultKind h0_faultPlace nw im sl rd wk fm mt ch dy tp cA_tp f_tp) [(cA_tp, .byte)] sz)) (va_Qv (fun _ : Unit => True) (fun _ t => ∃ (n_h0_1 : Int32) (n_tp : Nat → Int32), (0 ≤ n_h0_1.toInt ∧ n_h0_1.toInt ≤ 1600) ∧ (n_h0_1.toInt = h0_tapeLength.toInt + 4) ∧ zW dC dI (zV171 h0 tp n_h0_1 h0_faultKind h0_faultPlace nw im sl rd wk fm mt ch dy tp cA_tp n_tp) [] (va_A (zV171 h0 tp h0_tapeLength h0_faultKind h0_faultPlace nw im sl rd wk fm mt ch dy tp cA_tp f_tp) sz) t) (va_A (zV171 h0 tp h0_tapeLength h0_faultKind h0_faultPlace nw im sl rd wk fm mt ch dy tp cA_tp f_tp) sz)) 0 0 (va_A (zV171 h0 tp h0_tapeLength h0_faultKind h0_faultPlace nw im sl rd wk fm mt ch dy tp cA_tp f_tp) sz) := by
  refine z_enter (by decide) (by exact (Nat.le_of_ble_eq_true rfl)) ?_
  intro p e s m args below meth c ls A R Qc hargs hsz hQe hAe hRe hx hb hml hr hts hown hlocks hin hl hP hK hD hN hXs hA hS
  rw [hAe] at hQe
  have hown : s.vm.findClass RX9 = some m.cls := hown
  have hl : lv_has ls 3 [(0, .ref h0), (1, .int p1)] := hl
  refine lv_bipush (v := 24) hx hb dX9_putFour_0 (by decide) ?_
  refine lv_istore_n (lv' := [(2, .int 24), (0, .ref h0), (1, .int p1)]) hx hb dX9_putFour_2 rfl hl (by decide) rfl (fun ls hl => ?_)
  have loop_1 : ∀ (t : Nat) (v2_1 : Int32) (w_h0_1_2 : Int32) (g_tp_3 : Nat → Int32) (b_v2_1 : (-8) ≤ v2_1.toInt ∧ v2_1.toInt ≤ 24) (b_w_h0_1_2 : 0 ≤ w_h0_1_2.toInt ∧ w_h0_1_2.toInt ≤ 1600) (ex_1 : 8 * (w_h0_1_2.toInt - h0_tapeLength.toInt) = 24 - v2_1.toInt) (H : Heap) (locs : List Loc) (ls : Array Slot), v2_1.toInt - (-8) < (t : Int) → va_P (dC, dI) vwCl (zV171 h0 tp w_h0_1_2 h0_faultKind h0_faultPlace nw im sl rd wk fm mt ch dy tp cA_tp g_tp_3) H → va_D A (zV171 h0 tp w_h0_1_2 h0_faultKind h0_faultPlace nw im sl rd wk fm mt ch dy tp cA_tp g_tp_3) → va_S A s.heap H locs → lv_has ls 3 [(0, .ref h0), (1, .int p1), (2, .int v2_1)] → W p l e R s m args below meth c H locs 0 0 (MQ below Qc args s 0 0 A) (F0 m 3 ls []) := by
    intro t
    induction t with
    | zero => intro v2_1 w_h0_1_2 g_tp_3 b_v2_1 b_w_h0_1_2 ex_1 H locs ls hmu _ _ _ _; exact absurd hmu (by first | with_reducible assumption | omega)
    | succ t ih_1 =>
      intro v2_1 w_h0_1_2 g_tp_3 b_v2_1 b_w_h0_1_2 ex_1 H locs ls hmu hP hD hS hl
      refine lv_iload_n hx hb dX9_putFour_3 rfl (lv_at hl 2 rfl) ?_
      refine lv_if_lt (tgt := 36) hx hb dX9_putFour_4 (by decide) (fun c_4 => ?_) (fun c_4 => ?_)
      · have ic_4 := zz_lt rfl (show Int32.toInt 0 = 0 from by decide) c_4
        exact W.vret hx hb hr (fun t ht hW => by rw [← hQe]; exact ⟨⟨(), rfl, trivial, ⟨w_h0_1_2, g_tp_3, (by first | with_reducible assumption | omega), (by first | with_reducible assumption | omega), z_ret hP hK hD ht hW [0, 1] [] rfl (by decide) rfl⟩⟩, hS.F ht⟩) hS.2.2 dX9_putFour_36
      · have ic_4 := zz_nlt rfl (show Int32.toInt 0 = 0 from by decide) c_4
        refine lv_aload_n hx hb dX9_putFour_7 rfl (lv_at hl 0 rfl) ?_
        refine va_get (D := (dC, dI)) (ci := 9) (v := .ref tp) (C := RX9) (T := TX9) (N := 13) hx hb hts zl_X9 hown hK hP 0 rfl rfl 0 (by decide) (hts _ zw_t2_189) (fun _ h9 => h9) rfl dX9_putFour_8 ?_
        refine lv_aload_n hx hb dX9_putFour_11 rfl (lv_at hl 0 rfl) ?_
        refine va_get (D := (dC, dI)) (ci := 9) (v := .int w_h0_1_2) (C := RX9) (T := TX9) (N := 13) hx hb hts zl_X9 hown hK hP 0 rfl rfl 1 (by decide) (hts _ zw_t2_190) (fun _ h9 => h9) rfl dX9_putFour_12 ?_
        refine lv_iload_n hx hb dX9_putFour_15 rfl (lv_at hl 1 rfl) ?_
        refine lv_iload_n hx hb dX9_putFour_16 rfl (lv_at hl 2 rfl) ?_
        refine lv_ishr hx hb dX9_putFour_17 ?_
        refine lv_topi (fun x_5 ex_5 => ?_)
        refine lv_i2b (v := _) hx hb dX9_putFour_18 rfl ?_
        refine lv_topi (fun x_6 ex_6 => ?_)
        refine va_bast hx hb hK hP hD hS 1 0 rfl rfl (zi_in rfl (by first | with_reducible assumption | omega)) dX9_putFour_19 (fun H locs hP hD hS => ?_)
        obtain ⟨f_7, ef_7⟩ : ∃ g : Nat → Int32, g = upd g_tp_3 (Int32.toNatClampNeg w_h0_1_2) (vp_nar .byte x_6) := ⟨_, rfl⟩
        have hP : va_P (dC, dI) vwCl (zV171 h0 tp w_h0_1_2 h0_faultKind h0_faultPlace nw im sl rd wk fm mt ch dy tp cA_tp (upd g_tp_3 (Int32.toNatClampNeg w_h0_1_2) (vp_nar .byte x_6))) H := hP
        have hD : va_D A (zV171 h0 tp w_h0_1_2 h0_faultKind h0_faultPlace nw im sl rd wk fm mt ch dy tp cA_tp (upd g_tp_3 (Int32.toNatClampNeg w_h0_1_2) (vp_nar .byte x_6))) := hD
        rw [← ef_7] at hP hD
        refine lv_aload_n hx hb dX9_putFour_20 rfl (lv_at hl 0 rfl) ?_
        refine lv_dup hx hb dX9_putFour_21 rfl ?_
        refine va_get (D := (dC, dI)) (ci := 9) (v := .int w_h0_1_2) (C := RX9) (T := TX9) (N := 13) hx hb hts zl_X9 hown hK hP 0 rfl rfl 1 (by decide) (hts _ zw_t2_190) (fun _ h9 => h9) rfl dX9_putFour_22 ?_
        refine lv_iconst (v := 1) hx hb dX9_putFour_25 (by decide) ?_
        refine lv_iadd hx hb dX9_putFour_26 ?_
        refine lv_topi (fun x_8 ex_8 => ?_)
        have b_x_8 : x_8.toInt = w_h0_1_2.toInt + 1 := by rw [ex_8]; exact zi_add rfl (show Int32.toInt 1 = 1 from by decide) (by first | with_reducible assumption | omega)
        refine va_put (D := (dC, dI)) (ci := 9) (v := .int x_8) (ty := .int) (C := RX9) (T := TX9) (N := 13) hx hb hts zl_X9 tyX9 tyX9_ok nmX9 hown hK hP hD hS 0 rfl rfl 1 (by decide) (hts _ zw_t2_190) (fun _ h9 => h9) rfl (by decide +kernel) rfl rfl (Nat.le_of_ble_eq_true rfl) dX9_putFour_27 (fun H locs hP hD hS => ?_)
        have hP : va_P (dC, dI) vwCl (zV171 h0 tp x_8 h0_faultKind h0_faultPlace nw im sl rd wk fm mt ch dy tp cA_tp f_7) H := hP
        have hD : va_D A (zV171 h0 tp x_8 h0_faultKind h0_faultPlace nw im sl rd wk fm mt ch dy tp cA_tp f_7) := hD
        obtain ⟨x_9, ex_9⟩ : ∃ z : Int32, z = v2_1 + Int32.ofInt (-8) := ⟨_, rfl⟩
        have b_x_9 : x_9.toInt = v2_1.toInt + (-8) := by rw [ex_9]; exact zi_add rfl (show (Int32.ofInt (-8)).toInt = (-8) from by decide) (by first | with_reducible assumption | omega)
        refine lv_iinc (v := x_9) (lv' := [(2, .int x_9), (0, .ref h0), (1, .int p1)]) hx hb dX9_putFour_30 hl (k := 2) rfl ex_9.symm (by decide) rfl (fun ls hl => ?_)
        refine lv_goto (tgt := 3) hx hb dX9_putFour_33 (by decide) ?_
        exact ih_1 x_9 x_8 f_7 (by first | with_reducible assumption | omega) (by first | with_reducible assumption | omega) (by first | decide | omega) _ _ _ (by first | with_reducible assumption | omega) (hP.sub (ws' := (zV171 h0 tp x_8 h0_faultKind h0_faultPlace nw im sl rd wk fm mt ch dy tp cA_tp f_7)) [0, 1] rfl) (hD.sub (ws' := (zV171 h0 tp x_8 h0_faultKind h0_faultPlace nw im sl rd wk fm mt ch dy tp cA_tp f_7)) [0, 1] (by decide) rfl) hS (lv_sub hl [1, 2, 0] rfl)
  have zb_24 : Int32.toInt 24 = 24 := by decide
  exact loop_1 34 (24) h0_tapeLength f_tp (by decide) (by first | with_reducible assumption | omega) (by first | decide | omega) _ _ _ (by decide) hP hD hS (lv_sub hl [1, 2, 0] rfl)
set_option maxHeartbeats 4000000 in
set_option maxRecDepth 100000 in
theorem k_X9_feed (l : Launch) (sa : Nat → Nat) (dC : Nat → ClassId) (dI : Nat → Nat → Nat) (h0 : Nat) (p1 : Int32) (p2 : Int32) (p3 : Int32) (p4 : Int32) (p5 : Int32) (tp : Nat) (h0_tapeLength : Int32) (h0_faultKind : Int32) (h0_faultPlace : Int32) (nw : Nat) (im : Nat) (sl : Nat) (rd : Nat) (wk : Nat) (fm : Nat) (mt : Nat) (ch : Nat) (dy : Nat) (cA_tp : ClassId) (f_tp : Nat → Int32) (b_h0_tapeLength : 0 ≤ h0_tapeLength.toInt ∧ h0_tapeLength.toInt ≤ 1600) (sz : Nat) : Met l yX9_feed (.code yX9_feed cX9_feed 6 (some .int) :: zT) ({ frames := 1, cells := 0, slots := 0, locals := 22 }) (va_Pc [.ref h0, .int p1, .int p2, .int p3, .int p4, .int p5] (zB sa dC dI (zV171 h0 tp h0_tapeLength h0_faultKind h0_faultPlace nw im sl rd wk fm mt ch dy tp cA_tp f_tp) [(cA_tp, .byte)] sz)) (va_Qi (fun (r : Int32) (_ : Unit) => ((-1) ≤ r.toInt ∧ r.toInt ≤ 1600)) (fun _ t => ∃ (n_h0_1 : Int32) (n_tp : Nat → Int32), (0 ≤ n_h0_1.toInt ∧ n_h0_1.toInt ≤ 1600) ∧ zW dC dI (zV171 h0 tp n_h0_1 h0_faultKind h0_faultPlace nw im sl rd wk fm mt ch dy tp cA_tp n_tp) [] (va_A (zV171 h0 tp h0_tapeLength h0_faultKind h0_faultPlace nw im sl rd wk fm mt ch dy tp cA_tp f_tp) sz) t) (va_A (zV171 h0 tp h0_tapeLength h0_faultKind h0_faultPlace nw im sl rd wk fm mt ch dy tp cA_tp f_tp) sz)) 0 0 (va_A (zV171 h0 tp h0_tapeLength h0_faultKind h0_faultPlace nw im sl rd wk fm mt ch dy tp cA_tp f_tp) sz) := by
  refine z_enter (by decide) (by exact (Nat.le_of_ble_eq_true rfl)) ?_
  intro p e s m args below meth c ls A R Qc hargs hsz hQe hAe hRe hx hb hml hr hts hown hlocks hin hl hP hK hD hN hXs hA hS
  rw [hAe] at hQe
  have hown : s.vm.findClass RX9 = some m.cls := hown
  have hl : lv_has ls 6 [(0, .ref h0), (1, .int p1), (2, .int p2), (3, .int p3), (4, .int p4), (5, .int p5)] := hl
  refine lv_aload_n hx hb dX9_feed_0 rfl (lv_at hl 0 rfl) ?_
  refine va_get (D := (dC, dI)) (ci := 9) (v := .int h0_tapeLength) (C := RX9) (T := TX9) (N := 13) hx hb hts zl_X9 hown hK hP 0 rfl rfl 1 (by decide) (hts _ zw_t2_190) (fun _ h9 => h9) rfl dX9_feed_1 ?_
  refine lv_bipush (v := 20) hx hb dX9_feed_4 (by decide) ?_
  refine lv_iadd hx hb dX9_feed_6 ?_
  refine lv_topi (fun x_1 ex_1 => ?_)
  have b_x_1 : x_1.toInt = h0_tapeLength.toInt + 20 := by rw [ex_1]; exact zi_add rfl (show Int32.toInt 20 = 20 from by decide) (by first | with_reducible assumption | omega)
  refine lv_sipush (v := 1600) hx hb dX9_feed_7 (by decide) ?_
  refine lv_icmp_le (tgt := 15) hx hb dX9_feed_10 (by decide) (fun c_2 => ?_) (fun c_2 => ?_)
  · have ic_2 := zz_le rfl (show Int32.toInt 1600 = 1600 from by decide) c_2
    refine lv_aload_n hx hb dX9_feed_15 rfl (lv_at hl 0 rfl) ?_
    refine lv_iload_n hx hb dX9_feed_16 rfl (lv_at hl 1 rfl) ?_
    obtain ⟨hPc, hDc, hFc⟩ := z_cut (wc := (zV171 h0 tp h0_tapeLength h0_faultKind h0_faultPlace nw im sl rd wk fm mt ch dy tp cA_tp f_tp)) hP hD hS hA [0, 1] rfl (by decide +kernel)
    have hKc := hK.sub (tys' := [(cA_tp, .byte)]) [0] rfl
    refine va_callv (va_runV (As := [.int p1]) (rest := []) ⟨hx, hb, hml, hown, hts⟩ (k_X9_putFour l sa dC dI h0 p1 tp h0_tapeLength h0_faultKind h0_faultPlace nw im sl rd wk fm mt ch dy cA_tp f_tp (by first | with_reducible assumption | omega) s.heap.size) (cwV 1 hts (z_gV zw_t2_233 zw_t2_235 zw_s1_0 zw_t1_1 zw_t2_236) rfl rfl rfl (by decide +kernel) (by rw [← hRe]; exact ⟨(Nat.le_of_ble_eq_true rfl), (Nat.le_of_ble_eq_true rfl)⟩)) (z_preV hPc hKc hDc hN hXs hS hFc (q := (RX9, TX9, 13)) (ci := 9) (q0 := 0) rfl rfl) rfl rfl hl.1 rfl (lv_room (Nat.le_of_ble_eq_true rfl)) dX9_feed_17 (by rw [← hRe]; exact ⟨(Nat.le_of_ble_eq_true rfl), (Nat.le_of_ble_eq_true rfl)⟩)) hS (fun q _ h => hFc q h) hFc (fun u t H1 locs ht hvm hw hB hz1 hk1 hS => ?_)
    obtain ⟨n_h0_4, n_tp_5, b_n_h0_4, hf_6, hB⟩ := hB
    obtain ⟨hP, hD, hK⟩ := z_after3 (wn := (zV171 h0 tp n_h0_4 h0_faultKind h0_faultPlace nw im sl rd wk fm mt ch dy tp cA_tp n_tp_5)) hB ht hvm hP hD hK [0, 1] [] rfl 2 rfl (by decide +kernel) rfl (by decide +kernel) hk1 hFc
    generalize H1 = H at hP hS ⊢
    have hK : va_K (dC, dI) vwCl [(cA_tp, .byte)] s := hK
    refine lv_aload_n hx hb dX9_feed_20 rfl (lv_at hl 0 rfl) ?_
    refine lv_iload_n hx hb dX9_feed_21 rfl (lv_at hl 2 rfl) ?_
    obtain ⟨hPc, hDc, hFc⟩ := z_cut (wc := (zV171 h0 tp n_h0_4 h0_faultKind h0_faultPlace nw im sl rd wk fm mt ch dy tp cA_tp n_tp_5)) hP hD hS hA [0, 1] rfl (by decide +kernel)
    have hKc := hK.sub (tys' := [(cA_tp, .byte)]) [0] rfl
    refine va_callv (va_runV (As := [.int p2]) (rest := []) ⟨hx, hb, hml, hown, hts⟩ (k_X9_putFour l sa dC dI h0 p2 tp n_h0_4 h0_faultKind h0_faultPlace nw im sl rd wk fm mt ch dy cA_tp n_tp_5 (by first | with_reducible assumption | omega) H.size) (cwV 1 hts (z_gV zw_t2_233 zw_t2_235 zw_s1_0 zw_t1_1 zw_t2_236) rfl rfl rfl (by decide +kernel) (by rw [← hRe]; exact ⟨(Nat.le_of_ble_eq_true rfl), (Nat.le_of_ble_eq_true rfl)⟩)) (z_preV hPc hKc hDc hN hXs hS hFc (q := (RX9, TX9, 13)) (ci := 9) (q0 := 0) rfl rfl) rfl rfl hl.1 rfl (lv_room (Nat.le_of_ble_eq_true rfl)) dX9_feed_22 (by rw [← hRe]; exact ⟨(Nat.le_of_ble_eq_true rfl), (Nat.le_of_ble_eq_true rfl)⟩)) hS (fun q _ h => hFc q h) hFc (fun u t H1 locs ht hvm hw hB hz1 hk1 hS => ?_)
    obtain ⟨n_h0_8, n_tp_9, b_n_h0_8, hf_10, hB⟩ := hB
    obtain ⟨hP, hD, hK⟩ := z_after3 (wn := (zV171 h0 tp n_h0_8 h0_faultKind h0_faultPlace nw im sl rd wk fm mt ch dy tp cA_tp n_tp_9)) hB ht hvm hP hD hK [0, 1] [] rfl 2 rfl (by decide +kernel) rfl (by decide +kernel) hk1 hFc
    generalize H1 = H at hP hS ⊢
    have hK : va_K (dC, dI) vwCl [(cA_tp, .byte)] s := hK
    refine lv_aload_n hx hb dX9_feed_25 rfl (lv_at hl 0 rfl) ?_
    refine lv_iload_n hx hb dX9_feed_26 rfl (lv_at hl 3 rfl) ?_
    obtain ⟨hPc, hDc, hFc⟩ := z_cut (wc := (zV171 h0 tp n_h0_8 h0_faultKind h0_faultPlace nw im sl rd wk fm mt ch dy tp cA_tp n_tp_9)) hP hD hS hA [0, 1] rfl (by decide +kernel)
    have hKc := hK.sub (tys' := [(cA_tp, .byte)]) [0] rfl
    refine va_callv (va_runV (As := [.int p3]) (rest := []) ⟨hx, hb, hml, hown, hts⟩ (k_X9_putFour l sa dC dI h0 p3 tp n_h0_8 h0_faultKind h0_faultPlace nw im sl rd wk fm mt ch dy cA_tp n_tp_9 (by first | with_reducible assumption | omega) H.size) (cwV 1 hts (z_gV zw_t2_233 zw_t2_235 zw_s1_0 zw_t1_1 zw_t2_236) rfl rfl rfl (by decide +kernel) (by rw [← hRe]; exact ⟨(Nat.le_of_ble_eq_true rfl), (Nat.le_of_ble_eq_true rfl)⟩)) (z_preV hPc hKc hDc hN hXs hS hFc (q := (RX9, TX9, 13)) (ci := 9) (q0 := 0) rfl rfl) rfl rfl hl.1 rfl (lv_room (Nat.le_of_ble_eq_true rfl)) dX9_feed_27 (by rw [← hRe]; exact ⟨(Nat.le_of_ble_eq_true rfl), (Nat.le_of_ble_eq_true rfl)⟩)) hS (fun q _ h => hFc q h) hFc (fun u t H1 locs ht hvm hw hB hz1 hk1 hS => ?_)
    obtain ⟨n_h0_12, n_tp_13, b_n_h0_12, hf_14, hB⟩ := hB
    obtain ⟨hP, hD, hK⟩ := z_after3 (wn := (zV171 h0 tp n_h0_12 h0_faultKind h0_faultPlace nw im sl rd wk fm mt ch dy tp cA_tp n_tp_13)) hB ht hvm hP hD hK [0, 1] [] rfl 2 rfl (by decide +kernel) rfl (by decide +kernel) hk1 hFc
    generalize H1 = H at hP hS ⊢
    have hK : va_K (dC, dI) vwCl [(cA_tp, .byte)] s := hK
    refine lv_aload_n hx hb dX9_feed_30 rfl (lv_at hl 0 rfl) ?_
    refine lv_iload hx hb dX9_feed_31 (lv_at hl 4 rfl) ?_
    obtain ⟨hPc, hDc, hFc⟩ := z_cut (wc := (zV171 h0 tp n_h0_12 h0_faultKind h0_faultPlace nw im sl rd wk fm mt ch dy tp cA_tp n_tp_13)) hP hD hS hA [0, 1] rfl (by decide +kernel)
    have hKc := hK.sub (tys' := [(cA_tp, .byte)]) [0] rfl
    refine va_callv (va_runV (As := [.int p4]) (rest := []) ⟨hx, hb, hml, hown, hts⟩ (k_X9_putFour l sa dC dI h0 p4 tp n_h0_12 h0_faultKind h0_faultPlace nw im sl rd wk fm mt ch dy cA_tp n_tp_13 (by first | with_reducible assumption | omega) H.size) (cwV 1 hts (z_gV zw_t2_233 zw_t2_235 zw_s1_0 zw_t1_1 zw_t2_236) rfl rfl rfl (by decide +kernel) (by rw [← hRe]; exact ⟨(Nat.le_of_ble_eq_true rfl), (Nat.le_of_ble_eq_true rfl)⟩)) (z_preV hPc hKc hDc hN hXs hS hFc (q := (RX9, TX9, 13)) (ci := 9) (q0 := 0) rfl rfl) rfl rfl hl.1 rfl (lv_room (Nat.le_of_ble_eq_true rfl)) dX9_feed_33 (by rw [← hRe]; exact ⟨(Nat.le_of_ble_eq_true rfl), (Nat.le_of_ble_eq_true rfl)⟩)) hS (fun q _ h => hFc q h) hFc (fun u t H1 locs ht hvm hw hB hz1 hk1 hS => ?_)
    obtain ⟨n_h0_16, n_tp_17, b_n_h0_16, hf_18, hB⟩ := hB
    obtain ⟨hP, hD, hK⟩ := z_after3 (wn := (zV171 h0 tp n_h0_16 h0_faultKind h0_faultPlace nw im sl rd wk fm mt ch dy tp cA_tp n_tp_17)) hB ht hvm hP hD hK [0, 1] [] rfl 2 rfl (by decide +kernel) rfl (by decide +kernel) hk1 hFc
    generalize H1 = H at hP hS ⊢
    have hK : va_K (dC, dI) vwCl [(cA_tp, .byte)] s := hK
    refine lv_aload_n hx hb dX9_feed_36 rfl (lv_at hl 0 rfl) ?_
    refine lv_iload hx hb dX9_feed_37 (lv_at hl 5 rfl) ?_
    obtain ⟨hPc, hDc, hFc⟩ := z_cut (wc := (zV171 h0 tp n_h0_16 h0_faultKind h0_faultPlace nw im sl rd wk fm mt ch dy tp cA_tp n_tp_17)) hP hD hS hA [0, 1] rfl (by decide +kernel)
    have hKc := hK.sub (tys' := [(cA_tp, .byte)]) [0] rfl
    refine va_callv (va_runV (As := [.int p5]) (rest := []) ⟨hx, hb, hml, hown, hts⟩ (k_X9_putFour l sa dC dI h0 p5 tp n_h0_16 h0_faultKind h0_faultPlace nw im sl rd wk fm mt ch dy cA_tp n_tp_17 (by first | with_reducible assumption | omega) H.size) (cwV 1 hts (z_gV zw_t2_233 zw_t2_235 zw_s1_0 zw_t1_1 zw_t2_236) rfl rfl rfl (by decide +kernel) (by rw [← hRe]; exact ⟨(Nat.le_of_ble_eq_true rfl), (Nat.le_of_ble_eq_true rfl)⟩)) (z_preV hPc hKc hDc hN hXs hS hFc (q := (RX9, TX9, 13)) (ci := 9) (q0 := 0) rfl rfl) rfl rfl hl.1 rfl (lv_room (Nat.le_of_ble_eq_true rfl)) dX9_feed_39 (by rw [← hRe]; exact ⟨(Nat.le_of_ble_eq_true rfl), (Nat.le_of_ble_eq_true rfl)⟩)) hS (fun q _ h => hFc q h) hFc (fun u t H1 locs ht hvm hw hB hz1 hk1 hS => ?_)
    obtain ⟨n_h0_20, n_tp_21, b_n_h0_20, hf_22, hB⟩ := hB
    obtain ⟨hP, hD, hK⟩ := z_after3 (wn := (zV171 h0 tp n_h0_20 h0_faultKind h0_faultPlace nw im sl rd wk fm mt ch dy tp cA_tp n_tp_21)) hB ht hvm hP hD hK [0, 1] [] rfl 2 rfl (by decide +kernel) rfl (by decide +kernel) hk1 hFc
    generalize H1 = H at hP hS ⊢
    have hK : va_K (dC, dI) vwCl [(cA_tp, .byte)] s := hK
    refine lv_aload_n hx hb dX9_feed_42 rfl (lv_at hl 0 rfl) ?_
    refine va_get (D := (dC, dI)) (ci := 9) (v := .int n_h0_20) (C := RX9) (T := TX9) (N := 13) hx hb hts zl_X9 hown hK hP 0 rfl rfl 1 (by decide) (hts _ zw_t2_190) (fun _ h9 => h9) rfl dX9_feed_43 ?_
    exact W.iret (v := n_h0_20) hx hb hr (fun t ht hW => by rw [← hQe]; exact ⟨⟨n_h0_20, (), rfl, (by first | with_reducible assumption | omega), ⟨n_h0_20, n_tp_21, (by first | with_reducible assumption | omega), z_ret hP hK hD ht hW [0, 1] [] rfl (by decide) rfl⟩⟩, hS.F ht⟩) hS.2.2 dX9_feed_46
  · have ic_2 := zz_nle rfl (show Int32.toInt 1600 = 1600 from by decide) c_2
    refine lv_iconst (v := (-1)) hx hb dX9_feed_13 (by decide) ?_
    exact W.iret (v := (-1)) hx hb hr (fun t ht hW => by rw [← hQe]; exact ⟨⟨(-1), (), rfl, (by decide), ⟨h0_tapeLength, f_tp, (by first | with_reducible assumption | omega), z_ret hP hK hD ht hW [0, 1] [] rfl (by decide) rfl⟩⟩, hS.F ht⟩) hS.2.2 dX9_feed_14
