set_option linter.all false
theorem zw_t2_176 : Cond.fieldLink RX9 390 "NameGate$Row" "width" "I" ∈ zT := zt_2 (List.mem_of_getElem? (i := 176) (by decide +kernel)) (by decide +kernel)
theorem zw_t2_181 : Cond.fieldLink RX9 393 "NameGate$Row" "numbers" "[J" ∈ zT := zt_2 (List.mem_of_getElem? (i := 181) (by decide +kernel)) (by decide +kernel)
theorem zw_t6_92 : Cond.methodLink RX9 397 arraycopyName ∈ zT := zt_6 (List.mem_of_getElem? (i := 92) (by decide +kernel)) (by decide +kernel)
def bcX9_paste_0 : List Nat := [27, 184, 1, 66, 153, 0, 10, 29, 184, 1, 66, 154, 0, 6, 16, 254, 172, 42, 180, 0, 30, 27, 50, 58, 6, 42, 180, 0, 30, 29, 50, 58, 7, 25, 6, 182, 1, 69, 153, 0, 11, 25, 7, 182, 1, 69, 154, 0, 6, 16, 250, 172, 25, 6, 180, 1, 134, 25, 7, 180]
theorem bcX9_paste_0_ok : z_bys cX9_paste 0 bcX9_paste_0 = true := by decide +kernel
def bcX9_paste_60 : List Nat := [1, 134, 159, 0, 6, 16, 248, 172, 25, 6, 28, 21, 5, 182, 1, 127, 153, 0, 15, 25, 7, 21, 4, 21, 5, 182, 1, 127, 154, 0, 6, 16, 249, 172, 25, 6, 180, 1, 137, 28, 25, 7, 180, 1, 137, 21, 4, 21, 5, 184, 1, 141, 3, 172]
theorem bcX9_paste_60_ok : z_bys cX9_paste 60 bcX9_paste_60 = true := by decide +kernel
theorem dX9_paste_0 : decode cX9_paste 0 = .ok (.iload_n 1, 1) := zo_27 (z_byk bcX9_paste_0 0 0 _ bcX9_paste_0_ok rfl)
theorem dX9_paste_1 : decode cX9_paste 1 = .ok (.invokestatic 322, 3) := zo_184 (z_byk bcX9_paste_0 0 1 _ bcX9_paste_0_ok rfl) (z_byk bcX9_paste_0 0 2 _ bcX9_paste_0_ok rfl) (z_byk bcX9_paste_0 0 3 _ bcX9_paste_0_ok rfl) rfl
theorem dX9_paste_100 : decode cX9_paste 100 = .ok (.aload 7, 2) := zo_25 (z_byk bcX9_paste_60 60 40 _ bcX9_paste_60_ok rfl) (z_byk bcX9_paste_60 60 41 _ bcX9_paste_60_ok rfl)
theorem dX9_paste_102 : decode cX9_paste 102 = .ok (.getfield 393, 3) := zo_180 (z_byk bcX9_paste_60 60 42 _ bcX9_paste_60_ok rfl) (z_byk bcX9_paste_60 60 43 _ bcX9_paste_60_ok rfl) (z_byk bcX9_paste_60 60 44 _ bcX9_paste_60_ok rfl) rfl
theorem dX9_paste_105 : decode cX9_paste 105 = .ok (.iload 4, 2) := zo_21 (z_byk bcX9_paste_60 60 45 _ bcX9_paste_60_ok rfl) (z_byk bcX9_paste_60 60 46 _ bcX9_paste_60_ok rfl)
theorem dX9_paste_107 : decode cX9_paste 107 = .ok (.iload 5, 2) := zo_21 (z_byk bcX9_paste_60 60 47 _ bcX9_paste_60_ok rfl) (z_byk bcX9_paste_60 60 48 _ bcX9_paste_60_ok rfl)
theorem dX9_paste_109 : decode cX9_paste 109 = .ok (.invokestatic 397, 3) := zo_184 (z_byk bcX9_paste_60 60 49 _ bcX9_paste_60_ok rfl) (z_byk bcX9_paste_60 60 50 _ bcX9_paste_60_ok rfl) (z_byk bcX9_paste_60 60 51 _ bcX9_paste_60_ok rfl) rfl
theorem dX9_paste_11 : decode cX9_paste 11 = .ok (.ifCond .ne 6, 3) := zo_154 (z_byk bcX9_paste_0 0 11 _ bcX9_paste_0_ok rfl) (z_byk bcX9_paste_0 0 12 _ bcX9_paste_0_ok rfl) (z_byk bcX9_paste_0 0 13 _ bcX9_paste_0_ok rfl) rfl
theorem dX9_paste_112 : decode cX9_paste 112 = .ok (.iconst 0, 1) := zo_3 (z_byk bcX9_paste_60 60 52 _ bcX9_paste_60_ok rfl)
theorem dX9_paste_113 : decode cX9_paste 113 = .ok (.ireturn, 1) := zo_172 (z_byk bcX9_paste_60 60 53 _ bcX9_paste_60_ok rfl)
theorem dX9_paste_14 : decode cX9_paste 14 = .ok (.bipush (-2), 2) := zo_16 (z_byk bcX9_paste_0 0 14 _ bcX9_paste_0_ok rfl) (z_byk bcX9_paste_0 0 15 _ bcX9_paste_0_ok rfl) rfl
theorem dX9_paste_16 : decode cX9_paste 16 = .ok (.ireturn, 1) := zo_172 (z_byk bcX9_paste_0 0 16 _ bcX9_paste_0_ok rfl)
theorem dX9_paste_17 : decode cX9_paste 17 = .ok (.aload_n 0, 1) := zo_42 (z_byk bcX9_paste_0 0 17 _ bcX9_paste_0_ok rfl)
theorem dX9_paste_18 : decode cX9_paste 18 = .ok (.getfield 30, 3) := zo_180 (z_byk bcX9_paste_0 0 18 _ bcX9_paste_0_ok rfl) (z_byk bcX9_paste_0 0 19 _ bcX9_paste_0_ok rfl) (z_byk bcX9_paste_0 0 20 _ bcX9_paste_0_ok rfl) rfl
theorem dX9_paste_21 : decode cX9_paste 21 = .ok (.iload_n 1, 1) := zo_27 (z_byk bcX9_paste_0 0 21 _ bcX9_paste_0_ok rfl)
theorem dX9_paste_22 : decode cX9_paste 22 = .ok (.aaload, 1) := zo_50 (z_byk bcX9_paste_0 0 22 _ bcX9_paste_0_ok rfl)
theorem dX9_paste_23 : decode cX9_paste 23 = .ok (.astore 6, 2) := zo_58 (z_byk bcX9_paste_0 0 23 _ bcX9_paste_0_ok rfl) (z_byk bcX9_paste_0 0 24 _ bcX9_paste_0_ok rfl)
theorem dX9_paste_25 : decode cX9_paste 25 = .ok (.aload_n 0, 1) := zo_42 (z_byk bcX9_paste_0 0 25 _ bcX9_paste_0_ok rfl)
theorem dX9_paste_26 : decode cX9_paste 26 = .ok (.getfield 30, 3) := zo_180 (z_byk bcX9_paste_0 0 26 _ bcX9_paste_0_ok rfl) (z_byk bcX9_paste_0 0 27 _ bcX9_paste_0_ok rfl) (z_byk bcX9_paste_0 0 28 _ bcX9_paste_0_ok rfl) rfl
theorem dX9_paste_29 : decode cX9_paste 29 = .ok (.iload_n 3, 1) := zo_29 (z_byk bcX9_paste_0 0 29 _ bcX9_paste_0_ok rfl)
theorem dX9_paste_30 : decode cX9_paste 30 = .ok (.aaload, 1) := zo_50 (z_byk bcX9_paste_0 0 30 _ bcX9_paste_0_ok rfl)
theorem dX9_paste_31 : decode cX9_paste 31 = .ok (.astore 7, 2) := zo_58 (z_byk bcX9_paste_0 0 31 _ bcX9_paste_0_ok rfl) (z_byk bcX9_paste_0 0 32 _ bcX9_paste_0_ok rfl)
theorem dX9_paste_33 : decode cX9_paste 33 = .ok (.aload 6, 2) := zo_25 (z_byk bcX9_paste_0 0 33 _ bcX9_paste_0_ok rfl) (z_byk bcX9_paste_0 0 34 _ bcX9_paste_0_ok rfl)
theorem dX9_paste_35 : decode cX9_paste 35 = .ok (.invokevirtual 325, 3) := zo_182 (z_byk bcX9_paste_0 0 35 _ bcX9_paste_0_ok rfl) (z_byk bcX9_paste_0 0 36 _ bcX9_paste_0_ok rfl) (z_byk bcX9_paste_0 0 37 _ bcX9_paste_0_ok rfl) rfl
theorem dX9_paste_38 : decode cX9_paste 38 = .ok (.ifCond .eq 11, 3) := zo_153 (z_byk bcX9_paste_0 0 38 _ bcX9_paste_0_ok rfl) (z_byk bcX9_paste_0 0 39 _ bcX9_paste_0_ok rfl) (z_byk bcX9_paste_0 0 40 _ bcX9_paste_0_ok rfl) rfl
theorem dX9_paste_4 : decode cX9_paste 4 = .ok (.ifCond .eq 10, 3) := zo_153 (z_byk bcX9_paste_0 0 4 _ bcX9_paste_0_ok rfl) (z_byk bcX9_paste_0 0 5 _ bcX9_paste_0_ok rfl) (z_byk bcX9_paste_0 0 6 _ bcX9_paste_0_ok rfl) rfl
theorem dX9_paste_41 : decode cX9_paste 41 = .ok (.aload 7, 2) := zo_25 (z_byk bcX9_paste_0 0 41 _ bcX9_paste_0_ok rfl) (z_byk bcX9_paste_0 0 42 _ bcX9_paste_0_ok rfl)
theorem dX9_paste_43 : decode cX9_paste 43 = .ok (.invokevirtual 325, 3) := zo_182 (z_byk bcX9_paste_0 0 43 _ bcX9_paste_0_ok rfl) (z_byk bcX9_paste_0 0 44 _ bcX9_paste_0_ok rfl) (z_byk bcX9_paste_0 0 45 _ bcX9_paste_0_ok rfl) rfl
theorem dX9_paste_46 : decode cX9_paste 46 = .ok (.ifCond .ne 6, 3) := zo_154 (z_byk bcX9_paste_0 0 46 _ bcX9_paste_0_ok rfl) (z_byk bcX9_paste_0 0 47 _ bcX9_paste_0_ok rfl) (z_byk bcX9_paste_0 0 48 _ bcX9_paste_0_ok rfl) rfl
theorem dX9_paste_49 : decode cX9_paste 49 = .ok (.bipush (-6), 2) := zo_16 (z_byk bcX9_paste_0 0 49 _ bcX9_paste_0_ok rfl) (z_byk bcX9_paste_0 0 50 _ bcX9_paste_0_ok rfl) rfl
theorem dX9_paste_51 : decode cX9_paste 51 = .ok (.ireturn, 1) := zo_172 (z_byk bcX9_paste_0 0 51 _ bcX9_paste_0_ok rfl)
theorem dX9_paste_52 : decode cX9_paste 52 = .ok (.aload 6, 2) := zo_25 (z_byk bcX9_paste_0 0 52 _ bcX9_paste_0_ok rfl) (z_byk bcX9_paste_0 0 53 _ bcX9_paste_0_ok rfl)
theorem dX9_paste_54 : decode cX9_paste 54 = .ok (.getfield 390, 3) := zo_180 (z_byk bcX9_paste_0 0 54 _ bcX9_paste_0_ok rfl) (z_byk bcX9_paste_0 0 55 _ bcX9_paste_0_ok rfl) (z_byk bcX9_paste_0 0 56 _ bcX9_paste_0_ok rfl) rfl
theorem dX9_paste_57 : decode cX9_paste 57 = .ok (.aload 7, 2) := zo_25 (z_byk bcX9_paste_0 0 57 _ bcX9_paste_0_ok rfl) (z_byk bcX9_paste_0 0 58 _ bcX9_paste_0_ok rfl)
theorem dX9_paste_59 : decode cX9_paste 59 = .ok (.getfield 390, 3) := zo_180 (z_byk bcX9_paste_0 0 59 _ bcX9_paste_0_ok rfl) (z_byk bcX9_paste_60 60 0 _ bcX9_paste_60_ok rfl) (z_byk bcX9_paste_60 60 1 _ bcX9_paste_60_ok rfl) rfl
theorem dX9_paste_62 : decode cX9_paste 62 = .ok (.if_icmp .eq 6, 3) := zo_159 (z_byk bcX9_paste_60 60 2 _ bcX9_paste_60_ok rfl) (z_byk bcX9_paste_60 60 3 _ bcX9_paste_60_ok rfl) (z_byk bcX9_paste_60 60 4 _ bcX9_paste_60_ok rfl) rfl
theorem dX9_paste_65 : decode cX9_paste 65 = .ok (.bipush (-8), 2) := zo_16 (z_byk bcX9_paste_60 60 5 _ bcX9_paste_60_ok rfl) (z_byk bcX9_paste_60 60 6 _ bcX9_paste_60_ok rfl) rfl
theorem dX9_paste_67 : decode cX9_paste 67 = .ok (.ireturn, 1) := zo_172 (z_byk bcX9_paste_60 60 7 _ bcX9_paste_60_ok rfl)
theorem dX9_paste_68 : decode cX9_paste 68 = .ok (.aload 6, 2) := zo_25 (z_byk bcX9_paste_60 60 8 _ bcX9_paste_60_ok rfl) (z_byk bcX9_paste_60 60 9 _ bcX9_paste_60_ok rfl)
theorem dX9_paste_7 : decode cX9_paste 7 = .ok (.iload_n 3, 1) := zo_29 (z_byk bcX9_paste_0 0 7 _ bcX9_paste_0_ok rfl)
theorem dX9_paste_70 : decode cX9_paste 70 = .ok (.iload_n 2, 1) := zo_28 (z_byk bcX9_paste_60 60 10 _ bcX9_paste_60_ok rfl)
theorem dX9_paste_71 : decode cX9_paste 71 = .ok (.iload 5, 2) := zo_21 (z_byk bcX9_paste_60 60 11 _ bcX9_paste_60_ok rfl) (z_byk bcX9_paste_60 60 12 _ bcX9_paste_60_ok rfl)
theorem dX9_paste_73 : decode cX9_paste 73 = .ok (.invokevirtual 383, 3) := zo_182 (z_byk bcX9_paste_60 60 13 _ bcX9_paste_60_ok rfl) (z_byk bcX9_paste_60 60 14 _ bcX9_paste_60_ok rfl) (z_byk bcX9_paste_60 60 15 _ bcX9_paste_60_ok rfl) rfl
theorem dX9_paste_76 : decode cX9_paste 76 = .ok (.ifCond .eq 15, 3) := zo_153 (z_byk bcX9_paste_60 60 16 _ bcX9_paste_60_ok rfl) (z_byk bcX9_paste_60 60 17 _ bcX9_paste_60_ok rfl) (z_byk bcX9_paste_60 60 18 _ bcX9_paste_60_ok rfl) rfl
theorem dX9_paste_79 : decode cX9_paste 79 = .ok (.aload 7, 2) := zo_25 (z_byk bcX9_paste_60 60 19 _ bcX9_paste_60_ok rfl) (z_byk bcX9_paste_60 60 20 _ bcX9_paste_60_ok rfl)
theorem dX9_paste_8 : decode cX9_paste 8 = .ok (.invokestatic 322, 3) := zo_184 (z_byk bcX9_paste_0 0 8 _ bcX9_paste_0_ok rfl) (z_byk bcX9_paste_0 0 9 _ bcX9_paste_0_ok rfl) (z_byk bcX9_paste_0 0 10 _ bcX9_paste_0_ok rfl) rfl
theorem dX9_paste_81 : decode cX9_paste 81 = .ok (.iload 4, 2) := zo_21 (z_byk bcX9_paste_60 60 21 _ bcX9_paste_60_ok rfl) (z_byk bcX9_paste_60 60 22 _ bcX9_paste_60_ok rfl)
theorem dX9_paste_83 : decode cX9_paste 83 = .ok (.iload 5, 2) := zo_21 (z_byk bcX9_paste_60 60 23 _ bcX9_paste_60_ok rfl) (z_byk bcX9_paste_60 60 24 _ bcX9_paste_60_ok rfl)
theorem dX9_paste_85 : decode cX9_paste 85 = .ok (.invokevirtual 383, 3) := zo_182 (z_byk bcX9_paste_60 60 25 _ bcX9_paste_60_ok rfl) (z_byk bcX9_paste_60 60 26 _ bcX9_paste_60_ok rfl) (z_byk bcX9_paste_60 60 27 _ bcX9_paste_60_ok rfl) rfl
theorem dX9_paste_88 : decode cX9_paste 88 = .ok (.ifCond .ne 6, 3) := zo_154 (z_byk bcX9_paste_60 60 28 _ bcX9_paste_60_ok rfl) (z_byk bcX9_paste_60 60 29 _ bcX9_paste_60_ok rfl) (z_byk bcX9_paste_60 60 30 _ bcX9_paste_60_ok rfl) rfl
theorem dX9_paste_91 : decode cX9_paste 91 = .ok (.bipush (-7), 2) := zo_16 (z_byk bcX9_paste_60 60 31 _ bcX9_paste_60_ok rfl) (z_byk bcX9_paste_60 60 32 _ bcX9_paste_60_ok rfl) rfl
theorem dX9_paste_93 : decode cX9_paste 93 = .ok (.ireturn, 1) := zo_172 (z_byk bcX9_paste_60 60 33 _ bcX9_paste_60_ok rfl)
theorem dX9_paste_94 : decode cX9_paste 94 = .ok (.aload 6, 2) := zo_25 (z_byk bcX9_paste_60 60 34 _ bcX9_paste_60_ok rfl) (z_byk bcX9_paste_60 60 35 _ bcX9_paste_60_ok rfl)
theorem dX9_paste_96 : decode cX9_paste 96 = .ok (.getfield 393, 3) := zo_180 (z_byk bcX9_paste_60 60 36 _ bcX9_paste_60_ok rfl) (z_byk bcX9_paste_60 60 37 _ bcX9_paste_60_ok rfl) (z_byk bcX9_paste_60 60 38 _ bcX9_paste_60_ok rfl) rfl
theorem dX9_paste_99 : decode cX9_paste 99 = .ok (.iload_n 2, 1) := zo_28 (z_byk bcX9_paste_60 60 39 _ bcX9_paste_60_ok rfl)
set_option maxHeartbeats 4000000 in
set_option maxRecDepth 100000 in
theorem k_X9_paste (l : Launch) (sa : Nat → Nat) (dC : Nat → ClassId) (dI : Nat → Nat → Nat) (h0 : Nat) (p1 : Int32) (p2 : Int32) (p3 : Int32) (p4 : Int32) (p5 : Int32) (tp : Nat) (h0_tapeLength : Int32) (h0_faultKind : Int32) (h0_faultPlace : Int32) (nw : Nat) (im : Nat) (sl : Nat) (rd : Nat) (wk : Nat) (fm : Nat) (mt : Nat) (ch : Nat) (dy : Nat) (cA_sl : ClassId) (f_sl : Nat → Option Nat) (r0 : Nat) (r1 : Nat) (r2 : Nat) (r3 : Nat) (r0_width : Int32) (r0_size : Int32) (r0_numbers : Nat) (cA_r0_numbers : ClassId) (f_r0_numbers : Nat → Int64) (r1_width : Int32) (r1_size : Int32) (r1_numbers : Nat) (cA_r1_numbers : ClassId) (f_r1_numbers : Nat → Int64) (r2_width : Int32) (r2_size : Int32) (r2_numbers : Nat) (cA_r2_numbers : ClassId) (f_r2_numbers : Nat → Int64) (r3_width : Int32) (r3_size : Int32) (r3_numbers : Nat) (cA_r3_numbers : ClassId) (f_r3_numbers : Nat → Int64) (b_h0_tapeLength : 0 ≤ h0_tapeLength.toInt ∧ h0_tapeLength.toInt ≤ 1600) (hsl0 : f_sl 0 = some r0) (hsl1 : f_sl 1 = some r1) (hsl2 : f_sl 2 = some r2) (hsl3 : f_sl 3 = some r3) (b_r0_size : 0 ≤ r0_size.toInt ∧ r0_size.toInt ≤ 60) (b_r1_size : 0 ≤ r1_size.toInt ∧ r1_size.toInt ≤ 60) (b_r2_size : 0 ≤ r2_size.toInt ∧ r2_size.toInt ≤ 60) (b_r3_size : 0 ≤ r3_size.toInt ∧ r3_size.toInt ≤ 60) (sz : Nat) : Met l yX9_paste (.code yX9_paste cX9_paste 8 (some .int) :: zT) ({ frames := 1, cells := 0, slots := 0, locals := 60 }) (va_Pc [.ref h0, .int p1, .int p2, .int p3, .int p4, .int p5] (zB sa dC dI (zV73 h0 tp h0_tapeLength h0_faultKind h0_faultPlace nw im sl rd wk fm mt ch dy sl cA_sl f_sl r0 r0_width r0_size r0_numbers r0_numbers cA_r0_numbers f_r0_numbers r1 r1_width r1_size r1_numbers r1_numbers cA_r1_numbers f_r1_numbers r2 r2_width r2_size r2_numbers r2_numbers cA_r2_numbers f_r2_numbers r3 r3_width r3_size r3_numbers r3_numbers cA_r3_numbers f_r3_numbers) [(cA_sl, .object RX6), (cA_r0_numbers, .long), (cA_r1_numbers, .long), (cA_r2_numbers, .long), (cA_r3_numbers, .long)] sz)) (va_Qi (fun (r : Int32) (_ : Unit) => ((-8) ≤ r.toInt ∧ r.toInt ≤ 0)) (fun _ t => ∃ (n_r0_numbers : Nat → Int64) (n_r1_numbers : Nat → Int64) (n_r2_numbers : Nat → Int64) (n_r3_numbers : Nat → Int64), zW dC dI (zV73 h0 tp h0_tapeLength h0_faultKind h0_faultPlace nw im sl rd wk fm mt ch dy sl cA_sl f_sl r0 r0_width r0_size r0_numbers r0_numbers cA_r0_numbers n_r0_numbers r1 r1_width r1_size r1_numbers r1_numbers cA_r1_numbers n_r1_numbers r2 r2_width r2_size r2_numbers r2_numbers cA_r2_numbers n_r2_numbers r3 r3_width r3_size r3_numbers r3_numbers cA_r3_numbers n_r3_numbers) [] (va_A (zV73 h0 tp h0_tapeLength h0_faultKind h0_faultPlace nw im sl rd wk fm mt ch dy sl cA_sl f_sl r0 r0_width r0_size r0_numbers r0_numbers cA_r0_numbers f_r0_numbers r1 r1_width r1_size r1_numbers r1_numbers cA_r1_numbers f_r1_numbers r2 r2_width r2_size r2_numbers r2_numbers cA_r2_numbers f_r2_numbers r3 r3_width r3_size r3_numbers r3_numbers cA_r3_numbers f_r3_numbers) sz) t) (va_A (zV73 h0 tp h0_tapeLength h0_faultKind h0_faultPlace nw im sl rd wk fm mt ch dy sl cA_sl f_sl r0 r0_width r0_size r0_numbers r0_numbers cA_r0_numbers f_r0_numbers r1 r1_width r1_size r1_numbers r1_numbers cA_r1_numbers f_r1_numbers r2 r2_width r2_size r2_numbers r2_numbers cA_r2_numbers f_r2_numbers r3 r3_width r3_size r3_numbers r3_numbers cA_r3_numbers f_r3_numbers) sz)) 0 0 (va_A (zV73 h0 tp h0_tapeLength h0_faultKind h0_faultPlace nw im sl rd wk fm mt ch dy sl cA_sl f_sl r0 r0_width r0_size r0_numbers r0_numbers cA_r0_numbers f_r0_numbers r1 r1_width r1_size r1_numbers r1_numbers cA_r1_numbers f_r1_numbers r2 r2_width r2_size r2_numbers r2_numbers cA_r2_numbers f_r2_numbers r3 r3_width r3_size r3_numbers r3_numbers cA_r3_numbers f_r3_numbers) sz) := by
  refine z_enter (by decide) (by exact (Nat.le_of_ble_eq_true rfl)) ?_
  intro p e s m args below meth c ls A R Qc hargs hsz hQe hAe hRe hx hb hml hr hts hown hlocks hin hl hP hK hD hN hXs hA hS
  rw [hAe] at hQe
  have hown : s.vm.findClass RX9 = some m.cls := hown
  have hl : lv_has ls 8 [(0, .ref h0), (1, .int p1), (2, .int p2), (3, .int p3), (4, .int p4), (5, .int p5)] := hl
  refine lv_iload_n hx hb dX9_paste_0 rfl (lv_at hl 1 rfl) ?_
  obtain ⟨hPc, hDc, hFc⟩ := z_cut (wc := []) hP hD hS hA [] rfl (by decide +kernel)
  have hKc := hK.sub (tys' := []) [] rfl
  refine va_calli (va_runS (As := [.int p1]) (rest := []) ⟨hx, hb, hml, hown, hts⟩ (k_X9_isSlot l sa dC dI p1 s.heap.size) (va_cwS 1 hts (z_gS zw_t5_219 zw_t5_220 zw_t1_1 zw_t5_221) rfl rfl rfl (by decide +kernel) (by rw [← hRe]; exact ⟨(Nat.le_of_ble_eq_true rfl), (Nat.le_of_ble_eq_true rfl)⟩)) (z_preS hPc hKc hDc hN hXs hS hFc) rfl rfl hl.1 rfl (lv_room (Nat.le_of_ble_eq_true rfl)) dX9_paste_1 (by rw [← hRe]; exact ⟨(Nat.le_of_ble_eq_true rfl), (Nat.le_of_ble_eq_true rfl)⟩)) hS (fun q _ h => hFc q h) hFc (fun r_1 u t H1 locs ht hvm hw hB hz1 hk1 hS => ?_)
  obtain ⟨hP, hD, hK⟩ := z_after3 (wn := (zV73 h0 tp h0_tapeLength h0_faultKind h0_faultPlace nw im sl rd wk fm mt ch dy sl cA_sl f_sl r0 r0_width r0_size r0_numbers r0_numbers cA_r0_numbers f_r0_numbers r1 r1_width r1_size r1_numbers r1_numbers cA_r1_numbers f_r1_numbers r2 r2_width r2_size r2_numbers r2_numbers cA_r2_numbers f_r2_numbers r3 r3_width r3_size r3_numbers r3_numbers cA_r3_numbers f_r3_numbers)) hB ht hvm hP hD hK [] [0, 1, 2, 3, 4, 5, 6, 7, 8, 9] rfl 10 rfl (by decide +kernel) rfl (by decide +kernel) hk1 hFc
  generalize H1 = H at hP hS ⊢
  have hK : va_K (dC, dI) vwCl [(cA_sl, .object RX6), (cA_r0_numbers, .long), (cA_r1_numbers, .long), (cA_r2_numbers, .long), (cA_r3_numbers, .long)] s := hK
  have b_r_1 : 0 ≤ r_1.toInt ∧ r_1.toInt ≤ 1 := hw.1
  have s_r_1 := hw.2
  refine lv_if_eq (tgt := 14) hx hb dX9_paste_4 (by decide) (fun c_2 => ?_) (fun c_2 => ?_)
  · have ic_2 := zz_eq rfl (show Int32.toInt 0 = 0 from by decide) c_2
    refine lv_bipush (v := (-2)) hx hb dX9_paste_14 (by decide) ?_
    exact W.iret (v := (-2)) hx hb hr (fun t ht hW => by rw [← hQe]; exact ⟨⟨(-2), (), rfl, (by decide), ⟨f_r0_numbers, f_r1_numbers, f_r2_numbers, f_r3_numbers, z_ret hP hK hD ht hW [0, 1, 2, 3, 4, 5, 6, 7, 8, 9] [] rfl (by decide) rfl⟩⟩, hS.F ht⟩) hS.2.2 dX9_paste_16
  · have ic_2 := zz_neq rfl (show Int32.toInt 0 = 0 from by decide) c_2
    refine lv_iload_n hx hb dX9_paste_7 rfl (lv_at hl 3 rfl) ?_
    obtain ⟨hPc, hDc, hFc⟩ := z_cut (wc := []) hP hD hS hA [] rfl (by decide +kernel)
    have hKc := hK.sub (tys' := []) [] rfl
    refine va_calli (va_runS (As := [.int p3]) (rest := []) ⟨hx, hb, hml, hown, hts⟩ (k_X9_isSlot l sa dC dI p3 H.size) (va_cwS 1 hts (z_gS zw_t5_219 zw_t5_220 zw_t1_1 zw_t5_221) rfl rfl rfl (by decide +kernel) (by rw [← hRe]; exact ⟨(Nat.le_of_ble_eq_true rfl), (Nat.le_of_ble_eq_true rfl)⟩)) (z_preS hPc hKc hDc hN hXs hS hFc) rfl rfl hl.1 rfl (lv_room (Nat.le_of_ble_eq_true rfl)) dX9_paste_8 (by rw [← hRe]; exact ⟨(Nat.le_of_ble_eq_true rfl), (Nat.le_of_ble_eq_true rfl)⟩)) hS (fun q _ h => hFc q h) hFc (fun r_3 u t H1 locs ht hvm hw hB hz1 hk1 hS => ?_)
    obtain ⟨hP, hD, hK⟩ := z_after3 (wn := (zV73 h0 tp h0_tapeLength h0_faultKind h0_faultPlace nw im sl rd wk fm mt ch dy sl cA_sl f_sl r0 r0_width r0_size r0_numbers r0_numbers cA_r0_numbers f_r0_numbers r1 r1_width r1_size r1_numbers r1_numbers cA_r1_numbers f_r1_numbers r2 r2_width r2_size r2_numbers r2_numbers cA_r2_numbers f_r2_numbers r3 r3_width r3_size r3_numbers r3_numbers cA_r3_numbers f_r3_numbers)) hB ht hvm hP hD hK [] [0, 1, 2, 3, 4, 5, 6, 7, 8, 9] rfl 10 rfl (by decide +kernel) rfl (by decide +kernel) hk1 hFc
    generalize H1 = H at hP hS ⊢
    have hK : va_K (dC, dI) vwCl [(cA_sl, .object RX6), (cA_r0_numbers, .long), (cA_r1_numbers, .long), (cA_r2_numbers, .long), (cA_r3_numbers, .long)] s := hK
    have b_r_3 : 0 ≤ r_3.toInt ∧ r_3.toInt ≤ 1 := hw.1
    have s_r_3 := hw.2
    refine lv_if_ne (tgt := 17) hx hb dX9_paste_11 (by decide) (fun c_4 => ?_) (fun c_4 => ?_)
    · have ic_4 := zz_ne rfl (show Int32.toInt 0 = 0 from by decide) c_4
      refine lv_aload_n hx hb dX9_paste_17 rfl (lv_at hl 0 rfl) ?_
      refine va_get (D := (dC, dI)) (ci := 9) (v := .ref sl) (C := RX9) (T := TX9) (N := 13) hx hb hts zl_X9 hown hK hP 0 rfl rfl 6 (by decide) (hts _ zw_t2_195) (fun _ h9 => h9) rfl dX9_paste_18 ?_
      refine lv_iload_n hx hb dX9_paste_21 rfl (lv_at hl 1 rfl) ?_
      rcases z_s3 p1 with q_sw | rfl | rfl | rfl | rfl | q_sw
      · omega
      · have zc_0 : Int32.toInt 0 = 0 := by decide
        refine va_aldq hx hb hK hP 1 0 rfl rfl (zi_in (show Int32.toInt 0 = 0 from by decide) (by decide)) dX9_paste_22 ?_
        refine W.eq (g2 := F0 m 23 ls (.ref r0 :: [])) (by rw [show f_sl (Int32.toNatClampNeg 0) = some r0 from (by rw [show Int32.toNatClampNeg 0 = 0 from by decide]; exact hsl0)]; rfl) ?_
        refine lv_astore (lv' := [(6, .ref r0), (0, .ref h0), (1, .int 0), (2, .int p2), (3, .int p3), (4, .int p4), (5, .int p5)]) hx hb dX9_paste_23 hl (by decide) rfl (fun ls hl => ?_)
        refine lv_aload_n hx hb dX9_paste_25 rfl (lv_at hl 1 rfl) ?_
        refine va_get (D := (dC, dI)) (ci := 9) (v := .ref sl) (C := RX9) (T := TX9) (N := 13) hx hb hts zl_X9 hown hK hP 0 rfl rfl 6 (by decide) (hts _ zw_t2_195) (fun _ h9 => h9) rfl dX9_paste_26 ?_
        refine lv_iload_n hx hb dX9_paste_29 rfl (lv_at hl 4 rfl) ?_
        rcases z_s3 p3 with q_sw | rfl | rfl | rfl | rfl | q_sw
        · omega
        · have zc_0 : Int32.toInt 0 = 0 := by decide
          refine va_aldq hx hb hK hP 1 0 rfl rfl (zi_in (show Int32.toInt 0 = 0 from by decide) (by decide)) dX9_paste_30 ?_
          refine W.eq (g2 := F0 m 31 ls (.ref r0 :: [])) (by rw [show f_sl (Int32.toNatClampNeg 0) = some r0 from (by rw [show Int32.toNatClampNeg 0 = 0 from by decide]; exact hsl0)]; rfl) ?_
          refine lv_astore (lv' := [(7, .ref r0), (6, .ref r0), (0, .ref h0), (1, .int 0), (2, .int p2), (3, .int 0), (4, .int p4), (5, .int p5)]) hx hb dX9_paste_31 hl (by decide) rfl (fun ls hl => ?_)
          refine lv_aload hx hb dX9_paste_33 (lv_at hl 1 rfl) ?_
          obtain ⟨hPc, hDc, hFc⟩ := z_cut (wc := (zV6 r0 r0_width r0_size r0_numbers)) hP hD hS hA [2] rfl (by decide +kernel)
          have hKc := hK.sub (tys' := []) [] rfl
          refine va_calli (va_runV (As := []) (rest := []) ⟨hx, hb, hml, hown, hts⟩ (k_X6_isThere l sa dC dI r0 r0_width r0_size r0_numbers b_r0_size H.size) (cwV 0 hts (z_gV zw_t5_222 zw_t5_223 zw_t5_224 zw_t1_10 zw_t5_225) rfl rfl rfl (by decide +kernel) (by rw [← hRe]; exact ⟨(Nat.le_of_ble_eq_true rfl), (Nat.le_of_ble_eq_true rfl)⟩)) (z_preV hPc hKc hDc hN hXs hS hFc (q := (RX6, TX6, 3)) (ci := 6) (q0 := 0) rfl rfl) rfl rfl hl.1 rfl (lv_room (Nat.le_of_ble_eq_true rfl)) dX9_paste_35 (by rw [← hRe]; exact ⟨(Nat.le_of_ble_eq_true rfl), (Nat.le_of_ble_eq_true rfl)⟩)) hS (fun q _ h => hFc q h) hFc (fun r_5 u t H1 locs ht hvm hw hB hz1 hk1 hS => ?_)
          obtain ⟨hP, hD, hK⟩ := z_after3 (wn := (zV74 h0 tp h0_tapeLength h0_faultKind h0_faultPlace nw im sl rd wk fm mt ch dy sl cA_sl f_sl r0_numbers cA_r0_numbers f_r0_numbers r1 r1_width r1_size r1_numbers r1_numbers cA_r1_numbers f_r1_numbers r2 r2_width r2_size r2_numbers r2_numbers cA_r2_numbers f_r2_numbers r3 r3_width r3_size r3_numbers r3_numbers cA_r3_numbers f_r3_numbers r0 r0_width r0_size r0_numbers)) hB ht hvm hP hD hK [2] [0, 1, 3, 4, 5, 6, 7, 8, 9] rfl 10 rfl (by decide +kernel) rfl (by decide +kernel) hk1 hFc
          generalize H1 = H at hP hS ⊢
          have hK : va_K (dC, dI) vwCl [(cA_sl, .object RX6), (cA_r0_numbers, .long), (cA_r1_numbers, .long), (cA_r2_numbers, .long), (cA_r3_numbers, .long)] s := hK
          have b_r_5 : 0 ≤ r_5.toInt ∧ r_5.toInt ≤ 1 := hw
          refine lv_if_eq (tgt := 49) hx hb dX9_paste_38 (by decide) (fun c_6 => ?_) (fun c_6 => ?_)
          · have ic_6 := zz_eq rfl (show Int32.toInt 0 = 0 from by decide) c_6
            refine lv_bipush (v := (-6)) hx hb dX9_paste_49 (by decide) ?_
            exact W.iret (v := (-6)) hx hb hr (fun t ht hW => by rw [← hQe]; exact ⟨⟨(-6), (), rfl, (by decide), ⟨f_r0_numbers, f_r1_numbers, f_r2_numbers, f_r3_numbers, z_ret hP hK hD ht hW [0, 1, 9, 2, 3, 4, 5, 6, 7, 8] [] rfl (by decide) rfl⟩⟩, hS.F ht⟩) hS.2.2 dX9_paste_51
          · have ic_6 := zz_neq rfl (show Int32.toInt 0 = 0 from by decide) c_6
            refine lv_aload hx hb dX9_paste_41 (lv_at hl 0 rfl) ?_
            obtain ⟨hPc, hDc, hFc⟩ := z_cut (wc := (zV6 r0 r0_width r0_size r0_numbers)) hP hD hS hA [9] rfl (by decide +kernel)
            have hKc := hK.sub (tys' := []) [] rfl
            refine va_calli (va_runV (As := []) (rest := []) ⟨hx, hb, hml, hown, hts⟩ (k_X6_isThere l sa dC dI r0 r0_width r0_size r0_numbers b_r0_size H.size) (cwV 0 hts (z_gV zw_t5_222 zw_t5_223 zw_t5_224 zw_t1_10 zw_t5_225) rfl rfl rfl (by decide +kernel) (by rw [← hRe]; exact ⟨(Nat.le_of_ble_eq_true rfl), (Nat.le_of_ble_eq_true rfl)⟩)) (z_preV hPc hKc hDc hN hXs hS hFc (q := (RX6, TX6, 3)) (ci := 6) (q0 := 0) rfl rfl) rfl rfl hl.1 rfl (lv_room (Nat.le_of_ble_eq_true rfl)) dX9_paste_43 (by rw [← hRe]; exact ⟨(Nat.le_of_ble_eq_true rfl), (Nat.le_of_ble_eq_true rfl)⟩)) hS (fun q _ h => hFc q h) hFc (fun r_7 u t H1 locs ht hvm hw hB hz1 hk1 hS => ?_)
            obtain ⟨hP, hD, hK⟩ := z_after3 (wn := (zV74 h0 tp h0_tapeLength h0_faultKind h0_faultPlace nw im sl rd wk fm mt ch dy sl cA_sl f_sl r0_numbers cA_r0_numbers f_r0_numbers r1 r1_width r1_size r1_numbers r1_numbers cA_r1_numbers f_r1_numbers r2 r2_width r2_size r2_numbers r2_numbers cA_r2_numbers f_r2_numbers r3 r3_width r3_size r3_numbers r3_numbers cA_r3_numbers f_r3_numbers r0 r0_width r0_size r0_numbers)) hB ht hvm hP hD hK [9] [0, 1, 2, 3, 4, 5, 6, 7, 8] rfl 10 rfl (by decide +kernel) rfl (by decide +kernel) hk1 hFc
            generalize H1 = H at hP hS ⊢
            have hK : va_K (dC, dI) vwCl [(cA_sl, .object RX6), (cA_r0_numbers, .long), (cA_r1_numbers, .long), (cA_r2_numbers, .long), (cA_r3_numbers, .long)] s := hK
            have b_r_7 : 0 ≤ r_7.toInt ∧ r_7.toInt ≤ 1 := hw
            refine lv_if_ne (tgt := 52) hx hb dX9_paste_46 (by decide) (fun c_8 => ?_) (fun c_8 => ?_)
            · have ic_8 := zz_ne rfl (show Int32.toInt 0 = 0 from by decide) c_8
              refine lv_aload hx hb dX9_paste_52 (lv_at hl 1 rfl) ?_
              refine va_get (D := (dC, dI)) (ci := 6) (v := .int r0_width) (C := RX6) (T := TX6) (N := 3) hx hb hts zl_X6 hown hK hP 9 rfl rfl 0 (by decide) (hts _ zw_t2_176) (fun _ h9 => h9) rfl dX9_paste_54 ?_
              refine lv_aload hx hb dX9_paste_57 (lv_at hl 0 rfl) ?_
              refine va_get (D := (dC, dI)) (ci := 6) (v := .int r0_width) (C := RX6) (T := TX6) (N := 3) hx hb hts zl_X6 hown hK hP 9 rfl rfl 0 (by decide) (hts _ zw_t2_176) (fun _ h9 => h9) rfl dX9_paste_59 ?_
              have nb_r0_width := zi_nb r0_width
              refine lv_icmp_eq (tgt := 68) hx hb dX9_paste_62 (by decide) (fun c_9 => ?_) (fun q => absurd (zz_neq rfl rfl q) (by first | with_reducible assumption | omega))
              have ic_9 := zz_eq rfl rfl c_9
              refine lv_aload hx hb dX9_paste_68 (lv_at hl 1 rfl) ?_
              refine lv_iload_n hx hb dX9_paste_70 rfl (lv_at hl 4 rfl) ?_
              refine lv_iload hx hb dX9_paste_71 (lv_at hl 7 rfl) ?_
              obtain ⟨hPc, hDc, hFc⟩ := z_cut (wc := (zV6 r0 r0_width r0_size r0_numbers)) hP hD hS hA [9] rfl (by decide +kernel)
              have hKc := hK.sub (tys' := []) [] rfl
              refine va_calli (va_runV (As := [.int p2, .int p5]) (rest := []) ⟨hx, hb, hml, hown, hts⟩ (k_X6_hasSpan l sa dC dI r0 p2 p5 r0_width r0_size r0_numbers b_r0_size H.size) (cwV 2 hts (z_gV zw_t6_80 zw_t6_81 zw_t6_82 zw_t1_10 zw_t6_83) rfl rfl rfl (by decide +kernel) (by rw [← hRe]; exact ⟨(Nat.le_of_ble_eq_true rfl), (Nat.le_of_ble_eq_true rfl)⟩)) (z_preV hPc hKc hDc hN hXs hS hFc (q := (RX6, TX6, 3)) (ci := 6) (q0 := 0) rfl rfl) rfl rfl hl.1 rfl (lv_room (Nat.le_of_ble_eq_true rfl)) dX9_paste_73 (by rw [← hRe]; exact ⟨(Nat.le_of_ble_eq_true rfl), (Nat.le_of_ble_eq_true rfl)⟩)) hS (fun q _ h => hFc q h) hFc (fun r_10 u t H1 locs ht hvm hw hB hz1 hk1 hS => ?_)
              obtain ⟨hP, hD, hK⟩ := z_after3 (wn := (zV74 h0 tp h0_tapeLength h0_faultKind h0_faultPlace nw im sl rd wk fm mt ch dy sl cA_sl f_sl r0_numbers cA_r0_numbers f_r0_numbers r1 r1_width r1_size r1_numbers r1_numbers cA_r1_numbers f_r1_numbers r2 r2_width r2_size r2_numbers r2_numbers cA_r2_numbers f_r2_numbers r3 r3_width r3_size r3_numbers r3_numbers cA_r3_numbers f_r3_numbers r0 r0_width r0_size r0_numbers)) hB ht hvm hP hD hK [9] [0, 1, 2, 3, 4, 5, 6, 7, 8] rfl 10 rfl (by decide +kernel) rfl (by decide +kernel) hk1 hFc
              generalize H1 = H at hP hS ⊢
              have hK : va_K (dC, dI) vwCl [(cA_sl, .object RX6), (cA_r0_numbers, .long), (cA_r1_numbers, .long), (cA_r2_numbers, .long), (cA_r3_numbers, .long)] s := hK
              have b_r_10 : 0 ≤ r_10.toInt ∧ r_10.toInt ≤ 1 := hw.1
              have s_r_10 := hw.2
              refine lv_if_eq (tgt := 91) hx hb dX9_paste_76 (by decide) (fun c_11 => ?_) (fun c_11 => ?_)
              · have ic_11 := zz_eq rfl (show Int32.toInt 0 = 0 from by decide) c_11
                refine lv_bipush (v := (-7)) hx hb dX9_paste_91 (by decide) ?_
                exact W.iret (v := (-7)) hx hb hr (fun t ht hW => by rw [← hQe]; exact ⟨⟨(-7), (), rfl, (by decide), ⟨f_r0_numbers, f_r1_numbers, f_r2_numbers, f_r3_numbers, z_ret hP hK hD ht hW [0, 1, 9, 2, 3, 4, 5, 6, 7, 8] [] rfl (by decide) rfl⟩⟩, hS.F ht⟩) hS.2.2 dX9_paste_93
              · have ic_11 := zz_neq rfl (show Int32.toInt 0 = 0 from by decide) c_11
                refine lv_aload hx hb dX9_paste_79 (lv_at hl 0 rfl) ?_
                refine lv_iload hx hb dX9_paste_81 (lv_at hl 6 rfl) ?_
                refine lv_iload hx hb dX9_paste_83 (lv_at hl 7 rfl) ?_
                obtain ⟨hPc, hDc, hFc⟩ := z_cut (wc := (zV6 r0 r0_width r0_size r0_numbers)) hP hD hS hA [9] rfl (by decide +kernel)
                have hKc := hK.sub (tys' := []) [] rfl
                refine va_calli (va_runV (As := [.int p4, .int p5]) (rest := []) ⟨hx, hb, hml, hown, hts⟩ (k_X6_hasSpan l sa dC dI r0 p4 p5 r0_width r0_size r0_numbers b_r0_size H.size) (cwV 2 hts (z_gV zw_t6_80 zw_t6_81 zw_t6_82 zw_t1_10 zw_t6_83) rfl rfl rfl (by decide +kernel) (by rw [← hRe]; exact ⟨(Nat.le_of_ble_eq_true rfl), (Nat.le_of_ble_eq_true rfl)⟩)) (z_preV hPc hKc hDc hN hXs hS hFc (q := (RX6, TX6, 3)) (ci := 6) (q0 := 0) rfl rfl) rfl rfl hl.1 rfl (lv_room (Nat.le_of_ble_eq_true rfl)) dX9_paste_85 (by rw [← hRe]; exact ⟨(Nat.le_of_ble_eq_true rfl), (Nat.le_of_ble_eq_true rfl)⟩)) hS (fun q _ h => hFc q h) hFc (fun r_12 u t H1 locs ht hvm hw hB hz1 hk1 hS => ?_)
                obtain ⟨hP, hD, hK⟩ := z_after3 (wn := (zV74 h0 tp h0_tapeLength h0_faultKind h0_faultPlace nw im sl rd wk fm mt ch dy sl cA_sl f_sl r0_numbers cA_r0_numbers f_r0_numbers r1 r1_width r1_size r1_numbers r1_numbers cA_r1_numbers f_r1_numbers r2 r2_width r2_size r2_numbers r2_numbers cA_r2_numbers f_r2_numbers r3 r3_width r3_size r3_numbers r3_numbers cA_r3_numbers f_r3_numbers r0 r0_width r0_size r0_numbers)) hB ht hvm hP hD hK [9] [0, 1, 2, 3, 4, 5, 6, 7, 8] rfl 10 rfl (by decide +kernel) rfl (by decide +kernel) hk1 hFc
                generalize H1 = H at hP hS ⊢
                have hK : va_K (dC, dI) vwCl [(cA_sl, .object RX6), (cA_r0_numbers, .long), (cA_r1_numbers, .long), (cA_r2_numbers, .long), (cA_r3_numbers, .long)] s := hK
                have b_r_12 : 0 ≤ r_12.toInt ∧ r_12.toInt ≤ 1 := hw.1
                have s_r_12 := hw.2
                refine lv_if_ne (tgt := 94) hx hb dX9_paste_88 (by decide) (fun c_13 => ?_) (fun c_13 => ?_)
                · have ic_13 := zz_ne rfl (show Int32.toInt 0 = 0 from by decide) c_13
                  refine lv_aload hx hb dX9_paste_94 (lv_at hl 1 rfl) ?_
                  refine va_get (D := (dC, dI)) (ci := 6) (v := .ref r0_numbers) (C := RX6) (T := TX6) (N := 3) hx hb hts zl_X6 hown hK hP 9 rfl rfl 2 (by decide) (hts _ zw_t2_181) (fun _ h9 => h9) rfl dX9_paste_96 ?_
                  refine lv_iload_n hx hb dX9_paste_99 rfl (lv_at hl 4 rfl) ?_
                  refine lv_aload hx hb dX9_paste_100 (lv_at hl 0 rfl) ?_
                  refine va_get (D := (dC, dI)) (ci := 6) (v := .ref r0_numbers) (C := RX6) (T := TX6) (N := 3) hx hb hts zl_X6 hown hK hP 9 rfl rfl 2 (by decide) (hts _ zw_t2_181) (fun _ h9 => h9) rfl dX9_paste_102 ?_
                  refine lv_iload hx hb dX9_paste_105 (lv_at hl 6 rfl) ?_
                  refine lv_iload hx hb dX9_paste_107 (lv_at hl 7 rfl) ?_
                  have kc_p2 := zi_clamp (x := p2) rfl (by first | with_reducible assumption | omega)
                  have kc_p4 := zi_clamp (x := p4) rfl (by first | with_reducible assumption | omega)
                  have kc_p5 := zi_clamp (x := p5) rfl (by first | with_reducible assumption | omega)
                  refine va_copyl hx hb (by rw [hml]; exact hl.1.symm) hown (hts _ zw_t6_92) (hts _ zw_t4_39) (hts _ zw_t4_38) (hts _ zw_t1_18) hK hP hD hS 2 2 1 1 rfl rfl rfl rfl rfl (fun q => absurd (z_lt (k := 0) (by decide) q) (by first | with_reducible assumption | omega)) (fun q => absurd (z_lt (k := 0) (by decide) q) (by first | with_reducible assumption | omega)) (fun q => absurd (z_lt (k := 0) (by decide) q) (by first | with_reducible assumption | omega)) (by first | with_reducible assumption | omega) (by first | with_reducible assumption | omega) (fun _ _ => rfl) (by rw [← hRe]; exact (Nat.le_of_ble_eq_true rfl)) (by rw [← hRe]; exact (Nat.le_of_ble_eq_true rfl)) dX9_paste_109 (fun H locs hP hD hS => ?_)
                  obtain ⟨f_14, ef_14⟩ : ∃ g : Nat → Int64, g = va_cpy f_r0_numbers f_r0_numbers (Int32.toNatClampNeg p2) (Int32.toNatClampNeg p4) (Int32.toNatClampNeg p5) := ⟨_, rfl⟩
                  have hP : va_P (dC, dI) vwCl (zV74 h0 tp h0_tapeLength h0_faultKind h0_faultPlace nw im sl rd wk fm mt ch dy sl cA_sl f_sl r0_numbers cA_r0_numbers (va_cpy f_r0_numbers f_r0_numbers (Int32.toNatClampNeg p2) (Int32.toNatClampNeg p4) (Int32.toNatClampNeg p5)) r1 r1_width r1_size r1_numbers r1_numbers cA_r1_numbers f_r1_numbers r2 r2_width r2_size r2_numbers r2_numbers cA_r2_numbers f_r2_numbers r3 r3_width r3_size r3_numbers r3_numbers cA_r3_numbers f_r3_numbers r0 r0_width r0_size r0_numbers) H := hP
                  have hD : va_D A (zV74 h0 tp h0_tapeLength h0_faultKind h0_faultPlace nw im sl rd wk fm mt ch dy sl cA_sl f_sl r0_numbers cA_r0_numbers (va_cpy f_r0_numbers f_r0_numbers (Int32.toNatClampNeg p2) (Int32.toNatClampNeg p4) (Int32.toNatClampNeg p5)) r1 r1_width r1_size r1_numbers r1_numbers cA_r1_numbers f_r1_numbers r2 r2_width r2_size r2_numbers r2_numbers cA_r2_numbers f_r2_numbers r3 r3_width r3_size r3_numbers r3_numbers cA_r3_numbers f_r3_numbers r0 r0_width r0_size r0_numbers) := hD
                  rw [← ef_14] at hP hD
                  refine lv_iconst (v := 0) hx hb dX9_paste_112 (by decide) ?_
                  exact W.iret (v := 0) hx hb hr (fun t ht hW => by rw [← hQe]; exact ⟨⟨0, (), rfl, (by decide), ⟨f_14, f_r1_numbers, f_r2_numbers, f_r3_numbers, z_ret hP hK hD ht hW [0, 1, 9, 2, 3, 4, 5, 6, 7, 8] [] rfl (by decide) rfl⟩⟩, hS.F ht⟩) hS.2.2 dX9_paste_113
                · have ic_13 := zz_nne rfl (show Int32.toInt 0 = 0 from by decide) c_13
                  refine lv_bipush (v := (-7)) hx hb dX9_paste_91 (by decide) ?_
                  exact W.iret (v := (-7)) hx hb hr (fun t ht hW => by rw [← hQe]; exact ⟨⟨(-7), (), rfl, (by decide), ⟨f_r0_numbers, f_r1_numbers, f_r2_numbers, f_r3_numbers, z_ret hP hK hD ht hW [0, 1, 9, 2, 3, 4, 5, 6, 7, 8] [] rfl (by decide) rfl⟩⟩, hS.F ht⟩) hS.2.2 dX9_paste_93
            · have ic_8 := zz_nne rfl (show Int32.toInt 0 = 0 from by decide) c_8
              refine lv_bipush (v := (-6)) hx hb dX9_paste_49 (by decide) ?_
              exact W.iret (v := (-6)) hx hb hr (fun t ht hW => by rw [← hQe]; exact ⟨⟨(-6), (), rfl, (by decide), ⟨f_r0_numbers, f_r1_numbers, f_r2_numbers, f_r3_numbers, z_ret hP hK hD ht hW [0, 1, 9, 2, 3, 4, 5, 6, 7, 8] [] rfl (by decide) rfl⟩⟩, hS.F ht⟩) hS.2.2 dX9_paste_51
        · have zc_1 : Int32.toInt 1 = 1 := by decide
          refine va_aldq hx hb hK hP 1 0 rfl rfl (zi_in (show Int32.toInt 1 = 1 from by decide) (by decide)) dX9_paste_30 ?_
          refine W.eq (g2 := F0 m 31 ls (.ref r1 :: [])) (by rw [show f_sl (Int32.toNatClampNeg 1) = some r1 from (by rw [show Int32.toNatClampNeg 1 = 1 from by decide]; exact hsl1)]; rfl) ?_
          refine lv_astore (lv' := [(7, .ref r1), (6, .ref r0), (0, .ref h0), (1, .int 0), (2, .int p2), (3, .int 1), (4, .int p4), (5, .int p5)]) hx hb dX9_paste_31 hl (by decide) rfl (fun ls hl => ?_)
          refine lv_aload hx hb dX9_paste_33 (lv_at hl 1 rfl) ?_
          obtain ⟨hPc, hDc, hFc⟩ := z_cut (wc := (zV6 r0 r0_width r0_size r0_numbers)) hP hD hS hA [2] rfl (by decide +kernel)
          have hKc := hK.sub (tys' := []) [] rfl
          refine va_calli (va_runV (As := []) (rest := []) ⟨hx, hb, hml, hown, hts⟩ (k_X6_isThere l sa dC dI r0 r0_width r0_size r0_numbers b_r0_size H.size) (cwV 0 hts (z_gV zw_t5_222 zw_t5_223 zw_t5_224 zw_t1_10 zw_t5_225) rfl rfl rfl (by decide +kernel) (by rw [← hRe]; exact ⟨(Nat.le_of_ble_eq_true rfl), (Nat.le_of_ble_eq_true rfl)⟩)) (z_preV hPc hKc hDc hN hXs hS hFc (q := (RX6, TX6, 3)) (ci := 6) (q0 := 0) rfl rfl) rfl rfl hl.1 rfl (lv_room (Nat.le_of_ble_eq_true rfl)) dX9_paste_35 (by rw [← hRe]; exact ⟨(Nat.le_of_ble_eq_true rfl), (Nat.le_of_ble_eq_true rfl)⟩)) hS (fun q _ h => hFc q h) hFc (fun r_15 u t H1 locs ht hvm hw hB hz1 hk1 hS => ?_)
          obtain ⟨hP, hD, hK⟩ := z_after3 (wn := (zV74 h0 tp h0_tapeLength h0_faultKind h0_faultPlace nw im sl rd wk fm mt ch dy sl cA_sl f_sl r0_numbers cA_r0_numbers f_r0_numbers r1 r1_width r1_size r1_numbers r1_numbers cA_r1_numbers f_r1_numbers r2 r2_width r2_size r2_numbers r2_numbers cA_r2_numbers f_r2_numbers r3 r3_width r3_size r3_numbers r3_numbers cA_r3_numbers f_r3_numbers r0 r0_width r0_size r0_numbers)) hB ht hvm hP hD hK [2] [0, 1, 3, 4, 5, 6, 7, 8, 9] rfl 10 rfl (by decide +kernel) rfl (by decide +kernel) hk1 hFc
          generalize H1 = H at hP hS ⊢
          have hK : va_K (dC, dI) vwCl [(cA_sl, .object RX6), (cA_r0_numbers, .long), (cA_r1_numbers, .long), (cA_r2_numbers, .long), (cA_r3_numbers, .long)] s := hK
          have b_r_15 : 0 ≤ r_15.toInt ∧ r_15.toInt ≤ 1 := hw
          refine lv_if_eq (tgt := 49) hx hb dX9_paste_38 (by decide) (fun c_16 => ?_) (fun c_16 => ?_)
          · have ic_16 := zz_eq rfl (show Int32.toInt 0 = 0 from by decide) c_16
            refine lv_bipush (v := (-6)) hx hb dX9_paste_49 (by decide) ?_
            exact W.iret (v := (-6)) hx hb hr (fun t ht hW => by rw [← hQe]; exact ⟨⟨(-6), (), rfl, (by decide), ⟨f_r0_numbers, f_r1_numbers, f_r2_numbers, f_r3_numbers, z_ret hP hK hD ht hW [0, 1, 9, 2, 3, 4, 5, 6, 7, 8] [] rfl (by decide) rfl⟩⟩, hS.F ht⟩) hS.2.2 dX9_paste_51
          · have ic_16 := zz_neq rfl (show Int32.toInt 0 = 0 from by decide) c_16
            refine lv_aload hx hb dX9_paste_41 (lv_at hl 0 rfl) ?_
            obtain ⟨hPc, hDc, hFc⟩ := z_cut (wc := (zV6 r1 r1_width r1_size r1_numbers)) hP hD hS hA [3] rfl (by decide +kernel)
            have hKc := hK.sub (tys' := []) [] rfl
            refine va_calli (va_runV (As := []) (rest := []) ⟨hx, hb, hml, hown, hts⟩ (k_X6_isThere l sa dC dI r1 r1_width r1_size r1_numbers b_r1_size H.size) (cwV 0 hts (z_gV zw_t5_222 zw_t5_223 zw_t5_224 zw_t1_10 zw_t5_225) rfl rfl rfl (by decide +kernel) (by rw [← hRe]; exact ⟨(Nat.le_of_ble_eq_true rfl), (Nat.le_of_ble_eq_true rfl)⟩)) (z_preV hPc hKc hDc hN hXs hS hFc (q := (RX6, TX6, 3)) (ci := 6) (q0 := 0) rfl rfl) rfl rfl hl.1 rfl (lv_room (Nat.le_of_ble_eq_true rfl)) dX9_paste_43 (by rw [← hRe]; exact ⟨(Nat.le_of_ble_eq_true rfl), (Nat.le_of_ble_eq_true rfl)⟩)) hS (fun q _ h => hFc q h) hFc (fun r_17 u t H1 locs ht hvm hw hB hz1 hk1 hS => ?_)
            obtain ⟨hP, hD, hK⟩ := z_after3 (wn := (zV160 h0 tp h0_tapeLength h0_faultKind h0_faultPlace nw im sl rd wk fm mt ch dy sl cA_sl f_sl r0_numbers cA_r0_numbers f_r0_numbers r1_numbers cA_r1_numbers f_r1_numbers r2 r2_width r2_size r2_numbers r2_numbers cA_r2_numbers f_r2_numbers r3 r3_width r3_size r3_numbers r3_numbers cA_r3_numbers f_r3_numbers r0 r0_width r0_size r0_numbers r1 r1_width r1_size r1_numbers)) hB ht hvm hP hD hK [3] [0, 1, 2, 4, 5, 6, 7, 8, 9] rfl 10 rfl (by decide +kernel) rfl (by decide +kernel) hk1 hFc
            generalize H1 = H at hP hS ⊢
            have hK : va_K (dC, dI) vwCl [(cA_sl, .object RX6), (cA_r0_numbers, .long), (cA_r1_numbers, .long), (cA_r2_numbers, .long), (cA_r3_numbers, .long)] s := hK
            have b_r_17 : 0 ≤ r_17.toInt ∧ r_17.toInt ≤ 1 := hw
            refine lv_if_ne (tgt := 52) hx hb dX9_paste_46 (by decide) (fun c_18 => ?_) (fun c_18 => ?_)
            · have ic_18 := zz_ne rfl (show Int32.toInt 0 = 0 from by decide) c_18
              refine lv_aload hx hb dX9_paste_52 (lv_at hl 1 rfl) ?_
              refine va_get (D := (dC, dI)) (ci := 6) (v := .int r0_width) (C := RX6) (T := TX6) (N := 3) hx hb hts zl_X6 hown hK hP 8 rfl rfl 0 (by decide) (hts _ zw_t2_176) (fun _ h9 => h9) rfl dX9_paste_54 ?_
              refine lv_aload hx hb dX9_paste_57 (lv_at hl 0 rfl) ?_
              refine va_get (D := (dC, dI)) (ci := 6) (v := .int r1_width) (C := RX6) (T := TX6) (N := 3) hx hb hts zl_X6 hown hK hP 9 rfl rfl 0 (by decide) (hts _ zw_t2_176) (fun _ h9 => h9) rfl dX9_paste_59 ?_
              have nb_r0_width := zi_nb r0_width
              have nb_r1_width := zi_nb r1_width
              refine lv_icmp_eq (tgt := 68) hx hb dX9_paste_62 (by decide) (fun c_19 => ?_) (fun c_19 => ?_)
              · have ic_19 := zz_eq rfl rfl c_19
                refine lv_aload hx hb dX9_paste_68 (lv_at hl 1 rfl) ?_
                refine lv_iload_n hx hb dX9_paste_70 rfl (lv_at hl 4 rfl) ?_
                refine lv_iload hx hb dX9_paste_71 (lv_at hl 7 rfl) ?_
                obtain ⟨hPc, hDc, hFc⟩ := z_cut (wc := (zV6 r0 r0_width r0_size r0_numbers)) hP hD hS hA [8] rfl (by decide +kernel)
                have hKc := hK.sub (tys' := []) [] rfl
                refine va_calli (va_runV (As := [.int p2, .int p5]) (rest := []) ⟨hx, hb, hml, hown, hts⟩ (k_X6_hasSpan l sa dC dI r0 p2 p5 r0_width r0_size r0_numbers b_r0_size H.size) (cwV 2 hts (z_gV zw_t6_80 zw_t6_81 zw_t6_82 zw_t1_10 zw_t6_83) rfl rfl rfl (by decide +kernel) (by rw [← hRe]; exact ⟨(Nat.le_of_ble_eq_true rfl), (Nat.le_of_ble_eq_true rfl)⟩)) (z_preV hPc hKc hDc hN hXs hS hFc (q := (RX6, TX6, 3)) (ci := 6) (q0 := 0) rfl rfl) rfl rfl hl.1 rfl (lv_room (Nat.le_of_ble_eq_true rfl)) dX9_paste_73 (by rw [← hRe]; exact ⟨(Nat.le_of_ble_eq_true rfl), (Nat.le_of_ble_eq_true rfl)⟩)) hS (fun q _ h => hFc q h) hFc (fun r_20 u t H1 locs ht hvm hw hB hz1 hk1 hS => ?_)
                obtain ⟨hP, hD, hK⟩ := z_after3 (wn := (zV160 h0 tp h0_tapeLength h0_faultKind h0_faultPlace nw im sl rd wk fm mt ch dy sl cA_sl f_sl r0_numbers cA_r0_numbers f_r0_numbers r1_numbers cA_r1_numbers f_r1_numbers r2 r2_width r2_size r2_numbers r2_numbers cA_r2_numbers f_r2_numbers r3 r3_width r3_size r3_numbers r3_numbers cA_r3_numbers f_r3_numbers r1 r1_width r1_size r1_numbers r0 r0_width r0_size r0_numbers)) hB ht hvm hP hD hK [8] [0, 1, 2, 3, 4, 5, 6, 7, 9] rfl 10 rfl (by decide +kernel) rfl (by decide +kernel) hk1 hFc
                generalize H1 = H at hP hS ⊢
                have hK : va_K (dC, dI) vwCl [(cA_sl, .object RX6), (cA_r0_numbers, .long), (cA_r1_numbers, .long), (cA_r2_numbers, .long), (cA_r3_numbers, .long)] s := hK
                have b_r_20 : 0 ≤ r_20.toInt ∧ r_20.toInt ≤ 1 := hw.1
                have s_r_20 := hw.2
                refine lv_if_eq (tgt := 91) hx hb dX9_paste_76 (by decide) (fun c_21 => ?_) (fun c_21 => ?_)
                · have ic_21 := zz_eq rfl (show Int32.toInt 0 = 0 from by decide) c_21
                  refine lv_bipush (v := (-7)) hx hb dX9_paste_91 (by decide) ?_
                  exact W.iret (v := (-7)) hx hb hr (fun t ht hW => by rw [← hQe]; exact ⟨⟨(-7), (), rfl, (by decide), ⟨f_r0_numbers, f_r1_numbers, f_r2_numbers, f_r3_numbers, z_ret hP hK hD ht hW [0, 1, 9, 2, 8, 3, 4, 5, 6, 7] [] rfl (by decide) rfl⟩⟩, hS.F ht⟩) hS.2.2 dX9_paste_93
                · have ic_21 := zz_neq rfl (show Int32.toInt 0 = 0 from by decide) c_21
                  refine lv_aload hx hb dX9_paste_79 (lv_at hl 0 rfl) ?_
                  refine lv_iload hx hb dX9_paste_81 (lv_at hl 6 rfl) ?_
                  refine lv_iload hx hb dX9_paste_83 (lv_at hl 7 rfl) ?_
                  obtain ⟨hPc, hDc, hFc⟩ := z_cut (wc := (zV6 r1 r1_width r1_size r1_numbers)) hP hD hS hA [8] rfl (by decide +kernel)
                  have hKc := hK.sub (tys' := []) [] rfl
                  refine va_calli (va_runV (As := [.int p4, .int p5]) (rest := []) ⟨hx, hb, hml, hown, hts⟩ (k_X6_hasSpan l sa dC dI r1 p4 p5 r1_width r1_size r1_numbers b_r1_size H.size) (cwV 2 hts (z_gV zw_t6_80 zw_t6_81 zw_t6_82 zw_t1_10 zw_t6_83) rfl rfl rfl (by decide +kernel) (by rw [← hRe]; exact ⟨(Nat.le_of_ble_eq_true rfl), (Nat.le_of_ble_eq_true rfl)⟩)) (z_preV hPc hKc hDc hN hXs hS hFc (q := (RX6, TX6, 3)) (ci := 6) (q0 := 0) rfl rfl) rfl rfl hl.1 rfl (lv_room (Nat.le_of_ble_eq_true rfl)) dX9_paste_85 (by rw [← hRe]; exact ⟨(Nat.le_of_ble_eq_true rfl), (Nat.le_of_ble_eq_true rfl)⟩)) hS (fun q _ h => hFc q h) hFc (fun r_22 u t H1 locs ht hvm hw hB hz1 hk1 hS => ?_)
                  obtain ⟨hP, hD, hK⟩ := z_after3 (wn := (zV160 h0 tp h0_tapeLength h0_faultKind h0_faultPlace nw im sl rd wk fm mt ch dy sl cA_sl f_sl r0_numbers cA_r0_numbers f_r0_numbers r1_numbers cA_r1_numbers f_r1_numbers r2 r2_width r2_size r2_numbers r2_numbers cA_r2_numbers f_r2_numbers r3 r3_width r3_size r3_numbers r3_numbers cA_r3_numbers f_r3_numbers r0 r0_width r0_size r0_numbers r1 r1_width r1_size r1_numbers)) hB ht hvm hP hD hK [8] [0, 1, 2, 3, 4, 5, 6, 7, 9] rfl 10 rfl (by decide +kernel) rfl (by decide +kernel) hk1 hFc
                  generalize H1 = H at hP hS ⊢
                  have hK : va_K (dC, dI) vwCl [(cA_sl, .object RX6), (cA_r0_numbers, .long), (cA_r1_numbers, .long), (cA_r2_numbers, .long), (cA_r3_numbers, .long)] s := hK
                  have b_r_22 : 0 ≤ r_22.toInt ∧ r_22.toInt ≤ 1 := hw.1
                  have s_r_22 := hw.2
                  refine lv_if_ne (tgt := 94) hx hb dX9_paste_88 (by decide) (fun c_23 => ?_) (fun c_23 => ?_)
                  · have ic_23 := zz_ne rfl (show Int32.toInt 0 = 0 from by decide) c_23
                    refine lv_aload hx hb dX9_paste_94 (lv_at hl 1 rfl) ?_
                    refine va_get (D := (dC, dI)) (ci := 6) (v := .ref r0_numbers) (C := RX6) (T := TX6) (N := 3) hx hb hts zl_X6 hown hK hP 8 rfl rfl 2 (by decide) (hts _ zw_t2_181) (fun _ h9 => h9) rfl dX9_paste_96 ?_
                    refine lv_iload_n hx hb dX9_paste_99 rfl (lv_at hl 4 rfl) ?_
                    refine lv_aload hx hb dX9_paste_100 (lv_at hl 0 rfl) ?_
                    refine va_get (D := (dC, dI)) (ci := 6) (v := .ref r1_numbers) (C := RX6) (T := TX6) (N := 3) hx hb hts zl_X6 hown hK hP 9 rfl rfl 2 (by decide) (hts _ zw_t2_181) (fun _ h9 => h9) rfl dX9_paste_102 ?_
                    refine lv_iload hx hb dX9_paste_105 (lv_at hl 6 rfl) ?_
                    refine lv_iload hx hb dX9_paste_107 (lv_at hl 7 rfl) ?_
                    have kc_p2 := zi_clamp (x := p2) rfl (by first | with_reducible assumption | omega)
                    have kc_p4 := zi_clamp (x := p4) rfl (by first | with_reducible assumption | omega)
                    have kc_p5 := zi_clamp (x := p5) rfl (by first | with_reducible assumption | omega)
                    refine va_copyl hx hb (by rw [hml]; exact hl.1.symm) hown (hts _ zw_t6_92) (hts _ zw_t4_39) (hts _ zw_t4_38) (hts _ zw_t1_18) hK hP hD hS 2 3 1 2 rfl rfl rfl rfl rfl (fun q => absurd (z_lt (k := 0) (by decide) q) (by first | with_reducible assumption | omega)) (fun q => absurd (z_lt (k := 0) (by decide) q) (by first | with_reducible assumption | omega)) (fun q => absurd (z_lt (k := 0) (by decide) q) (by first | with_reducible assumption | omega)) (by first | with_reducible assumption | omega) (by first | with_reducible assumption | omega) (fun _ _ => rfl) (by rw [← hRe]; exact (Nat.le_of_ble_eq_true rfl)) (by rw [← hRe]; exact (Nat.le_of_ble_eq_true rfl)) dX9_paste_109 (fun H locs hP hD hS => ?_)
                    obtain ⟨f_24, ef_24⟩ : ∃ g : Nat → Int64, g = va_cpy f_r0_numbers f_r1_numbers (Int32.toNatClampNeg p2) (Int32.toNatClampNeg p4) (Int32.toNatClampNeg p5) := ⟨_, rfl⟩
                    have hP : va_P (dC, dI) vwCl (zV160 h0 tp h0_tapeLength h0_faultKind h0_faultPlace nw im sl rd wk fm mt ch dy sl cA_sl f_sl r0_numbers cA_r0_numbers f_r0_numbers r1_numbers cA_r1_numbers (va_cpy f_r0_numbers f_r1_numbers (Int32.toNatClampNeg p2) (Int32.toNatClampNeg p4) (Int32.toNatClampNeg p5)) r2 r2_width r2_size r2_numbers r2_numbers cA_r2_numbers f_r2_numbers r3 r3_width r3_size r3_numbers r3_numbers cA_r3_numbers f_r3_numbers r0 r0_width r0_size r0_numbers r1 r1_width r1_size r1_numbers) H := hP
                    have hD : va_D A (zV160 h0 tp h0_tapeLength h0_faultKind h0_faultPlace nw im sl rd wk fm mt ch dy sl cA_sl f_sl r0_numbers cA_r0_numbers f_r0_numbers r1_numbers cA_r1_numbers (va_cpy f_r0_numbers f_r1_numbers (Int32.toNatClampNeg p2) (Int32.toNatClampNeg p4) (Int32.toNatClampNeg p5)) r2 r2_width r2_size r2_numbers r2_numbers cA_r2_numbers f_r2_numbers r3 r3_width r3_size r3_numbers r3_numbers cA_r3_numbers f_r3_numbers r0 r0_width r0_size r0_numbers r1 r1_width r1_size r1_numbers) := hD
                    rw [← ef_24] at hP hD
                    refine lv_iconst (v := 0) hx hb dX9_paste_112 (by decide) ?_
                    exact W.iret (v := 0) hx hb hr (fun t ht hW => by rw [← hQe]; exact ⟨⟨0, (), rfl, (by decide), ⟨f_r0_numbers, f_24, f_r2_numbers, f_r3_numbers, z_ret hP hK hD ht hW [0, 1, 8, 2, 9, 3, 4, 5, 6, 7] [] rfl (by decide) rfl⟩⟩, hS.F ht⟩) hS.2.2 dX9_paste_113
                  · have ic_23 := zz_nne rfl (show Int32.toInt 0 = 0 from by decide) c_23
                    refine lv_bipush (v := (-7)) hx hb dX9_paste_91 (by decide) ?_
                    exact W.iret (v := (-7)) hx hb hr (fun t ht hW => by rw [← hQe]; exact ⟨⟨(-7), (), rfl, (by decide), ⟨f_r0_numbers, f_r1_numbers, f_r2_numbers, f_r3_numbers, z_ret hP hK hD ht hW [0, 1, 8, 2, 9, 3, 4, 5, 6, 7] [] rfl (by decide) rfl⟩⟩, hS.F ht⟩) hS.2.2 dX9_paste_93
              · have ic_19 := zz_neq rfl rfl c_19
                refine lv_bipush (v := (-8)) hx hb dX9_paste_65 (by decide) ?_
                exact W.iret (v := (-8)) hx hb hr (fun t ht hW => by rw [← hQe]; exact ⟨⟨(-8), (), rfl, (by decide), ⟨f_r0_numbers, f_r1_numbers, f_r2_numbers, f_r3_numbers, z_ret hP hK hD ht hW [0, 1, 8, 2, 9, 3, 4, 5, 6, 7] [] rfl (by decide) rfl⟩⟩, hS.F ht⟩) hS.2.2 dX9_paste_67
            · have ic_18 := zz_nne rfl (show Int32.toInt 0 = 0 from by decide) c_18
              refine lv_bipush (v := (-6)) hx hb dX9_paste_49 (by decide) ?_
              exact W.iret (v := (-6)) hx hb hr (fun t ht hW => by rw [← hQe]; exact ⟨⟨(-6), (), rfl, (by decide), ⟨f_r0_numbers, f_r1_numbers, f_r2_numbers, f_r3_numbers, z_ret hP hK hD ht hW [0, 1, 8, 2, 9, 3, 4, 5, 6, 7] [] rfl (by decide) rfl⟩⟩, hS.F ht⟩) hS.2.2 dX9_paste_51
        · have zc_2 : Int32.toInt 2 = 2 := by decide
          refine va_aldq hx hb hK hP 1 0 rfl rfl (zi_in (show Int32.toInt 2 = 2 from by decide) (by decide)) dX9_paste_30 ?_
          refine W.eq (g2 := F0 m 31 ls (.ref r2 :: [])) (by rw [show f_sl (Int32.toNatClampNeg 2) = some r2 from (by rw [show Int32.toNatClampNeg 2 = 2 from by decide]; exact hsl2)]; rfl) ?_
          refine lv_astore (lv' := [(7, .ref r2), (6, .ref r0), (0, .ref h0), (1, .int 0), (2, .int p2), (3, .int 2), (4, .int p4), (5, .int p5)]) hx hb dX9_paste_31 hl (by decide) rfl (fun ls hl => ?_)
          refine lv_aload hx hb dX9_paste_33 (lv_at hl 1 rfl) ?_
          obtain ⟨hPc, hDc, hFc⟩ := z_cut (wc := (zV6 r0 r0_width r0_size r0_numbers)) hP hD hS hA [2] rfl (by decide +kernel)
          have hKc := hK.sub (tys' := []) [] rfl
          refine va_calli (va_runV (As := []) (rest := []) ⟨hx, hb, hml, hown, hts⟩ (k_X6_isThere l sa dC dI r0 r0_width r0_size r0_numbers b_r0_size H.size) (cwV 0 hts (z_gV zw_t5_222 zw_t5_223 zw_t5_224 zw_t1_10 zw_t5_225) rfl rfl rfl (by decide +kernel) (by rw [← hRe]; exact ⟨(Nat.le_of_ble_eq_true rfl), (Nat.le_of_ble_eq_true rfl)⟩)) (z_preV hPc hKc hDc hN hXs hS hFc (q := (RX6, TX6, 3)) (ci := 6) (q0 := 0) rfl rfl) rfl rfl hl.1 rfl (lv_room (Nat.le_of_ble_eq_true rfl)) dX9_paste_35 (by rw [← hRe]; exact ⟨(Nat.le_of_ble_eq_true rfl), (Nat.le_of_ble_eq_true rfl)⟩)) hS (fun q _ h => hFc q h) hFc (fun r_25 u t H1 locs ht hvm hw hB hz1 hk1 hS => ?_)
          obtain ⟨hP, hD, hK⟩ := z_after3 (wn := (zV74 h0 tp h0_tapeLength h0_faultKind h0_faultPlace nw im sl rd wk fm mt ch dy sl cA_sl f_sl r0_numbers cA_r0_numbers f_r0_numbers r1 r1_width r1_size r1_numbers r1_numbers cA_r1_numbers f_r1_numbers r2 r2_width r2_size r2_numbers r2_numbers cA_r2_numbers f_r2_numbers r3 r3_width r3_size r3_numbers r3_numbers cA_r3_numbers f_r3_numbers r0 r0_width r0_size r0_numbers)) hB ht hvm hP hD hK [2] [0, 1, 3, 4, 5, 6, 7, 8, 9] rfl 10 rfl (by decide +kernel) rfl (by decide +kernel) hk1 hFc
          generalize H1 = H at hP hS ⊢
          have hK : va_K (dC, dI) vwCl [(cA_sl, .object RX6), (cA_r0_numbers, .long), (cA_r1_numbers, .long), (cA_r2_numbers, .long), (cA_r3_numbers, .long)] s := hK
          have b_r_25 : 0 ≤ r_25.toInt ∧ r_25.toInt ≤ 1 := hw
          refine lv_if_eq (tgt := 49) hx hb dX9_paste_38 (by decide) (fun c_26 => ?_) (fun c_26 => ?_)
          · have ic_26 := zz_eq rfl (show Int32.toInt 0 = 0 from by decide) c_26
            refine lv_bipush (v := (-6)) hx hb dX9_paste_49 (by decide) ?_
            exact W.iret (v := (-6)) hx hb hr (fun t ht hW => by rw [← hQe]; exact ⟨⟨(-6), (), rfl, (by decide), ⟨f_r0_numbers, f_r1_numbers, f_r2_numbers, f_r3_numbers, z_ret hP hK hD ht hW [0, 1, 9, 2, 3, 4, 5, 6, 7, 8] [] rfl (by decide) rfl⟩⟩, hS.F ht⟩) hS.2.2 dX9_paste_51
          · have ic_26 := zz_neq rfl (show Int32.toInt 0 = 0 from by decide) c_26
            refine lv_aload hx hb dX9_paste_41 (lv_at hl 0 rfl) ?_
            obtain ⟨hPc, hDc, hFc⟩ := z_cut (wc := (zV6 r2 r2_width r2_size r2_numbers)) hP hD hS hA [5] rfl (by decide +kernel)
            have hKc := hK.sub (tys' := []) [] rfl
            refine va_calli (va_runV (As := []) (rest := []) ⟨hx, hb, hml, hown, hts⟩ (k_X6_isThere l sa dC dI r2 r2_width r2_size r2_numbers b_r2_size H.size) (cwV 0 hts (z_gV zw_t5_222 zw_t5_223 zw_t5_224 zw_t1_10 zw_t5_225) rfl rfl rfl (by decide +kernel) (by rw [← hRe]; exact ⟨(Nat.le_of_ble_eq_true rfl), (Nat.le_of_ble_eq_true rfl)⟩)) (z_preV hPc hKc hDc hN hXs hS hFc (q := (RX6, TX6, 3)) (ci := 6) (q0 := 0) rfl rfl) rfl rfl hl.1 rfl (lv_room (Nat.le_of_ble_eq_true rfl)) dX9_paste_43 (by rw [← hRe]; exact ⟨(Nat.le_of_ble_eq_true rfl), (Nat.le_of_ble_eq_true rfl)⟩)) hS (fun q _ h => hFc q h) hFc (fun r_27 u t H1 locs ht hvm hw hB hz1 hk1 hS => ?_)
            obtain ⟨hP, hD, hK⟩ := z_after3 (wn := (zV161 h0 tp h0_tapeLength h0_faultKind h0_faultPlace nw im sl rd wk fm mt ch dy sl cA_sl f_sl r0_numbers cA_r0_numbers f_r0_numbers r1 r1_width r1_size r1_numbers r1_numbers cA_r1_numbers f_r1_numbers r2_numbers cA_r2_numbers f_r2_numbers r3 r3_width r3_size r3_numbers r3_numbers cA_r3_numbers f_r3_numbers r0 r0_width r0_size r0_numbers r2 r2_width r2_size r2_numbers)) hB ht hvm hP hD hK [5] [0, 1, 2, 3, 4, 6, 7, 8, 9] rfl 10 rfl (by decide +kernel) rfl (by decide +kernel) hk1 hFc
            generalize H1 = H at hP hS ⊢
            have hK : va_K (dC, dI) vwCl [(cA_sl, .object RX6), (cA_r0_numbers, .long), (cA_r1_numbers, .long), (cA_r2_numbers, .long), (cA_r3_numbers, .long)] s := hK
            have b_r_27 : 0 ≤ r_27.toInt ∧ r_27.toInt ≤ 1 := hw
            refine lv_if_ne (tgt := 52) hx hb dX9_paste_46 (by decide) (fun c_28 => ?_) (fun c_28 => ?_)
            · have ic_28 := zz_ne rfl (show Int32.toInt 0 = 0 from by decide) c_28
              refine lv_aload hx hb dX9_paste_52 (lv_at hl 1 rfl) ?_
              refine va_get (D := (dC, dI)) (ci := 6) (v := .int r0_width) (C := RX6) (T := TX6) (N := 3) hx hb hts zl_X6 hown hK hP 8 rfl rfl 0 (by decide) (hts _ zw_t2_176) (fun _ h9 => h9) rfl dX9_paste_54 ?_
              refine lv_aload hx hb dX9_paste_57 (lv_at hl 0 rfl) ?_
              refine va_get (D := (dC, dI)) (ci := 6) (v := .int r2_width) (C := RX6) (T := TX6) (N := 3) hx hb hts zl_X6 hown hK hP 9 rfl rfl 0 (by decide) (hts _ zw_t2_176) (fun _ h9 => h9) rfl dX9_paste_59 ?_
              have nb_r0_width := zi_nb r0_width
              have nb_r2_width := zi_nb r2_width
              refine lv_icmp_eq (tgt := 68) hx hb dX9_paste_62 (by decide) (fun c_29 => ?_) (fun c_29 => ?_)
              · have ic_29 := zz_eq rfl rfl c_29
                refine lv_aload hx hb dX9_paste_68 (lv_at hl 1 rfl) ?_
                refine lv_iload_n hx hb dX9_paste_70 rfl (lv_at hl 4 rfl) ?_
                refine lv_iload hx hb dX9_paste_71 (lv_at hl 7 rfl) ?_
                obtain ⟨hPc, hDc, hFc⟩ := z_cut (wc := (zV6 r0 r0_width r0_size r0_numbers)) hP hD hS hA [8] rfl (by decide +kernel)
                have hKc := hK.sub (tys' := []) [] rfl
                refine va_calli (va_runV (As := [.int p2, .int p5]) (rest := []) ⟨hx, hb, hml, hown, hts⟩ (k_X6_hasSpan l sa dC dI r0 p2 p5 r0_width r0_size r0_numbers b_r0_size H.size) (cwV 2 hts (z_gV zw_t6_80 zw_t6_81 zw_t6_82 zw_t1_10 zw_t6_83) rfl rfl rfl (by decide +kernel) (by rw [← hRe]; exact ⟨(Nat.le_of_ble_eq_true rfl), (Nat.le_of_ble_eq_true rfl)⟩)) (z_preV hPc hKc hDc hN hXs hS hFc (q := (RX6, TX6, 3)) (ci := 6) (q0 := 0) rfl rfl) rfl rfl hl.1 rfl (lv_room (Nat.le_of_ble_eq_true rfl)) dX9_paste_73 (by rw [← hRe]; exact ⟨(Nat.le_of_ble_eq_true rfl), (Nat.le_of_ble_eq_true rfl)⟩)) hS (fun q _ h => hFc q h) hFc (fun r_30 u t H1 locs ht hvm hw hB hz1 hk1 hS => ?_)
                obtain ⟨hP, hD, hK⟩ := z_after3 (wn := (zV161 h0 tp h0_tapeLength h0_faultKind h0_faultPlace nw im sl rd wk fm mt ch dy sl cA_sl f_sl r0_numbers cA_r0_numbers f_r0_numbers r1 r1_width r1_size r1_numbers r1_numbers cA_r1_numbers f_r1_numbers r2_numbers cA_r2_numbers f_r2_numbers r3 r3_width r3_size r3_numbers r3_numbers cA_r3_numbers f_r3_numbers r2 r2_width r2_size r2_numbers r0 r0_width r0_size r0_numbers)) hB ht hvm hP hD hK [8] [0, 1, 2, 3, 4, 5, 6, 7, 9] rfl 10 rfl (by decide +kernel) rfl (by decide +kernel) hk1 hFc
                generalize H1 = H at hP hS ⊢
                have hK : va_K (dC, dI) vwCl [(cA_sl, .object RX6), (cA_r0_numbers, .long), (cA_r1_numbers, .long), (cA_r2_numbers, .long), (cA_r3_numbers, .long)] s := hK
                have b_r_30 : 0 ≤ r_30.toInt ∧ r_30.toInt ≤ 1 := hw.1
                have s_r_30 := hw.2
                refine lv_if_eq (tgt := 91) hx hb dX9_paste_76 (by decide) (fun c_31 => ?_) (fun c_31 => ?_)
                · have ic_31 := zz_eq rfl (show Int32.toInt 0 = 0 from by decide) c_31
                  refine lv_bipush (v := (-7)) hx hb dX9_paste_91 (by decide) ?_
                  exact W.iret (v := (-7)) hx hb hr (fun t ht hW => by rw [← hQe]; exact ⟨⟨(-7), (), rfl, (by decide), ⟨f_r0_numbers, f_r1_numbers, f_r2_numbers, f_r3_numbers, z_ret hP hK hD ht hW [0, 1, 9, 2, 3, 4, 8, 5, 6, 7] [] rfl (by decide) rfl⟩⟩, hS.F ht⟩) hS.2.2 dX9_paste_93
                · have ic_31 := zz_neq rfl (show Int32.toInt 0 = 0 from by decide) c_31
                  refine lv_aload hx hb dX9_paste_79 (lv_at hl 0 rfl) ?_
                  refine lv_iload hx hb dX9_paste_81 (lv_at hl 6 rfl) ?_
                  refine lv_iload hx hb dX9_paste_83 (lv_at hl 7 rfl) ?_
                  obtain ⟨hPc, hDc, hFc⟩ := z_cut (wc := (zV6 r2 r2_width r2_size r2_numbers)) hP hD hS hA [8] rfl (by decide +kernel)
                  have hKc := hK.sub (tys' := []) [] rfl
                  refine va_calli (va_runV (As := [.int p4, .int p5]) (rest := []) ⟨hx, hb, hml, hown, hts⟩ (k_X6_hasSpan l sa dC dI r2 p4 p5 r2_width r2_size r2_numbers b_r2_size H.size) (cwV 2 hts (z_gV zw_t6_80 zw_t6_81 zw_t6_82 zw_t1_10 zw_t6_83) rfl rfl rfl (by decide +kernel) (by rw [← hRe]; exact ⟨(Nat.le_of_ble_eq_true rfl), (Nat.le_of_ble_eq_true rfl)⟩)) (z_preV hPc hKc hDc hN hXs hS hFc (q := (RX6, TX6, 3)) (ci := 6) (q0 := 0) rfl rfl) rfl rfl hl.1 rfl (lv_room (Nat.le_of_ble_eq_true rfl)) dX9_paste_85 (by rw [← hRe]; exact ⟨(Nat.le_of_ble_eq_true rfl), (Nat.le_of_ble_eq_true rfl)⟩)) hS (fun q _ h => hFc q h) hFc (fun r_32 u t H1 locs ht hvm hw hB hz1 hk1 hS => ?_)
                  obtain ⟨hP, hD, hK⟩ := z_after3 (wn := (zV161 h0 tp h0_tapeLength h0_faultKind h0_faultPlace nw im sl rd wk fm mt ch dy sl cA_sl f_sl r0_numbers cA_r0_numbers f_r0_numbers r1 r1_width r1_size r1_numbers r1_numbers cA_r1_numbers f_r1_numbers r2_numbers cA_r2_numbers f_r2_numbers r3 r3_width r3_size r3_numbers r3_numbers cA_r3_numbers f_r3_numbers r0 r0_width r0_size r0_numbers r2 r2_width r2_size r2_numbers)) hB ht hvm hP hD hK [8] [0, 1, 2, 3, 4, 5, 6, 7, 9] rfl 10 rfl (by decide +kernel) rfl (by decide +kernel) hk1 hFc
                  generalize H1 = H at hP hS ⊢
                  have hK : va_K (dC, dI) vwCl [(cA_sl, .object RX6), (cA_r0_numbers, .long), (cA_r1_numbers, .long), (cA_r2_numbers, .long), (cA_r3_numbers, .long)] s := hK
                  have b_r_32 : 0 ≤ r_32.toInt ∧ r_32.toInt ≤ 1 := hw.1
                  have s_r_32 := hw.2
                  refine lv_if_ne (tgt := 94) hx hb dX9_paste_88 (by decide) (fun c_33 => ?_) (fun c_33 => ?_)
                  · have ic_33 := zz_ne rfl (show Int32.toInt 0 = 0 from by decide) c_33
                    refine lv_aload hx hb dX9_paste_94 (lv_at hl 1 rfl) ?_
                    refine va_get (D := (dC, dI)) (ci := 6) (v := .ref r0_numbers) (C := RX6) (T := TX6) (N := 3) hx hb hts zl_X6 hown hK hP 8 rfl rfl 2 (by decide) (hts _ zw_t2_181) (fun _ h9 => h9) rfl dX9_paste_96 ?_
                    refine lv_iload_n hx hb dX9_paste_99 rfl (lv_at hl 4 rfl) ?_
                    refine lv_aload hx hb dX9_paste_100 (lv_at hl 0 rfl) ?_
                    refine va_get (D := (dC, dI)) (ci := 6) (v := .ref r2_numbers) (C := RX6) (T := TX6) (N := 3) hx hb hts zl_X6 hown hK hP 9 rfl rfl 2 (by decide) (hts _ zw_t2_181) (fun _ h9 => h9) rfl dX9_paste_102 ?_
                    refine lv_iload hx hb dX9_paste_105 (lv_at hl 6 rfl) ?_
                    refine lv_iload hx hb dX9_paste_107 (lv_at hl 7 rfl) ?_
                    have kc_p2 := zi_clamp (x := p2) rfl (by first | with_reducible assumption | omega)
                    have kc_p4 := zi_clamp (x := p4) rfl (by first | with_reducible assumption | omega)
                    have kc_p5 := zi_clamp (x := p5) rfl (by first | with_reducible assumption | omega)
                    refine va_copyl hx hb (by rw [hml]; exact hl.1.symm) hown (hts _ zw_t6_92) (hts _ zw_t4_39) (hts _ zw_t4_38) (hts _ zw_t1_18) hK hP hD hS 2 5 1 3 rfl rfl rfl rfl rfl (fun q => absurd (z_lt (k := 0) (by decide) q) (by first | with_reducible assumption | omega)) (fun q => absurd (z_lt (k := 0) (by decide) q) (by first | with_reducible assumption | omega)) (fun q => absurd (z_lt (k := 0) (by decide) q) (by first | with_reducible assumption | omega)) (by first | with_reducible assumption | omega) (by first | with_reducible assumption | omega) (fun _ _ => rfl) (by rw [← hRe]; exact (Nat.le_of_ble_eq_true rfl)) (by rw [← hRe]; exact (Nat.le_of_ble_eq_true rfl)) dX9_paste_109 (fun H locs hP hD hS => ?_)
                    obtain ⟨f_34, ef_34⟩ : ∃ g : Nat → Int64, g = va_cpy f_r0_numbers f_r2_numbers (Int32.toNatClampNeg p2) (Int32.toNatClampNeg p4) (Int32.toNatClampNeg p5) := ⟨_, rfl⟩
                    have hP : va_P (dC, dI) vwCl (zV161 h0 tp h0_tapeLength h0_faultKind h0_faultPlace nw im sl rd wk fm mt ch dy sl cA_sl f_sl r0_numbers cA_r0_numbers f_r0_numbers r1 r1_width r1_size r1_numbers r1_numbers cA_r1_numbers f_r1_numbers r2_numbers cA_r2_numbers (va_cpy f_r0_numbers f_r2_numbers (Int32.toNatClampNeg p2) (Int32.toNatClampNeg p4) (Int32.toNatClampNeg p5)) r3 r3_width r3_size r3_numbers r3_numbers cA_r3_numbers f_r3_numbers r0 r0_width r0_size r0_numbers r2 r2_width r2_size r2_numbers) H := hP
                    have hD : va_D A (zV161 h0 tp h0_tapeLength h0_faultKind h0_faultPlace nw im sl rd wk fm mt ch dy sl cA_sl f_sl r0_numbers cA_r0_numbers f_r0_numbers r1 r1_width r1_size r1_numbers r1_numbers cA_r1_numbers f_r1_numbers r2_numbers cA_r2_numbers (va_cpy f_r0_numbers f_r2_numbers (Int32.toNatClampNeg p2) (Int32.toNatClampNeg p4) (Int32.toNatClampNeg p5)) r3 r3_width r3_size r3_numbers r3_numbers cA_r3_numbers f_r3_numbers r0 r0_width r0_size r0_numbers r2 r2_width r2_size r2_numbers) := hD
                    rw [← ef_34] at hP hD
                    refine lv_iconst (v := 0) hx hb dX9_paste_112 (by decide) ?_
                    exact W.iret (v := 0) hx hb hr (fun t ht hW => by rw [← hQe]; exact ⟨⟨0, (), rfl, (by decide), ⟨f_r0_numbers, f_r1_numbers, f_34, f_r3_numbers, z_ret hP hK hD ht hW [0, 1, 8, 2, 3, 4, 9, 5, 6, 7] [] rfl (by decide) rfl⟩⟩, hS.F ht⟩) hS.2.2 dX9_paste_113
                  · have ic_33 := zz_nne rfl (show Int32.toInt 0 = 0 from by decide) c_33
                    refine lv_bipush (v := (-7)) hx hb dX9_paste_91 (by decide) ?_
                    exact W.iret (v := (-7)) hx hb hr (fun t ht hW => by rw [← hQe]; exact ⟨⟨(-7), (), rfl, (by decide), ⟨f_r0_numbers, f_r1_numbers, f_r2_numbers, f_r3_numbers, z_ret hP hK hD ht hW [0, 1, 8, 2, 3, 4, 9, 5, 6, 7] [] rfl (by decide) rfl⟩⟩, hS.F ht⟩) hS.2.2 dX9_paste_93
              · have ic_29 := zz_neq rfl rfl c_29
                refine lv_bipush (v := (-8)) hx hb dX9_paste_65 (by decide) ?_
                exact W.iret (v := (-8)) hx hb hr (fun t ht hW => by rw [← hQe]; exact ⟨⟨(-8), (), rfl, (by decide), ⟨f_r0_numbers, f_r1_numbers, f_r2_numbers, f_r3_numbers, z_ret hP hK hD ht hW [0, 1, 8, 2, 3, 4, 9, 5, 6, 7] [] rfl (by decide) rfl⟩⟩, hS.F ht⟩) hS.2.2 dX9_paste_67
            · have ic_28 := zz_nne rfl (show Int32.toInt 0 = 0 from by decide) c_28
              refine lv_bipush (v := (-6)) hx hb dX9_paste_49 (by decide) ?_
              exact W.iret (v := (-6)) hx hb hr (fun t ht hW => by rw [← hQe]; exact ⟨⟨(-6), (), rfl, (by decide), ⟨f_r0_numbers, f_r1_numbers, f_r2_numbers, f_r3_numbers, z_ret hP hK hD ht hW [0, 1, 8, 2, 3, 4, 9, 5, 6, 7] [] rfl (by decide) rfl⟩⟩, hS.F ht⟩) hS.2.2 dX9_paste_51
        · have zc_3 : Int32.toInt 3 = 3 := by decide
          refine va_aldq hx hb hK hP 1 0 rfl rfl (zi_in (show Int32.toInt 3 = 3 from by decide) (by decide)) dX9_paste_30 ?_
          refine W.eq (g2 := F0 m 31 ls (.ref r3 :: [])) (by rw [show f_sl (Int32.toNatClampNeg 3) = some r3 from (by rw [show Int32.toNatClampNeg 3 = 3 from by decide]; exact hsl3)]; rfl) ?_
          refine lv_astore (lv' := [(7, .ref r3), (6, .ref r0), (0, .ref h0), (1, .int 0), (2, .int p2), (3, .int 3), (4, .int p4), (5, .int p5)]) hx hb dX9_paste_31 hl (by decide) rfl (fun ls hl => ?_)
          refine lv_aload hx hb dX9_paste_33 (lv_at hl 1 rfl) ?_
          obtain ⟨hPc, hDc, hFc⟩ := z_cut (wc := (zV6 r0 r0_width r0_size r0_numbers)) hP hD hS hA [2] rfl (by decide +kernel)
          have hKc := hK.sub (tys' := []) [] rfl
          refine va_calli (va_runV (As := []) (rest := []) ⟨hx, hb, hml, hown, hts⟩ (k_X6_isThere l sa dC dI r0 r0_width r0_size r0_numbers b_r0_size H.size) (cwV 0 hts (z_gV zw_t5_222 zw_t5_223 zw_t5_224 zw_t1_10 zw_t5_225) rfl rfl rfl (by decide +kernel) (by rw [← hRe]; exact ⟨(Nat.le_of_ble_eq_true rfl), (Nat.le_of_ble_eq_true rfl)⟩)) (z_preV hPc hKc hDc hN hXs hS hFc (q := (RX6, TX6, 3)) (ci := 6) (q0 := 0) rfl rfl) rfl rfl hl.1 rfl (lv_room (Nat.le_of_ble_eq_true rfl)) dX9_paste_35 (by rw [← hRe]; exact ⟨(Nat.le_of_ble_eq_true rfl), (Nat.le_of_ble_eq_true rfl)⟩)) hS (fun q _ h => hFc q h) hFc (fun r_35 u t H1 locs ht hvm hw hB hz1 hk1 hS => ?_)
          obtain ⟨hP, hD, hK⟩ := z_after3 (wn := (zV74 h0 tp h0_tapeLength h0_faultKind h0_faultPlace nw im sl rd wk fm mt ch dy sl cA_sl f_sl r0_numbers cA_r0_numbers f_r0_numbers r1 r1_width r1_size r1_numbers r1_numbers cA_r1_numbers f_r1_numbers r2 r2_width r2_size r2_numbers r2_numbers cA_r2_numbers f_r2_numbers r3 r3_width r3_size r3_numbers r3_numbers cA_r3_numbers f_r3_numbers r0 r0_width r0_size r0_numbers)) hB ht hvm hP hD hK [2] [0, 1, 3, 4, 5, 6, 7, 8, 9] rfl 10 rfl (by decide +kernel) rfl (by decide +kernel) hk1 hFc
          generalize H1 = H at hP hS ⊢
          have hK : va_K (dC, dI) vwCl [(cA_sl, .object RX6), (cA_r0_numbers, .long), (cA_r1_numbers, .long), (cA_r2_numbers, .long), (cA_r3_numbers, .long)] s := hK
          have b_r_35 : 0 ≤ r_35.toInt ∧ r_35.toInt ≤ 1 := hw
          refine lv_if_eq (tgt := 49) hx hb dX9_paste_38 (by decide) (fun c_36 => ?_) (fun c_36 => ?_)
          · have ic_36 := zz_eq rfl (show Int32.toInt 0 = 0 from by decide) c_36
            refine lv_bipush (v := (-6)) hx hb dX9_paste_49 (by decide) ?_
            exact W.iret (v := (-6)) hx hb hr (fun t ht hW => by rw [← hQe]; exact ⟨⟨(-6), (), rfl, (by decide), ⟨f_r0_numbers, f_r1_numbers, f_r2_numbers, f_r3_numbers, z_ret hP hK hD ht hW [0, 1, 9, 2, 3, 4, 5, 6, 7, 8] [] rfl (by decide) rfl⟩⟩, hS.F ht⟩) hS.2.2 dX9_paste_51
          · have ic_36 := zz_neq rfl (show Int32.toInt 0 = 0 from by decide) c_36
            refine lv_aload hx hb dX9_paste_41 (lv_at hl 0 rfl) ?_
            obtain ⟨hPc, hDc, hFc⟩ := z_cut (wc := (zV6 r3 r3_width r3_size r3_numbers)) hP hD hS hA [7] rfl (by decide +kernel)
            have hKc := hK.sub (tys' := []) [] rfl
            refine va_calli (va_runV (As := []) (rest := []) ⟨hx, hb, hml, hown, hts⟩ (k_X6_isThere l sa dC dI r3 r3_width r3_size r3_numbers b_r3_size H.size) (cwV 0 hts (z_gV zw_t5_222 zw_t5_223 zw_t5_224 zw_t1_10 zw_t5_225) rfl rfl rfl (by decide +kernel) (by rw [← hRe]; exact ⟨(Nat.le_of_ble_eq_true rfl), (Nat.le_of_ble_eq_true rfl)⟩)) (z_preV hPc hKc hDc hN hXs hS hFc (q := (RX6, TX6, 3)) (ci := 6) (q0 := 0) rfl rfl) rfl rfl hl.1 rfl (lv_room (Nat.le_of_ble_eq_true rfl)) dX9_paste_43 (by rw [← hRe]; exact ⟨(Nat.le_of_ble_eq_true rfl), (Nat.le_of_ble_eq_true rfl)⟩)) hS (fun q _ h => hFc q h) hFc (fun r_37 u t H1 locs ht hvm hw hB hz1 hk1 hS => ?_)
            obtain ⟨hP, hD, hK⟩ := z_after3 (wn := (zV162 h0 tp h0_tapeLength h0_faultKind h0_faultPlace nw im sl rd wk fm mt ch dy sl cA_sl f_sl r0_numbers cA_r0_numbers f_r0_numbers r1 r1_width r1_size r1_numbers r1_numbers cA_r1_numbers f_r1_numbers r2 r2_width r2_size r2_numbers r2_numbers cA_r2_numbers f_r2_numbers r3_numbers cA_r3_numbers f_r3_numbers r0 r0_width r0_size r0_numbers r3 r3_width r3_size r3_numbers)) hB ht hvm hP hD hK [7] [0, 1, 2, 3, 4, 5, 6, 8, 9] rfl 10 rfl (by decide +kernel) rfl (by decide +kernel) hk1 hFc
            generalize H1 = H at hP hS ⊢
            have hK : va_K (dC, dI) vwCl [(cA_sl, .object RX6), (cA_r0_numbers, .long), (cA_r1_numbers, .long), (cA_r2_numbers, .long), (cA_r3_numbers, .long)] s := hK
            have b_r_37 : 0 ≤ r_37.toInt ∧ r_37.toInt ≤ 1 := hw
            refine lv_if_ne (tgt := 52) hx hb dX9_paste_46 (by decide) (fun c_38 => ?_) (fun c_38 => ?_)
            · have ic_38 := zz_ne rfl (show Int32.toInt 0 = 0 from by decide) c_38
              refine lv_aload hx hb dX9_paste_52 (lv_at hl 1 rfl) ?_
              refine va_get (D := (dC, dI)) (ci := 6) (v := .int r0_width) (C := RX6) (T := TX6) (N := 3) hx hb hts zl_X6 hown hK hP 8 rfl rfl 0 (by decide) (hts _ zw_t2_176) (fun _ h9 => h9) rfl dX9_paste_54 ?_
              refine lv_aload hx hb dX9_paste_57 (lv_at hl 0 rfl) ?_
              refine va_get (D := (dC, dI)) (ci := 6) (v := .int r3_width) (C := RX6) (T := TX6) (N := 3) hx hb hts zl_X6 hown hK hP 9 rfl rfl 0 (by decide) (hts _ zw_t2_176) (fun _ h9 => h9) rfl dX9_paste_59 ?_
              have nb_r0_width := zi_nb r0_width
              have nb_r3_width := zi_nb r3_width
              refine lv_icmp_eq (tgt := 68) hx hb dX9_paste_62 (by decide) (fun c_39 => ?_) (fun c_39 => ?_)
              · have ic_39 := zz_eq rfl rfl c_39
                refine lv_aload hx hb dX9_paste_68 (lv_at hl 1 rfl) ?_
                refine lv_iload_n hx hb dX9_paste_70 rfl (lv_at hl 4 rfl) ?_
                refine lv_iload hx hb dX9_paste_71 (lv_at hl 7 rfl) ?_
                obtain ⟨hPc, hDc, hFc⟩ := z_cut (wc := (zV6 r0 r0_width r0_size r0_numbers)) hP hD hS hA [8] rfl (by decide +kernel)
                have hKc := hK.sub (tys' := []) [] rfl
                refine va_calli (va_runV (As := [.int p2, .int p5]) (rest := []) ⟨hx, hb, hml, hown, hts⟩ (k_X6_hasSpan l sa dC dI r0 p2 p5 r0_width r0_size r0_numbers b_r0_size H.size) (cwV 2 hts (z_gV zw_t6_80 zw_t6_81 zw_t6_82 zw_t1_10 zw_t6_83) rfl rfl rfl (by decide +kernel) (by rw [← hRe]; exact ⟨(Nat.le_of_ble_eq_true rfl), (Nat.le_of_ble_eq_true rfl)⟩)) (z_preV hPc hKc hDc hN hXs hS hFc (q := (RX6, TX6, 3)) (ci := 6) (q0 := 0) rfl rfl) rfl rfl hl.1 rfl (lv_room (Nat.le_of_ble_eq_true rfl)) dX9_paste_73 (by rw [← hRe]; exact ⟨(Nat.le_of_ble_eq_true rfl), (Nat.le_of_ble_eq_true rfl)⟩)) hS (fun q _ h => hFc q h) hFc (fun r_40 u t H1 locs ht hvm hw hB hz1 hk1 hS => ?_)
                obtain ⟨hP, hD, hK⟩ := z_after3 (wn := (zV162 h0 tp h0_tapeLength h0_faultKind h0_faultPlace nw im sl rd wk fm mt ch dy sl cA_sl f_sl r0_numbers cA_r0_numbers f_r0_numbers r1 r1_width r1_size r1_numbers r1_numbers cA_r1_numbers f_r1_numbers r2 r2_width r2_size r2_numbers r2_numbers cA_r2_numbers f_r2_numbers r3_numbers cA_r3_numbers f_r3_numbers r3 r3_width r3_size r3_numbers r0 r0_width r0_size r0_numbers)) hB ht hvm hP hD hK [8] [0, 1, 2, 3, 4, 5, 6, 7, 9] rfl 10 rfl (by decide +kernel) rfl (by decide +kernel) hk1 hFc
                generalize H1 = H at hP hS ⊢
                have hK : va_K (dC, dI) vwCl [(cA_sl, .object RX6), (cA_r0_numbers, .long), (cA_r1_numbers, .long), (cA_r2_numbers, .long), (cA_r3_numbers, .long)] s := hK
                have b_r_40 : 0 ≤ r_40.toInt ∧ r_40.toInt ≤ 1 := hw.1
                have s_r_40 := hw.2
                refine lv_if_eq (tgt := 91) hx hb dX9_paste_76 (by decide) (fun c_41 => ?_) (fun c_41 => ?_)
                · have ic_41 := zz_eq rfl (show Int32.toInt 0 = 0 from by decide) c_41
                  refine lv_bipush (v := (-7)) hx hb dX9_paste_91 (by decide) ?_
                  exact W.iret (v := (-7)) hx hb hr (fun t ht hW => by rw [← hQe]; exact ⟨⟨(-7), (), rfl, (by decide), ⟨f_r0_numbers, f_r1_numbers, f_r2_numbers, f_r3_numbers, z_ret hP hK hD ht hW [0, 1, 9, 2, 3, 4, 5, 6, 8, 7] [] rfl (by decide) rfl⟩⟩, hS.F ht⟩) hS.2.2 dX9_paste_93
                · have ic_41 := zz_neq rfl (show Int32.toInt 0 = 0 from by decide) c_41
                  refine lv_aload hx hb dX9_paste_79 (lv_at hl 0 rfl) ?_
                  refine lv_iload hx hb dX9_paste_81 (lv_at hl 6 rfl) ?_
                  refine lv_iload hx hb dX9_paste_83 (lv_at hl 7 rfl) ?_
                  obtain ⟨hPc, hDc, hFc⟩ := z_cut (wc := (zV6 r3 r3_width r3_size r3_numbers)) hP hD hS hA [8] rfl (by decide +kernel)
                  have hKc := hK.sub (tys' := []) [] rfl
                  refine va_calli (va_runV (As := [.int p4, .int p5]) (rest := []) ⟨hx, hb, hml, hown, hts⟩ (k_X6_hasSpan l sa dC dI r3 p4 p5 r3_width r3_size r3_numbers b_r3_size H.size) (cwV 2 hts (z_gV zw_t6_80 zw_t6_81 zw_t6_82 zw_t1_10 zw_t6_83) rfl rfl rfl (by decide +kernel) (by rw [← hRe]; exact ⟨(Nat.le_of_ble_eq_true rfl), (Nat.le_of_ble_eq_true rfl)⟩)) (z_preV hPc hKc hDc hN hXs hS hFc (q := (RX6, TX6, 3)) (ci := 6) (q0 := 0) rfl rfl) rfl rfl hl.1 rfl (lv_room (Nat.le_of_ble_eq_true rfl)) dX9_paste_85 (by rw [← hRe]; exact ⟨(Nat.le_of_ble_eq_true rfl), (Nat.le_of_ble_eq_true rfl)⟩)) hS (fun q _ h => hFc q h) hFc (fun r_42 u t H1 locs ht hvm hw hB hz1 hk1 hS => ?_)
                  obtain ⟨hP, hD, hK⟩ := z_after3 (wn := (zV162 h0 tp h0_tapeLength h0_faultKind h0_faultPlace nw im sl rd wk fm mt ch dy sl cA_sl f_sl r0_numbers cA_r0_numbers f_r0_numbers r1 r1_width r1_size r1_numbers r1_numbers cA_r1_numbers f_r1_numbers r2 r2_width r2_size r2_numbers r2_numbers cA_r2_numbers f_r2_numbers r3_numbers cA_r3_numbers f_r3_numbers r0 r0_width r0_size r0_numbers r3 r3_width r3_size r3_numbers)) hB ht hvm hP hD hK [8] [0, 1, 2, 3, 4, 5, 6, 7, 9] rfl 10 rfl (by decide +kernel) rfl (by decide +kernel) hk1 hFc
                  generalize H1 = H at hP hS ⊢
                  have hK : va_K (dC, dI) vwCl [(cA_sl, .object RX6), (cA_r0_numbers, .long), (cA_r1_numbers, .long), (cA_r2_numbers, .long), (cA_r3_numbers, .long)] s := hK
                  have b_r_42 : 0 ≤ r_42.toInt ∧ r_42.toInt ≤ 1 := hw.1
                  have s_r_42 := hw.2
                  refine lv_if_ne (tgt := 94) hx hb dX9_paste_88 (by decide) (fun c_43 => ?_) (fun c_43 => ?_)
                  · have ic_43 := zz_ne rfl (show Int32.toInt 0 = 0 from by decide) c_43
                    refine lv_aload hx hb dX9_paste_94 (lv_at hl 1 rfl) ?_
                    refine va_get (D := (dC, dI)) (ci := 6) (v := .ref r0_numbers) (C := RX6) (T := TX6) (N := 3) hx hb hts zl_X6 hown hK hP 8 rfl rfl 2 (by decide) (hts _ zw_t2_181) (fun _ h9 => h9) rfl dX9_paste_96 ?_
                    refine lv_iload_n hx hb dX9_paste_99 rfl (lv_at hl 4 rfl) ?_
                    refine lv_aload hx hb dX9_paste_100 (lv_at hl 0 rfl) ?_
                    refine va_get (D := (dC, dI)) (ci := 6) (v := .ref r3_numbers) (C := RX6) (T := TX6) (N := 3) hx hb hts zl_X6 hown hK hP 9 rfl rfl 2 (by decide) (hts _ zw_t2_181) (fun _ h9 => h9) rfl dX9_paste_102 ?_
                    refine lv_iload hx hb dX9_paste_105 (lv_at hl 6 rfl) ?_
                    refine lv_iload hx hb dX9_paste_107 (lv_at hl 7 rfl) ?_
                    have kc_p2 := zi_clamp (x := p2) rfl (by first | with_reducible assumption | omega)
                    have kc_p4 := zi_clamp (x := p4) rfl (by first | with_reducible assumption | omega)
                    have kc_p5 := zi_clamp (x := p5) rfl (by first | with_reducible assumption | omega)
                    refine va_copyl hx hb (by rw [hml]; exact hl.1.symm) hown (hts _ zw_t6_92) (hts _ zw_t4_39) (hts _ zw_t4_38) (hts _ zw_t1_18) hK hP hD hS 2 7 1 4 rfl rfl rfl rfl rfl (fun q => absurd (z_lt (k := 0) (by decide) q) (by first | with_reducible assumption | omega)) (fun q => absurd (z_lt (k := 0) (by decide) q) (by first | with_reducible assumption | omega)) (fun q => absurd (z_lt (k := 0) (by decide) q) (by first | with_reducible assumption | omega)) (by first | with_reducible assumption | omega) (by first | with_reducible assumption | omega) (fun _ _ => rfl) (by rw [← hRe]; exact (Nat.le_of_ble_eq_true rfl)) (by rw [← hRe]; exact (Nat.le_of_ble_eq_true rfl)) dX9_paste_109 (fun H locs hP hD hS => ?_)
                    obtain ⟨f_44, ef_44⟩ : ∃ g : Nat → Int64, g = va_cpy f_r0_numbers f_r3_numbers (Int32.toNatClampNeg p2) (Int32.toNatClampNeg p4) (Int32.toNatClampNeg p5) := ⟨_, rfl⟩
                    have hP : va_P (dC, dI) vwCl (zV162 h0 tp h0_tapeLength h0_faultKind h0_faultPlace nw im sl rd wk fm mt ch dy sl cA_sl f_sl r0_numbers cA_r0_numbers f_r0_numbers r1 r1_width r1_size r1_numbers r1_numbers cA_r1_numbers f_r1_numbers r2 r2_width r2_size r2_numbers r2_numbers cA_r2_numbers f_r2_numbers r3_numbers cA_r3_numbers (va_cpy f_r0_numbers f_r3_numbers (Int32.toNatClampNeg p2) (Int32.toNatClampNeg p4) (Int32.toNatClampNeg p5)) r0 r0_width r0_size r0_numbers r3 r3_width r3_size r3_numbers) H := hP
                    have hD : va_D A (zV162 h0 tp h0_tapeLength h0_faultKind h0_faultPlace nw im sl rd wk fm mt ch dy sl cA_sl f_sl r0_numbers cA_r0_numbers f_r0_numbers r1 r1_width r1_size r1_numbers r1_numbers cA_r1_numbers f_r1_numbers r2 r2_width r2_size r2_numbers r2_numbers cA_r2_numbers f_r2_numbers r3_numbers cA_r3_numbers (va_cpy f_r0_numbers f_r3_numbers (Int32.toNatClampNeg p2) (Int32.toNatClampNeg p4) (Int32.toNatClampNeg p5)) r0 r0_width r0_size r0_numbers r3 r3_width r3_size r3_numbers) := hD
                    rw [← ef_44] at hP hD
                    refine lv_iconst (v := 0) hx hb dX9_paste_112 (by decide) ?_
                    exact W.iret (v := 0) hx hb hr (fun t ht hW => by rw [← hQe]; exact ⟨⟨0, (), rfl, (by decide), ⟨f_r0_numbers, f_r1_numbers, f_r2_numbers, f_44, z_ret hP hK hD ht hW [0, 1, 8, 2, 3, 4, 5, 6, 9, 7] [] rfl (by decide) rfl⟩⟩, hS.F ht⟩) hS.2.2 dX9_paste_113
                  · have ic_43 := zz_nne rfl (show Int32.toInt 0 = 0 from by decide) c_43
                    refine lv_bipush (v := (-7)) hx hb dX9_paste_91 (by decide) ?_
                    exact W.iret (v := (-7)) hx hb hr (fun t ht hW => by rw [← hQe]; exact ⟨⟨(-7), (), rfl, (by decide), ⟨f_r0_numbers, f_r1_numbers, f_r2_numbers, f_r3_numbers, z_ret hP hK hD ht hW [0, 1, 8, 2, 3, 4, 5, 6, 9, 7] [] rfl (by decide) rfl⟩⟩, hS.F ht⟩) hS.2.2 dX9_paste_93
              · have ic_39 := zz_neq rfl rfl c_39
                refine lv_bipush (v := (-8)) hx hb dX9_paste_65 (by decide) ?_
                exact W.iret (v := (-8)) hx hb hr (fun t ht hW => by rw [← hQe]; exact ⟨⟨(-8), (), rfl, (by decide), ⟨f_r0_numbers, f_r1_numbers, f_r2_numbers, f_r3_numbers, z_ret hP hK hD ht hW [0, 1, 8, 2, 3, 4, 5, 6, 9, 7] [] rfl (by decide) rfl⟩⟩, hS.F ht⟩) hS.2.2 dX9_paste_67
            · have ic_38 := zz_nne rfl (show Int32.toInt 0 = 0 from by decide) c_38
              refine lv_bipush (v := (-6)) hx hb dX9_paste_49 (by decide) ?_
              exact W.iret (v := (-6)) hx hb hr (fun t ht hW => by rw [← hQe]; exact ⟨⟨(-6), (), rfl, (by decide), ⟨f_r0_numbers, f_r1_numbers, f_r2_numbers, f_r3_numbers, z_ret hP hK hD ht hW [0, 1, 8, 2, 3, 4, 5, 6, 9, 7] [] rfl (by decide) rfl⟩⟩, hS.F ht⟩) hS.2.2 dX9_paste_51
        · omega
      · have zc_1 : Int32.toInt 1 = 1 := by decide
        refine va_aldq hx hb hK hP 1 0 rfl rfl (zi_in (show Int32.toInt 1 = 1 from by decide) (by decide)) dX9_paste_22 ?_
        refine W.eq (g2 := F0 m 23 ls (.ref r1 :: [])) (by rw [show f_sl (Int32.toNatClampNeg 1) = some r1 from (by rw [show Int32.toNatClampNeg 1 = 1 from by decide]; exact hsl1)]; rfl) ?_
        refine lv_astore (lv' := [(6, .ref r1), (0, .ref h0), (1, .int 1), (2, .int p2), (3, .int p3), (4, .int p4), (5, .int p5)]) hx hb dX9_paste_23 hl (by decide) rfl (fun ls hl => ?_)
        refine lv_aload_n hx hb dX9_paste_25 rfl (lv_at hl 1 rfl) ?_
        refine va_get (D := (dC, dI)) (ci := 9) (v := .ref sl) (C := RX9) (T := TX9) (N := 13) hx hb hts zl_X9 hown hK hP 0 rfl rfl 6 (by decide) (hts _ zw_t2_195) (fun _ h9 => h9) rfl dX9_paste_26 ?_
        refine lv_iload_n hx hb dX9_paste_29 rfl (lv_at hl 4 rfl) ?_
        rcases z_s3 p3 with q_sw | rfl | rfl | rfl | rfl | q_sw
        · omega
        · have zc_0 : Int32.toInt 0 = 0 := by decide
          refine va_aldq hx hb hK hP 1 0 rfl rfl (zi_in (show Int32.toInt 0 = 0 from by decide) (by decide)) dX9_paste_30 ?_
          refine W.eq (g2 := F0 m 31 ls (.ref r0 :: [])) (by rw [show f_sl (Int32.toNatClampNeg 0) = some r0 from (by rw [show Int32.toNatClampNeg 0 = 0 from by decide]; exact hsl0)]; rfl) ?_
          refine lv_astore (lv' := [(7, .ref r0), (6, .ref r1), (0, .ref h0), (1, .int 1), (2, .int p2), (3, .int 0), (4, .int p4), (5, .int p5)]) hx hb dX9_paste_31 hl (by decide) rfl (fun ls hl => ?_)
          refine lv_aload hx hb dX9_paste_33 (lv_at hl 1 rfl) ?_
          obtain ⟨hPc, hDc, hFc⟩ := z_cut (wc := (zV6 r1 r1_width r1_size r1_numbers)) hP hD hS hA [4] rfl (by decide +kernel)
          have hKc := hK.sub (tys' := []) [] rfl
          refine va_calli (va_runV (As := []) (rest := []) ⟨hx, hb, hml, hown, hts⟩ (k_X6_isThere l sa dC dI r1 r1_width r1_size r1_numbers b_r1_size H.size) (cwV 0 hts (z_gV zw_t5_222 zw_t5_223 zw_t5_224 zw_t1_10 zw_t5_225) rfl rfl rfl (by decide +kernel) (by rw [← hRe]; exact ⟨(Nat.le_of_ble_eq_true rfl), (Nat.le_of_ble_eq_true rfl)⟩)) (z_preV hPc hKc hDc hN hXs hS hFc (q := (RX6, TX6, 3)) (ci := 6) (q0 := 0) rfl rfl) rfl rfl hl.1 rfl (lv_room (Nat.le_of_ble_eq_true rfl)) dX9_paste_35 (by rw [← hRe]; exact ⟨(Nat.le_of_ble_eq_true rfl), (Nat.le_of_ble_eq_true rfl)⟩)) hS (fun q _ h => hFc q h) hFc (fun r_45 u t H1 locs ht hvm hw hB hz1 hk1 hS => ?_)
          obtain ⟨hP, hD, hK⟩ := z_after3 (wn := (zV75 h0 tp h0_tapeLength h0_faultKind h0_faultPlace nw im sl rd wk fm mt ch dy sl cA_sl f_sl r0 r0_width r0_size r0_numbers r0_numbers cA_r0_numbers f_r0_numbers r1_numbers cA_r1_numbers f_r1_numbers r2 r2_width r2_size r2_numbers r2_numbers cA_r2_numbers f_r2_numbers r3 r3_width r3_size r3_numbers r3_numbers cA_r3_numbers f_r3_numbers r1 r1_width r1_size r1_numbers)) hB ht hvm hP hD hK [4] [0, 1, 2, 3, 5, 6, 7, 8, 9] rfl 10 rfl (by decide +kernel) rfl (by decide +kernel) hk1 hFc
          generalize H1 = H at hP hS ⊢
          have hK : va_K (dC, dI) vwCl [(cA_sl, .object RX6), (cA_r0_numbers, .long), (cA_r1_numbers, .long), (cA_r2_numbers, .long), (cA_r3_numbers, .long)] s := hK
          have b_r_45 : 0 ≤ r_45.toInt ∧ r_45.toInt ≤ 1 := hw
          refine lv_if_eq (tgt := 49) hx hb dX9_paste_38 (by decide) (fun c_46 => ?_) (fun c_46 => ?_)
          · have ic_46 := zz_eq rfl (show Int32.toInt 0 = 0 from by decide) c_46
            refine lv_bipush (v := (-6)) hx hb dX9_paste_49 (by decide) ?_
            exact W.iret (v := (-6)) hx hb hr (fun t ht hW => by rw [← hQe]; exact ⟨⟨(-6), (), rfl, (by decide), ⟨f_r0_numbers, f_r1_numbers, f_r2_numbers, f_r3_numbers, z_ret hP hK hD ht hW [0, 1, 2, 3, 9, 4, 5, 6, 7, 8] [] rfl (by decide) rfl⟩⟩, hS.F ht⟩) hS.2.2 dX9_paste_51
          · have ic_46 := zz_neq rfl (show Int32.toInt 0 = 0 from by decide) c_46
            refine lv_aload hx hb dX9_paste_41 (lv_at hl 0 rfl) ?_
            obtain ⟨hPc, hDc, hFc⟩ := z_cut (wc := (zV6 r0 r0_width r0_size r0_numbers)) hP hD hS hA [2] rfl (by decide +kernel)
            have hKc := hK.sub (tys' := []) [] rfl
            refine va_calli (va_runV (As := []) (rest := []) ⟨hx, hb, hml, hown, hts⟩ (k_X6_isThere l sa dC dI r0 r0_width r0_size r0_numbers b_r0_size H.size) (cwV 0 hts (z_gV zw_t5_222 zw_t5_223 zw_t5_224 zw_t1_10 zw_t5_225) rfl rfl rfl (by decide +kernel) (by rw [← hRe]; exact ⟨(Nat.le_of_ble_eq_true rfl), (Nat.le_of_ble_eq_true rfl)⟩)) (z_preV hPc hKc hDc hN hXs hS hFc (q := (RX6, TX6, 3)) (ci := 6) (q0 := 0) rfl rfl) rfl rfl hl.1 rfl (lv_room (Nat.le_of_ble_eq_true rfl)) dX9_paste_43 (by rw [← hRe]; exact ⟨(Nat.le_of_ble_eq_true rfl), (Nat.le_of_ble_eq_true rfl)⟩)) hS (fun q _ h => hFc q h) hFc (fun r_47 u t H1 locs ht hvm hw hB hz1 hk1 hS => ?_)
            obtain ⟨hP, hD, hK⟩ := z_after3 (wn := (zV160 h0 tp h0_tapeLength h0_faultKind h0_faultPlace nw im sl rd wk fm mt ch dy sl cA_sl f_sl r0_numbers cA_r0_numbers f_r0_numbers r1_numbers cA_r1_numbers f_r1_numbers r2 r2_width r2_size r2_numbers r2_numbers cA_r2_numbers f_r2_numbers r3 r3_width r3_size r3_numbers r3_numbers cA_r3_numbers f_r3_numbers r1 r1_width r1_size r1_numbers r0 r0_width r0_size r0_numbers)) hB ht hvm hP hD hK [2] [0, 1, 3, 4, 5, 6, 7, 8, 9] rfl 10 rfl (by decide +kernel) rfl (by decide +kernel) hk1 hFc
            generalize H1 = H at hP hS ⊢
            have hK : va_K (dC, dI) vwCl [(cA_sl, .object RX6), (cA_r0_numbers, .long), (cA_r1_numbers, .long), (cA_r2_numbers, .long), (cA_r3_numbers, .long)] s := hK
            have b_r_47 : 0 ≤ r_47.toInt ∧ r_47.toInt ≤ 1 := hw
            refine lv_if_ne (tgt := 52) hx hb dX9_paste_46 (by decide) (fun c_48 => ?_) (fun c_48 => ?_)
            · have ic_48 := zz_ne rfl (show Int32.toInt 0 = 0 from by decide) c_48
              refine lv_aload hx hb dX9_paste_52 (lv_at hl 1 rfl) ?_
              refine va_get (D := (dC, dI)) (ci := 6) (v := .int r1_width) (C := RX6) (T := TX6) (N := 3) hx hb hts zl_X6 hown hK hP 8 rfl rfl 0 (by decide) (hts _ zw_t2_176) (fun _ h9 => h9) rfl dX9_paste_54 ?_
              refine lv_aload hx hb dX9_paste_57 (lv_at hl 0 rfl) ?_
              refine va_get (D := (dC, dI)) (ci := 6) (v := .int r0_width) (C := RX6) (T := TX6) (N := 3) hx hb hts zl_X6 hown hK hP 9 rfl rfl 0 (by decide) (hts _ zw_t2_176) (fun _ h9 => h9) rfl dX9_paste_59 ?_
              have nb_r1_width := zi_nb r1_width
              have nb_r0_width := zi_nb r0_width
              refine lv_icmp_eq (tgt := 68) hx hb dX9_paste_62 (by decide) (fun c_49 => ?_) (fun c_49 => ?_)
              · have ic_49 := zz_eq rfl rfl c_49
                refine lv_aload hx hb dX9_paste_68 (lv_at hl 1 rfl) ?_
                refine lv_iload_n hx hb dX9_paste_70 rfl (lv_at hl 4 rfl) ?_
                refine lv_iload hx hb dX9_paste_71 (lv_at hl 7 rfl) ?_
                obtain ⟨hPc, hDc, hFc⟩ := z_cut (wc := (zV6 r1 r1_width r1_size r1_numbers)) hP hD hS hA [8] rfl (by decide +kernel)
                have hKc := hK.sub (tys' := []) [] rfl
                refine va_calli (va_runV (As := [.int p2, .int p5]) (rest := []) ⟨hx, hb, hml, hown, hts⟩ (k_X6_hasSpan l sa dC dI r1 p2 p5 r1_width r1_size r1_numbers b_r1_size H.size) (cwV 2 hts (z_gV zw_t6_80 zw_t6_81 zw_t6_82 zw_t1_10 zw_t6_83) rfl rfl rfl (by decide +kernel) (by rw [← hRe]; exact ⟨(Nat.le_of_ble_eq_true rfl), (Nat.le_of_ble_eq_true rfl)⟩)) (z_preV hPc hKc hDc hN hXs hS hFc (q := (RX6, TX6, 3)) (ci := 6) (q0 := 0) rfl rfl) rfl rfl hl.1 rfl (lv_room (Nat.le_of_ble_eq_true rfl)) dX9_paste_73 (by rw [← hRe]; exact ⟨(Nat.le_of_ble_eq_true rfl), (Nat.le_of_ble_eq_true rfl)⟩)) hS (fun q _ h => hFc q h) hFc (fun r_50 u t H1 locs ht hvm hw hB hz1 hk1 hS => ?_)
                obtain ⟨hP, hD, hK⟩ := z_after3 (wn := (zV160 h0 tp h0_tapeLength h0_faultKind h0_faultPlace nw im sl rd wk fm mt ch dy sl cA_sl f_sl r0_numbers cA_r0_numbers f_r0_numbers r1_numbers cA_r1_numbers f_r1_numbers r2 r2_width r2_size r2_numbers r2_numbers cA_r2_numbers f_r2_numbers r3 r3_width r3_size r3_numbers r3_numbers cA_r3_numbers f_r3_numbers r0 r0_width r0_size r0_numbers r1 r1_width r1_size r1_numbers)) hB ht hvm hP hD hK [8] [0, 1, 2, 3, 4, 5, 6, 7, 9] rfl 10 rfl (by decide +kernel) rfl (by decide +kernel) hk1 hFc
                generalize H1 = H at hP hS ⊢
                have hK : va_K (dC, dI) vwCl [(cA_sl, .object RX6), (cA_r0_numbers, .long), (cA_r1_numbers, .long), (cA_r2_numbers, .long), (cA_r3_numbers, .long)] s := hK
                have b_r_50 : 0 ≤ r_50.toInt ∧ r_50.toInt ≤ 1 := hw.1
                have s_r_50 := hw.2
                refine lv_if_eq (tgt := 91) hx hb dX9_paste_76 (by decide) (fun c_51 => ?_) (fun c_51 => ?_)
                · have ic_51 := zz_eq rfl (show Int32.toInt 0 = 0 from by decide) c_51
                  refine lv_bipush (v := (-7)) hx hb dX9_paste_91 (by decide) ?_
                  exact W.iret (v := (-7)) hx hb hr (fun t ht hW => by rw [← hQe]; exact ⟨⟨(-7), (), rfl, (by decide), ⟨f_r0_numbers, f_r1_numbers, f_r2_numbers, f_r3_numbers, z_ret hP hK hD ht hW [0, 1, 8, 2, 9, 3, 4, 5, 6, 7] [] rfl (by decide) rfl⟩⟩, hS.F ht⟩) hS.2.2 dX9_paste_93
                · have ic_51 := zz_neq rfl (show Int32.toInt 0 = 0 from by decide) c_51
                  refine lv_aload hx hb dX9_paste_79 (lv_at hl 0 rfl) ?_
                  refine lv_iload hx hb dX9_paste_81 (lv_at hl 6 rfl) ?_
                  refine lv_iload hx hb dX9_paste_83 (lv_at hl 7 rfl) ?_
                  obtain ⟨hPc, hDc, hFc⟩ := z_cut (wc := (zV6 r0 r0_width r0_size r0_numbers)) hP hD hS hA [8] rfl (by decide +kernel)
                  have hKc := hK.sub (tys' := []) [] rfl
                  refine va_calli (va_runV (As := [.int p4, .int p5]) (rest := []) ⟨hx, hb, hml, hown, hts⟩ (k_X6_hasSpan l sa dC dI r0 p4 p5 r0_width r0_size r0_numbers b_r0_size H.size) (cwV 2 hts (z_gV zw_t6_80 zw_t6_81 zw_t6_82 zw_t1_10 zw_t6_83) rfl rfl rfl (by decide +kernel) (by rw [← hRe]; exact ⟨(Nat.le_of_ble_eq_true rfl), (Nat.le_of_ble_eq_true rfl)⟩)) (z_preV hPc hKc hDc hN hXs hS hFc (q := (RX6, TX6, 3)) (ci := 6) (q0 := 0) rfl rfl) rfl rfl hl.1 rfl (lv_room (Nat.le_of_ble_eq_true rfl)) dX9_paste_85 (by rw [← hRe]; exact ⟨(Nat.le_of_ble_eq_true rfl), (Nat.le_of_ble_eq_true rfl)⟩)) hS (fun q _ h => hFc q h) hFc (fun r_52 u t H1 locs ht hvm hw hB hz1 hk1 hS => ?_)
                  obtain ⟨hP, hD, hK⟩ := z_after3 (wn := (zV160 h0 tp h0_tapeLength h0_faultKind h0_faultPlace nw im sl rd wk fm mt ch dy sl cA_sl f_sl r0_numbers cA_r0_numbers f_r0_numbers r1_numbers cA_r1_numbers f_r1_numbers r2 r2_width r2_size r2_numbers r2_numbers cA_r2_numbers f_r2_numbers r3 r3_width r3_size r3_numbers r3_numbers cA_r3_numbers f_r3_numbers r1 r1_width r1_size r1_numbers r0 r0_width r0_size r0_numbers)) hB ht hvm hP hD hK [8] [0, 1, 2, 3, 4, 5, 6, 7, 9] rfl 10 rfl (by decide +kernel) rfl (by decide +kernel) hk1 hFc
                  generalize H1 = H at hP hS ⊢
                  have hK : va_K (dC, dI) vwCl [(cA_sl, .object RX6), (cA_r0_numbers, .long), (cA_r1_numbers, .long), (cA_r2_numbers, .long), (cA_r3_numbers, .long)] s := hK
                  have b_r_52 : 0 ≤ r_52.toInt ∧ r_52.toInt ≤ 1 := hw.1
                  have s_r_52 := hw.2
                  refine lv_if_ne (tgt := 94) hx hb dX9_paste_88 (by decide) (fun c_53 => ?_) (fun c_53 => ?_)
                  · have ic_53 := zz_ne rfl (show Int32.toInt 0 = 0 from by decide) c_53
                    refine lv_aload hx hb dX9_paste_94 (lv_at hl 1 rfl) ?_
                    refine va_get (D := (dC, dI)) (ci := 6) (v := .ref r1_numbers) (C := RX6) (T := TX6) (N := 3) hx hb hts zl_X6 hown hK hP 8 rfl rfl 2 (by decide) (hts _ zw_t2_181) (fun _ h9 => h9) rfl dX9_paste_96 ?_
                    refine lv_iload_n hx hb dX9_paste_99 rfl (lv_at hl 4 rfl) ?_
                    refine lv_aload hx hb dX9_paste_100 (lv_at hl 0 rfl) ?_
                    refine va_get (D := (dC, dI)) (ci := 6) (v := .ref r0_numbers) (C := RX6) (T := TX6) (N := 3) hx hb hts zl_X6 hown hK hP 9 rfl rfl 2 (by decide) (hts _ zw_t2_181) (fun _ h9 => h9) rfl dX9_paste_102 ?_
                    refine lv_iload hx hb dX9_paste_105 (lv_at hl 6 rfl) ?_
                    refine lv_iload hx hb dX9_paste_107 (lv_at hl 7 rfl) ?_
                    have kc_p2 := zi_clamp (x := p2) rfl (by first | with_reducible assumption | omega)
                    have kc_p4 := zi_clamp (x := p4) rfl (by first | with_reducible assumption | omega)
                    have kc_p5 := zi_clamp (x := p5) rfl (by first | with_reducible assumption | omega)
                    refine va_copyl hx hb (by rw [hml]; exact hl.1.symm) hown (hts _ zw_t6_92) (hts _ zw_t4_39) (hts _ zw_t4_38) (hts _ zw_t1_18) hK hP hD hS 3 2 2 1 rfl rfl rfl rfl rfl (fun q => absurd (z_lt (k := 0) (by decide) q) (by first | with_reducible assumption | omega)) (fun q => absurd (z_lt (k := 0) (by decide) q) (by first | with_reducible assumption | omega)) (fun q => absurd (z_lt (k := 0) (by decide) q) (by first | with_reducible assumption | omega)) (by first | with_reducible assumption | omega) (by first | with_reducible assumption | omega) (fun _ _ => rfl) (by rw [← hRe]; exact (Nat.le_of_ble_eq_true rfl)) (by rw [← hRe]; exact (Nat.le_of_ble_eq_true rfl)) dX9_paste_109 (fun H locs hP hD hS => ?_)
                    obtain ⟨f_54, ef_54⟩ : ∃ g : Nat → Int64, g = va_cpy f_r1_numbers f_r0_numbers (Int32.toNatClampNeg p2) (Int32.toNatClampNeg p4) (Int32.toNatClampNeg p5) := ⟨_, rfl⟩
                    have hP : va_P (dC, dI) vwCl (zV160 h0 tp h0_tapeLength h0_faultKind h0_faultPlace nw im sl rd wk fm mt ch dy sl cA_sl f_sl r0_numbers cA_r0_numbers (va_cpy f_r1_numbers f_r0_numbers (Int32.toNatClampNeg p2) (Int32.toNatClampNeg p4) (Int32.toNatClampNeg p5)) r1_numbers cA_r1_numbers f_r1_numbers r2 r2_width r2_size r2_numbers r2_numbers cA_r2_numbers f_r2_numbers r3 r3_width r3_size r3_numbers r3_numbers cA_r3_numbers f_r3_numbers r1 r1_width r1_size r1_numbers r0 r0_width r0_size r0_numbers) H := hP
                    have hD : va_D A (zV160 h0 tp h0_tapeLength h0_faultKind h0_faultPlace nw im sl rd wk fm mt ch dy sl cA_sl f_sl r0_numbers cA_r0_numbers (va_cpy f_r1_numbers f_r0_numbers (Int32.toNatClampNeg p2) (Int32.toNatClampNeg p4) (Int32.toNatClampNeg p5)) r1_numbers cA_r1_numbers f_r1_numbers r2 r2_width r2_size r2_numbers r2_numbers cA_r2_numbers f_r2_numbers r3 r3_width r3_size r3_numbers r3_numbers cA_r3_numbers f_r3_numbers r1 r1_width r1_size r1_numbers r0 r0_width r0_size r0_numbers) := hD
                    rw [← ef_54] at hP hD
                    refine lv_iconst (v := 0) hx hb dX9_paste_112 (by decide) ?_
                    exact W.iret (v := 0) hx hb hr (fun t ht hW => by rw [← hQe]; exact ⟨⟨0, (), rfl, (by decide), ⟨f_54, f_r1_numbers, f_r2_numbers, f_r3_numbers, z_ret hP hK hD ht hW [0, 1, 9, 2, 8, 3, 4, 5, 6, 7] [] rfl (by decide) rfl⟩⟩, hS.F ht⟩) hS.2.2 dX9_paste_113
                  · have ic_53 := zz_nne rfl (show Int32.toInt 0 = 0 from by decide) c_53
                    refine lv_bipush (v := (-7)) hx hb dX9_paste_91 (by decide) ?_
                    exact W.iret (v := (-7)) hx hb hr (fun t ht hW => by rw [← hQe]; exact ⟨⟨(-7), (), rfl, (by decide), ⟨f_r0_numbers, f_r1_numbers, f_r2_numbers, f_r3_numbers, z_ret hP hK hD ht hW [0, 1, 9, 2, 8, 3, 4, 5, 6, 7] [] rfl (by decide) rfl⟩⟩, hS.F ht⟩) hS.2.2 dX9_paste_93
              · have ic_49 := zz_neq rfl rfl c_49
                refine lv_bipush (v := (-8)) hx hb dX9_paste_65 (by decide) ?_
                exact W.iret (v := (-8)) hx hb hr (fun t ht hW => by rw [← hQe]; exact ⟨⟨(-8), (), rfl, (by decide), ⟨f_r0_numbers, f_r1_numbers, f_r2_numbers, f_r3_numbers, z_ret hP hK hD ht hW [0, 1, 9, 2, 8, 3, 4, 5, 6, 7] [] rfl (by decide) rfl⟩⟩, hS.F ht⟩) hS.2.2 dX9_paste_67
            · have ic_48 := zz_nne rfl (show Int32.toInt 0 = 0 from by decide) c_48
              refine lv_bipush (v := (-6)) hx hb dX9_paste_49 (by decide) ?_
              exact W.iret (v := (-6)) hx hb hr (fun t ht hW => by rw [← hQe]; exact ⟨⟨(-6), (), rfl, (by decide), ⟨f_r0_numbers, f_r1_numbers, f_r2_numbers, f_r3_numbers, z_ret hP hK hD ht hW [0, 1, 9, 2, 8, 3, 4, 5, 6, 7] [] rfl (by decide) rfl⟩⟩, hS.F ht⟩) hS.2.2 dX9_paste_51
        · have zc_1 : Int32.toInt 1 = 1 := by decide
          refine va_aldq hx hb hK hP 1 0 rfl rfl (zi_in (show Int32.toInt 1 = 1 from by decide) (by decide)) dX9_paste_30 ?_
          refine W.eq (g2 := F0 m 31 ls (.ref r1 :: [])) (by rw [show f_sl (Int32.toNatClampNeg 1) = some r1 from (by rw [show Int32.toNatClampNeg 1 = 1 from by decide]; exact hsl1)]; rfl) ?_
          refine lv_astore (lv' := [(7, .ref r1), (6, .ref r1), (0, .ref h0), (1, .int 1), (2, .int p2), (3, .int 1), (4, .int p4), (5, .int p5)]) hx hb dX9_paste_31 hl (by decide) rfl (fun ls hl => ?_)
          refine lv_aload hx hb dX9_paste_33 (lv_at hl 1 rfl) ?_
          obtain ⟨hPc, hDc, hFc⟩ := z_cut (wc := (zV6 r1 r1_width r1_size r1_numbers)) hP hD hS hA [4] rfl (by decide +kernel)
          have hKc := hK.sub (tys' := []) [] rfl
          refine va_calli (va_runV (As := []) (rest := []) ⟨hx, hb, hml, hown, hts⟩ (k_X6_isThere l sa dC dI r1 r1_width r1_size r1_numbers b_r1_size H.size) (cwV 0 hts (z_gV zw_t5_222 zw_t5_223 zw_t5_224 zw_t1_10 zw_t5_225) rfl rfl rfl (by decide +kernel) (by rw [← hRe]; exact ⟨(Nat.le_of_ble_eq_true rfl), (Nat.le_of_ble_eq_true rfl)⟩)) (z_preV hPc hKc hDc hN hXs hS hFc (q := (RX6, TX6, 3)) (ci := 6) (q0 := 0) rfl rfl) rfl rfl hl.1 rfl (lv_room (Nat.le_of_ble_eq_true rfl)) dX9_paste_35 (by rw [← hRe]; exact ⟨(Nat.le_of_ble_eq_true rfl), (Nat.le_of_ble_eq_true rfl)⟩)) hS (fun q _ h => hFc q h) hFc (fun r_55 u t H1 locs ht hvm hw hB hz1 hk1 hS => ?_)
          obtain ⟨hP, hD, hK⟩ := z_after3 (wn := (zV75 h0 tp h0_tapeLength h0_faultKind h0_faultPlace nw im sl rd wk fm mt ch dy sl cA_sl f_sl r0 r0_width r0_size r0_numbers r0_numbers cA_r0_numbers f_r0_numbers r1_numbers cA_r1_numbers f_r1_numbers r2 r2_width r2_size r2_numbers r2_numbers cA_r2_numbers f_r2_numbers r3 r3_width r3_size r3_numbers r3_numbers cA_r3_numbers f_r3_numbers r1 r1_width r1_size r1_numbers)) hB ht hvm hP hD hK [4] [0, 1, 2, 3, 5, 6, 7, 8, 9] rfl 10 rfl (by decide +kernel) rfl (by decide +kernel) hk1 hFc
          generalize H1 = H at hP hS ⊢
          have hK : va_K (dC, dI) vwCl [(cA_sl, .object RX6), (cA_r0_numbers, .long), (cA_r1_numbers, .long), (cA_r2_numbers, .long), (cA_r3_numbers, .long)] s := hK
          have b_r_55 : 0 ≤ r_55.toInt ∧ r_55.toInt ≤ 1 := hw
          refine lv_if_eq (tgt := 49) hx hb dX9_paste_38 (by decide) (fun c_56 => ?_) (fun c_56 => ?_)
          · have ic_56 := zz_eq rfl (show Int32.toInt 0 = 0 from by decide) c_56
            refine lv_bipush (v := (-6)) hx hb dX9_paste_49 (by decide) ?_
            exact W.iret (v := (-6)) hx hb hr (fun t ht hW => by rw [← hQe]; exact ⟨⟨(-6), (), rfl, (by decide), ⟨f_r0_numbers, f_r1_numbers, f_r2_numbers, f_r3_numbers, z_ret hP hK hD ht hW [0, 1, 2, 3, 9, 4, 5, 6, 7, 8] [] rfl (by decide) rfl⟩⟩, hS.F ht⟩) hS.2.2 dX9_paste_51
          · have ic_56 := zz_neq rfl (show Int32.toInt 0 = 0 from by decide) c_56
            refine lv_aload hx hb dX9_paste_41 (lv_at hl 0 rfl) ?_
            obtain ⟨hPc, hDc, hFc⟩ := z_cut (wc := (zV6 r1 r1_width r1_size r1_numbers)) hP hD hS hA [9] rfl (by decide +kernel)
            have hKc := hK.sub (tys' := []) [] rfl
            refine va_calli (va_runV (As := []) (rest := []) ⟨hx, hb, hml, hown, hts⟩ (k_X6_isThere l sa dC dI r1 r1_width r1_size r1_numbers b_r1_size H.size) (cwV 0 hts (z_gV zw_t5_222 zw_t5_223 zw_t5_224 zw_t1_10 zw_t5_225) rfl rfl rfl (by decide +kernel) (by rw [← hRe]; exact ⟨(Nat.le_of_ble_eq_true rfl), (Nat.le_of_ble_eq_true rfl)⟩)) (z_preV hPc hKc hDc hN hXs hS hFc (q := (RX6, TX6, 3)) (ci := 6) (q0 := 0) rfl rfl) rfl rfl hl.1 rfl (lv_room (Nat.le_of_ble_eq_true rfl)) dX9_paste_43 (by rw [← hRe]; exact ⟨(Nat.le_of_ble_eq_true rfl), (Nat.le_of_ble_eq_true rfl)⟩)) hS (fun q _ h => hFc q h) hFc (fun r_57 u t H1 locs ht hvm hw hB hz1 hk1 hS => ?_)
            obtain ⟨hP, hD, hK⟩ := z_after3 (wn := (zV75 h0 tp h0_tapeLength h0_faultKind h0_faultPlace nw im sl rd wk fm mt ch dy sl cA_sl f_sl r0 r0_width r0_size r0_numbers r0_numbers cA_r0_numbers f_r0_numbers r1_numbers cA_r1_numbers f_r1_numbers r2 r2_width r2_size r2_numbers r2_numbers cA_r2_numbers f_r2_numbers r3 r3_width r3_size r3_numbers r3_numbers cA_r3_numbers f_r3_numbers r1 r1_width r1_size r1_numbers)) hB ht hvm hP hD hK [9] [0, 1, 2, 3, 4, 5, 6, 7, 8] rfl 10 rfl (by decide +kernel) rfl (by decide +kernel) hk1 hFc
            generalize H1 = H at hP hS ⊢
            have hK : va_K (dC, dI) vwCl [(cA_sl, .object RX6), (cA_r0_numbers, .long), (cA_r1_numbers, .long), (cA_r2_numbers, .long), (cA_r3_numbers, .long)] s := hK
            have b_r_57 : 0 ≤ r_57.toInt ∧ r_57.toInt ≤ 1 := hw
            refine lv_if_ne (tgt := 52) hx hb dX9_paste_46 (by decide) (fun c_58 => ?_) (fun c_58 => ?_)
            · have ic_58 := zz_ne rfl (show Int32.toInt 0 = 0 from by decide) c_58
              refine lv_aload hx hb dX9_paste_52 (lv_at hl 1 rfl) ?_
              refine va_get (D := (dC, dI)) (ci := 6) (v := .int r1_width) (C := RX6) (T := TX6) (N := 3) hx hb hts zl_X6 hown hK hP 9 rfl rfl 0 (by decide) (hts _ zw_t2_176) (fun _ h9 => h9) rfl dX9_paste_54 ?_
              refine lv_aload hx hb dX9_paste_57 (lv_at hl 0 rfl) ?_
              refine va_get (D := (dC, dI)) (ci := 6) (v := .int r1_width) (C := RX6) (T := TX6) (N := 3) hx hb hts zl_X6 hown hK hP 9 rfl rfl 0 (by decide) (hts _ zw_t2_176) (fun _ h9 => h9) rfl dX9_paste_59 ?_
              have nb_r1_width := zi_nb r1_width
              refine lv_icmp_eq (tgt := 68) hx hb dX9_paste_62 (by decide) (fun c_59 => ?_) (fun q => absurd (zz_neq rfl rfl q) (by first | with_reducible assumption | omega))
              have ic_59 := zz_eq rfl rfl c_59
              refine lv_aload hx hb dX9_paste_68 (lv_at hl 1 rfl) ?_
              refine lv_iload_n hx hb dX9_paste_70 rfl (lv_at hl 4 rfl) ?_
              refine lv_iload hx hb dX9_paste_71 (lv_at hl 7 rfl) ?_
              obtain ⟨hPc, hDc, hFc⟩ := z_cut (wc := (zV6 r1 r1_width r1_size r1_numbers)) hP hD hS hA [9] rfl (by decide +kernel)
              have hKc := hK.sub (tys' := []) [] rfl
              refine va_calli (va_runV (As := [.int p2, .int p5]) (rest := []) ⟨hx, hb, hml, hown, hts⟩ (k_X6_hasSpan l sa dC dI r1 p2 p5 r1_width r1_size r1_numbers b_r1_size H.size) (cwV 2 hts (z_gV zw_t6_80 zw_t6_81 zw_t6_82 zw_t1_10 zw_t6_83) rfl rfl rfl (by decide +kernel) (by rw [← hRe]; exact ⟨(Nat.le_of_ble_eq_true rfl), (Nat.le_of_ble_eq_true rfl)⟩)) (z_preV hPc hKc hDc hN hXs hS hFc (q := (RX6, TX6, 3)) (ci := 6) (q0 := 0) rfl rfl) rfl rfl hl.1 rfl (lv_room (Nat.le_of_ble_eq_true rfl)) dX9_paste_73 (by rw [← hRe]; exact ⟨(Nat.le_of_ble_eq_true rfl), (Nat.le_of_ble_eq_true rfl)⟩)) hS (fun q _ h => hFc q h) hFc (fun r_60 u t H1 locs ht hvm hw hB hz1 hk1 hS => ?_)
              obtain ⟨hP, hD, hK⟩ := z_after3 (wn := (zV75 h0 tp h0_tapeLength h0_faultKind h0_faultPlace nw im sl rd wk fm mt ch dy sl cA_sl f_sl r0 r0_width r0_size r0_numbers r0_numbers cA_r0_numbers f_r0_numbers r1_numbers cA_r1_numbers f_r1_numbers r2 r2_width r2_size r2_numbers r2_numbers cA_r2_numbers f_r2_numbers r3 r3_width r3_size r3_numbers r3_numbers cA_r3_numbers f_r3_numbers r1 r1_width r1_size r1_numbers)) hB ht hvm hP hD hK [9] [0, 1, 2, 3, 4, 5, 6, 7, 8] rfl 10 rfl (by decide +kernel) rfl (by decide +kernel) hk1 hFc
              generalize H1 = H at hP hS ⊢
              have hK : va_K (dC, dI) vwCl [(cA_sl, .object RX6), (cA_r0_numbers, .long), (cA_r1_numbers, .long), (cA_r2_numbers, .long), (cA_r3_numbers, .long)] s := hK
              have b_r_60 : 0 ≤ r_60.toInt ∧ r_60.toInt ≤ 1 := hw.1
              have s_r_60 := hw.2
              refine lv_if_eq (tgt := 91) hx hb dX9_paste_76 (by decide) (fun c_61 => ?_) (fun c_61 => ?_)
              · have ic_61 := zz_eq rfl (show Int32.toInt 0 = 0 from by decide) c_61
                refine lv_bipush (v := (-7)) hx hb dX9_paste_91 (by decide) ?_
                exact W.iret (v := (-7)) hx hb hr (fun t ht hW => by rw [← hQe]; exact ⟨⟨(-7), (), rfl, (by decide), ⟨f_r0_numbers, f_r1_numbers, f_r2_numbers, f_r3_numbers, z_ret hP hK hD ht hW [0, 1, 2, 3, 9, 4, 5, 6, 7, 8] [] rfl (by decide) rfl⟩⟩, hS.F ht⟩) hS.2.2 dX9_paste_93
              · have ic_61 := zz_neq rfl (show Int32.toInt 0 = 0 from by decide) c_61
                refine lv_aload hx hb dX9_paste_79 (lv_at hl 0 rfl) ?_
                refine lv_iload hx hb dX9_paste_81 (lv_at hl 6 rfl) ?_
                refine lv_iload hx hb dX9_paste_83 (lv_at hl 7 rfl) ?_
                obtain ⟨hPc, hDc, hFc⟩ := z_cut (wc := (zV6 r1 r1_width r1_size r1_numbers)) hP hD hS hA [9] rfl (by decide +kernel)
                have hKc := hK.sub (tys' := []) [] rfl
                refine va_calli (va_runV (As := [.int p4, .int p5]) (rest := []) ⟨hx, hb, hml, hown, hts⟩ (k_X6_hasSpan l sa dC dI r1 p4 p5 r1_width r1_size r1_numbers b_r1_size H.size) (cwV 2 hts (z_gV zw_t6_80 zw_t6_81 zw_t6_82 zw_t1_10 zw_t6_83) rfl rfl rfl (by decide +kernel) (by rw [← hRe]; exact ⟨(Nat.le_of_ble_eq_true rfl), (Nat.le_of_ble_eq_true rfl)⟩)) (z_preV hPc hKc hDc hN hXs hS hFc (q := (RX6, TX6, 3)) (ci := 6) (q0 := 0) rfl rfl) rfl rfl hl.1 rfl (lv_room (Nat.le_of_ble_eq_true rfl)) dX9_paste_85 (by rw [← hRe]; exact ⟨(Nat.le_of_ble_eq_true rfl), (Nat.le_of_ble_eq_true rfl)⟩)) hS (fun q _ h => hFc q h) hFc (fun r_62 u t H1 locs ht hvm hw hB hz1 hk1 hS => ?_)
                obtain ⟨hP, hD, hK⟩ := z_after3 (wn := (zV75 h0 tp h0_tapeLength h0_faultKind h0_faultPlace nw im sl rd wk fm mt ch dy sl cA_sl f_sl r0 r0_width r0_size r0_numbers r0_numbers cA_r0_numbers f_r0_numbers r1_numbers cA_r1_numbers f_r1_numbers r2 r2_width r2_size r2_numbers r2_numbers cA_r2_numbers f_r2_numbers r3 r3_width r3_size r3_numbers r3_numbers cA_r3_numbers f_r3_numbers r1 r1_width r1_size r1_numbers)) hB ht hvm hP hD hK [9] [0, 1, 2, 3, 4, 5, 6, 7, 8] rfl 10 rfl (by decide +kernel) rfl (by decide +kernel) hk1 hFc
                generalize H1 = H at hP hS ⊢
                have hK : va_K (dC, dI) vwCl [(cA_sl, .object RX6), (cA_r0_numbers, .long), (cA_r1_numbers, .long), (cA_r2_numbers, .long), (cA_r3_numbers, .long)] s := hK
                have b_r_62 : 0 ≤ r_62.toInt ∧ r_62.toInt ≤ 1 := hw.1
                have s_r_62 := hw.2
                refine lv_if_ne (tgt := 94) hx hb dX9_paste_88 (by decide) (fun c_63 => ?_) (fun c_63 => ?_)
                · have ic_63 := zz_ne rfl (show Int32.toInt 0 = 0 from by decide) c_63
                  refine lv_aload hx hb dX9_paste_94 (lv_at hl 1 rfl) ?_
                  refine va_get (D := (dC, dI)) (ci := 6) (v := .ref r1_numbers) (C := RX6) (T := TX6) (N := 3) hx hb hts zl_X6 hown hK hP 9 rfl rfl 2 (by decide) (hts _ zw_t2_181) (fun _ h9 => h9) rfl dX9_paste_96 ?_
                  refine lv_iload_n hx hb dX9_paste_99 rfl (lv_at hl 4 rfl) ?_
                  refine lv_aload hx hb dX9_paste_100 (lv_at hl 0 rfl) ?_
                  refine va_get (D := (dC, dI)) (ci := 6) (v := .ref r1_numbers) (C := RX6) (T := TX6) (N := 3) hx hb hts zl_X6 hown hK hP 9 rfl rfl 2 (by decide) (hts _ zw_t2_181) (fun _ h9 => h9) rfl dX9_paste_102 ?_
                  refine lv_iload hx hb dX9_paste_105 (lv_at hl 6 rfl) ?_
                  refine lv_iload hx hb dX9_paste_107 (lv_at hl 7 rfl) ?_
                  have kc_p2 := zi_clamp (x := p2) rfl (by first | with_reducible assumption | omega)
                  have kc_p4 := zi_clamp (x := p4) rfl (by first | with_reducible assumption | omega)
                  have kc_p5 := zi_clamp (x := p5) rfl (by first | with_reducible assumption | omega)
                  refine va_copyl hx hb (by rw [hml]; exact hl.1.symm) hown (hts _ zw_t6_92) (hts _ zw_t4_39) (hts _ zw_t4_38) (hts _ zw_t1_18) hK hP hD hS 4 4 2 2 rfl rfl rfl rfl rfl (fun q => absurd (z_lt (k := 0) (by decide) q) (by first | with_reducible assumption | omega)) (fun q => absurd (z_lt (k := 0) (by decide) q) (by first | with_reducible assumption | omega)) (fun q => absurd (z_lt (k := 0) (by decide) q) (by first | with_reducible assumption | omega)) (by first | with_reducible assumption | omega) (by first | with_reducible assumption | omega) (fun _ _ => rfl) (by rw [← hRe]; exact (Nat.le_of_ble_eq_true rfl)) (by rw [← hRe]; exact (Nat.le_of_ble_eq_true rfl)) dX9_paste_109 (fun H locs hP hD hS => ?_)
                  obtain ⟨f_64, ef_64⟩ : ∃ g : Nat → Int64, g = va_cpy f_r1_numbers f_r1_numbers (Int32.toNatClampNeg p2) (Int32.toNatClampNeg p4) (Int32.toNatClampNeg p5) := ⟨_, rfl⟩
                  have hP : va_P (dC, dI) vwCl (zV75 h0 tp h0_tapeLength h0_faultKind h0_faultPlace nw im sl rd wk fm mt ch dy sl cA_sl f_sl r0 r0_width r0_size r0_numbers r0_numbers cA_r0_numbers f_r0_numbers r1_numbers cA_r1_numbers (va_cpy f_r1_numbers f_r1_numbers (Int32.toNatClampNeg p2) (Int32.toNatClampNeg p4) (Int32.toNatClampNeg p5)) r2 r2_width r2_size r2_numbers r2_numbers cA_r2_numbers f_r2_numbers r3 r3_width r3_size r3_numbers r3_numbers cA_r3_numbers f_r3_numbers r1 r1_width r1_size r1_numbers) H := hP
                  have hD : va_D A (zV75 h0 tp h0_tapeLength h0_faultKind h0_faultPlace nw im sl rd wk fm mt ch dy sl cA_sl f_sl r0 r0_width r0_size r0_numbers r0_numbers cA_r0_numbers f_r0_numbers r1_numbers cA_r1_numbers (va_cpy f_r1_numbers f_r1_numbers (Int32.toNatClampNeg p2) (Int32.toNatClampNeg p4) (Int32.toNatClampNeg p5)) r2 r2_width r2_size r2_numbers r2_numbers cA_r2_numbers f_r2_numbers r3 r3_width r3_size r3_numbers r3_numbers cA_r3_numbers f_r3_numbers r1 r1_width r1_size r1_numbers) := hD
                  rw [← ef_64] at hP hD
                  refine lv_iconst (v := 0) hx hb dX9_paste_112 (by decide) ?_
                  exact W.iret (v := 0) hx hb hr (fun t ht hW => by rw [← hQe]; exact ⟨⟨0, (), rfl, (by decide), ⟨f_r0_numbers, f_64, f_r2_numbers, f_r3_numbers, z_ret hP hK hD ht hW [0, 1, 2, 3, 9, 4, 5, 6, 7, 8] [] rfl (by decide) rfl⟩⟩, hS.F ht⟩) hS.2.2 dX9_paste_113
                · have ic_63 := zz_nne rfl (show Int32.toInt 0 = 0 from by decide) c_63
                  refine lv_bipush (v := (-7)) hx hb dX9_paste_91 (by decide) ?_
                  exact W.iret (v := (-7)) hx hb hr (fun t ht hW => by rw [← hQe]; exact ⟨⟨(-7), (), rfl, (by decide), ⟨f_r0_numbers, f_r1_numbers, f_r2_numbers, f_r3_numbers, z_ret hP hK hD ht hW [0, 1, 2, 3, 9, 4, 5, 6, 7, 8] [] rfl (by decide) rfl⟩⟩, hS.F ht⟩) hS.2.2 dX9_paste_93
            · have ic_58 := zz_nne rfl (show Int32.toInt 0 = 0 from by decide) c_58
              refine lv_bipush (v := (-6)) hx hb dX9_paste_49 (by decide) ?_
              exact W.iret (v := (-6)) hx hb hr (fun t ht hW => by rw [← hQe]; exact ⟨⟨(-6), (), rfl, (by decide), ⟨f_r0_numbers, f_r1_numbers, f_r2_numbers, f_r3_numbers, z_ret hP hK hD ht hW [0, 1, 2, 3, 9, 4, 5, 6, 7, 8] [] rfl (by decide) rfl⟩⟩, hS.F ht⟩) hS.2.2 dX9_paste_51
        · have zc_2 : Int32.toInt 2 = 2 := by decide
          refine va_aldq hx hb hK hP 1 0 rfl rfl (zi_in (show Int32.toInt 2 = 2 from by decide) (by decide)) dX9_paste_30 ?_
          refine W.eq (g2 := F0 m 31 ls (.ref r2 :: [])) (by rw [show f_sl (Int32.toNatClampNeg 2) = some r2 from (by rw [show Int32.toNatClampNeg 2 = 2 from by decide]; exact hsl2)]; rfl) ?_
          refine lv_astore (lv' := [(7, .ref r2), (6, .ref r1), (0, .ref h0), (1, .int 1), (2, .int p2), (3, .int 2), (4, .int p4), (5, .int p5)]) hx hb dX9_paste_31 hl (by decide) rfl (fun ls hl => ?_)
          refine lv_aload hx hb dX9_paste_33 (lv_at hl 1 rfl) ?_
          obtain ⟨hPc, hDc, hFc⟩ := z_cut (wc := (zV6 r1 r1_width r1_size r1_numbers)) hP hD hS hA [4] rfl (by decide +kernel)
          have hKc := hK.sub (tys' := []) [] rfl
          refine va_calli (va_runV (As := []) (rest := []) ⟨hx, hb, hml, hown, hts⟩ (k_X6_isThere l sa dC dI r1 r1_width r1_size r1_numbers b_r1_size H.size) (cwV 0 hts (z_gV zw_t5_222 zw_t5_223 zw_t5_224 zw_t1_10 zw_t5_225) rfl rfl rfl (by decide +kernel) (by rw [← hRe]; exact ⟨(Nat.le_of_ble_eq_true rfl), (Nat.le_of_ble_eq_true rfl)⟩)) (z_preV hPc hKc hDc hN hXs hS hFc (q := (RX6, TX6, 3)) (ci := 6) (q0 := 0) rfl rfl) rfl rfl hl.1 rfl (lv_room (Nat.le_of_ble_eq_true rfl)) dX9_paste_35 (by rw [← hRe]; exact ⟨(Nat.le_of_ble_eq_true rfl), (Nat.le_of_ble_eq_true rfl)⟩)) hS (fun q _ h => hFc q h) hFc (fun r_65 u t H1 locs ht hvm hw hB hz1 hk1 hS => ?_)
          obtain ⟨hP, hD, hK⟩ := z_after3 (wn := (zV75 h0 tp h0_tapeLength h0_faultKind h0_faultPlace nw im sl rd wk fm mt ch dy sl cA_sl f_sl r0 r0_width r0_size r0_numbers r0_numbers cA_r0_numbers f_r0_numbers r1_numbers cA_r1_numbers f_r1_numbers r2 r2_width r2_size r2_numbers r2_numbers cA_r2_numbers f_r2_numbers r3 r3_width r3_size r3_numbers r3_numbers cA_r3_numbers f_r3_numbers r1 r1_width r1_size r1_numbers)) hB ht hvm hP hD hK [4] [0, 1, 2, 3, 5, 6, 7, 8, 9] rfl 10 rfl (by decide +kernel) rfl (by decide +kernel) hk1 hFc
          generalize H1 = H at hP hS ⊢
          have hK : va_K (dC, dI) vwCl [(cA_sl, .object RX6), (cA_r0_numbers, .long), (cA_r1_numbers, .long), (cA_r2_numbers, .long), (cA_r3_numbers, .long)] s := hK
          have b_r_65 : 0 ≤ r_65.toInt ∧ r_65.toInt ≤ 1 := hw
          refine lv_if_eq (tgt := 49) hx hb dX9_paste_38 (by decide) (fun c_66 => ?_) (fun c_66 => ?_)
          · have ic_66 := zz_eq rfl (show Int32.toInt 0 = 0 from by decide) c_66
            refine lv_bipush (v := (-6)) hx hb dX9_paste_49 (by decide) ?_
            exact W.iret (v := (-6)) hx hb hr (fun t ht hW => by rw [← hQe]; exact ⟨⟨(-6), (), rfl, (by decide), ⟨f_r0_numbers, f_r1_numbers, f_r2_numbers, f_r3_numbers, z_ret hP hK hD ht hW [0, 1, 2, 3, 9, 4, 5, 6, 7, 8] [] rfl (by decide) rfl⟩⟩, hS.F ht⟩) hS.2.2 dX9_paste_51
          · have ic_66 := zz_neq rfl (show Int32.toInt 0 = 0 from by decide) c_66
            refine lv_aload hx hb dX9_paste_41 (lv_at hl 0 rfl) ?_
            obtain ⟨hPc, hDc, hFc⟩ := z_cut (wc := (zV6 r2 r2_width r2_size r2_numbers)) hP hD hS hA [5] rfl (by decide +kernel)
            have hKc := hK.sub (tys' := []) [] rfl
            refine va_calli (va_runV (As := []) (rest := []) ⟨hx, hb, hml, hown, hts⟩ (k_X6_isThere l sa dC dI r2 r2_width r2_size r2_numbers b_r2_size H.size) (cwV 0 hts (z_gV zw_t5_222 zw_t5_223 zw_t5_224 zw_t1_10 zw_t5_225) rfl rfl rfl (by decide +kernel) (by rw [← hRe]; exact ⟨(Nat.le_of_ble_eq_true rfl), (Nat.le_of_ble_eq_true rfl)⟩)) (z_preV hPc hKc hDc hN hXs hS hFc (q := (RX6, TX6, 3)) (ci := 6) (q0 := 0) rfl rfl) rfl rfl hl.1 rfl (lv_room (Nat.le_of_ble_eq_true rfl)) dX9_paste_43 (by rw [← hRe]; exact ⟨(Nat.le_of_ble_eq_true rfl), (Nat.le_of_ble_eq_true rfl)⟩)) hS (fun q _ h => hFc q h) hFc (fun r_67 u t H1 locs ht hvm hw hB hz1 hk1 hS => ?_)
            obtain ⟨hP, hD, hK⟩ := z_after3 (wn := (zV163 h0 tp h0_tapeLength h0_faultKind h0_faultPlace nw im sl rd wk fm mt ch dy sl cA_sl f_sl r0 r0_width r0_size r0_numbers r0_numbers cA_r0_numbers f_r0_numbers r1_numbers cA_r1_numbers f_r1_numbers r2_numbers cA_r2_numbers f_r2_numbers r3 r3_width r3_size r3_numbers r3_numbers cA_r3_numbers f_r3_numbers r1 r1_width r1_size r1_numbers r2 r2_width r2_size r2_numbers)) hB ht hvm hP hD hK [5] [0, 1, 2, 3, 4, 6, 7, 8, 9] rfl 10 rfl (by decide +kernel) rfl (by decide +kernel) hk1 hFc
            generalize H1 = H at hP hS ⊢
            have hK : va_K (dC, dI) vwCl [(cA_sl, .object RX6), (cA_r0_numbers, .long), (cA_r1_numbers, .long), (cA_r2_numbers, .long), (cA_r3_numbers, .long)] s := hK
            have b_r_67 : 0 ≤ r_67.toInt ∧ r_67.toInt ≤ 1 := hw
            refine lv_if_ne (tgt := 52) hx hb dX9_paste_46 (by decide) (fun c_68 => ?_) (fun c_68 => ?_)
            · have ic_68 := zz_ne rfl (show Int32.toInt 0 = 0 from by decide) c_68
              refine lv_aload hx hb dX9_paste_52 (lv_at hl 1 rfl) ?_
              refine va_get (D := (dC, dI)) (ci := 6) (v := .int r1_width) (C := RX6) (T := TX6) (N := 3) hx hb hts zl_X6 hown hK hP 8 rfl rfl 0 (by decide) (hts _ zw_t2_176) (fun _ h9 => h9) rfl dX9_paste_54 ?_
              refine lv_aload hx hb dX9_paste_57 (lv_at hl 0 rfl) ?_
              refine va_get (D := (dC, dI)) (ci := 6) (v := .int r2_width) (C := RX6) (T := TX6) (N := 3) hx hb hts zl_X6 hown hK hP 9 rfl rfl 0 (by decide) (hts _ zw_t2_176) (fun _ h9 => h9) rfl dX9_paste_59 ?_
              have nb_r1_width := zi_nb r1_width
              have nb_r2_width := zi_nb r2_width
              refine lv_icmp_eq (tgt := 68) hx hb dX9_paste_62 (by decide) (fun c_69 => ?_) (fun c_69 => ?_)
              · have ic_69 := zz_eq rfl rfl c_69
                refine lv_aload hx hb dX9_paste_68 (lv_at hl 1 rfl) ?_
                refine lv_iload_n hx hb dX9_paste_70 rfl (lv_at hl 4 rfl) ?_
                refine lv_iload hx hb dX9_paste_71 (lv_at hl 7 rfl) ?_
                obtain ⟨hPc, hDc, hFc⟩ := z_cut (wc := (zV6 r1 r1_width r1_size r1_numbers)) hP hD hS hA [8] rfl (by decide +kernel)
                have hKc := hK.sub (tys' := []) [] rfl
                refine va_calli (va_runV (As := [.int p2, .int p5]) (rest := []) ⟨hx, hb, hml, hown, hts⟩ (k_X6_hasSpan l sa dC dI r1 p2 p5 r1_width r1_size r1_numbers b_r1_size H.size) (cwV 2 hts (z_gV zw_t6_80 zw_t6_81 zw_t6_82 zw_t1_10 zw_t6_83) rfl rfl rfl (by decide +kernel) (by rw [← hRe]; exact ⟨(Nat.le_of_ble_eq_true rfl), (Nat.le_of_ble_eq_true rfl)⟩)) (z_preV hPc hKc hDc hN hXs hS hFc (q := (RX6, TX6, 3)) (ci := 6) (q0 := 0) rfl rfl) rfl rfl hl.1 rfl (lv_room (Nat.le_of_ble_eq_true rfl)) dX9_paste_73 (by rw [← hRe]; exact ⟨(Nat.le_of_ble_eq_true rfl), (Nat.le_of_ble_eq_true rfl)⟩)) hS (fun q _ h => hFc q h) hFc (fun r_70 u t H1 locs ht hvm hw hB hz1 hk1 hS => ?_)
                obtain ⟨hP, hD, hK⟩ := z_after3 (wn := (zV163 h0 tp h0_tapeLength h0_faultKind h0_faultPlace nw im sl rd wk fm mt ch dy sl cA_sl f_sl r0 r0_width r0_size r0_numbers r0_numbers cA_r0_numbers f_r0_numbers r1_numbers cA_r1_numbers f_r1_numbers r2_numbers cA_r2_numbers f_r2_numbers r3 r3_width r3_size r3_numbers r3_numbers cA_r3_numbers f_r3_numbers r2 r2_width r2_size r2_numbers r1 r1_width r1_size r1_numbers)) hB ht hvm hP hD hK [8] [0, 1, 2, 3, 4, 5, 6, 7, 9] rfl 10 rfl (by decide +kernel) rfl (by decide +kernel) hk1 hFc
                generalize H1 = H at hP hS ⊢
                have hK : va_K (dC, dI) vwCl [(cA_sl, .object RX6), (cA_r0_numbers, .long), (cA_r1_numbers, .long), (cA_r2_numbers, .long), (cA_r3_numbers, .long)] s := hK
                have b_r_70 : 0 ≤ r_70.toInt ∧ r_70.toInt ≤ 1 := hw.1
                have s_r_70 := hw.2
                refine lv_if_eq (tgt := 91) hx hb dX9_paste_76 (by decide) (fun c_71 => ?_) (fun c_71 => ?_)
                · have ic_71 := zz_eq rfl (show Int32.toInt 0 = 0 from by decide) c_71
                  refine lv_bipush (v := (-7)) hx hb dX9_paste_91 (by decide) ?_
                  exact W.iret (v := (-7)) hx hb hr (fun t ht hW => by rw [← hQe]; exact ⟨⟨(-7), (), rfl, (by decide), ⟨f_r0_numbers, f_r1_numbers, f_r2_numbers, f_r3_numbers, z_ret hP hK hD ht hW [0, 1, 2, 3, 9, 4, 8, 5, 6, 7] [] rfl (by decide) rfl⟩⟩, hS.F ht⟩) hS.2.2 dX9_paste_93
                · have ic_71 := zz_neq rfl (show Int32.toInt 0 = 0 from by decide) c_71
                  refine lv_aload hx hb dX9_paste_79 (lv_at hl 0 rfl) ?_
                  refine lv_iload hx hb dX9_paste_81 (lv_at hl 6 rfl) ?_
                  refine lv_iload hx hb dX9_paste_83 (lv_at hl 7 rfl) ?_
                  obtain ⟨hPc, hDc, hFc⟩ := z_cut (wc := (zV6 r2 r2_width r2_size r2_numbers)) hP hD hS hA [8] rfl (by decide +kernel)
                  have hKc := hK.sub (tys' := []) [] rfl
                  refine va_calli (va_runV (As := [.int p4, .int p5]) (rest := []) ⟨hx, hb, hml, hown, hts⟩ (k_X6_hasSpan l sa dC dI r2 p4 p5 r2_width r2_size r2_numbers b_r2_size H.size) (cwV 2 hts (z_gV zw_t6_80 zw_t6_81 zw_t6_82 zw_t1_10 zw_t6_83) rfl rfl rfl (by decide +kernel) (by rw [← hRe]; exact ⟨(Nat.le_of_ble_eq_true rfl), (Nat.le_of_ble_eq_true rfl)⟩)) (z_preV hPc hKc hDc hN hXs hS hFc (q := (RX6, TX6, 3)) (ci := 6) (q0 := 0) rfl rfl) rfl rfl hl.1 rfl (lv_room (Nat.le_of_ble_eq_true rfl)) dX9_paste_85 (by rw [← hRe]; exact ⟨(Nat.le_of_ble_eq_true rfl), (Nat.le_of_ble_eq_true rfl)⟩)) hS (fun q _ h => hFc q h) hFc (fun r_72 u t H1 locs ht hvm hw hB hz1 hk1 hS => ?_)
                  obtain ⟨hP, hD, hK⟩ := z_after3 (wn := (zV163 h0 tp h0_tapeLength h0_faultKind h0_faultPlace nw im sl rd wk fm mt ch dy sl cA_sl f_sl r0 r0_width r0_size r0_numbers r0_numbers cA_r0_numbers f_r0_numbers r1_numbers cA_r1_numbers f_r1_numbers r2_numbers cA_r2_numbers f_r2_numbers r3 r3_width r3_size r3_numbers r3_numbers cA_r3_numbers f_r3_numbers r1 r1_width r1_size r1_numbers r2 r2_width r2_size r2_numbers)) hB ht hvm hP hD hK [8] [0, 1, 2, 3, 4, 5, 6, 7, 9] rfl 10 rfl (by decide +kernel) rfl (by decide +kernel) hk1 hFc
                  generalize H1 = H at hP hS ⊢
                  have hK : va_K (dC, dI) vwCl [(cA_sl, .object RX6), (cA_r0_numbers, .long), (cA_r1_numbers, .long), (cA_r2_numbers, .long), (cA_r3_numbers, .long)] s := hK
                  have b_r_72 : 0 ≤ r_72.toInt ∧ r_72.toInt ≤ 1 := hw.1
                  have s_r_72 := hw.2
                  refine lv_if_ne (tgt := 94) hx hb dX9_paste_88 (by decide) (fun c_73 => ?_) (fun c_73 => ?_)
                  · have ic_73 := zz_ne rfl (show Int32.toInt 0 = 0 from by decide) c_73
                    refine lv_aload hx hb dX9_paste_94 (lv_at hl 1 rfl) ?_
                    refine va_get (D := (dC, dI)) (ci := 6) (v := .ref r1_numbers) (C := RX6) (T := TX6) (N := 3) hx hb hts zl_X6 hown hK hP 8 rfl rfl 2 (by decide) (hts _ zw_t2_181) (fun _ h9 => h9) rfl dX9_paste_96 ?_
                    refine lv_iload_n hx hb dX9_paste_99 rfl (lv_at hl 4 rfl) ?_
                    refine lv_aload hx hb dX9_paste_100 (lv_at hl 0 rfl) ?_
                    refine va_get (D := (dC, dI)) (ci := 6) (v := .ref r2_numbers) (C := RX6) (T := TX6) (N := 3) hx hb hts zl_X6 hown hK hP 9 rfl rfl 2 (by decide) (hts _ zw_t2_181) (fun _ h9 => h9) rfl dX9_paste_102 ?_
                    refine lv_iload hx hb dX9_paste_105 (lv_at hl 6 rfl) ?_
                    refine lv_iload hx hb dX9_paste_107 (lv_at hl 7 rfl) ?_
                    have kc_p2 := zi_clamp (x := p2) rfl (by first | with_reducible assumption | omega)
                    have kc_p4 := zi_clamp (x := p4) rfl (by first | with_reducible assumption | omega)
                    have kc_p5 := zi_clamp (x := p5) rfl (by first | with_reducible assumption | omega)
                    refine va_copyl hx hb (by rw [hml]; exact hl.1.symm) hown (hts _ zw_t6_92) (hts _ zw_t4_39) (hts _ zw_t4_38) (hts _ zw_t1_18) hK hP hD hS 4 5 2 3 rfl rfl rfl rfl rfl (fun q => absurd (z_lt (k := 0) (by decide) q) (by first | with_reducible assumption | omega)) (fun q => absurd (z_lt (k := 0) (by decide) q) (by first | with_reducible assumption | omega)) (fun q => absurd (z_lt (k := 0) (by decide) q) (by first | with_reducible assumption | omega)) (by first | with_reducible assumption | omega) (by first | with_reducible assumption | omega) (fun _ _ => rfl) (by rw [← hRe]; exact (Nat.le_of_ble_eq_true rfl)) (by rw [← hRe]; exact (Nat.le_of_ble_eq_true rfl)) dX9_paste_109 (fun H locs hP hD hS => ?_)
                    obtain ⟨f_74, ef_74⟩ : ∃ g : Nat → Int64, g = va_cpy f_r1_numbers f_r2_numbers (Int32.toNatClampNeg p2) (Int32.toNatClampNeg p4) (Int32.toNatClampNeg p5) := ⟨_, rfl⟩
                    have hP : va_P (dC, dI) vwCl (zV163 h0 tp h0_tapeLength h0_faultKind h0_faultPlace nw im sl rd wk fm mt ch dy sl cA_sl f_sl r0 r0_width r0_size r0_numbers r0_numbers cA_r0_numbers f_r0_numbers r1_numbers cA_r1_numbers f_r1_numbers r2_numbers cA_r2_numbers (va_cpy f_r1_numbers f_r2_numbers (Int32.toNatClampNeg p2) (Int32.toNatClampNeg p4) (Int32.toNatClampNeg p5)) r3 r3_width r3_size r3_numbers r3_numbers cA_r3_numbers f_r3_numbers r1 r1_width r1_size r1_numbers r2 r2_width r2_size r2_numbers) H := hP
                    have hD : va_D A (zV163 h0 tp h0_tapeLength h0_faultKind h0_faultPlace nw im sl rd wk fm mt ch dy sl cA_sl f_sl r0 r0_width r0_size r0_numbers r0_numbers cA_r0_numbers f_r0_numbers r1_numbers cA_r1_numbers f_r1_numbers r2_numbers cA_r2_numbers (va_cpy f_r1_numbers f_r2_numbers (Int32.toNatClampNeg p2) (Int32.toNatClampNeg p4) (Int32.toNatClampNeg p5)) r3 r3_width r3_size r3_numbers r3_numbers cA_r3_numbers f_r3_numbers r1 r1_width r1_size r1_numbers r2 r2_width r2_size r2_numbers) := hD
                    rw [← ef_74] at hP hD
                    refine lv_iconst (v := 0) hx hb dX9_paste_112 (by decide) ?_
                    exact W.iret (v := 0) hx hb hr (fun t ht hW => by rw [← hQe]; exact ⟨⟨0, (), rfl, (by decide), ⟨f_r0_numbers, f_r1_numbers, f_74, f_r3_numbers, z_ret hP hK hD ht hW [0, 1, 2, 3, 8, 4, 9, 5, 6, 7] [] rfl (by decide) rfl⟩⟩, hS.F ht⟩) hS.2.2 dX9_paste_113
                  · have ic_73 := zz_nne rfl (show Int32.toInt 0 = 0 from by decide) c_73
                    refine lv_bipush (v := (-7)) hx hb dX9_paste_91 (by decide) ?_
                    exact W.iret (v := (-7)) hx hb hr (fun t ht hW => by rw [← hQe]; exact ⟨⟨(-7), (), rfl, (by decide), ⟨f_r0_numbers, f_r1_numbers, f_r2_numbers, f_r3_numbers, z_ret hP hK hD ht hW [0, 1, 2, 3, 8, 4, 9, 5, 6, 7] [] rfl (by decide) rfl⟩⟩, hS.F ht⟩) hS.2.2 dX9_paste_93
              · have ic_69 := zz_neq rfl rfl c_69
                refine lv_bipush (v := (-8)) hx hb dX9_paste_65 (by decide) ?_
                exact W.iret (v := (-8)) hx hb hr (fun t ht hW => by rw [← hQe]; exact ⟨⟨(-8), (), rfl, (by decide), ⟨f_r0_numbers, f_r1_numbers, f_r2_numbers, f_r3_numbers, z_ret hP hK hD ht hW [0, 1, 2, 3, 8, 4, 9, 5, 6, 7] [] rfl (by decide) rfl⟩⟩, hS.F ht⟩) hS.2.2 dX9_paste_67
            · have ic_68 := zz_nne rfl (show Int32.toInt 0 = 0 from by decide) c_68
              refine lv_bipush (v := (-6)) hx hb dX9_paste_49 (by decide) ?_
              exact W.iret (v := (-6)) hx hb hr (fun t ht hW => by rw [← hQe]; exact ⟨⟨(-6), (), rfl, (by decide), ⟨f_r0_numbers, f_r1_numbers, f_r2_numbers, f_r3_numbers, z_ret hP hK hD ht hW [0, 1, 2, 3, 8, 4, 9, 5, 6, 7] [] rfl (by decide) rfl⟩⟩, hS.F ht⟩) hS.2.2 dX9_paste_51
        · have zc_3 : Int32.toInt 3 = 3 := by decide
          refine va_aldq hx hb hK hP 1 0 rfl rfl (zi_in (show Int32.toInt 3 = 3 from by decide) (by decide)) dX9_paste_30 ?_
          refine W.eq (g2 := F0 m 31 ls (.ref r3 :: [])) (by rw [show f_sl (Int32.toNatClampNeg 3) = some r3 from (by rw [show Int32.toNatClampNeg 3 = 3 from by decide]; exact hsl3)]; rfl) ?_
          refine lv_astore (lv' := [(7, .ref r3), (6, .ref r1), (0, .ref h0), (1, .int 1), (2, .int p2), (3, .int 3), (4, .int p4), (5, .int p5)]) hx hb dX9_paste_31 hl (by decide) rfl (fun ls hl => ?_)
          refine lv_aload hx hb dX9_paste_33 (lv_at hl 1 rfl) ?_
          obtain ⟨hPc, hDc, hFc⟩ := z_cut (wc := (zV6 r1 r1_width r1_size r1_numbers)) hP hD hS hA [4] rfl (by decide +kernel)
          have hKc := hK.sub (tys' := []) [] rfl
          refine va_calli (va_runV (As := []) (rest := []) ⟨hx, hb, hml, hown, hts⟩ (k_X6_isThere l sa dC dI r1 r1_width r1_size r1_numbers b_r1_size H.size) (cwV 0 hts (z_gV zw_t5_222 zw_t5_223 zw_t5_224 zw_t1_10 zw_t5_225) rfl rfl rfl (by decide +kernel) (by rw [← hRe]; exact ⟨(Nat.le_of_ble_eq_true rfl), (Nat.le_of_ble_eq_true rfl)⟩)) (z_preV hPc hKc hDc hN hXs hS hFc (q := (RX6, TX6, 3)) (ci := 6) (q0 := 0) rfl rfl) rfl rfl hl.1 rfl (lv_room (Nat.le_of_ble_eq_true rfl)) dX9_paste_35 (by rw [← hRe]; exact ⟨(Nat.le_of_ble_eq_true rfl), (Nat.le_of_ble_eq_true rfl)⟩)) hS (fun q _ h => hFc q h) hFc (fun r_75 u t H1 locs ht hvm hw hB hz1 hk1 hS => ?_)
          obtain ⟨hP, hD, hK⟩ := z_after3 (wn := (zV75 h0 tp h0_tapeLength h0_faultKind h0_faultPlace nw im sl rd wk fm mt ch dy sl cA_sl f_sl r0 r0_width r0_size r0_numbers r0_numbers cA_r0_numbers f_r0_numbers r1_numbers cA_r1_numbers f_r1_numbers r2 r2_width r2_size r2_numbers r2_numbers cA_r2_numbers f_r2_numbers r3 r3_width r3_size r3_numbers r3_numbers cA_r3_numbers f_r3_numbers r1 r1_width r1_size r1_numbers)) hB ht hvm hP hD hK [4] [0, 1, 2, 3, 5, 6, 7, 8, 9] rfl 10 rfl (by decide +kernel) rfl (by decide +kernel) hk1 hFc
          generalize H1 = H at hP hS ⊢
          have hK : va_K (dC, dI) vwCl [(cA_sl, .object RX6), (cA_r0_numbers, .long), (cA_r1_numbers, .long), (cA_r2_numbers, .long), (cA_r3_numbers, .long)] s := hK
          have b_r_75 : 0 ≤ r_75.toInt ∧ r_75.toInt ≤ 1 := hw
          refine lv_if_eq (tgt := 49) hx hb dX9_paste_38 (by decide) (fun c_76 => ?_) (fun c_76 => ?_)
          · have ic_76 := zz_eq rfl (show Int32.toInt 0 = 0 from by decide) c_76
            refine lv_bipush (v := (-6)) hx hb dX9_paste_49 (by decide) ?_
            exact W.iret (v := (-6)) hx hb hr (fun t ht hW => by rw [← hQe]; exact ⟨⟨(-6), (), rfl, (by decide), ⟨f_r0_numbers, f_r1_numbers, f_r2_numbers, f_r3_numbers, z_ret hP hK hD ht hW [0, 1, 2, 3, 9, 4, 5, 6, 7, 8] [] rfl (by decide) rfl⟩⟩, hS.F ht⟩) hS.2.2 dX9_paste_51
          · have ic_76 := zz_neq rfl (show Int32.toInt 0 = 0 from by decide) c_76
            refine lv_aload hx hb dX9_paste_41 (lv_at hl 0 rfl) ?_
            obtain ⟨hPc, hDc, hFc⟩ := z_cut (wc := (zV6 r3 r3_width r3_size r3_numbers)) hP hD hS hA [7] rfl (by decide +kernel)
            have hKc := hK.sub (tys' := []) [] rfl
            refine va_calli (va_runV (As := []) (rest := []) ⟨hx, hb, hml, hown, hts⟩ (k_X6_isThere l sa dC dI r3 r3_width r3_size r3_numbers b_r3_size H.size) (cwV 0 hts (z_gV zw_t5_222 zw_t5_223 zw_t5_224 zw_t1_10 zw_t5_225) rfl rfl rfl (by decide +kernel) (by rw [← hRe]; exact ⟨(Nat.le_of_ble_eq_true rfl), (Nat.le_of_ble_eq_true rfl)⟩)) (z_preV hPc hKc hDc hN hXs hS hFc (q := (RX6, TX6, 3)) (ci := 6) (q0 := 0) rfl rfl) rfl rfl hl.1 rfl (lv_room (Nat.le_of_ble_eq_true rfl)) dX9_paste_43 (by rw [← hRe]; exact ⟨(Nat.le_of_ble_eq_true rfl), (Nat.le_of_ble_eq_true rfl)⟩)) hS (fun q _ h => hFc q h) hFc (fun r_77 u t H1 locs ht hvm hw hB hz1 hk1 hS => ?_)
            obtain ⟨hP, hD, hK⟩ := z_after3 (wn := (zV164 h0 tp h0_tapeLength h0_faultKind h0_faultPlace nw im sl rd wk fm mt ch dy sl cA_sl f_sl r0 r0_width r0_size r0_numbers r0_numbers cA_r0_numbers f_r0_numbers r1_numbers cA_r1_numbers f_r1_numbers r2 r2_width r2_size r2_numbers r2_numbers cA_r2_numbers f_r2_numbers r3_numbers cA_r3_numbers f_r3_numbers r1 r1_width r1_size r1_numbers r3 r3_width r3_size r3_numbers)) hB ht hvm hP hD hK [7] [0, 1, 2, 3, 4, 5, 6, 8, 9] rfl 10 rfl (by decide +kernel) rfl (by decide +kernel) hk1 hFc
            generalize H1 = H at hP hS ⊢
            have hK : va_K (dC, dI) vwCl [(cA_sl, .object RX6), (cA_r0_numbers, .long), (cA_r1_numbers, .long), (cA_r2_numbers, .long), (cA_r3_numbers, .long)] s := hK
            have b_r_77 : 0 ≤ r_77.toInt ∧ r_77.toInt ≤ 1 := hw
            refine lv_if_ne (tgt := 52) hx hb dX9_paste_46 (by decide) (fun c_78 => ?_) (fun c_78 => ?_)
            · have ic_78 := zz_ne rfl (show Int32.toInt 0 = 0 from by decide) c_78
              refine lv_aload hx hb dX9_paste_52 (lv_at hl 1 rfl) ?_
              refine va_get (D := (dC, dI)) (ci := 6) (v := .int r1_width) (C := RX6) (T := TX6) (N := 3) hx hb hts zl_X6 hown hK hP 8 rfl rfl 0 (by decide) (hts _ zw_t2_176) (fun _ h9 => h9) rfl dX9_paste_54 ?_
              refine lv_aload hx hb dX9_paste_57 (lv_at hl 0 rfl) ?_
              refine va_get (D := (dC, dI)) (ci := 6) (v := .int r3_width) (C := RX6) (T := TX6) (N := 3) hx hb hts zl_X6 hown hK hP 9 rfl rfl 0 (by decide) (hts _ zw_t2_176) (fun _ h9 => h9) rfl dX9_paste_59 ?_
              have nb_r1_width := zi_nb r1_width
              have nb_r3_width := zi_nb r3_width
              refine lv_icmp_eq (tgt := 68) hx hb dX9_paste_62 (by decide) (fun c_79 => ?_) (fun c_79 => ?_)
              · have ic_79 := zz_eq rfl rfl c_79
                refine lv_aload hx hb dX9_paste_68 (lv_at hl 1 rfl) ?_
                refine lv_iload_n hx hb dX9_paste_70 rfl (lv_at hl 4 rfl) ?_
                refine lv_iload hx hb dX9_paste_71 (lv_at hl 7 rfl) ?_
                obtain ⟨hPc, hDc, hFc⟩ := z_cut (wc := (zV6 r1 r1_width r1_size r1_numbers)) hP hD hS hA [8] rfl (by decide +kernel)
                have hKc := hK.sub (tys' := []) [] rfl
                refine va_calli (va_runV (As := [.int p2, .int p5]) (rest := []) ⟨hx, hb, hml, hown, hts⟩ (k_X6_hasSpan l sa dC dI r1 p2 p5 r1_width r1_size r1_numbers b_r1_size H.size) (cwV 2 hts (z_gV zw_t6_80 zw_t6_81 zw_t6_82 zw_t1_10 zw_t6_83) rfl rfl rfl (by decide +kernel) (by rw [← hRe]; exact ⟨(Nat.le_of_ble_eq_true rfl), (Nat.le_of_ble_eq_true rfl)⟩)) (z_preV hPc hKc hDc hN hXs hS hFc (q := (RX6, TX6, 3)) (ci := 6) (q0 := 0) rfl rfl) rfl rfl hl.1 rfl (lv_room (Nat.le_of_ble_eq_true rfl)) dX9_paste_73 (by rw [← hRe]; exact ⟨(Nat.le_of_ble_eq_true rfl), (Nat.le_of_ble_eq_true rfl)⟩)) hS (fun q _ h => hFc q h) hFc (fun r_80 u t H1 locs ht hvm hw hB hz1 hk1 hS => ?_)
                obtain ⟨hP, hD, hK⟩ := z_after3 (wn := (zV164 h0 tp h0_tapeLength h0_faultKind h0_faultPlace nw im sl rd wk fm mt ch dy sl cA_sl f_sl r0 r0_width r0_size r0_numbers r0_numbers cA_r0_numbers f_r0_numbers r1_numbers cA_r1_numbers f_r1_numbers r2 r2_width r2_size r2_numbers r2_numbers cA_r2_numbers f_r2_numbers r3_numbers cA_r3_numbers f_r3_numbers r3 r3_width r3_size r3_numbers r1 r1_width r1_size r1_numbers)) hB ht hvm hP hD hK [8] [0, 1, 2, 3, 4, 5, 6, 7, 9] rfl 10 rfl (by decide +kernel) rfl (by decide +kernel) hk1 hFc
                generalize H1 = H at hP hS ⊢
                have hK : va_K (dC, dI) vwCl [(cA_sl, .object RX6), (cA_r0_numbers, .long), (cA_r1_numbers, .long), (cA_r2_numbers, .long), (cA_r3_numbers, .long)] s := hK
                have b_r_80 : 0 ≤ r_80.toInt ∧ r_80.toInt ≤ 1 := hw.1
                have s_r_80 := hw.2
                refine lv_if_eq (tgt := 91) hx hb dX9_paste_76 (by decide) (fun c_81 => ?_) (fun c_81 => ?_)
                · have ic_81 := zz_eq rfl (show Int32.toInt 0 = 0 from by decide) c_81
                  refine lv_bipush (v := (-7)) hx hb dX9_paste_91 (by decide) ?_
                  exact W.iret (v := (-7)) hx hb hr (fun t ht hW => by rw [← hQe]; exact ⟨⟨(-7), (), rfl, (by decide), ⟨f_r0_numbers, f_r1_numbers, f_r2_numbers, f_r3_numbers, z_ret hP hK hD ht hW [0, 1, 2, 3, 9, 4, 5, 6, 8, 7] [] rfl (by decide) rfl⟩⟩, hS.F ht⟩) hS.2.2 dX9_paste_93
                · have ic_81 := zz_neq rfl (show Int32.toInt 0 = 0 from by decide) c_81
                  refine lv_aload hx hb dX9_paste_79 (lv_at hl 0 rfl) ?_
                  refine lv_iload hx hb dX9_paste_81 (lv_at hl 6 rfl) ?_
                  refine lv_iload hx hb dX9_paste_83 (lv_at hl 7 rfl) ?_
                  obtain ⟨hPc, hDc, hFc⟩ := z_cut (wc := (zV6 r3 r3_width r3_size r3_numbers)) hP hD hS hA [8] rfl (by decide +kernel)
                  have hKc := hK.sub (tys' := []) [] rfl
                  refine va_calli (va_runV (As := [.int p4, .int p5]) (rest := []) ⟨hx, hb, hml, hown, hts⟩ (k_X6_hasSpan l sa dC dI r3 p4 p5 r3_width r3_size r3_numbers b_r3_size H.size) (cwV 2 hts (z_gV zw_t6_80 zw_t6_81 zw_t6_82 zw_t1_10 zw_t6_83) rfl rfl rfl (by decide +kernel) (by rw [← hRe]; exact ⟨(Nat.le_of_ble_eq_true rfl), (Nat.le_of_ble_eq_true rfl)⟩)) (z_preV hPc hKc hDc hN hXs hS hFc (q := (RX6, TX6, 3)) (ci := 6) (q0 := 0) rfl rfl) rfl rfl hl.1 rfl (lv_room (Nat.le_of_ble_eq_true rfl)) dX9_paste_85 (by rw [← hRe]; exact ⟨(Nat.le_of_ble_eq_true rfl), (Nat.le_of_ble_eq_true rfl)⟩)) hS (fun q _ h => hFc q h) hFc (fun r_82 u t H1 locs ht hvm hw hB hz1 hk1 hS => ?_)
                  obtain ⟨hP, hD, hK⟩ := z_after3 (wn := (zV164 h0 tp h0_tapeLength h0_faultKind h0_faultPlace nw im sl rd wk fm mt ch dy sl cA_sl f_sl r0 r0_width r0_size r0_numbers r0_numbers cA_r0_numbers f_r0_numbers r1_numbers cA_r1_numbers f_r1_numbers r2 r2_width r2_size r2_numbers r2_numbers cA_r2_numbers f_r2_numbers r3_numbers cA_r3_numbers f_r3_numbers r1 r1_width r1_size r1_numbers r3 r3_width r3_size r3_numbers)) hB ht hvm hP hD hK [8] [0, 1, 2, 3, 4, 5, 6, 7, 9] rfl 10 rfl (by decide +kernel) rfl (by decide +kernel) hk1 hFc
                  generalize H1 = H at hP hS ⊢
                  have hK : va_K (dC, dI) vwCl [(cA_sl, .object RX6), (cA_r0_numbers, .long), (cA_r1_numbers, .long), (cA_r2_numbers, .long), (cA_r3_numbers, .long)] s := hK
                  have b_r_82 : 0 ≤ r_82.toInt ∧ r_82.toInt ≤ 1 := hw.1
                  have s_r_82 := hw.2
                  refine lv_if_ne (tgt := 94) hx hb dX9_paste_88 (by decide) (fun c_83 => ?_) (fun c_83 => ?_)
                  · have ic_83 := zz_ne rfl (show Int32.toInt 0 = 0 from by decide) c_83
                    refine lv_aload hx hb dX9_paste_94 (lv_at hl 1 rfl) ?_
                    refine va_get (D := (dC, dI)) (ci := 6) (v := .ref r1_numbers) (C := RX6) (T := TX6) (N := 3) hx hb hts zl_X6 hown hK hP 8 rfl rfl 2 (by decide) (hts _ zw_t2_181) (fun _ h9 => h9) rfl dX9_paste_96 ?_
                    refine lv_iload_n hx hb dX9_paste_99 rfl (lv_at hl 4 rfl) ?_
                    refine lv_aload hx hb dX9_paste_100 (lv_at hl 0 rfl) ?_
                    refine va_get (D := (dC, dI)) (ci := 6) (v := .ref r3_numbers) (C := RX6) (T := TX6) (N := 3) hx hb hts zl_X6 hown hK hP 9 rfl rfl 2 (by decide) (hts _ zw_t2_181) (fun _ h9 => h9) rfl dX9_paste_102 ?_
                    refine lv_iload hx hb dX9_paste_105 (lv_at hl 6 rfl) ?_
                    refine lv_iload hx hb dX9_paste_107 (lv_at hl 7 rfl) ?_
                    have kc_p2 := zi_clamp (x := p2) rfl (by first | with_reducible assumption | omega)
                    have kc_p4 := zi_clamp (x := p4) rfl (by first | with_reducible assumption | omega)
                    have kc_p5 := zi_clamp (x := p5) rfl (by first | with_reducible assumption | omega)
                    refine va_copyl hx hb (by rw [hml]; exact hl.1.symm) hown (hts _ zw_t6_92) (hts _ zw_t4_39) (hts _ zw_t4_38) (hts _ zw_t1_18) hK hP hD hS 4 7 2 4 rfl rfl rfl rfl rfl (fun q => absurd (z_lt (k := 0) (by decide) q) (by first | with_reducible assumption | omega)) (fun q => absurd (z_lt (k := 0) (by decide) q) (by first | with_reducible assumption | omega)) (fun q => absurd (z_lt (k := 0) (by decide) q) (by first | with_reducible assumption | omega)) (by first | with_reducible assumption | omega) (by first | with_reducible assumption | omega) (fun _ _ => rfl) (by rw [← hRe]; exact (Nat.le_of_ble_eq_true rfl)) (by rw [← hRe]; exact (Nat.le_of_ble_eq_true rfl)) dX9_paste_109 (fun H locs hP hD hS => ?_)
                    obtain ⟨f_84, ef_84⟩ : ∃ g : Nat → Int64, g = va_cpy f_r1_numbers f_r3_numbers (Int32.toNatClampNeg p2) (Int32.toNatClampNeg p4) (Int32.toNatClampNeg p5) := ⟨_, rfl⟩
                    have hP : va_P (dC, dI) vwCl (zV164 h0 tp h0_tapeLength h0_faultKind h0_faultPlace nw im sl rd wk fm mt ch dy sl cA_sl f_sl r0 r0_width r0_size r0_numbers r0_numbers cA_r0_numbers f_r0_numbers r1_numbers cA_r1_numbers f_r1_numbers r2 r2_width r2_size r2_numbers r2_numbers cA_r2_numbers f_r2_numbers r3_numbers cA_r3_numbers (va_cpy f_r1_numbers f_r3_numbers (Int32.toNatClampNeg p2) (Int32.toNatClampNeg p4) (Int32.toNatClampNeg p5)) r1 r1_width r1_size r1_numbers r3 r3_width r3_size r3_numbers) H := hP
                    have hD : va_D A (zV164 h0 tp h0_tapeLength h0_faultKind h0_faultPlace nw im sl rd wk fm mt ch dy sl cA_sl f_sl r0 r0_width r0_size r0_numbers r0_numbers cA_r0_numbers f_r0_numbers r1_numbers cA_r1_numbers f_r1_numbers r2 r2_width r2_size r2_numbers r2_numbers cA_r2_numbers f_r2_numbers r3_numbers cA_r3_numbers (va_cpy f_r1_numbers f_r3_numbers (Int32.toNatClampNeg p2) (Int32.toNatClampNeg p4) (Int32.toNatClampNeg p5)) r1 r1_width r1_size r1_numbers r3 r3_width r3_size r3_numbers) := hD
                    rw [← ef_84] at hP hD
                    refine lv_iconst (v := 0) hx hb dX9_paste_112 (by decide) ?_
                    exact W.iret (v := 0) hx hb hr (fun t ht hW => by rw [← hQe]; exact ⟨⟨0, (), rfl, (by decide), ⟨f_r0_numbers, f_r1_numbers, f_r2_numbers, f_84, z_ret hP hK hD ht hW [0, 1, 2, 3, 8, 4, 5, 6, 9, 7] [] rfl (by decide) rfl⟩⟩, hS.F ht⟩) hS.2.2 dX9_paste_113
                  · have ic_83 := zz_nne rfl (show Int32.toInt 0 = 0 from by decide) c_83
                    refine lv_bipush (v := (-7)) hx hb dX9_paste_91 (by decide) ?_
                    exact W.iret (v := (-7)) hx hb hr (fun t ht hW => by rw [← hQe]; exact ⟨⟨(-7), (), rfl, (by decide), ⟨f_r0_numbers, f_r1_numbers, f_r2_numbers, f_r3_numbers, z_ret hP hK hD ht hW [0, 1, 2, 3, 8, 4, 5, 6, 9, 7] [] rfl (by decide) rfl⟩⟩, hS.F ht⟩) hS.2.2 dX9_paste_93
              · have ic_79 := zz_neq rfl rfl c_79
                refine lv_bipush (v := (-8)) hx hb dX9_paste_65 (by decide) ?_
                exact W.iret (v := (-8)) hx hb hr (fun t ht hW => by rw [← hQe]; exact ⟨⟨(-8), (), rfl, (by decide), ⟨f_r0_numbers, f_r1_numbers, f_r2_numbers, f_r3_numbers, z_ret hP hK hD ht hW [0, 1, 2, 3, 8, 4, 5, 6, 9, 7] [] rfl (by decide) rfl⟩⟩, hS.F ht⟩) hS.2.2 dX9_paste_67
            · have ic_78 := zz_nne rfl (show Int32.toInt 0 = 0 from by decide) c_78
              refine lv_bipush (v := (-6)) hx hb dX9_paste_49 (by decide) ?_
              exact W.iret (v := (-6)) hx hb hr (fun t ht hW => by rw [← hQe]; exact ⟨⟨(-6), (), rfl, (by decide), ⟨f_r0_numbers, f_r1_numbers, f_r2_numbers, f_r3_numbers, z_ret hP hK hD ht hW [0, 1, 2, 3, 8, 4, 5, 6, 9, 7] [] rfl (by decide) rfl⟩⟩, hS.F ht⟩) hS.2.2 dX9_paste_51
        · omega
      · have zc_2 : Int32.toInt 2 = 2 := by decide
        refine va_aldq hx hb hK hP 1 0 rfl rfl (zi_in (show Int32.toInt 2 = 2 from by decide) (by decide)) dX9_paste_22 ?_
        refine W.eq (g2 := F0 m 23 ls (.ref r2 :: [])) (by rw [show f_sl (Int32.toNatClampNeg 2) = some r2 from (by rw [show Int32.toNatClampNeg 2 = 2 from by decide]; exact hsl2)]; rfl) ?_
        refine lv_astore (lv' := [(6, .ref r2), (0, .ref h0), (1, .int 2), (2, .int p2), (3, .int p3), (4, .int p4), (5, .int p5)]) hx hb dX9_paste_23 hl (by decide) rfl (fun ls hl => ?_)
        refine lv_aload_n hx hb dX9_paste_25 rfl (lv_at hl 1 rfl) ?_
        refine va_get (D := (dC, dI)) (ci := 9) (v := .ref sl) (C := RX9) (T := TX9) (N := 13) hx hb hts zl_X9 hown hK hP 0 rfl rfl 6 (by decide) (hts _ zw_t2_195) (fun _ h9 => h9) rfl dX9_paste_26 ?_
        refine lv_iload_n hx hb dX9_paste_29 rfl (lv_at hl 4 rfl) ?_
        rcases z_s3 p3 with q_sw | rfl | rfl | rfl | rfl | q_sw
        · omega
        · have zc_0 : Int32.toInt 0 = 0 := by decide
          refine va_aldq hx hb hK hP 1 0 rfl rfl (zi_in (show Int32.toInt 0 = 0 from by decide) (by decide)) dX9_paste_30 ?_
          refine W.eq (g2 := F0 m 31 ls (.ref r0 :: [])) (by rw [show f_sl (Int32.toNatClampNeg 0) = some r0 from (by rw [show Int32.toNatClampNeg 0 = 0 from by decide]; exact hsl0)]; rfl) ?_
          refine lv_astore (lv' := [(7, .ref r0), (6, .ref r2), (0, .ref h0), (1, .int 2), (2, .int p2), (3, .int 0), (4, .int p4), (5, .int p5)]) hx hb dX9_paste_31 hl (by decide) rfl (fun ls hl => ?_)
          refine lv_aload hx hb dX9_paste_33 (lv_at hl 1 rfl) ?_
          obtain ⟨hPc, hDc, hFc⟩ := z_cut (wc := (zV6 r2 r2_width r2_size r2_numbers)) hP hD hS hA [6] rfl (by decide +kernel)
          have hKc := hK.sub (tys' := []) [] rfl
          refine va_calli (va_runV (As := []) (rest := []) ⟨hx, hb, hml, hown, hts⟩ (k_X6_isThere l sa dC dI r2 r2_width r2_size r2_numbers b_r2_size H.size) (cwV 0 hts (z_gV zw_t5_222 zw_t5_223 zw_t5_224 zw_t1_10 zw_t5_225) rfl rfl rfl (by decide +kernel) (by rw [← hRe]; exact ⟨(Nat.le_of_ble_eq_true rfl), (Nat.le_of_ble_eq_true rfl)⟩)) (z_preV hPc hKc hDc hN hXs hS hFc (q := (RX6, TX6, 3)) (ci := 6) (q0 := 0) rfl rfl) rfl rfl hl.1 rfl (lv_room (Nat.le_of_ble_eq_true rfl)) dX9_paste_35 (by rw [← hRe]; exact ⟨(Nat.le_of_ble_eq_true rfl), (Nat.le_of_ble_eq_true rfl)⟩)) hS (fun q _ h => hFc q h) hFc (fun r_85 u t H1 locs ht hvm hw hB hz1 hk1 hS => ?_)
          obtain ⟨hP, hD, hK⟩ := z_after3 (wn := (zV76 h0 tp h0_tapeLength h0_faultKind h0_faultPlace nw im sl rd wk fm mt ch dy sl cA_sl f_sl r0 r0_width r0_size r0_numbers r0_numbers cA_r0_numbers f_r0_numbers r1 r1_width r1_size r1_numbers r1_numbers cA_r1_numbers f_r1_numbers r2_numbers cA_r2_numbers f_r2_numbers r3 r3_width r3_size r3_numbers r3_numbers cA_r3_numbers f_r3_numbers r2 r2_width r2_size r2_numbers)) hB ht hvm hP hD hK [6] [0, 1, 2, 3, 4, 5, 7, 8, 9] rfl 10 rfl (by decide +kernel) rfl (by decide +kernel) hk1 hFc
          generalize H1 = H at hP hS ⊢
          have hK : va_K (dC, dI) vwCl [(cA_sl, .object RX6), (cA_r0_numbers, .long), (cA_r1_numbers, .long), (cA_r2_numbers, .long), (cA_r3_numbers, .long)] s := hK
          have b_r_85 : 0 ≤ r_85.toInt ∧ r_85.toInt ≤ 1 := hw
          refine lv_if_eq (tgt := 49) hx hb dX9_paste_38 (by decide) (fun c_86 => ?_) (fun c_86 => ?_)
          · have ic_86 := zz_eq rfl (show Int32.toInt 0 = 0 from by decide) c_86
            refine lv_bipush (v := (-6)) hx hb dX9_paste_49 (by decide) ?_
            exact W.iret (v := (-6)) hx hb hr (fun t ht hW => by rw [← hQe]; exact ⟨⟨(-6), (), rfl, (by decide), ⟨f_r0_numbers, f_r1_numbers, f_r2_numbers, f_r3_numbers, z_ret hP hK hD ht hW [0, 1, 2, 3, 4, 5, 9, 6, 7, 8] [] rfl (by decide) rfl⟩⟩, hS.F ht⟩) hS.2.2 dX9_paste_51
          · have ic_86 := zz_neq rfl (show Int32.toInt 0 = 0 from by decide) c_86
            refine lv_aload hx hb dX9_paste_41 (lv_at hl 0 rfl) ?_
            obtain ⟨hPc, hDc, hFc⟩ := z_cut (wc := (zV6 r0 r0_width r0_size r0_numbers)) hP hD hS hA [2] rfl (by decide +kernel)
            have hKc := hK.sub (tys' := []) [] rfl
            refine va_calli (va_runV (As := []) (rest := []) ⟨hx, hb, hml, hown, hts⟩ (k_X6_isThere l sa dC dI r0 r0_width r0_size r0_numbers b_r0_size H.size) (cwV 0 hts (z_gV zw_t5_222 zw_t5_223 zw_t5_224 zw_t1_10 zw_t5_225) rfl rfl rfl (by decide +kernel) (by rw [← hRe]; exact ⟨(Nat.le_of_ble_eq_true rfl), (Nat.le_of_ble_eq_true rfl)⟩)) (z_preV hPc hKc hDc hN hXs hS hFc (q := (RX6, TX6, 3)) (ci := 6) (q0 := 0) rfl rfl) rfl rfl hl.1 rfl (lv_room (Nat.le_of_ble_eq_true rfl)) dX9_paste_43 (by rw [← hRe]; exact ⟨(Nat.le_of_ble_eq_true rfl), (Nat.le_of_ble_eq_true rfl)⟩)) hS (fun q _ h => hFc q h) hFc (fun r_87 u t H1 locs ht hvm hw hB hz1 hk1 hS => ?_)
            obtain ⟨hP, hD, hK⟩ := z_after3 (wn := (zV161 h0 tp h0_tapeLength h0_faultKind h0_faultPlace nw im sl rd wk fm mt ch dy sl cA_sl f_sl r0_numbers cA_r0_numbers f_r0_numbers r1 r1_width r1_size r1_numbers r1_numbers cA_r1_numbers f_r1_numbers r2_numbers cA_r2_numbers f_r2_numbers r3 r3_width r3_size r3_numbers r3_numbers cA_r3_numbers f_r3_numbers r2 r2_width r2_size r2_numbers r0 r0_width r0_size r0_numbers)) hB ht hvm hP hD hK [2] [0, 1, 3, 4, 5, 6, 7, 8, 9] rfl 10 rfl (by decide +kernel) rfl (by decide +kernel) hk1 hFc
            generalize H1 = H at hP hS ⊢
            have hK : va_K (dC, dI) vwCl [(cA_sl, .object RX6), (cA_r0_numbers, .long), (cA_r1_numbers, .long), (cA_r2_numbers, .long), (cA_r3_numbers, .long)] s := hK
            have b_r_87 : 0 ≤ r_87.toInt ∧ r_87.toInt ≤ 1 := hw
            refine lv_if_ne (tgt := 52) hx hb dX9_paste_46 (by decide) (fun c_88 => ?_) (fun c_88 => ?_)
            · have ic_88 := zz_ne rfl (show Int32.toInt 0 = 0 from by decide) c_88
              refine lv_aload hx hb dX9_paste_52 (lv_at hl 1 rfl) ?_
              refine va_get (D := (dC, dI)) (ci := 6) (v := .int r2_width) (C := RX6) (T := TX6) (N := 3) hx hb hts zl_X6 hown hK hP 8 rfl rfl 0 (by decide) (hts _ zw_t2_176) (fun _ h9 => h9) rfl dX9_paste_54 ?_
              refine lv_aload hx hb dX9_paste_57 (lv_at hl 0 rfl) ?_
              refine va_get (D := (dC, dI)) (ci := 6) (v := .int r0_width) (C := RX6) (T := TX6) (N := 3) hx hb hts zl_X6 hown hK hP 9 rfl rfl 0 (by decide) (hts _ zw_t2_176) (fun _ h9 => h9) rfl dX9_paste_59 ?_
              have nb_r2_width := zi_nb r2_width
              have nb_r0_width := zi_nb r0_width
              refine lv_icmp_eq (tgt := 68) hx hb dX9_paste_62 (by decide) (fun c_89 => ?_) (fun c_89 => ?_)
              · have ic_89 := zz_eq rfl rfl c_89
                refine lv_aload hx hb dX9_paste_68 (lv_at hl 1 rfl) ?_
                refine lv_iload_n hx hb dX9_paste_70 rfl (lv_at hl 4 rfl) ?_
                refine lv_iload hx hb dX9_paste_71 (lv_at hl 7 rfl) ?_
                obtain ⟨hPc, hDc, hFc⟩ := z_cut (wc := (zV6 r2 r2_width r2_size r2_numbers)) hP hD hS hA [8] rfl (by decide +kernel)
                have hKc := hK.sub (tys' := []) [] rfl
                refine va_calli (va_runV (As := [.int p2, .int p5]) (rest := []) ⟨hx, hb, hml, hown, hts⟩ (k_X6_hasSpan l sa dC dI r2 p2 p5 r2_width r2_size r2_numbers b_r2_size H.size) (cwV 2 hts (z_gV zw_t6_80 zw_t6_81 zw_t6_82 zw_t1_10 zw_t6_83) rfl rfl rfl (by decide +kernel) (by rw [← hRe]; exact ⟨(Nat.le_of_ble_eq_true rfl), (Nat.le_of_ble_eq_true rfl)⟩)) (z_preV hPc hKc hDc hN hXs hS hFc (q := (RX6, TX6, 3)) (ci := 6) (q0 := 0) rfl rfl) rfl rfl hl.1 rfl (lv_room (Nat.le_of_ble_eq_true rfl)) dX9_paste_73 (by rw [← hRe]; exact ⟨(Nat.le_of_ble_eq_true rfl), (Nat.le_of_ble_eq_true rfl)⟩)) hS (fun q _ h => hFc q h) hFc (fun r_90 u t H1 locs ht hvm hw hB hz1 hk1 hS => ?_)
                obtain ⟨hP, hD, hK⟩ := z_after3 (wn := (zV161 h0 tp h0_tapeLength h0_faultKind h0_faultPlace nw im sl rd wk fm mt ch dy sl cA_sl f_sl r0_numbers cA_r0_numbers f_r0_numbers r1 r1_width r1_size r1_numbers r1_numbers cA_r1_numbers f_r1_numbers r2_numbers cA_r2_numbers f_r2_numbers r3 r3_width r3_size r3_numbers r3_numbers cA_r3_numbers f_r3_numbers r0 r0_width r0_size r0_numbers r2 r2_width r2_size r2_numbers)) hB ht hvm hP hD hK [8] [0, 1, 2, 3, 4, 5, 6, 7, 9] rfl 10 rfl (by decide +kernel) rfl (by decide +kernel) hk1 hFc
                generalize H1 = H at hP hS ⊢
                have hK : va_K (dC, dI) vwCl [(cA_sl, .object RX6), (cA_r0_numbers, .long), (cA_r1_numbers, .long), (cA_r2_numbers, .long), (cA_r3_numbers, .long)] s := hK
                have b_r_90 : 0 ≤ r_90.toInt ∧ r_90.toInt ≤ 1 := hw.1
                have s_r_90 := hw.2
                refine lv_if_eq (tgt := 91) hx hb dX9_paste_76 (by decide) (fun c_91 => ?_) (fun c_91 => ?_)
                · have ic_91 := zz_eq rfl (show Int32.toInt 0 = 0 from by decide) c_91
                  refine lv_bipush (v := (-7)) hx hb dX9_paste_91 (by decide) ?_
                  exact W.iret (v := (-7)) hx hb hr (fun t ht hW => by rw [← hQe]; exact ⟨⟨(-7), (), rfl, (by decide), ⟨f_r0_numbers, f_r1_numbers, f_r2_numbers, f_r3_numbers, z_ret hP hK hD ht hW [0, 1, 8, 2, 3, 4, 9, 5, 6, 7] [] rfl (by decide) rfl⟩⟩, hS.F ht⟩) hS.2.2 dX9_paste_93
                · have ic_91 := zz_neq rfl (show Int32.toInt 0 = 0 from by decide) c_91
                  refine lv_aload hx hb dX9_paste_79 (lv_at hl 0 rfl) ?_
                  refine lv_iload hx hb dX9_paste_81 (lv_at hl 6 rfl) ?_
                  refine lv_iload hx hb dX9_paste_83 (lv_at hl 7 rfl) ?_
                  obtain ⟨hPc, hDc, hFc⟩ := z_cut (wc := (zV6 r0 r0_width r0_size r0_numbers)) hP hD hS hA [8] rfl (by decide +kernel)
                  have hKc := hK.sub (tys' := []) [] rfl
                  refine va_calli (va_runV (As := [.int p4, .int p5]) (rest := []) ⟨hx, hb, hml, hown, hts⟩ (k_X6_hasSpan l sa dC dI r0 p4 p5 r0_width r0_size r0_numbers b_r0_size H.size) (cwV 2 hts (z_gV zw_t6_80 zw_t6_81 zw_t6_82 zw_t1_10 zw_t6_83) rfl rfl rfl (by decide +kernel) (by rw [← hRe]; exact ⟨(Nat.le_of_ble_eq_true rfl), (Nat.le_of_ble_eq_true rfl)⟩)) (z_preV hPc hKc hDc hN hXs hS hFc (q := (RX6, TX6, 3)) (ci := 6) (q0 := 0) rfl rfl) rfl rfl hl.1 rfl (lv_room (Nat.le_of_ble_eq_true rfl)) dX9_paste_85 (by rw [← hRe]; exact ⟨(Nat.le_of_ble_eq_true rfl), (Nat.le_of_ble_eq_true rfl)⟩)) hS (fun q _ h => hFc q h) hFc (fun r_92 u t H1 locs ht hvm hw hB hz1 hk1 hS => ?_)
                  obtain ⟨hP, hD, hK⟩ := z_after3 (wn := (zV161 h0 tp h0_tapeLength h0_faultKind h0_faultPlace nw im sl rd wk fm mt ch dy sl cA_sl f_sl r0_numbers cA_r0_numbers f_r0_numbers r1 r1_width r1_size r1_numbers r1_numbers cA_r1_numbers f_r1_numbers r2_numbers cA_r2_numbers f_r2_numbers r3 r3_width r3_size r3_numbers r3_numbers cA_r3_numbers f_r3_numbers r2 r2_width r2_size r2_numbers r0 r0_width r0_size r0_numbers)) hB ht hvm hP hD hK [8] [0, 1, 2, 3, 4, 5, 6, 7, 9] rfl 10 rfl (by decide +kernel) rfl (by decide +kernel) hk1 hFc
                  generalize H1 = H at hP hS ⊢
                  have hK : va_K (dC, dI) vwCl [(cA_sl, .object RX6), (cA_r0_numbers, .long), (cA_r1_numbers, .long), (cA_r2_numbers, .long), (cA_r3_numbers, .long)] s := hK
                  have b_r_92 : 0 ≤ r_92.toInt ∧ r_92.toInt ≤ 1 := hw.1
                  have s_r_92 := hw.2
                  refine lv_if_ne (tgt := 94) hx hb dX9_paste_88 (by decide) (fun c_93 => ?_) (fun c_93 => ?_)
                  · have ic_93 := zz_ne rfl (show Int32.toInt 0 = 0 from by decide) c_93
                    refine lv_aload hx hb dX9_paste_94 (lv_at hl 1 rfl) ?_
                    refine va_get (D := (dC, dI)) (ci := 6) (v := .ref r2_numbers) (C := RX6) (T := TX6) (N := 3) hx hb hts zl_X6 hown hK hP 8 rfl rfl 2 (by decide) (hts _ zw_t2_181) (fun _ h9 => h9) rfl dX9_paste_96 ?_
                    refine lv_iload_n hx hb dX9_paste_99 rfl (lv_at hl 4 rfl) ?_
                    refine lv_aload hx hb dX9_paste_100 (lv_at hl 0 rfl) ?_
                    refine va_get (D := (dC, dI)) (ci := 6) (v := .ref r0_numbers) (C := RX6) (T := TX6) (N := 3) hx hb hts zl_X6 hown hK hP 9 rfl rfl 2 (by decide) (hts _ zw_t2_181) (fun _ h9 => h9) rfl dX9_paste_102 ?_
                    refine lv_iload hx hb dX9_paste_105 (lv_at hl 6 rfl) ?_
                    refine lv_iload hx hb dX9_paste_107 (lv_at hl 7 rfl) ?_
                    have kc_p2 := zi_clamp (x := p2) rfl (by first | with_reducible assumption | omega)
                    have kc_p4 := zi_clamp (x := p4) rfl (by first | with_reducible assumption | omega)
                    have kc_p5 := zi_clamp (x := p5) rfl (by first | with_reducible assumption | omega)
                    refine va_copyl hx hb (by rw [hml]; exact hl.1.symm) hown (hts _ zw_t6_92) (hts _ zw_t4_39) (hts _ zw_t4_38) (hts _ zw_t1_18) hK hP hD hS 5 2 3 1 rfl rfl rfl rfl rfl (fun q => absurd (z_lt (k := 0) (by decide) q) (by first | with_reducible assumption | omega)) (fun q => absurd (z_lt (k := 0) (by decide) q) (by first | with_reducible assumption | omega)) (fun q => absurd (z_lt (k := 0) (by decide) q) (by first | with_reducible assumption | omega)) (by first | with_reducible assumption | omega) (by first | with_reducible assumption | omega) (fun _ _ => rfl) (by rw [← hRe]; exact (Nat.le_of_ble_eq_true rfl)) (by rw [← hRe]; exact (Nat.le_of_ble_eq_true rfl)) dX9_paste_109 (fun H locs hP hD hS => ?_)
                    obtain ⟨f_94, ef_94⟩ : ∃ g : Nat → Int64, g = va_cpy f_r2_numbers f_r0_numbers (Int32.toNatClampNeg p2) (Int32.toNatClampNeg p4) (Int32.toNatClampNeg p5) := ⟨_, rfl⟩
                    have hP : va_P (dC, dI) vwCl (zV161 h0 tp h0_tapeLength h0_faultKind h0_faultPlace nw im sl rd wk fm mt ch dy sl cA_sl f_sl r0_numbers cA_r0_numbers (va_cpy f_r2_numbers f_r0_numbers (Int32.toNatClampNeg p2) (Int32.toNatClampNeg p4) (Int32.toNatClampNeg p5)) r1 r1_width r1_size r1_numbers r1_numbers cA_r1_numbers f_r1_numbers r2_numbers cA_r2_numbers f_r2_numbers r3 r3_width r3_size r3_numbers r3_numbers cA_r3_numbers f_r3_numbers r2 r2_width r2_size r2_numbers r0 r0_width r0_size r0_numbers) H := hP
                    have hD : va_D A (zV161 h0 tp h0_tapeLength h0_faultKind h0_faultPlace nw im sl rd wk fm mt ch dy sl cA_sl f_sl r0_numbers cA_r0_numbers (va_cpy f_r2_numbers f_r0_numbers (Int32.toNatClampNeg p2) (Int32.toNatClampNeg p4) (Int32.toNatClampNeg p5)) r1 r1_width r1_size r1_numbers r1_numbers cA_r1_numbers f_r1_numbers r2_numbers cA_r2_numbers f_r2_numbers r3 r3_width r3_size r3_numbers r3_numbers cA_r3_numbers f_r3_numbers r2 r2_width r2_size r2_numbers r0 r0_width r0_size r0_numbers) := hD
                    rw [← ef_94] at hP hD
                    refine lv_iconst (v := 0) hx hb dX9_paste_112 (by decide) ?_
                    exact W.iret (v := 0) hx hb hr (fun t ht hW => by rw [← hQe]; exact ⟨⟨0, (), rfl, (by decide), ⟨f_94, f_r1_numbers, f_r2_numbers, f_r3_numbers, z_ret hP hK hD ht hW [0, 1, 9, 2, 3, 4, 8, 5, 6, 7] [] rfl (by decide) rfl⟩⟩, hS.F ht⟩) hS.2.2 dX9_paste_113
                  · have ic_93 := zz_nne rfl (show Int32.toInt 0 = 0 from by decide) c_93
                    refine lv_bipush (v := (-7)) hx hb dX9_paste_91 (by decide) ?_
                    exact W.iret (v := (-7)) hx hb hr (fun t ht hW => by rw [← hQe]; exact ⟨⟨(-7), (), rfl, (by decide), ⟨f_r0_numbers, f_r1_numbers, f_r2_numbers, f_r3_numbers, z_ret hP hK hD ht hW [0, 1, 9, 2, 3, 4, 8, 5, 6, 7] [] rfl (by decide) rfl⟩⟩, hS.F ht⟩) hS.2.2 dX9_paste_93
              · have ic_89 := zz_neq rfl rfl c_89
                refine lv_bipush (v := (-8)) hx hb dX9_paste_65 (by decide) ?_
                exact W.iret (v := (-8)) hx hb hr (fun t ht hW => by rw [← hQe]; exact ⟨⟨(-8), (), rfl, (by decide), ⟨f_r0_numbers, f_r1_numbers, f_r2_numbers, f_r3_numbers, z_ret hP hK hD ht hW [0, 1, 9, 2, 3, 4, 8, 5, 6, 7] [] rfl (by decide) rfl⟩⟩, hS.F ht⟩) hS.2.2 dX9_paste_67
            · have ic_88 := zz_nne rfl (show Int32.toInt 0 = 0 from by decide) c_88
              refine lv_bipush (v := (-6)) hx hb dX9_paste_49 (by decide) ?_
              exact W.iret (v := (-6)) hx hb hr (fun t ht hW => by rw [← hQe]; exact ⟨⟨(-6), (), rfl, (by decide), ⟨f_r0_numbers, f_r1_numbers, f_r2_numbers, f_r3_numbers, z_ret hP hK hD ht hW [0, 1, 9, 2, 3, 4, 8, 5, 6, 7] [] rfl (by decide) rfl⟩⟩, hS.F ht⟩) hS.2.2 dX9_paste_51
        · have zc_1 : Int32.toInt 1 = 1 := by decide
          refine va_aldq hx hb hK hP 1 0 rfl rfl (zi_in (show Int32.toInt 1 = 1 from by decide) (by decide)) dX9_paste_30 ?_
          refine W.eq (g2 := F0 m 31 ls (.ref r1 :: [])) (by rw [show f_sl (Int32.toNatClampNeg 1) = some r1 from (by rw [show Int32.toNatClampNeg 1 = 1 from by decide]; exact hsl1)]; rfl) ?_
          refine lv_astore (lv' := [(7, .ref r1), (6, .ref r2), (0, .ref h0), (1, .int 2), (2, .int p2), (3, .int 1), (4, .int p4), (5, .int p5)]) hx hb dX9_paste_31 hl (by decide) rfl (fun ls hl => ?_)
          refine lv_aload hx hb dX9_paste_33 (lv_at hl 1 rfl) ?_
          obtain ⟨hPc, hDc, hFc⟩ := z_cut (wc := (zV6 r2 r2_width r2_size r2_numbers)) hP hD hS hA [6] rfl (by decide +kernel)
          have hKc := hK.sub (tys' := []) [] rfl
          refine va_calli (va_runV (As := []) (rest := []) ⟨hx, hb, hml, hown, hts⟩ (k_X6_isThere l sa dC dI r2 r2_width r2_size r2_numbers b_r2_size H.size) (cwV 0 hts (z_gV zw_t5_222 zw_t5_223 zw_t5_224 zw_t1_10 zw_t5_225) rfl rfl rfl (by decide +kernel) (by rw [← hRe]; exact ⟨(Nat.le_of_ble_eq_true rfl), (Nat.le_of_ble_eq_true rfl)⟩)) (z_preV hPc hKc hDc hN hXs hS hFc (q := (RX6, TX6, 3)) (ci := 6) (q0 := 0) rfl rfl) rfl rfl hl.1 rfl (lv_room (Nat.le_of_ble_eq_true rfl)) dX9_paste_35 (by rw [← hRe]; exact ⟨(Nat.le_of_ble_eq_true rfl), (Nat.le_of_ble_eq_true rfl)⟩)) hS (fun q _ h => hFc q h) hFc (fun r_95 u t H1 locs ht hvm hw hB hz1 hk1 hS => ?_)
          obtain ⟨hP, hD, hK⟩ := z_after3 (wn := (zV76 h0 tp h0_tapeLength h0_faultKind h0_faultPlace nw im sl rd wk fm mt ch dy sl cA_sl f_sl r0 r0_width r0_size r0_numbers r0_numbers cA_r0_numbers f_r0_numbers r1 r1_width r1_size r1_numbers r1_numbers cA_r1_numbers f_r1_numbers r2_numbers cA_r2_numbers f_r2_numbers r3 r3_width r3_size r3_numbers r3_numbers cA_r3_numbers f_r3_numbers r2 r2_width r2_size r2_numbers)) hB ht hvm hP hD hK [6] [0, 1, 2, 3, 4, 5, 7, 8, 9] rfl 10 rfl (by decide +kernel) rfl (by decide +kernel) hk1 hFc
          generalize H1 = H at hP hS ⊢
          have hK : va_K (dC, dI) vwCl [(cA_sl, .object RX6), (cA_r0_numbers, .long), (cA_r1_numbers, .long), (cA_r2_numbers, .long), (cA_r3_numbers, .long)] s := hK
          have b_r_95 : 0 ≤ r_95.toInt ∧ r_95.toInt ≤ 1 := hw
          refine lv_if_eq (tgt := 49) hx hb dX9_paste_38 (by decide) (fun c_96 => ?_) (fun c_96 => ?_)
          · have ic_96 := zz_eq rfl (show Int32.toInt 0 = 0 from by decide) c_96
            refine lv_bipush (v := (-6)) hx hb dX9_paste_49 (by decide) ?_
            exact W.iret (v := (-6)) hx hb hr (fun t ht hW => by rw [← hQe]; exact ⟨⟨(-6), (), rfl, (by decide), ⟨f_r0_numbers, f_r1_numbers, f_r2_numbers, f_r3_numbers, z_ret hP hK hD ht hW [0, 1, 2, 3, 4, 5, 9, 6, 7, 8] [] rfl (by decide) rfl⟩⟩, hS.F ht⟩) hS.2.2 dX9_paste_51
          · have ic_96 := zz_neq rfl (show Int32.toInt 0 = 0 from by decide) c_96
            refine lv_aload hx hb dX9_paste_41 (lv_at hl 0 rfl) ?_
            obtain ⟨hPc, hDc, hFc⟩ := z_cut (wc := (zV6 r1 r1_width r1_size r1_numbers)) hP hD hS hA [4] rfl (by decide +kernel)
            have hKc := hK.sub (tys' := []) [] rfl
            refine va_calli (va_runV (As := []) (rest := []) ⟨hx, hb, hml, hown, hts⟩ (k_X6_isThere l sa dC dI r1 r1_width r1_size r1_numbers b_r1_size H.size) (cwV 0 hts (z_gV zw_t5_222 zw_t5_223 zw_t5_224 zw_t1_10 zw_t5_225) rfl rfl rfl (by decide +kernel) (by rw [← hRe]; exact ⟨(Nat.le_of_ble_eq_true rfl), (Nat.le_of_ble_eq_true rfl)⟩)) (z_preV hPc hKc hDc hN hXs hS hFc (q := (RX6, TX6, 3)) (ci := 6) (q0 := 0) rfl rfl) rfl rfl hl.1 rfl (lv_room (Nat.le_of_ble_eq_true rfl)) dX9_paste_43 (by rw [← hRe]; exact ⟨(Nat.le_of_ble_eq_true rfl), (Nat.le_of_ble_eq_true rfl)⟩)) hS (fun q _ h => hFc q h) hFc (fun r_97 u t H1 locs ht hvm hw hB hz1 hk1 hS => ?_)
            obtain ⟨hP, hD, hK⟩ := z_after3 (wn := (zV163 h0 tp h0_tapeLength h0_faultKind h0_faultPlace nw im sl rd wk fm mt ch dy sl cA_sl f_sl r0 r0_width r0_size r0_numbers r0_numbers cA_r0_numbers f_r0_numbers r1_numbers cA_r1_numbers f_r1_numbers r2_numbers cA_r2_numbers f_r2_numbers r3 r3_width r3_size r3_numbers r3_numbers cA_r3_numbers f_r3_numbers r2 r2_width r2_size r2_numbers r1 r1_width r1_size r1_numbers)) hB ht hvm hP hD hK [4] [0, 1, 2, 3, 5, 6, 7, 8, 9] rfl 10 rfl (by decide +kernel) rfl (by decide +kernel) hk1 hFc
            generalize H1 = H at hP hS ⊢
            have hK : va_K (dC, dI) vwCl [(cA_sl, .object RX6), (cA_r0_numbers, .long), (cA_r1_numbers, .long), (cA_r2_numbers, .long), (cA_r3_numbers, .long)] s := hK
            have b_r_97 : 0 ≤ r_97.toInt ∧ r_97.toInt ≤ 1 := hw
            refine lv_if_ne (tgt := 52) hx hb dX9_paste_46 (by decide) (fun c_98 => ?_) (fun c_98 => ?_)
            · have ic_98 := zz_ne rfl (show Int32.toInt 0 = 0 from by decide) c_98
              refine lv_aload hx hb dX9_paste_52 (lv_at hl 1 rfl) ?_
              refine va_get (D := (dC, dI)) (ci := 6) (v := .int r2_width) (C := RX6) (T := TX6) (N := 3) hx hb hts zl_X6 hown hK hP 8 rfl rfl 0 (by decide) (hts _ zw_t2_176) (fun _ h9 => h9) rfl dX9_paste_54 ?_
              refine lv_aload hx hb dX9_paste_57 (lv_at hl 0 rfl) ?_
              refine va_get (D := (dC, dI)) (ci := 6) (v := .int r1_width) (C := RX6) (T := TX6) (N := 3) hx hb hts zl_X6 hown hK hP 9 rfl rfl 0 (by decide) (hts _ zw_t2_176) (fun _ h9 => h9) rfl dX9_paste_59 ?_
              have nb_r2_width := zi_nb r2_width
              have nb_r1_width := zi_nb r1_width
              refine lv_icmp_eq (tgt := 68) hx hb dX9_paste_62 (by decide) (fun c_99 => ?_) (fun c_99 => ?_)
              · have ic_99 := zz_eq rfl rfl c_99
                refine lv_aload hx hb dX9_paste_68 (lv_at hl 1 rfl) ?_
                refine lv_iload_n hx hb dX9_paste_70 rfl (lv_at hl 4 rfl) ?_
                refine lv_iload hx hb dX9_paste_71 (lv_at hl 7 rfl) ?_
                obtain ⟨hPc, hDc, hFc⟩ := z_cut (wc := (zV6 r2 r2_width r2_size r2_numbers)) hP hD hS hA [8] rfl (by decide +kernel)
                have hKc := hK.sub (tys' := []) [] rfl
                refine va_calli (va_runV (As := [.int p2, .int p5]) (rest := []) ⟨hx, hb, hml, hown, hts⟩ (k_X6_hasSpan l sa dC dI r2 p2 p5 r2_width r2_size r2_numbers b_r2_size H.size) (cwV 2 hts (z_gV zw_t6_80 zw_t6_81 zw_t6_82 zw_t1_10 zw_t6_83) rfl rfl rfl (by decide +kernel) (by rw [← hRe]; exact ⟨(Nat.le_of_ble_eq_true rfl), (Nat.le_of_ble_eq_true rfl)⟩)) (z_preV hPc hKc hDc hN hXs hS hFc (q := (RX6, TX6, 3)) (ci := 6) (q0 := 0) rfl rfl) rfl rfl hl.1 rfl (lv_room (Nat.le_of_ble_eq_true rfl)) dX9_paste_73 (by rw [← hRe]; exact ⟨(Nat.le_of_ble_eq_true rfl), (Nat.le_of_ble_eq_true rfl)⟩)) hS (fun q _ h => hFc q h) hFc (fun r_100 u t H1 locs ht hvm hw hB hz1 hk1 hS => ?_)
                obtain ⟨hP, hD, hK⟩ := z_after3 (wn := (zV163 h0 tp h0_tapeLength h0_faultKind h0_faultPlace nw im sl rd wk fm mt ch dy sl cA_sl f_sl r0 r0_width r0_size r0_numbers r0_numbers cA_r0_numbers f_r0_numbers r1_numbers cA_r1_numbers f_r1_numbers r2_numbers cA_r2_numbers f_r2_numbers r3 r3_width r3_size r3_numbers r3_numbers cA_r3_numbers f_r3_numbers r1 r1_width r1_size r1_numbers r2 r2_width r2_size r2_numbers)) hB ht hvm hP hD hK [8] [0, 1, 2, 3, 4, 5, 6, 7, 9] rfl 10 rfl (by decide +kernel) rfl (by decide +kernel) hk1 hFc
                generalize H1 = H at hP hS ⊢
                have hK : va_K (dC, dI) vwCl [(cA_sl, .object RX6), (cA_r0_numbers, .long), (cA_r1_numbers, .long), (cA_r2_numbers, .long), (cA_r3_numbers, .long)] s := hK
                have b_r_100 : 0 ≤ r_100.toInt ∧ r_100.toInt ≤ 1 := hw.1
                have s_r_100 := hw.2
                refine lv_if_eq (tgt := 91) hx hb dX9_paste_76 (by decide) (fun c_101 => ?_) (fun c_101 => ?_)
                · have ic_101 := zz_eq rfl (show Int32.toInt 0 = 0 from by decide) c_101
                  refine lv_bipush (v := (-7)) hx hb dX9_paste_91 (by decide) ?_
                  exact W.iret (v := (-7)) hx hb hr (fun t ht hW => by rw [← hQe]; exact ⟨⟨(-7), (), rfl, (by decide), ⟨f_r0_numbers, f_r1_numbers, f_r2_numbers, f_r3_numbers, z_ret hP hK hD ht hW [0, 1, 2, 3, 8, 4, 9, 5, 6, 7] [] rfl (by decide) rfl⟩⟩, hS.F ht⟩) hS.2.2 dX9_paste_93
                · have ic_101 := zz_neq rfl (show Int32.toInt 0 = 0 from by decide) c_101
                  refine lv_aload hx hb dX9_paste_79 (lv_at hl 0 rfl) ?_
                  refine lv_iload hx hb dX9_paste_81 (lv_at hl 6 rfl) ?_
                  refine lv_iload hx hb dX9_paste_83 (lv_at hl 7 rfl) ?_
                  obtain ⟨hPc, hDc, hFc⟩ := z_cut (wc := (zV6 r1 r1_width r1_size r1_numbers)) hP hD hS hA [8] rfl (by decide +kernel)
                  have hKc := hK.sub (tys' := []) [] rfl
                  refine va_calli (va_runV (As := [.int p4, .int p5]) (rest := []) ⟨hx, hb, hml, hown, hts⟩ (k_X6_hasSpan l sa dC dI r1 p4 p5 r1_width r1_size r1_numbers b_r1_size H.size) (cwV 2 hts (z_gV zw_t6_80 zw_t6_81 zw_t6_82 zw_t1_10 zw_t6_83) rfl rfl rfl (by decide +kernel) (by rw [← hRe]; exact ⟨(Nat.le_of_ble_eq_true rfl), (Nat.le_of_ble_eq_true rfl)⟩)) (z_preV hPc hKc hDc hN hXs hS hFc (q := (RX6, TX6, 3)) (ci := 6) (q0 := 0) rfl rfl) rfl rfl hl.1 rfl (lv_room (Nat.le_of_ble_eq_true rfl)) dX9_paste_85 (by rw [← hRe]; exact ⟨(Nat.le_of_ble_eq_true rfl), (Nat.le_of_ble_eq_true rfl)⟩)) hS (fun q _ h => hFc q h) hFc (fun r_102 u t H1 locs ht hvm hw hB hz1 hk1 hS => ?_)
                  obtain ⟨hP, hD, hK⟩ := z_after3 (wn := (zV163 h0 tp h0_tapeLength h0_faultKind h0_faultPlace nw im sl rd wk fm mt ch dy sl cA_sl f_sl r0 r0_width r0_size r0_numbers r0_numbers cA_r0_numbers f_r0_numbers r1_numbers cA_r1_numbers f_r1_numbers r2_numbers cA_r2_numbers f_r2_numbers r3 r3_width r3_size r3_numbers r3_numbers cA_r3_numbers f_r3_numbers r2 r2_width r2_size r2_numbers r1 r1_width r1_size r1_numbers)) hB ht hvm hP hD hK [8] [0, 1, 2, 3, 4, 5, 6, 7, 9] rfl 10 rfl (by decide +kernel) rfl (by decide +kernel) hk1 hFc
                  generalize H1 = H at hP hS ⊢
                  have hK : va_K (dC, dI) vwCl [(cA_sl, .object RX6), (cA_r0_numbers, .long), (cA_r1_numbers, .long), (cA_r2_numbers, .long), (cA_r3_numbers, .long)] s := hK
                  have b_r_102 : 0 ≤ r_102.toInt ∧ r_102.toInt ≤ 1 := hw.1
                  have s_r_102 := hw.2
                  refine lv_if_ne (tgt := 94) hx hb dX9_paste_88 (by decide) (fun c_103 => ?_) (fun c_103 => ?_)
                  · have ic_103 := zz_ne rfl (show Int32.toInt 0 = 0 from by decide) c_103
                    refine lv_aload hx hb dX9_paste_94 (lv_at hl 1 rfl) ?_
                    refine va_get (D := (dC, dI)) (ci := 6) (v := .ref r2_numbers) (C := RX6) (T := TX6) (N := 3) hx hb hts zl_X6 hown hK hP 8 rfl rfl 2 (by decide) (hts _ zw_t2_181) (fun _ h9 => h9) rfl dX9_paste_96 ?_
                    refine lv_iload_n hx hb dX9_paste_99 rfl (lv_at hl 4 rfl) ?_
                    refine lv_aload hx hb dX9_paste_100 (lv_at hl 0 rfl) ?_
                    refine va_get (D := (dC, dI)) (ci := 6) (v := .ref r1_numbers) (C := RX6) (T := TX6) (N := 3) hx hb hts zl_X6 hown hK hP 9 rfl rfl 2 (by decide) (hts _ zw_t2_181) (fun _ h9 => h9) rfl dX9_paste_102 ?_
                    refine lv_iload hx hb dX9_paste_105 (lv_at hl 6 rfl) ?_
                    refine lv_iload hx hb dX9_paste_107 (lv_at hl 7 rfl) ?_
                    have kc_p2 := zi_clamp (x := p2) rfl (by first | with_reducible assumption | omega)
                    have kc_p4 := zi_clamp (x := p4) rfl (by first | with_reducible assumption | omega)
                    have kc_p5 := zi_clamp (x := p5) rfl (by first | with_reducible assumption | omega)
                    refine va_copyl hx hb (by rw [hml]; exact hl.1.symm) hown (hts _ zw_t6_92) (hts _ zw_t4_39) (hts _ zw_t4_38) (hts _ zw_t1_18) hK hP hD hS 5 4 3 2 rfl rfl rfl rfl rfl (fun q => absurd (z_lt (k := 0) (by decide) q) (by first | with_reducible assumption | omega)) (fun q => absurd (z_lt (k := 0) (by decide) q) (by first | with_reducible assumption | omega)) (fun q => absurd (z_lt (k := 0) (by decide) q) (by first | with_reducible assumption | omega)) (by first | with_reducible assumption | omega) (by first | with_reducible assumption | omega) (fun _ _ => rfl) (by rw [← hRe]; exact (Nat.le_of_ble_eq_true rfl)) (by rw [← hRe]; exact (Nat.le_of_ble_eq_true rfl)) dX9_paste_109 (fun H locs hP hD hS => ?_)
                    obtain ⟨f_104, ef_104⟩ : ∃ g : Nat → Int64, g = va_cpy f_r2_numbers f_r1_numbers (Int32.toNatClampNeg p2) (Int32.toNatClampNeg p4) (Int32.toNatClampNeg p5) := ⟨_, rfl⟩
                    have hP : va_P (dC, dI) vwCl (zV163 h0 tp h0_tapeLength h0_faultKind h0_faultPlace nw im sl rd wk fm mt ch dy sl cA_sl f_sl r0 r0_width r0_size r0_numbers r0_numbers cA_r0_numbers f_r0_numbers r1_numbers cA_r1_numbers (va_cpy f_r2_numbers f_r1_numbers (Int32.toNatClampNeg p2) (Int32.toNatClampNeg p4) (Int32.toNatClampNeg p5)) r2_numbers cA_r2_numbers f_r2_numbers r3 r3_width r3_size r3_numbers r3_numbers cA_r3_numbers f_r3_numbers r2 r2_width r2_size r2_numbers r1 r1_width r1_size r1_numbers) H := hP
                    have hD : va_D A (zV163 h0 tp h0_tapeLength h0_faultKind h0_faultPlace nw im sl rd wk fm mt ch dy sl cA_sl f_sl r0 r0_width r0_size r0_numbers r0_numbers cA_r0_numbers f_r0_numbers r1_numbers cA_r1_numbers (va_cpy f_r2_numbers f_r1_numbers (Int32.toNatClampNeg p2) (Int32.toNatClampNeg p4) (Int32.toNatClampNeg p5)) r2_numbers cA_r2_numbers f_r2_numbers r3 r3_width r3_size r3_numbers r3_numbers cA_r3_numbers f_r3_numbers r2 r2_width r2_size r2_numbers r1 r1_width r1_size r1_numbers) := hD
                    rw [← ef_104] at hP hD
                    refine lv_iconst (v := 0) hx hb dX9_paste_112 (by decide) ?_
                    exact W.iret (v := 0) hx hb hr (fun t ht hW => by rw [← hQe]; exact ⟨⟨0, (), rfl, (by decide), ⟨f_r0_numbers, f_104, f_r2_numbers, f_r3_numbers, z_ret hP hK hD ht hW [0, 1, 2, 3, 9, 4, 8, 5, 6, 7] [] rfl (by decide) rfl⟩⟩, hS.F ht⟩) hS.2.2 dX9_paste_113
                  · have ic_103 := zz_nne rfl (show Int32.toInt 0 = 0 from by decide) c_103
                    refine lv_bipush (v := (-7)) hx hb dX9_paste_91 (by decide) ?_
                    exact W.iret (v := (-7)) hx hb hr (fun t ht hW => by rw [← hQe]; exact ⟨⟨(-7), (), rfl, (by decide), ⟨f_r0_numbers, f_r1_numbers, f_r2_numbers, f_r3_numbers, z_ret hP hK hD ht hW [0, 1, 2, 3, 9, 4, 8, 5, 6, 7] [] rfl (by decide) rfl⟩⟩, hS.F ht⟩) hS.2.2 dX9_paste_93
              · have ic_99 := zz_neq rfl rfl c_99
                refine lv_bipush (v := (-8)) hx hb dX9_paste_65 (by decide) ?_
                exact W.iret (v := (-8)) hx hb hr (fun t ht hW => by rw [← hQe]; exact ⟨⟨(-8), (), rfl, (by decide), ⟨f_r0_numbers, f_r1_numbers, f_r2_numbers, f_r3_numbers, z_ret hP hK hD ht hW [0, 1, 2, 3, 9, 4, 8, 5, 6, 7] [] rfl (by decide) rfl⟩⟩, hS.F ht⟩) hS.2.2 dX9_paste_67
            · have ic_98 := zz_nne rfl (show Int32.toInt 0 = 0 from by decide) c_98
              refine lv_bipush (v := (-6)) hx hb dX9_paste_49 (by decide) ?_
              exact W.iret (v := (-6)) hx hb hr (fun t ht hW => by rw [← hQe]; exact ⟨⟨(-6), (), rfl, (by decide), ⟨f_r0_numbers, f_r1_numbers, f_r2_numbers, f_r3_numbers, z_ret hP hK hD ht hW [0, 1, 2, 3, 9, 4, 8, 5, 6, 7] [] rfl (by decide) rfl⟩⟩, hS.F ht⟩) hS.2.2 dX9_paste_51
        · have zc_2 : Int32.toInt 2 = 2 := by decide
          refine va_aldq hx hb hK hP 1 0 rfl rfl (zi_in (show Int32.toInt 2 = 2 from by decide) (by decide)) dX9_paste_30 ?_
          refine W.eq (g2 := F0 m 31 ls (.ref r2 :: [])) (by rw [show f_sl (Int32.toNatClampNeg 2) = some r2 from (by rw [show Int32.toNatClampNeg 2 = 2 from by decide]; exact hsl2)]; rfl) ?_
          refine lv_astore (lv' := [(7, .ref r2), (6, .ref r2), (0, .ref h0), (1, .int 2), (2, .int p2), (3, .int 2), (4, .int p4), (5, .int p5)]) hx hb dX9_paste_31 hl (by decide) rfl (fun ls hl => ?_)
          refine lv_aload hx hb dX9_paste_33 (lv_at hl 1 rfl) ?_
          obtain ⟨hPc, hDc, hFc⟩ := z_cut (wc := (zV6 r2 r2_width r2_size r2_numbers)) hP hD hS hA [6] rfl (by decide +kernel)
          have hKc := hK.sub (tys' := []) [] rfl
          refine va_calli (va_runV (As := []) (rest := []) ⟨hx, hb, hml, hown, hts⟩ (k_X6_isThere l sa dC dI r2 r2_width r2_size r2_numbers b_r2_size H.size) (cwV 0 hts (z_gV zw_t5_222 zw_t5_223 zw_t5_224 zw_t1_10 zw_t5_225) rfl rfl rfl (by decide +kernel) (by rw [← hRe]; exact ⟨(Nat.le_of_ble_eq_true rfl), (Nat.le_of_ble_eq_true rfl)⟩)) (z_preV hPc hKc hDc hN hXs hS hFc (q := (RX6, TX6, 3)) (ci := 6) (q0 := 0) rfl rfl) rfl rfl hl.1 rfl (lv_room (Nat.le_of_ble_eq_true rfl)) dX9_paste_35 (by rw [← hRe]; exact ⟨(Nat.le_of_ble_eq_true rfl), (Nat.le_of_ble_eq_true rfl)⟩)) hS (fun q _ h => hFc q h) hFc (fun r_105 u t H1 locs ht hvm hw hB hz1 hk1 hS => ?_)
          obtain ⟨hP, hD, hK⟩ := z_after3 (wn := (zV76 h0 tp h0_tapeLength h0_faultKind h0_faultPlace nw im sl rd wk fm mt ch dy sl cA_sl f_sl r0 r0_width r0_size r0_numbers r0_numbers cA_r0_numbers f_r0_numbers r1 r1_width r1_size r1_numbers r1_numbers cA_r1_numbers f_r1_numbers r2_numbers cA_r2_numbers f_r2_numbers r3 r3_width r3_size r3_numbers r3_numbers cA_r3_numbers f_r3_numbers r2 r2_width r2_size r2_numbers)) hB ht hvm hP hD hK [6] [0, 1, 2, 3, 4, 5, 7, 8, 9] rfl 10 rfl (by decide +kernel) rfl (by decide +kernel) hk1 hFc
          generalize H1 = H at hP hS ⊢
          have hK : va_K (dC, dI) vwCl [(cA_sl, .object RX6), (cA_r0_numbers, .long), (cA_r1_numbers, .long), (cA_r2_numbers, .long), (cA_r3_numbers, .long)] s := hK
          have b_r_105 : 0 ≤ r_105.toInt ∧ r_105.toInt ≤ 1 := hw
          refine lv_if_eq (tgt := 49) hx hb dX9_paste_38 (by decide) (fun c_106 => ?_) (fun c_106 => ?_)
          · have ic_106 := zz_eq rfl (show Int32.toInt 0 = 0 from by decide) c_106
            refine lv_bipush (v := (-6)) hx hb dX9_paste_49 (by decide) ?_
            exact W.iret (v := (-6)) hx hb hr (fun t ht hW => by rw [← hQe]; exact ⟨⟨(-6), (), rfl, (by decide), ⟨f_r0_numbers, f_r1_numbers, f_r2_numbers, f_r3_numbers, z_ret hP hK hD ht hW [0, 1, 2, 3, 4, 5, 9, 6, 7, 8] [] rfl (by decide) rfl⟩⟩, hS.F ht⟩) hS.2.2 dX9_paste_51
          · have ic_106 := zz_neq rfl (show Int32.toInt 0 = 0 from by decide) c_106
            refine lv_aload hx hb dX9_paste_41 (lv_at hl 0 rfl) ?_
            obtain ⟨hPc, hDc, hFc⟩ := z_cut (wc := (zV6 r2 r2_width r2_size r2_numbers)) hP hD hS hA [9] rfl (by decide +kernel)
            have hKc := hK.sub (tys' := []) [] rfl
            refine va_calli (va_runV (As := []) (rest := []) ⟨hx, hb, hml, hown, hts⟩ (k_X6_isThere l sa dC dI r2 r2_width r2_size r2_numbers b_r2_size H.size) (cwV 0 hts (z_gV zw_t5_222 zw_t5_223 zw_t5_224 zw_t1_10 zw_t5_225) rfl rfl rfl (by decide +kernel) (by rw [← hRe]; exact ⟨(Nat.le_of_ble_eq_true rfl), (Nat.le_of_ble_eq_true rfl)⟩)) (z_preV hPc hKc hDc hN hXs hS hFc (q := (RX6, TX6, 3)) (ci := 6) (q0 := 0) rfl rfl) rfl rfl hl.1 rfl (lv_room (Nat.le_of_ble_eq_true rfl)) dX9_paste_43 (by rw [← hRe]; exact ⟨(Nat.le_of_ble_eq_true rfl), (Nat.le_of_ble_eq_true rfl)⟩)) hS (fun q _ h => hFc q h) hFc (fun r_107 u t H1 locs ht hvm hw hB hz1 hk1 hS => ?_)
            obtain ⟨hP, hD, hK⟩ := z_after3 (wn := (zV76 h0 tp h0_tapeLength h0_faultKind h0_faultPlace nw im sl rd wk fm mt ch dy sl cA_sl f_sl r0 r0_width r0_size r0_numbers r0_numbers cA_r0_numbers f_r0_numbers r1 r1_width r1_size r1_numbers r1_numbers cA_r1_numbers f_r1_numbers r2_numbers cA_r2_numbers f_r2_numbers r3 r3_width r3_size r3_numbers r3_numbers cA_r3_numbers f_r3_numbers r2 r2_width r2_size r2_numbers)) hB ht hvm hP hD hK [9] [0, 1, 2, 3, 4, 5, 6, 7, 8] rfl 10 rfl (by decide +kernel) rfl (by decide +kernel) hk1 hFc
            generalize H1 = H at hP hS ⊢
            have hK : va_K (dC, dI) vwCl [(cA_sl, .object RX6), (cA_r0_numbers, .long), (cA_r1_numbers, .long), (cA_r2_numbers, .long), (cA_r3_numbers, .long)] s := hK
            have b_r_107 : 0 ≤ r_107.toInt ∧ r_107.toInt ≤ 1 := hw
            refine lv_if_ne (tgt := 52) hx hb dX9_paste_46 (by decide) (fun c_108 => ?_) (fun c_108 => ?_)
            · have ic_108 := zz_ne rfl (show Int32.toInt 0 = 0 from by decide) c_108
              refine lv_aload hx hb dX9_paste_52 (lv_at hl 1 rfl) ?_
              refine va_get (D := (dC, dI)) (ci := 6) (v := .int r2_width) (C := RX6) (T := TX6) (N := 3) hx hb hts zl_X6 hown hK hP 9 rfl rfl 0 (by decide) (hts _ zw_t2_176) (fun _ h9 => h9) rfl dX9_paste_54 ?_
              refine lv_aload hx hb dX9_paste_57 (lv_at hl 0 rfl) ?_
              refine va_get (D := (dC, dI)) (ci := 6) (v := .int r2_width) (C := RX6) (T := TX6) (N := 3) hx hb hts zl_X6 hown hK hP 9 rfl rfl 0 (by decide) (hts _ zw_t2_176) (fun _ h9 => h9) rfl dX9_paste_59 ?_
              have nb_r2_width := zi_nb r2_width
              refine lv_icmp_eq (tgt := 68) hx hb dX9_paste_62 (by decide) (fun c_109 => ?_) (fun q => absurd (zz_neq rfl rfl q) (by first | with_reducible assumption | omega))
              have ic_109 := zz_eq rfl rfl c_109
              refine lv_aload hx hb dX9_paste_68 (lv_at hl 1 rfl) ?_
              refine lv_iload_n hx hb dX9_paste_70 rfl (lv_at hl 4 rfl) ?_
              refine lv_iload hx hb dX9_paste_71 (lv_at hl 7 rfl) ?_
              obtain ⟨hPc, hDc, hFc⟩ := z_cut (wc := (zV6 r2 r2_width r2_size r2_numbers)) hP hD hS hA [9] rfl (by decide +kernel)
              have hKc := hK.sub (tys' := []) [] rfl
              refine va_calli (va_runV (As := [.int p2, .int p5]) (rest := []) ⟨hx, hb, hml, hown, hts⟩ (k_X6_hasSpan l sa dC dI r2 p2 p5 r2_width r2_size r2_numbers b_r2_size H.size) (cwV 2 hts (z_gV zw_t6_80 zw_t6_81 zw_t6_82 zw_t1_10 zw_t6_83) rfl rfl rfl (by decide +kernel) (by rw [← hRe]; exact ⟨(Nat.le_of_ble_eq_true rfl), (Nat.le_of_ble_eq_true rfl)⟩)) (z_preV hPc hKc hDc hN hXs hS hFc (q := (RX6, TX6, 3)) (ci := 6) (q0 := 0) rfl rfl) rfl rfl hl.1 rfl (lv_room (Nat.le_of_ble_eq_true rfl)) dX9_paste_73 (by rw [← hRe]; exact ⟨(Nat.le_of_ble_eq_true rfl), (Nat.le_of_ble_eq_true rfl)⟩)) hS (fun q _ h => hFc q h) hFc (fun r_110 u t H1 locs ht hvm hw hB hz1 hk1 hS => ?_)
              obtain ⟨hP, hD, hK⟩ := z_after3 (wn := (zV76 h0 tp h0_tapeLength h0_faultKind h0_faultPlace nw im sl rd wk fm mt ch dy sl cA_sl f_sl r0 r0_width r0_size r0_numbers r0_numbers cA_r0_numbers f_r0_numbers r1 r1_width r1_size r1_numbers r1_numbers cA_r1_numbers f_r1_numbers r2_numbers cA_r2_numbers f_r2_numbers r3 r3_width r3_size r3_numbers r3_numbers cA_r3_numbers f_r3_numbers r2 r2_width r2_size r2_numbers)) hB ht hvm hP hD hK [9] [0, 1, 2, 3, 4, 5, 6, 7, 8] rfl 10 rfl (by decide +kernel) rfl (by decide +kernel) hk1 hFc
              generalize H1 = H at hP hS ⊢
              have hK : va_K (dC, dI) vwCl [(cA_sl, .object RX6), (cA_r0_numbers, .long), (cA_r1_numbers, .long), (cA_r2_numbers, .long), (cA_r3_numbers, .long)] s := hK
              have b_r_110 : 0 ≤ r_110.toInt ∧ r_110.toInt ≤ 1 := hw.1
              have s_r_110 := hw.2
              refine lv_if_eq (tgt := 91) hx hb dX9_paste_76 (by decide) (fun c_111 => ?_) (fun c_111 => ?_)
              · have ic_111 := zz_eq rfl (show Int32.toInt 0 = 0 from by decide) c_111
                refine lv_bipush (v := (-7)) hx hb dX9_paste_91 (by decide) ?_
                exact W.iret (v := (-7)) hx hb hr (fun t ht hW => by rw [← hQe]; exact ⟨⟨(-7), (), rfl, (by decide), ⟨f_r0_numbers, f_r1_numbers, f_r2_numbers, f_r3_numbers, z_ret hP hK hD ht hW [0, 1, 2, 3, 4, 5, 9, 6, 7, 8] [] rfl (by decide) rfl⟩⟩, hS.F ht⟩) hS.2.2 dX9_paste_93
              · have ic_111 := zz_neq rfl (show Int32.toInt 0 = 0 from by decide) c_111
                refine lv_aload hx hb dX9_paste_79 (lv_at hl 0 rfl) ?_
                refine lv_iload hx hb dX9_paste_81 (lv_at hl 6 rfl) ?_
                refine lv_iload hx hb dX9_paste_83 (lv_at hl 7 rfl) ?_
                obtain ⟨hPc, hDc, hFc⟩ := z_cut (wc := (zV6 r2 r2_width r2_size r2_numbers)) hP hD hS hA [9] rfl (by decide +kernel)
                have hKc := hK.sub (tys' := []) [] rfl
                refine va_calli (va_runV (As := [.int p4, .int p5]) (rest := []) ⟨hx, hb, hml, hown, hts⟩ (k_X6_hasSpan l sa dC dI r2 p4 p5 r2_width r2_size r2_numbers b_r2_size H.size) (cwV 2 hts (z_gV zw_t6_80 zw_t6_81 zw_t6_82 zw_t1_10 zw_t6_83) rfl rfl rfl (by decide +kernel) (by rw [← hRe]; exact ⟨(Nat.le_of_ble_eq_true rfl), (Nat.le_of_ble_eq_true rfl)⟩)) (z_preV hPc hKc hDc hN hXs hS hFc (q := (RX6, TX6, 3)) (ci := 6) (q0 := 0) rfl rfl) rfl rfl hl.1 rfl (lv_room (Nat.le_of_ble_eq_true rfl)) dX9_paste_85 (by rw [← hRe]; exact ⟨(Nat.le_of_ble_eq_true rfl), (Nat.le_of_ble_eq_true rfl)⟩)) hS (fun q _ h => hFc q h) hFc (fun r_112 u t H1 locs ht hvm hw hB hz1 hk1 hS => ?_)
                obtain ⟨hP, hD, hK⟩ := z_after3 (wn := (zV76 h0 tp h0_tapeLength h0_faultKind h0_faultPlace nw im sl rd wk fm mt ch dy sl cA_sl f_sl r0 r0_width r0_size r0_numbers r0_numbers cA_r0_numbers f_r0_numbers r1 r1_width r1_size r1_numbers r1_numbers cA_r1_numbers f_r1_numbers r2_numbers cA_r2_numbers f_r2_numbers r3 r3_width r3_size r3_numbers r3_numbers cA_r3_numbers f_r3_numbers r2 r2_width r2_size r2_numbers)) hB ht hvm hP hD hK [9] [0, 1, 2, 3, 4, 5, 6, 7, 8] rfl 10 rfl (by decide +kernel) rfl (by decide +kernel) hk1 hFc
                generalize H1 = H at hP hS ⊢
                have hK : va_K (dC, dI) vwCl [(cA_sl, .object RX6), (cA_r0_numbers, .long), (cA_r1_numbers, .long), (cA_r2_numbers, .long), (cA_r3_numbers, .long)] s := hK
                have b_r_112 : 0 ≤ r_112.toInt ∧ r_112.toInt ≤ 1 := hw.1
                have s_r_112 := hw.2
                refine lv_if_ne (tgt := 94) hx hb dX9_paste_88 (by decide) (fun c_113 => ?_) (fun c_113 => ?_)
                · have ic_113 := zz_ne rfl (show Int32.toInt 0 = 0 from by decide) c_113
                  refine lv_aload hx hb dX9_paste_94 (lv_at hl 1 rfl) ?_
                  refine va_get (D := (dC, dI)) (ci := 6) (v := .ref r2_numbers) (C := RX6) (T := TX6) (N := 3) hx hb hts zl_X6 hown hK hP 9 rfl rfl 2 (by decide) (hts _ zw_t2_181) (fun _ h9 => h9) rfl dX9_paste_96 ?_
                  refine lv_iload_n hx hb dX9_paste_99 rfl (lv_at hl 4 rfl) ?_
                  refine lv_aload hx hb dX9_paste_100 (lv_at hl 0 rfl) ?_
                  refine va_get (D := (dC, dI)) (ci := 6) (v := .ref r2_numbers) (C := RX6) (T := TX6) (N := 3) hx hb hts zl_X6 hown hK hP 9 rfl rfl 2 (by decide) (hts _ zw_t2_181) (fun _ h9 => h9) rfl dX9_paste_102 ?_
                  refine lv_iload hx hb dX9_paste_105 (lv_at hl 6 rfl) ?_
                  refine lv_iload hx hb dX9_paste_107 (lv_at hl 7 rfl) ?_
                  have kc_p2 := zi_clamp (x := p2) rfl (by first | with_reducible assumption | omega)
                  have kc_p4 := zi_clamp (x := p4) rfl (by first | with_reducible assumption | omega)
                  have kc_p5 := zi_clamp (x := p5) rfl (by first | with_reducible assumption | omega)
                  refine va_copyl hx hb (by rw [hml]; exact hl.1.symm) hown (hts _ zw_t6_92) (hts _ zw_t4_39) (hts _ zw_t4_38) (hts _ zw_t1_18) hK hP hD hS 6 6 3 3 rfl rfl rfl rfl rfl (fun q => absurd (z_lt (k := 0) (by decide) q) (by first | with_reducible assumption | omega)) (fun q => absurd (z_lt (k := 0) (by decide) q) (by first | with_reducible assumption | omega)) (fun q => absurd (z_lt (k := 0) (by decide) q) (by first | with_reducible assumption | omega)) (by first | with_reducible assumption | omega) (by first | with_reducible assumption | omega) (fun _ _ => rfl) (by rw [← hRe]; exact (Nat.le_of_ble_eq_true rfl)) (by rw [← hRe]; exact (Nat.le_of_ble_eq_true rfl)) dX9_paste_109 (fun H locs hP hD hS => ?_)
                  obtain ⟨f_114, ef_114⟩ : ∃ g : Nat → Int64, g = va_cpy f_r2_numbers f_r2_numbers (Int32.toNatClampNeg p2) (Int32.toNatClampNeg p4) (Int32.toNatClampNeg p5) := ⟨_, rfl⟩
                  have hP : va_P (dC, dI) vwCl (zV76 h0 tp h0_tapeLength h0_faultKind h0_faultPlace nw im sl rd wk fm mt ch dy sl cA_sl f_sl r0 r0_width r0_size r0_numbers r0_numbers cA_r0_numbers f_r0_numbers r1 r1_width r1_size r1_numbers r1_numbers cA_r1_numbers f_r1_numbers r2_numbers cA_r2_numbers (va_cpy f_r2_numbers f_r2_numbers (Int32.toNatClampNeg p2) (Int32.toNatClampNeg p4) (Int32.toNatClampNeg p5)) r3 r3_width r3_size r3_numbers r3_numbers cA_r3_numbers f_r3_numbers r2 r2_width r2_size r2_numbers) H := hP
                  have hD : va_D A (zV76 h0 tp h0_tapeLength h0_faultKind h0_faultPlace nw im sl rd wk fm mt ch dy sl cA_sl f_sl r0 r0_width r0_size r0_numbers r0_numbers cA_r0_numbers f_r0_numbers r1 r1_width r1_size r1_numbers r1_numbers cA_r1_numbers f_r1_numbers r2_numbers cA_r2_numbers (va_cpy f_r2_numbers f_r2_numbers (Int32.toNatClampNeg p2) (Int32.toNatClampNeg p4) (Int32.toNatClampNeg p5)) r3 r3_width r3_size r3_numbers r3_numbers cA_r3_numbers f_r3_numbers r2 r2_width r2_size r2_numbers) := hD
                  rw [← ef_114] at hP hD
                  refine lv_iconst (v := 0) hx hb dX9_paste_112 (by decide) ?_
                  exact W.iret (v := 0) hx hb hr (fun t ht hW => by rw [← hQe]; exact ⟨⟨0, (), rfl, (by decide), ⟨f_r0_numbers, f_r1_numbers, f_114, f_r3_numbers, z_ret hP hK hD ht hW [0, 1, 2, 3, 4, 5, 9, 6, 7, 8] [] rfl (by decide) rfl⟩⟩, hS.F ht⟩) hS.2.2 dX9_paste_113
                · have ic_113 := zz_nne rfl (show Int32.toInt 0 = 0 from by decide) c_113
                  refine lv_bipush (v := (-7)) hx hb dX9_paste_91 (by decide) ?_
                  exact W.iret (v := (-7)) hx hb hr (fun t ht hW => by rw [← hQe]; exact ⟨⟨(-7), (), rfl, (by decide), ⟨f_r0_numbers, f_r1_numbers, f_r2_numbers, f_r3_numbers, z_ret hP hK hD ht hW [0, 1, 2, 3, 4, 5, 9, 6, 7, 8] [] rfl (by decide) rfl⟩⟩, hS.F ht⟩) hS.2.2 dX9_paste_93
            · have ic_108 := zz_nne rfl (show Int32.toInt 0 = 0 from by decide) c_108
              refine lv_bipush (v := (-6)) hx hb dX9_paste_49 (by decide) ?_
              exact W.iret (v := (-6)) hx hb hr (fun t ht hW => by rw [← hQe]; exact ⟨⟨(-6), (), rfl, (by decide), ⟨f_r0_numbers, f_r1_numbers, f_r2_numbers, f_r3_numbers, z_ret hP hK hD ht hW [0, 1, 2, 3, 4, 5, 9, 6, 7, 8] [] rfl (by decide) rfl⟩⟩, hS.F ht⟩) hS.2.2 dX9_paste_51
        · have zc_3 : Int32.toInt 3 = 3 := by decide
          refine va_aldq hx hb hK hP 1 0 rfl rfl (zi_in (show Int32.toInt 3 = 3 from by decide) (by decide)) dX9_paste_30 ?_
          refine W.eq (g2 := F0 m 31 ls (.ref r3 :: [])) (by rw [show f_sl (Int32.toNatClampNeg 3) = some r3 from (by rw [show Int32.toNatClampNeg 3 = 3 from by decide]; exact hsl3)]; rfl) ?_
          refine lv_astore (lv' := [(7, .ref r3), (6, .ref r2), (0, .ref h0), (1, .int 2), (2, .int p2), (3, .int 3), (4, .int p4), (5, .int p5)]) hx hb dX9_paste_31 hl (by decide) rfl (fun ls hl => ?_)
          refine lv_aload hx hb dX9_paste_33 (lv_at hl 1 rfl) ?_
          obtain ⟨hPc, hDc, hFc⟩ := z_cut (wc := (zV6 r2 r2_width r2_size r2_numbers)) hP hD hS hA [6] rfl (by decide +kernel)
          have hKc := hK.sub (tys' := []) [] rfl
          refine va_calli (va_runV (As := []) (rest := []) ⟨hx, hb, hml, hown, hts⟩ (k_X6_isThere l sa dC dI r2 r2_width r2_size r2_numbers b_r2_size H.size) (cwV 0 hts (z_gV zw_t5_222 zw_t5_223 zw_t5_224 zw_t1_10 zw_t5_225) rfl rfl rfl (by decide +kernel) (by rw [← hRe]; exact ⟨(Nat.le_of_ble_eq_true rfl), (Nat.le_of_ble_eq_true rfl)⟩)) (z_preV hPc hKc hDc hN hXs hS hFc (q := (RX6, TX6, 3)) (ci := 6) (q0 := 0) rfl rfl) rfl rfl hl.1 rfl (lv_room (Nat.le_of_ble_eq_true rfl)) dX9_paste_35 (by rw [← hRe]; exact ⟨(Nat.le_of_ble_eq_true rfl), (Nat.le_of_ble_eq_true rfl)⟩)) hS (fun q _ h => hFc q h) hFc (fun r_115 u t H1 locs ht hvm hw hB hz1 hk1 hS => ?_)
          obtain ⟨hP, hD, hK⟩ := z_after3 (wn := (zV76 h0 tp h0_tapeLength h0_faultKind h0_faultPlace nw im sl rd wk fm mt ch dy sl cA_sl f_sl r0 r0_width r0_size r0_numbers r0_numbers cA_r0_numbers f_r0_numbers r1 r1_width r1_size r1_numbers r1_numbers cA_r1_numbers f_r1_numbers r2_numbers cA_r2_numbers f_r2_numbers r3 r3_width r3_size r3_numbers r3_numbers cA_r3_numbers f_r3_numbers r2 r2_width r2_size r2_numbers)) hB ht hvm hP hD hK [6] [0, 1, 2, 3, 4, 5, 7, 8, 9] rfl 10 rfl (by decide +kernel) rfl (by decide +kernel) hk1 hFc
          generalize H1 = H at hP hS ⊢
          have hK : va_K (dC, dI) vwCl [(cA_sl, .object RX6), (cA_r0_numbers, .long), (cA_r1_numbers, .long), (cA_r2_numbers, .long), (cA_r3_numbers, .long)] s := hK
          have b_r_115 : 0 ≤ r_115.toInt ∧ r_115.toInt ≤ 1 := hw
          refine lv_if_eq (tgt := 49) hx hb dX9_paste_38 (by decide) (fun c_116 => ?_) (fun c_116 => ?_)
          · have ic_116 := zz_eq rfl (show Int32.toInt 0 = 0 from by decide) c_116
            refine lv_bipush (v := (-6)) hx hb dX9_paste_49 (by decide) ?_
            exact W.iret (v := (-6)) hx hb hr (fun t ht hW => by rw [← hQe]; exact ⟨⟨(-6), (), rfl, (by decide), ⟨f_r0_numbers, f_r1_numbers, f_r2_numbers, f_r3_numbers, z_ret hP hK hD ht hW [0, 1, 2, 3, 4, 5, 9, 6, 7, 8] [] rfl (by decide) rfl⟩⟩, hS.F ht⟩) hS.2.2 dX9_paste_51
          · have ic_116 := zz_neq rfl (show Int32.toInt 0 = 0 from by decide) c_116
            refine lv_aload hx hb dX9_paste_41 (lv_at hl 0 rfl) ?_
            obtain ⟨hPc, hDc, hFc⟩ := z_cut (wc := (zV6 r3 r3_width r3_size r3_numbers)) hP hD hS hA [7] rfl (by decide +kernel)
            have hKc := hK.sub (tys' := []) [] rfl
            refine va_calli (va_runV (As := []) (rest := []) ⟨hx, hb, hml, hown, hts⟩ (k_X6_isThere l sa dC dI r3 r3_width r3_size r3_numbers b_r3_size H.size) (cwV 0 hts (z_gV zw_t5_222 zw_t5_223 zw_t5_224 zw_t1_10 zw_t5_225) rfl rfl rfl (by decide +kernel) (by rw [← hRe]; exact ⟨(Nat.le_of_ble_eq_true rfl), (Nat.le_of_ble_eq_true rfl)⟩)) (z_preV hPc hKc hDc hN hXs hS hFc (q := (RX6, TX6, 3)) (ci := 6) (q0 := 0) rfl rfl) rfl rfl hl.1 rfl (lv_room (Nat.le_of_ble_eq_true rfl)) dX9_paste_43 (by rw [← hRe]; exact ⟨(Nat.le_of_ble_eq_true rfl), (Nat.le_of_ble_eq_true rfl)⟩)) hS (fun q _ h => hFc q h) hFc (fun r_117 u t H1 locs ht hvm hw hB hz1 hk1 hS => ?_)
            obtain ⟨hP, hD, hK⟩ := z_after3 (wn := (zV165 h0 tp h0_tapeLength h0_faultKind h0_faultPlace nw im sl rd wk fm mt ch dy sl cA_sl f_sl r0 r0_width r0_size r0_numbers r0_numbers cA_r0_numbers f_r0_numbers r1 r1_width r1_size r1_numbers r1_numbers cA_r1_numbers f_r1_numbers r2_numbers cA_r2_numbers f_r2_numbers r3_numbers cA_r3_numbers f_r3_numbers r2 r2_width r2_size r2_numbers r3 r3_width r3_size r3_numbers)) hB ht hvm hP hD hK [7] [0, 1, 2, 3, 4, 5, 6, 8, 9] rfl 10 rfl (by decide +kernel) rfl (by decide +kernel) hk1 hFc
            generalize H1 = H at hP hS ⊢
            have hK : va_K (dC, dI) vwCl [(cA_sl, .object RX6), (cA_r0_numbers, .long), (cA_r1_numbers, .long), (cA_r2_numbers, .long), (cA_r3_numbers, .long)] s := hK
            have b_r_117 : 0 ≤ r_117.toInt ∧ r_117.toInt ≤ 1 := hw
            refine lv_if_ne (tgt := 52) hx hb dX9_paste_46 (by decide) (fun c_118 => ?_) (fun c_118 => ?_)
            · have ic_118 := zz_ne rfl (show Int32.toInt 0 = 0 from by decide) c_118
              refine lv_aload hx hb dX9_paste_52 (lv_at hl 1 rfl) ?_
              refine va_get (D := (dC, dI)) (ci := 6) (v := .int r2_width) (C := RX6) (T := TX6) (N := 3) hx hb hts zl_X6 hown hK hP 8 rfl rfl 0 (by decide) (hts _ zw_t2_176) (fun _ h9 => h9) rfl dX9_paste_54 ?_
              refine lv_aload hx hb dX9_paste_57 (lv_at hl 0 rfl) ?_
              refine va_get (D := (dC, dI)) (ci := 6) (v := .int r3_width) (C := RX6) (T := TX6) (N := 3) hx hb hts zl_X6 hown hK hP 9 rfl rfl 0 (by decide) (hts _ zw_t2_176) (fun _ h9 => h9) rfl dX9_paste_59 ?_
              have nb_r2_width := zi_nb r2_width
              have nb_r3_width := zi_nb r3_width
              refine lv_icmp_eq (tgt := 68) hx hb dX9_paste_62 (by decide) (fun c_119 => ?_) (fun c_119 => ?_)
              · have ic_119 := zz_eq rfl rfl c_119
                refine lv_aload hx hb dX9_paste_68 (lv_at hl 1 rfl) ?_
                refine lv_iload_n hx hb dX9_paste_70 rfl (lv_at hl 4 rfl) ?_
                refine lv_iload hx hb dX9_paste_71 (lv_at hl 7 rfl) ?_
                obtain ⟨hPc, hDc, hFc⟩ := z_cut (wc := (zV6 r2 r2_width r2_size r2_numbers)) hP hD hS hA [8] rfl (by decide +kernel)
                have hKc := hK.sub (tys' := []) [] rfl
                refine va_calli (va_runV (As := [.int p2, .int p5]) (rest := []) ⟨hx, hb, hml, hown, hts⟩ (k_X6_hasSpan l sa dC dI r2 p2 p5 r2_width r2_size r2_numbers b_r2_size H.size) (cwV 2 hts (z_gV zw_t6_80 zw_t6_81 zw_t6_82 zw_t1_10 zw_t6_83) rfl rfl rfl (by decide +kernel) (by rw [← hRe]; exact ⟨(Nat.le_of_ble_eq_true rfl), (Nat.le_of_ble_eq_true rfl)⟩)) (z_preV hPc hKc hDc hN hXs hS hFc (q := (RX6, TX6, 3)) (ci := 6) (q0 := 0) rfl rfl) rfl rfl hl.1 rfl (lv_room (Nat.le_of_ble_eq_true rfl)) dX9_paste_73 (by rw [← hRe]; exact ⟨(Nat.le_of_ble_eq_true rfl), (Nat.le_of_ble_eq_true rfl)⟩)) hS (fun q _ h => hFc q h) hFc (fun r_120 u t H1 locs ht hvm hw hB hz1 hk1 hS => ?_)
                obtain ⟨hP, hD, hK⟩ := z_after3 (wn := (zV165 h0 tp h0_tapeLength h0_faultKind h0_faultPlace nw im sl rd wk fm mt ch dy sl cA_sl f_sl r0 r0_width r0_size r0_numbers r0_numbers cA_r0_numbers f_r0_numbers r1 r1_width r1_size r1_numbers r1_numbers cA_r1_numbers f_r1_numbers r2_numbers cA_r2_numbers f_r2_numbers r3_numbers cA_r3_numbers f_r3_numbers r3 r3_width r3_size r3_numbers r2 r2_width r2_size r2_numbers)) hB ht hvm hP hD hK [8] [0, 1, 2, 3, 4, 5, 6, 7, 9] rfl 10 rfl (by decide +kernel) rfl (by decide +kernel) hk1 hFc
                generalize H1 = H at hP hS ⊢
                have hK : va_K (dC, dI) vwCl [(cA_sl, .object RX6), (cA_r0_numbers, .long), (cA_r1_numbers, .long), (cA_r2_numbers, .long), (cA_r3_numbers, .long)] s := hK
                have b_r_120 : 0 ≤ r_120.toInt ∧ r_120.toInt ≤ 1 := hw.1
                have s_r_120 := hw.2
                refine lv_if_eq (tgt := 91) hx hb dX9_paste_76 (by decide) (fun c_121 => ?_) (fun c_121 => ?_)
                · have ic_121 := zz_eq rfl (show Int32.toInt 0 = 0 from by decide) c_121
                  refine lv_bipush (v := (-7)) hx hb dX9_paste_91 (by decide) ?_
                  exact W.iret (v := (-7)) hx hb hr (fun t ht hW => by rw [← hQe]; exact ⟨⟨(-7), (), rfl, (by decide), ⟨f_r0_numbers, f_r1_numbers, f_r2_numbers, f_r3_numbers, z_ret hP hK hD ht hW [0, 1, 2, 3, 4, 5, 9, 6, 8, 7] [] rfl (by decide) rfl⟩⟩, hS.F ht⟩) hS.2.2 dX9_paste_93
                · have ic_121 := zz_neq rfl (show Int32.toInt 0 = 0 from by decide) c_121
                  refine lv_aload hx hb dX9_paste_79 (lv_at hl 0 rfl) ?_
                  refine lv_iload hx hb dX9_paste_81 (lv_at hl 6 rfl) ?_
                  refine lv_iload hx hb dX9_paste_83 (lv_at hl 7 rfl) ?_
                  obtain ⟨hPc, hDc, hFc⟩ := z_cut (wc := (zV6 r3 r3_width r3_size r3_numbers)) hP hD hS hA [8] rfl (by decide +kernel)
                  have hKc := hK.sub (tys' := []) [] rfl
                  refine va_calli (va_runV (As := [.int p4, .int p5]) (rest := []) ⟨hx, hb, hml, hown, hts⟩ (k_X6_hasSpan l sa dC dI r3 p4 p5 r3_width r3_size r3_numbers b_r3_size H.size) (cwV 2 hts (z_gV zw_t6_80 zw_t6_81 zw_t6_82 zw_t1_10 zw_t6_83) rfl rfl rfl (by decide +kernel) (by rw [← hRe]; exact ⟨(Nat.le_of_ble_eq_true rfl), (Nat.le_of_ble_eq_true rfl)⟩)) (z_preV hPc hKc hDc hN hXs hS hFc (q := (RX6, TX6, 3)) (ci := 6) (q0 := 0) rfl rfl) rfl rfl hl.1 rfl (lv_room (Nat.le_of_ble_eq_true rfl)) dX9_paste_85 (by rw [← hRe]; exact ⟨(Nat.le_of_ble_eq_true rfl), (Nat.le_of_ble_eq_true rfl)⟩)) hS (fun q _ h => hFc q h) hFc (fun r_122 u t H1 locs ht hvm hw hB hz1 hk1 hS => ?_)
                  obtain ⟨hP, hD, hK⟩ := z_after3 (wn := (zV165 h0 tp h0_tapeLength h0_faultKind h0_faultPlace nw im sl rd wk fm mt ch dy sl cA_sl f_sl r0 r0_width r0_size r0_numbers r0_numbers cA_r0_numbers f_r0_numbers r1 r1_width r1_size r1_numbers r1_numbers cA_r1_numbers f_r1_numbers r2_numbers cA_r2_numbers f_r2_numbers r3_numbers cA_r3_numbers f_r3_numbers r2 r2_width r2_size r2_numbers r3 r3_width r3_size r3_numbers)) hB ht hvm hP hD hK [8] [0, 1, 2, 3, 4, 5, 6, 7, 9] rfl 10 rfl (by decide +kernel) rfl (by decide +kernel) hk1 hFc
                  generalize H1 = H at hP hS ⊢
                  have hK : va_K (dC, dI) vwCl [(cA_sl, .object RX6), (cA_r0_numbers, .long), (cA_r1_numbers, .long), (cA_r2_numbers, .long), (cA_r3_numbers, .long)] s := hK
                  have b_r_122 : 0 ≤ r_122.toInt ∧ r_122.toInt ≤ 1 := hw.1
                  have s_r_122 := hw.2
                  refine lv_if_ne (tgt := 94) hx hb dX9_paste_88 (by decide) (fun c_123 => ?_) (fun c_123 => ?_)
                  · have ic_123 := zz_ne rfl (show Int32.toInt 0 = 0 from by decide) c_123
                    refine lv_aload hx hb dX9_paste_94 (lv_at hl 1 rfl) ?_
                    refine va_get (D := (dC, dI)) (ci := 6) (v := .ref r2_numbers) (C := RX6) (T := TX6) (N := 3) hx hb hts zl_X6 hown hK hP 8 rfl rfl 2 (by decide) (hts _ zw_t2_181) (fun _ h9 => h9) rfl dX9_paste_96 ?_
                    refine lv_iload_n hx hb dX9_paste_99 rfl (lv_at hl 4 rfl) ?_
                    refine lv_aload hx hb dX9_paste_100 (lv_at hl 0 rfl) ?_
                    refine va_get (D := (dC, dI)) (ci := 6) (v := .ref r3_numbers) (C := RX6) (T := TX6) (N := 3) hx hb hts zl_X6 hown hK hP 9 rfl rfl 2 (by decide) (hts _ zw_t2_181) (fun _ h9 => h9) rfl dX9_paste_102 ?_
                    refine lv_iload hx hb dX9_paste_105 (lv_at hl 6 rfl) ?_
                    refine lv_iload hx hb dX9_paste_107 (lv_at hl 7 rfl) ?_
                    have kc_p2 := zi_clamp (x := p2) rfl (by first | with_reducible assumption | omega)
                    have kc_p4 := zi_clamp (x := p4) rfl (by first | with_reducible assumption | omega)
                    have kc_p5 := zi_clamp (x := p5) rfl (by first | with_reducible assumption | omega)
                    refine va_copyl hx hb (by rw [hml]; exact hl.1.symm) hown (hts _ zw_t6_92) (hts _ zw_t4_39) (hts _ zw_t4_38) (hts _ zw_t1_18) hK hP hD hS 6 7 3 4 rfl rfl rfl rfl rfl (fun q => absurd (z_lt (k := 0) (by decide) q) (by first | with_reducible assumption | omega)) (fun q => absurd (z_lt (k := 0) (by decide) q) (by first | with_reducible assumption | omega)) (fun q => absurd (z_lt (k := 0) (by decide) q) (by first | with_reducible assumption | omega)) (by first | with_reducible assumption | omega) (by first | with_reducible assumption | omega) (fun _ _ => rfl) (by rw [← hRe]; exact (Nat.le_of_ble_eq_true rfl)) (by rw [← hRe]; exact (Nat.le_of_ble_eq_true rfl)) dX9_paste_109 (fun H locs hP hD hS => ?_)
                    obtain ⟨f_124, ef_124⟩ : ∃ g : Nat → Int64, g = va_cpy f_r2_numbers f_r3_numbers (Int32.toNatClampNeg p2) (Int32.toNatClampNeg p4) (Int32.toNatClampNeg p5) := ⟨_, rfl⟩
                    have hP : va_P (dC, dI) vwCl (zV165 h0 tp h0_tapeLength h0_faultKind h0_faultPlace nw im sl rd wk fm mt ch dy sl cA_sl f_sl r0 r0_width r0_size r0_numbers r0_numbers cA_r0_numbers f_r0_numbers r1 r1_width r1_size r1_numbers r1_numbers cA_r1_numbers f_r1_numbers r2_numbers cA_r2_numbers f_r2_numbers r3_numbers cA_r3_numbers (va_cpy f_r2_numbers f_r3_numbers (Int32.toNatClampNeg p2) (Int32.toNatClampNeg p4) (Int32.toNatClampNeg p5)) r2 r2_width r2_size r2_numbers r3 r3_width r3_size r3_numbers) H := hP
                    have hD : va_D A (zV165 h0 tp h0_tapeLength h0_faultKind h0_faultPlace nw im sl rd wk fm mt ch dy sl cA_sl f_sl r0 r0_width r0_size r0_numbers r0_numbers cA_r0_numbers f_r0_numbers r1 r1_width r1_size r1_numbers r1_numbers cA_r1_numbers f_r1_numbers r2_numbers cA_r2_numbers f_r2_numbers r3_numbers cA_r3_numbers (va_cpy f_r2_numbers f_r3_numbers (Int32.toNatClampNeg p2) (Int32.toNatClampNeg p4) (Int32.toNatClampNeg p5)) r2 r2_width r2_size r2_numbers r3 r3_width r3_size r3_numbers) := hD
                    rw [← ef_124] at hP hD
                    refine lv_iconst (v := 0) hx hb dX9_paste_112 (by decide) ?_
                    exact W.iret (v := 0) hx hb hr (fun t ht hW => by rw [← hQe]; exact ⟨⟨0, (), rfl, (by decide), ⟨f_r0_numbers, f_r1_numbers, f_r2_numbers, f_124, z_ret hP hK hD ht hW [0, 1, 2, 3, 4, 5, 8, 6, 9, 7] [] rfl (by decide) rfl⟩⟩, hS.F ht⟩) hS.2.2 dX9_paste_113
                  · have ic_123 := zz_nne rfl (show Int32.toInt 0 = 0 from by decide) c_123
                    refine lv_bipush (v := (-7)) hx hb dX9_paste_91 (by decide) ?_
                    exact W.iret (v := (-7)) hx hb hr (fun t ht hW => by rw [← hQe]; exact ⟨⟨(-7), (), rfl, (by decide), ⟨f_r0_numbers, f_r1_numbers, f_r2_numbers, f_r3_numbers, z_ret hP hK hD ht hW [0, 1, 2, 3, 4, 5, 8, 6, 9, 7] [] rfl (by decide) rfl⟩⟩, hS.F ht⟩) hS.2.2 dX9_paste_93
              · have ic_119 := zz_neq rfl rfl c_119
                refine lv_bipush (v := (-8)) hx hb dX9_paste_65 (by decide) ?_
                exact W.iret (v := (-8)) hx hb hr (fun t ht hW => by rw [← hQe]; exact ⟨⟨(-8), (), rfl, (by decide), ⟨f_r0_numbers, f_r1_numbers, f_r2_numbers, f_r3_numbers, z_ret hP hK hD ht hW [0, 1, 2, 3, 4, 5, 8, 6, 9, 7] [] rfl (by decide) rfl⟩⟩, hS.F ht⟩) hS.2.2 dX9_paste_67
            · have ic_118 := zz_nne rfl (show Int32.toInt 0 = 0 from by decide) c_118
              refine lv_bipush (v := (-6)) hx hb dX9_paste_49 (by decide) ?_
              exact W.iret (v := (-6)) hx hb hr (fun t ht hW => by rw [← hQe]; exact ⟨⟨(-6), (), rfl, (by decide), ⟨f_r0_numbers, f_r1_numbers, f_r2_numbers, f_r3_numbers, z_ret hP hK hD ht hW [0, 1, 2, 3, 4, 5, 8, 6, 9, 7] [] rfl (by decide) rfl⟩⟩, hS.F ht⟩) hS.2.2 dX9_paste_51
        · omega
      · have zc_3 : Int32.toInt 3 = 3 := by decide
        refine va_aldq hx hb hK hP 1 0 rfl rfl (zi_in (show Int32.toInt 3 = 3 from by decide) (by decide)) dX9_paste_22 ?_
        refine W.eq (g2 := F0 m 23 ls (.ref r3 :: [])) (by rw [show f_sl (Int32.toNatClampNeg 3) = some r3 from (by rw [show Int32.toNatClampNeg 3 = 3 from by decide]; exact hsl3)]; rfl) ?_
        refine lv_astore (lv' := [(6, .ref r3), (0, .ref h0), (1, .int 3), (2, .int p2), (3, .int p3), (4, .int p4), (5, .int p5)]) hx hb dX9_paste_23 hl (by decide) rfl (fun ls hl => ?_)
        refine lv_aload_n hx hb dX9_paste_25 rfl (lv_at hl 1 rfl) ?_
        refine va_get (D := (dC, dI)) (ci := 9) (v := .ref sl) (C := RX9) (T := TX9) (N := 13) hx hb hts zl_X9 hown hK hP 0 rfl rfl 6 (by decide) (hts _ zw_t2_195) (fun _ h9 => h9) rfl dX9_paste_26 ?_
        refine lv_iload_n hx hb dX9_paste_29 rfl (lv_at hl 4 rfl) ?_
        rcases z_s3 p3 with q_sw | rfl | rfl | rfl | rfl | q_sw
        · omega
        · have zc_0 : Int32.toInt 0 = 0 := by decide
          refine va_aldq hx hb hK hP 1 0 rfl rfl (zi_in (show Int32.toInt 0 = 0 from by decide) (by decide)) dX9_paste_30 ?_
          refine W.eq (g2 := F0 m 31 ls (.ref r0 :: [])) (by rw [show f_sl (Int32.toNatClampNeg 0) = some r0 from (by rw [show Int32.toNatClampNeg 0 = 0 from by decide]; exact hsl0)]; rfl) ?_
          refine lv_astore (lv' := [(7, .ref r0), (6, .ref r3), (0, .ref h0), (1, .int 3), (2, .int p2), (3, .int 0), (4, .int p4), (5, .int p5)]) hx hb dX9_paste_31 hl (by decide) rfl (fun ls hl => ?_)
          refine lv_aload hx hb dX9_paste_33 (lv_at hl 1 rfl) ?_
          obtain ⟨hPc, hDc, hFc⟩ := z_cut (wc := (zV6 r3 r3_width r3_size r3_numbers)) hP hD hS hA [8] rfl (by decide +kernel)
          have hKc := hK.sub (tys' := []) [] rfl
          refine va_calli (va_runV (As := []) (rest := []) ⟨hx, hb, hml, hown, hts⟩ (k_X6_isThere l sa dC dI r3 r3_width r3_size r3_numbers b_r3_size H.size) (cwV 0 hts (z_gV zw_t5_222 zw_t5_223 zw_t5_224 zw_t1_10 zw_t5_225) rfl rfl rfl (by decide +kernel) (by rw [← hRe]; exact ⟨(Nat.le_of_ble_eq_true rfl), (Nat.le_of_ble_eq_true rfl)⟩)) (z_preV hPc hKc hDc hN hXs hS hFc (q := (RX6, TX6, 3)) (ci := 6) (q0 := 0) rfl rfl) rfl rfl hl.1 rfl (lv_room (Nat.le_of_ble_eq_true rfl)) dX9_paste_35 (by rw [← hRe]; exact ⟨(Nat.le_of_ble_eq_true rfl), (Nat.le_of_ble_eq_true rfl)⟩)) hS (fun q _ h => hFc q h) hFc (fun r_125 u t H1 locs ht hvm hw hB hz1 hk1 hS => ?_)
          obtain ⟨hP, hD, hK⟩ := z_after3 (wn := (zV77 h0 tp h0_tapeLength h0_faultKind h0_faultPlace nw im sl rd wk fm mt ch dy sl cA_sl f_sl r0 r0_width r0_size r0_numbers r0_numbers cA_r0_numbers f_r0_numbers r1 r1_width r1_size r1_numbers r1_numbers cA_r1_numbers f_r1_numbers r2 r2_width r2_size r2_numbers r2_numbers cA_r2_numbers f_r2_numbers r3_numbers cA_r3_numbers f_r3_numbers r3 r3_width r3_size r3_numbers)) hB ht hvm hP hD hK [8] [0, 1, 2, 3, 4, 5, 6, 7, 9] rfl 10 rfl (by decide +kernel) rfl (by decide +kernel) hk1 hFc
          generalize H1 = H at hP hS ⊢
          have hK : va_K (dC, dI) vwCl [(cA_sl, .object RX6), (cA_r0_numbers, .long), (cA_r1_numbers, .long), (cA_r2_numbers, .long), (cA_r3_numbers, .long)] s := hK
          have b_r_125 : 0 ≤ r_125.toInt ∧ r_125.toInt ≤ 1 := hw
          refine lv_if_eq (tgt := 49) hx hb dX9_paste_38 (by decide) (fun c_126 => ?_) (fun c_126 => ?_)
          · have ic_126 := zz_eq rfl (show Int32.toInt 0 = 0 from by decide) c_126
            refine lv_bipush (v := (-6)) hx hb dX9_paste_49 (by decide) ?_
            exact W.iret (v := (-6)) hx hb hr (fun t ht hW => by rw [← hQe]; exact ⟨⟨(-6), (), rfl, (by decide), ⟨f_r0_numbers, f_r1_numbers, f_r2_numbers, f_r3_numbers, z_ret hP hK hD ht hW [0, 1, 2, 3, 4, 5, 6, 7, 9, 8] [] rfl (by decide) rfl⟩⟩, hS.F ht⟩) hS.2.2 dX9_paste_51
          · have ic_126 := zz_neq rfl (show Int32.toInt 0 = 0 from by decide) c_126
            refine lv_aload hx hb dX9_paste_41 (lv_at hl 0 rfl) ?_
            obtain ⟨hPc, hDc, hFc⟩ := z_cut (wc := (zV6 r0 r0_width r0_size r0_numbers)) hP hD hS hA [2] rfl (by decide +kernel)
            have hKc := hK.sub (tys' := []) [] rfl
            refine va_calli (va_runV (As := []) (rest := []) ⟨hx, hb, hml, hown, hts⟩ (k_X6_isThere l sa dC dI r0 r0_width r0_size r0_numbers b_r0_size H.size) (cwV 0 hts (z_gV zw_t5_222 zw_t5_223 zw_t5_224 zw_t1_10 zw_t5_225) rfl rfl rfl (by decide +kernel) (by rw [← hRe]; exact ⟨(Nat.le_of_ble_eq_true rfl), (Nat.le_of_ble_eq_true rfl)⟩)) (z_preV hPc hKc hDc hN hXs hS hFc (q := (RX6, TX6, 3)) (ci := 6) (q0 := 0) rfl rfl) rfl rfl hl.1 rfl (lv_room (Nat.le_of_ble_eq_true rfl)) dX9_paste_43 (by rw [← hRe]; exact ⟨(Nat.le_of_ble_eq_true rfl), (Nat.le_of_ble_eq_true rfl)⟩)) hS (fun q _ h => hFc q h) hFc (fun r_127 u t H1 locs ht hvm hw hB hz1 hk1 hS => ?_)
            obtain ⟨hP, hD, hK⟩ := z_after3 (wn := (zV162 h0 tp h0_tapeLength h0_faultKind h0_faultPlace nw im sl rd wk fm mt ch dy sl cA_sl f_sl r0_numbers cA_r0_numbers f_r0_numbers r1 r1_width r1_size r1_numbers r1_numbers cA_r1_numbers f_r1_numbers r2 r2_width r2_size r2_numbers r2_numbers cA_r2_numbers f_r2_numbers r3_numbers cA_r3_numbers f_r3_numbers r3 r3_width r3_size r3_numbers r0 r0_width r0_size r0_numbers)) hB ht hvm hP hD hK [2] [0, 1, 3, 4, 5, 6, 7, 8, 9] rfl 10 rfl (by decide +kernel) rfl (by decide +kernel) hk1 hFc
            generalize H1 = H at hP hS ⊢
            have hK : va_K (dC, dI) vwCl [(cA_sl, .object RX6), (cA_r0_numbers, .long), (cA_r1_numbers, .long), (cA_r2_numbers, .long), (cA_r3_numbers, .long)] s := hK
            have b_r_127 : 0 ≤ r_127.toInt ∧ r_127.toInt ≤ 1 := hw
            refine lv_if_ne (tgt := 52) hx hb dX9_paste_46 (by decide) (fun c_128 => ?_) (fun c_128 => ?_)
            · have ic_128 := zz_ne rfl (show Int32.toInt 0 = 0 from by decide) c_128
              refine lv_aload hx hb dX9_paste_52 (lv_at hl 1 rfl) ?_
              refine va_get (D := (dC, dI)) (ci := 6) (v := .int r3_width) (C := RX6) (T := TX6) (N := 3) hx hb hts zl_X6 hown hK hP 8 rfl rfl 0 (by decide) (hts _ zw_t2_176) (fun _ h9 => h9) rfl dX9_paste_54 ?_
              refine lv_aload hx hb dX9_paste_57 (lv_at hl 0 rfl) ?_
              refine va_get (D := (dC, dI)) (ci := 6) (v := .int r0_width) (C := RX6) (T := TX6) (N := 3) hx hb hts zl_X6 hown hK hP 9 rfl rfl 0 (by decide) (hts _ zw_t2_176) (fun _ h9 => h9) rfl dX9_paste_59 ?_
              have nb_r3_width := zi_nb r3_width
              have nb_r0_width := zi_nb r0_width
              refine lv_icmp_eq (tgt := 68) hx hb dX9_paste_62 (by decide) (fun c_129 => ?_) (fun c_129 => ?_)
              · have ic_129 := zz_eq rfl rfl c_129
                refine lv_aload hx hb dX9_paste_68 (lv_at hl 1 rfl) ?_
                refine lv_iload_n hx hb dX9_paste_70 rfl (lv_at hl 4 rfl) ?_
                refine lv_iload hx hb dX9_paste_71 (lv_at hl 7 rfl) ?_
                obtain ⟨hPc, hDc, hFc⟩ := z_cut (wc := (zV6 r3 r3_width r3_size r3_numbers)) hP hD hS hA [8] rfl (by decide +kernel)
                have hKc := hK.sub (tys' := []) [] rfl
                refine va_calli (va_runV (As := [.int p2, .int p5]) (rest := []) ⟨hx, hb, hml, hown, hts⟩ (k_X6_hasSpan l sa dC dI r3 p2 p5 r3_width r3_size r3_numbers b_r3_size H.size) (cwV 2 hts (z_gV zw_t6_80 zw_t6_81 zw_t6_82 zw_t1_10 zw_t6_83) rfl rfl rfl (by decide +kernel) (by rw [← hRe]; exact ⟨(Nat.le_of_ble_eq_true rfl), (Nat.le_of_ble_eq_true rfl)⟩)) (z_preV hPc hKc hDc hN hXs hS hFc (q := (RX6, TX6, 3)) (ci := 6) (q0 := 0) rfl rfl) rfl rfl hl.1 rfl (lv_room (Nat.le_of_ble_eq_true rfl)) dX9_paste_73 (by rw [← hRe]; exact ⟨(Nat.le_of_ble_eq_true rfl), (Nat.le_of_ble_eq_true rfl)⟩)) hS (fun q _ h => hFc q h) hFc (fun r_130 u t H1 locs ht hvm hw hB hz1 hk1 hS => ?_)
                obtain ⟨hP, hD, hK⟩ := z_after3 (wn := (zV162 h0 tp h0_tapeLength h0_faultKind h0_faultPlace nw im sl rd wk fm mt ch dy sl cA_sl f_sl r0_numbers cA_r0_numbers f_r0_numbers r1 r1_width r1_size r1_numbers r1_numbers cA_r1_numbers f_r1_numbers r2 r2_width r2_size r2_numbers r2_numbers cA_r2_numbers f_r2_numbers r3_numbers cA_r3_numbers f_r3_numbers r0 r0_width r0_size r0_numbers r3 r3_width r3_size r3_numbers)) hB ht hvm hP hD hK [8] [0, 1, 2, 3, 4, 5, 6, 7, 9] rfl 10 rfl (by decide +kernel) rfl (by decide +kernel) hk1 hFc
                generalize H1 = H at hP hS ⊢
                have hK : va_K (dC, dI) vwCl [(cA_sl, .object RX6), (cA_r0_numbers, .long), (cA_r1_numbers, .long), (cA_r2_numbers, .long), (cA_r3_numbers, .long)] s := hK
                have b_r_130 : 0 ≤ r_130.toInt ∧ r_130.toInt ≤ 1 := hw.1
                have s_r_130 := hw.2
                refine lv_if_eq (tgt := 91) hx hb dX9_paste_76 (by decide) (fun c_131 => ?_) (fun c_131 => ?_)
                · have ic_131 := zz_eq rfl (show Int32.toInt 0 = 0 from by decide) c_131
                  refine lv_bipush (v := (-7)) hx hb dX9_paste_91 (by decide) ?_
                  exact W.iret (v := (-7)) hx hb hr (fun t ht hW => by rw [← hQe]; exact ⟨⟨(-7), (), rfl, (by decide), ⟨f_r0_numbers, f_r1_numbers, f_r2_numbers, f_r3_numbers, z_ret hP hK hD ht hW [0, 1, 8, 2, 3, 4, 5, 6, 9, 7] [] rfl (by decide) rfl⟩⟩, hS.F ht⟩) hS.2.2 dX9_paste_93
                · have ic_131 := zz_neq rfl (show Int32.toInt 0 = 0 from by decide) c_131
                  refine lv_aload hx hb dX9_paste_79 (lv_at hl 0 rfl) ?_
                  refine lv_iload hx hb dX9_paste_81 (lv_at hl 6 rfl) ?_
                  refine lv_iload hx hb dX9_paste_83 (lv_at hl 7 rfl) ?_
                  obtain ⟨hPc, hDc, hFc⟩ := z_cut (wc := (zV6 r0 r0_width r0_size r0_numbers)) hP hD hS hA [8] rfl (by decide +kernel)
                  have hKc := hK.sub (tys' := []) [] rfl
                  refine va_calli (va_runV (As := [.int p4, .int p5]) (rest := []) ⟨hx, hb, hml, hown, hts⟩ (k_X6_hasSpan l sa dC dI r0 p4 p5 r0_width r0_size r0_numbers b_r0_size H.size) (cwV 2 hts (z_gV zw_t6_80 zw_t6_81 zw_t6_82 zw_t1_10 zw_t6_83) rfl rfl rfl (by decide +kernel) (by rw [← hRe]; exact ⟨(Nat.le_of_ble_eq_true rfl), (Nat.le_of_ble_eq_true rfl)⟩)) (z_preV hPc hKc hDc hN hXs hS hFc (q := (RX6, TX6, 3)) (ci := 6) (q0 := 0) rfl rfl) rfl rfl hl.1 rfl (lv_room (Nat.le_of_ble_eq_true rfl)) dX9_paste_85 (by rw [← hRe]; exact ⟨(Nat.le_of_ble_eq_true rfl), (Nat.le_of_ble_eq_true rfl)⟩)) hS (fun q _ h => hFc q h) hFc (fun r_132 u t H1 locs ht hvm hw hB hz1 hk1 hS => ?_)
                  obtain ⟨hP, hD, hK⟩ := z_after3 (wn := (zV162 h0 tp h0_tapeLength h0_faultKind h0_faultPlace nw im sl rd wk fm mt ch dy sl cA_sl f_sl r0_numbers cA_r0_numbers f_r0_numbers r1 r1_width r1_size r1_numbers r1_numbers cA_r1_numbers f_r1_numbers r2 r2_width r2_size r2_numbers r2_numbers cA_r2_numbers f_r2_numbers r3_numbers cA_r3_numbers f_r3_numbers r3 r3_width r3_size r3_numbers r0 r0_width r0_size r0_numbers)) hB ht hvm hP hD hK [8] [0, 1, 2, 3, 4, 5, 6, 7, 9] rfl 10 rfl (by decide +kernel) rfl (by decide +kernel) hk1 hFc
                  generalize H1 = H at hP hS ⊢
                  have hK : va_K (dC, dI) vwCl [(cA_sl, .object RX6), (cA_r0_numbers, .long), (cA_r1_numbers, .long), (cA_r2_numbers, .long), (cA_r3_numbers, .long)] s := hK
                  have b_r_132 : 0 ≤ r_132.toInt ∧ r_132.toInt ≤ 1 := hw.1
                  have s_r_132 := hw.2
                  refine lv_if_ne (tgt := 94) hx hb dX9_paste_88 (by decide) (fun c_133 => ?_) (fun c_133 => ?_)
                  · have ic_133 := zz_ne rfl (show Int32.toInt 0 = 0 from by decide) c_133
                    refine lv_aload hx hb dX9_paste_94 (lv_at hl 1 rfl) ?_
                    refine va_get (D := (dC, dI)) (ci := 6) (v := .ref r3_numbers) (C := RX6) (T := TX6) (N := 3) hx hb hts zl_X6 hown hK hP 8 rfl rfl 2 (by decide) (hts _ zw_t2_181) (fun _ h9 => h9) rfl dX9_paste_96 ?_
                    refine lv_iload_n hx hb dX9_paste_99 rfl (lv_at hl 4 rfl) ?_
                    refine lv_aload hx hb dX9_paste_100 (lv_at hl 0 rfl) ?_
                    refine va_get (D := (dC, dI)) (ci := 6) (v := .ref r0_numbers) (C := RX6) (T := TX6) (N := 3) hx hb hts zl_X6 hown hK hP 9 rfl rfl 2 (by decide) (hts _ zw_t2_181) (fun _ h9 => h9) rfl dX9_paste_102 ?_
                    refine lv_iload hx hb dX9_paste_105 (lv_at hl 6 rfl) ?_
                    refine lv_iload hx hb dX9_paste_107 (lv_at hl 7 rfl) ?_
                    have kc_p2 := zi_clamp (x := p2) rfl (by first | with_reducible assumption | omega)
                    have kc_p4 := zi_clamp (x := p4) rfl (by first | with_reducible assumption | omega)
                    have kc_p5 := zi_clamp (x := p5) rfl (by first | with_reducible assumption | omega)
                    refine va_copyl hx hb (by rw [hml]; exact hl.1.symm) hown (hts _ zw_t6_92) (hts _ zw_t4_39) (hts _ zw_t4_38) (hts _ zw_t1_18) hK hP hD hS 7 2 4 1 rfl rfl rfl rfl rfl (fun q => absurd (z_lt (k := 0) (by decide) q) (by first | with_reducible assumption | omega)) (fun q => absurd (z_lt (k := 0) (by decide) q) (by first | with_reducible assumption | omega)) (fun q => absurd (z_lt (k := 0) (by decide) q) (by first | with_reducible assumption | omega)) (by first | with_reducible assumption | omega) (by first | with_reducible assumption | omega) (fun _ _ => rfl) (by rw [← hRe]; exact (Nat.le_of_ble_eq_true rfl)) (by rw [← hRe]; exact (Nat.le_of_ble_eq_true rfl)) dX9_paste_109 (fun H locs hP hD hS => ?_)
                    obtain ⟨f_134, ef_134⟩ : ∃ g : Nat → Int64, g = va_cpy f_r3_numbers f_r0_numbers (Int32.toNatClampNeg p2) (Int32.toNatClampNeg p4) (Int32.toNatClampNeg p5) := ⟨_, rfl⟩
                    have hP : va_P (dC, dI) vwCl (zV162 h0 tp h0_tapeLength h0_faultKind h0_faultPlace nw im sl rd wk fm mt ch dy sl cA_sl f_sl r0_numbers cA_r0_numbers (va_cpy f_r3_numbers f_r0_numbers (Int32.toNatClampNeg p2) (Int32.toNatClampNeg p4) (Int32.toNatClampNeg p5)) r1 r1_width r1_size r1_numbers r1_numbers cA_r1_numbers f_r1_numbers r2 r2_width r2_size r2_numbers r2_numbers cA_r2_numbers f_r2_numbers r3_numbers cA_r3_numbers f_r3_numbers r3 r3_width r3_size r3_numbers r0 r0_width r0_size r0_numbers) H := hP
                    have hD : va_D A (zV162 h0 tp h0_tapeLength h0_faultKind h0_faultPlace nw im sl rd wk fm mt ch dy sl cA_sl f_sl r0_numbers cA_r0_numbers (va_cpy f_r3_numbers f_r0_numbers (Int32.toNatClampNeg p2) (Int32.toNatClampNeg p4) (Int32.toNatClampNeg p5)) r1 r1_width r1_size r1_numbers r1_numbers cA_r1_numbers f_r1_numbers r2 r2_width r2_size r2_numbers r2_numbers cA_r2_numbers f_r2_numbers r3_numbers cA_r3_numbers f_r3_numbers r3 r3_width r3_size r3_numbers r0 r0_width r0_size r0_numbers) := hD
                    rw [← ef_134] at hP hD
                    refine lv_iconst (v := 0) hx hb dX9_paste_112 (by decide) ?_
                    exact W.iret (v := 0) hx hb hr (fun t ht hW => by rw [← hQe]; exact ⟨⟨0, (), rfl, (by decide), ⟨f_134, f_r1_numbers, f_r2_numbers, f_r3_numbers, z_ret hP hK hD ht hW [0, 1, 9, 2, 3, 4, 5, 6, 8, 7] [] rfl (by decide) rfl⟩⟩, hS.F ht⟩) hS.2.2 dX9_paste_113
                  · have ic_133 := zz_nne rfl (show Int32.toInt 0 = 0 from by decide) c_133
                    refine lv_bipush (v := (-7)) hx hb dX9_paste_91 (by decide) ?_
                    exact W.iret (v := (-7)) hx hb hr (fun t ht hW => by rw [← hQe]; exact ⟨⟨(-7), (), rfl, (by decide), ⟨f_r0_numbers, f_r1_numbers, f_r2_numbers, f_r3_numbers, z_ret hP hK hD ht hW [0, 1, 9, 2, 3, 4, 5, 6, 8, 7] [] rfl (by decide) rfl⟩⟩, hS.F ht⟩) hS.2.2 dX9_paste_93
              · have ic_129 := zz_neq rfl rfl c_129
                refine lv_bipush (v := (-8)) hx hb dX9_paste_65 (by decide) ?_
                exact W.iret (v := (-8)) hx hb hr (fun t ht hW => by rw [← hQe]; exact ⟨⟨(-8), (), rfl, (by decide), ⟨f_r0_numbers, f_r1_numbers, f_r2_numbers, f_r3_numbers, z_ret hP hK hD ht hW [0, 1, 9, 2, 3, 4, 5, 6, 8, 7] [] rfl (by decide) rfl⟩⟩, hS.F ht⟩) hS.2.2 dX9_paste_67
            · have ic_128 := zz_nne rfl (show Int32.toInt 0 = 0 from by decide) c_128
              refine lv_bipush (v := (-6)) hx hb dX9_paste_49 (by decide) ?_
              exact W.iret (v := (-6)) hx hb hr (fun t ht hW => by rw [← hQe]; exact ⟨⟨(-6), (), rfl, (by decide), ⟨f_r0_numbers, f_r1_numbers, f_r2_numbers, f_r3_numbers, z_ret hP hK hD ht hW [0, 1, 9, 2, 3, 4, 5, 6, 8, 7] [] rfl (by decide) rfl⟩⟩, hS.F ht⟩) hS.2.2 dX9_paste_51
        · have zc_1 : Int32.toInt 1 = 1 := by decide
          refine va_aldq hx hb hK hP 1 0 rfl rfl (zi_in (show Int32.toInt 1 = 1 from by decide) (by decide)) dX9_paste_30 ?_
          refine W.eq (g2 := F0 m 31 ls (.ref r1 :: [])) (by rw [show f_sl (Int32.toNatClampNeg 1) = some r1 from (by rw [show Int32.toNatClampNeg 1 = 1 from by decide]; exact hsl1)]; rfl) ?_
          refine lv_astore (lv' := [(7, .ref r1), (6, .ref r3), (0, .ref h0), (1, .int 3), (2, .int p2), (3, .int 1), (4, .int p4), (5, .int p5)]) hx hb dX9_paste_31 hl (by decide) rfl (fun ls hl => ?_)
          refine lv_aload hx hb dX9_paste_33 (lv_at hl 1 rfl) ?_
          obtain ⟨hPc, hDc, hFc⟩ := z_cut (wc := (zV6 r3 r3_width r3_size r3_numbers)) hP hD hS hA [8] rfl (by decide +kernel)
          have hKc := hK.sub (tys' := []) [] rfl
          refine va_calli (va_runV (As := []) (rest := []) ⟨hx, hb, hml, hown, hts⟩ (k_X6_isThere l sa dC dI r3 r3_width r3_size r3_numbers b_r3_size H.size) (cwV 0 hts (z_gV zw_t5_222 zw_t5_223 zw_t5_224 zw_t1_10 zw_t5_225) rfl rfl rfl (by decide +kernel) (by rw [← hRe]; exact ⟨(Nat.le_of_ble_eq_true rfl), (Nat.le_of_ble_eq_true rfl)⟩)) (z_preV hPc hKc hDc hN hXs hS hFc (q := (RX6, TX6, 3)) (ci := 6) (q0 := 0) rfl rfl) rfl rfl hl.1 rfl (lv_room (Nat.le_of_ble_eq_true rfl)) dX9_paste_35 (by rw [← hRe]; exact ⟨(Nat.le_of_ble_eq_true rfl), (Nat.le_of_ble_eq_true rfl)⟩)) hS (fun q _ h => hFc q h) hFc (fun r_135 u t H1 locs ht hvm hw hB hz1 hk1 hS => ?_)
          obtain ⟨hP, hD, hK⟩ := z_after3 (wn := (zV77 h0 tp h0_tapeLength h0_faultKind h0_faultPlace nw im sl rd wk fm mt ch dy sl cA_sl f_sl r0 r0_width r0_size r0_numbers r0_numbers cA_r0_numbers f_r0_numbers r1 r1_width r1_size r1_numbers r1_numbers cA_r1_numbers f_r1_numbers r2 r2_width r2_size r2_numbers r2_numbers cA_r2_numbers f_r2_numbers r3_numbers cA_r3_numbers f_r3_numbers r3 r3_width r3_size r3_numbers)) hB ht hvm hP hD hK [8] [0, 1, 2, 3, 4, 5, 6, 7, 9] rfl 10 rfl (by decide +kernel) rfl (by decide +kernel) hk1 hFc
          generalize H1 = H at hP hS ⊢
          have hK : va_K (dC, dI) vwCl [(cA_sl, .object RX6), (cA_r0_numbers, .long), (cA_r1_numbers, .long), (cA_r2_numbers, .long), (cA_r3_numbers, .long)] s := hK
          have b_r_135 : 0 ≤ r_135.toInt ∧ r_135.toInt ≤ 1 := hw
          refine lv_if_eq (tgt := 49) hx hb dX9_paste_38 (by decide) (fun c_136 => ?_) (fun c_136 => ?_)
          · have ic_136 := zz_eq rfl (show Int32.toInt 0 = 0 from by decide) c_136
            refine lv_bipush (v := (-6)) hx hb dX9_paste_49 (by decide) ?_
            exact W.iret (v := (-6)) hx hb hr (fun t ht hW => by rw [← hQe]; exact ⟨⟨(-6), (), rfl, (by decide), ⟨f_r0_numbers, f_r1_numbers, f_r2_numbers, f_r3_numbers, z_ret hP hK hD ht hW [0, 1, 2, 3, 4, 5, 6, 7, 9, 8] [] rfl (by decide) rfl⟩⟩, hS.F ht⟩) hS.2.2 dX9_paste_51
          · have ic_136 := zz_neq rfl (show Int32.toInt 0 = 0 from by decide) c_136
            refine lv_aload hx hb dX9_paste_41 (lv_at hl 0 rfl) ?_
            obtain ⟨hPc, hDc, hFc⟩ := z_cut (wc := (zV6 r1 r1_width r1_size r1_numbers)) hP hD hS hA [4] rfl (by decide +kernel)
            have hKc := hK.sub (tys' := []) [] rfl
            refine va_calli (va_runV (As := []) (rest := []) ⟨hx, hb, hml, hown, hts⟩ (k_X6_isThere l sa dC dI r1 r1_width r1_size r1_numbers b_r1_size H.size) (cwV 0 hts (z_gV zw_t5_222 zw_t5_223 zw_t5_224 zw_t1_10 zw_t5_225) rfl rfl rfl (by decide +kernel) (by rw [← hRe]; exact ⟨(Nat.le_of_ble_eq_true rfl), (Nat.le_of_ble_eq_true rfl)⟩)) (z_preV hPc hKc hDc hN hXs hS hFc (q := (RX6, TX6, 3)) (ci := 6) (q0 := 0) rfl rfl) rfl rfl hl.1 rfl (lv_room (Nat.le_of_ble_eq_true rfl)) dX9_paste_43 (by rw [← hRe]; exact ⟨(Nat.le_of_ble_eq_true rfl), (Nat.le_of_ble_eq_true rfl)⟩)) hS (fun q _ h => hFc q h) hFc (fun r_137 u t H1 locs ht hvm hw hB hz1 hk1 hS => ?_)
            obtain ⟨hP, hD, hK⟩ := z_after3 (wn := (zV164 h0 tp h0_tapeLength h0_faultKind h0_faultPlace nw im sl rd wk fm mt ch dy sl cA_sl f_sl r0 r0_width r0_size r0_numbers r0_numbers cA_r0_numbers f_r0_numbers r1_numbers cA_r1_numbers f_r1_numbers r2 r2_width r2_size r2_numbers r2_numbers cA_r2_numbers f_r2_numbers r3_numbers cA_r3_numbers f_r3_numbers r3 r3_width r3_size r3_numbers r1 r1_width r1_size r1_numbers)) hB ht hvm hP hD hK [4] [0, 1, 2, 3, 5, 6, 7, 8, 9] rfl 10 rfl (by decide +kernel) rfl (by decide +kernel) hk1 hFc
            generalize H1 = H at hP hS ⊢
            have hK : va_K (dC, dI) vwCl [(cA_sl, .object RX6), (cA_r0_numbers, .long), (cA_r1_numbers, .long), (cA_r2_numbers, .long), (cA_r3_numbers, .long)] s := hK
            have b_r_137 : 0 ≤ r_137.toInt ∧ r_137.toInt ≤ 1 := hw
            refine lv_if_ne (tgt := 52) hx hb dX9_paste_46 (by decide) (fun c_138 => ?_) (fun c_138 => ?_)
            · have ic_138 := zz_ne rfl (show Int32.toInt 0 = 0 from by decide) c_138
              refine lv_aload hx hb dX9_paste_52 (lv_at hl 1 rfl) ?_
              refine va_get (D := (dC, dI)) (ci := 6) (v := .int r3_width) (C := RX6) (T := TX6) (N := 3) hx hb hts zl_X6 hown hK hP 8 rfl rfl 0 (by decide) (hts _ zw_t2_176) (fun _ h9 => h9) rfl dX9_paste_54 ?_
              refine lv_aload hx hb dX9_paste_57 (lv_at hl 0 rfl) ?_
              refine va_get (D := (dC, dI)) (ci := 6) (v := .int r1_width) (C := RX6) (T := TX6) (N := 3) hx hb hts zl_X6 hown hK hP 9 rfl rfl 0 (by decide) (hts _ zw_t2_176) (fun _ h9 => h9) rfl dX9_paste_59 ?_
              have nb_r3_width := zi_nb r3_width
              have nb_r1_width := zi_nb r1_width
              refine lv_icmp_eq (tgt := 68) hx hb dX9_paste_62 (by decide) (fun c_139 => ?_) (fun c_139 => ?_)
              · have ic_139 := zz_eq rfl rfl c_139
                refine lv_aload hx hb dX9_paste_68 (lv_at hl 1 rfl) ?_
                refine lv_iload_n hx hb dX9_paste_70 rfl (lv_at hl 4 rfl) ?_
                refine lv_iload hx hb dX9_paste_71 (lv_at hl 7 rfl) ?_
                obtain ⟨hPc, hDc, hFc⟩ := z_cut (wc := (zV6 r3 r3_width r3_size r3_numbers)) hP hD hS hA [8] rfl (by decide +kernel)
                have hKc := hK.sub (tys' := []) [] rfl
                refine va_calli (va_runV (As := [.int p2, .int p5]) (rest := []) ⟨hx, hb, hml, hown, hts⟩ (k_X6_hasSpan l sa dC dI r3 p2 p5 r3_width r3_size r3_numbers b_r3_size H.size) (cwV 2 hts (z_gV zw_t6_80 zw_t6_81 zw_t6_82 zw_t1_10 zw_t6_83) rfl rfl rfl (by decide +kernel) (by rw [← hRe]; exact ⟨(Nat.le_of_ble_eq_true rfl), (Nat.le_of_ble_eq_true rfl)⟩)) (z_preV hPc hKc hDc hN hXs hS hFc (q := (RX6, TX6, 3)) (ci := 6) (q0 := 0) rfl rfl) rfl rfl hl.1 rfl (lv_room (Nat.le_of_ble_eq_true rfl)) dX9_paste_73 (by rw [← hRe]; exact ⟨(Nat.le_of_ble_eq_true rfl), (Nat.le_of_ble_eq_true rfl)⟩)) hS (fun q _ h => hFc q h) hFc (fun r_140 u t H1 locs ht hvm hw hB hz1 hk1 hS => ?_)
                obtain ⟨hP, hD, hK⟩ := z_after3 (wn := (zV164 h0 tp h0_tapeLength h0_faultKind h0_faultPlace nw im sl rd wk fm mt ch dy sl cA_sl f_sl r0 r0_width r0_size r0_numbers r0_numbers cA_r0_numbers f_r0_numbers r1_numbers cA_r1_numbers f_r1_numbers r2 r2_width r2_size r2_numbers r2_numbers cA_r2_numbers f_r2_numbers r3_numbers cA_r3_numbers f_r3_numbers r1 r1_width r1_size r1_numbers r3 r3_width r3_size r3_numbers)) hB ht hvm hP hD hK [8] [0, 1, 2, 3, 4, 5, 6, 7, 9] rfl 10 rfl (by decide +kernel) rfl (by decide +kernel) hk1 hFc
                generalize H1 = H at hP hS ⊢
                have hK : va_K (dC, dI) vwCl [(cA_sl, .object RX6), (cA_r0_numbers, .long), (cA_r1_numbers, .long), (cA_r2_numbers, .long), (cA_r3_numbers, .long)] s := hK
                have b_r_140 : 0 ≤ r_140.toInt ∧ r_140.toInt ≤ 1 := hw.1
                have s_r_140 := hw.2
                refine lv_if_eq (tgt := 91) hx hb dX9_paste_76 (by decide) (fun c_141 => ?_) (fun c_141 => ?_)
                · have ic_141 := zz_eq rfl (show Int32.toInt 0 = 0 from by decide) c_141
                  refine lv_bipush (v := (-7)) hx hb dX9_paste_91 (by decide) ?_
                  exact W.iret (v := (-7)) hx hb hr (fun t ht hW => by rw [← hQe]; exact ⟨⟨(-7), (), rfl, (by decide), ⟨f_r0_numbers, f_r1_numbers, f_r2_numbers, f_r3_numbers, z_ret hP hK hD ht hW [0, 1, 2, 3, 8, 4, 5, 6, 9, 7] [] rfl (by decide) rfl⟩⟩, hS.F ht⟩) hS.2.2 dX9_paste_93
                · have ic_141 := zz_neq rfl (show Int32.toInt 0 = 0 from by decide) c_141
                  refine lv_aload hx hb dX9_paste_79 (lv_at hl 0 rfl) ?_
                  refine lv_iload hx hb dX9_paste_81 (lv_at hl 6 rfl) ?_
                  refine lv_iload hx hb dX9_paste_83 (lv_at hl 7 rfl) ?_
                  obtain ⟨hPc, hDc, hFc⟩ := z_cut (wc := (zV6 r1 r1_width r1_size r1_numbers)) hP hD hS hA [8] rfl (by decide +kernel)
                  have hKc := hK.sub (tys' := []) [] rfl
                  refine va_calli (va_runV (As := [.int p4, .int p5]) (rest := []) ⟨hx, hb, hml, hown, hts⟩ (k_X6_hasSpan l sa dC dI r1 p4 p5 r1_width r1_size r1_numbers b_r1_size H.size) (cwV 2 hts (z_gV zw_t6_80 zw_t6_81 zw_t6_82 zw_t1_10 zw_t6_83) rfl rfl rfl (by decide +kernel) (by rw [← hRe]; exact ⟨(Nat.le_of_ble_eq_true rfl), (Nat.le_of_ble_eq_true rfl)⟩)) (z_preV hPc hKc hDc hN hXs hS hFc (q := (RX6, TX6, 3)) (ci := 6) (q0 := 0) rfl rfl) rfl rfl hl.1 rfl (lv_room (Nat.le_of_ble_eq_true rfl)) dX9_paste_85 (by rw [← hRe]; exact ⟨(Nat.le_of_ble_eq_true rfl), (Nat.le_of_ble_eq_true rfl)⟩)) hS (fun q _ h => hFc q h) hFc (fun r_142 u t H1 locs ht hvm hw hB hz1 hk1 hS => ?_)
                  obtain ⟨hP, hD, hK⟩ := z_after3 (wn := (zV164 h0 tp h0_tapeLength h0_faultKind h0_faultPlace nw im sl rd wk fm mt ch dy sl cA_sl f_sl r0 r0_width r0_size r0_numbers r0_numbers cA_r0_numbers f_r0_numbers r1_numbers cA_r1_numbers f_r1_numbers r2 r2_width r2_size r2_numbers r2_numbers cA_r2_numbers f_r2_numbers r3_numbers cA_r3_numbers f_r3_numbers r3 r3_width r3_size r3_numbers r1 r1_width r1_size r1_numbers)) hB ht hvm hP hD hK [8] [0, 1, 2, 3, 4, 5, 6, 7, 9] rfl 10 rfl (by decide +kernel) rfl (by decide +kernel) hk1 hFc
                  generalize H1 = H at hP hS ⊢
                  have hK : va_K (dC, dI) vwCl [(cA_sl, .object RX6), (cA_r0_numbers, .long), (cA_r1_numbers, .long), (cA_r2_numbers, .long), (cA_r3_numbers, .long)] s := hK
                  have b_r_142 : 0 ≤ r_142.toInt ∧ r_142.toInt ≤ 1 := hw.1
                  have s_r_142 := hw.2
                  refine lv_if_ne (tgt := 94) hx hb dX9_paste_88 (by decide) (fun c_143 => ?_) (fun c_143 => ?_)
                  · have ic_143 := zz_ne rfl (show Int32.toInt 0 = 0 from by decide) c_143
                    refine lv_aload hx hb dX9_paste_94 (lv_at hl 1 rfl) ?_
                    refine va_get (D := (dC, dI)) (ci := 6) (v := .ref r3_numbers) (C := RX6) (T := TX6) (N := 3) hx hb hts zl_X6 hown hK hP 8 rfl rfl 2 (by decide) (hts _ zw_t2_181) (fun _ h9 => h9) rfl dX9_paste_96 ?_
                    refine lv_iload_n hx hb dX9_paste_99 rfl (lv_at hl 4 rfl) ?_
                    refine lv_aload hx hb dX9_paste_100 (lv_at hl 0 rfl) ?_
                    refine va_get (D := (dC, dI)) (ci := 6) (v := .ref r1_numbers) (C := RX6) (T := TX6) (N := 3) hx hb hts zl_X6 hown hK hP 9 rfl rfl 2 (by decide) (hts _ zw_t2_181) (fun _ h9 => h9) rfl dX9_paste_102 ?_
                    refine lv_iload hx hb dX9_paste_105 (lv_at hl 6 rfl) ?_
                    refine lv_iload hx hb dX9_paste_107 (lv_at hl 7 rfl) ?_
                    have kc_p2 := zi_clamp (x := p2) rfl (by first | with_reducible assumption | omega)
                    have kc_p4 := zi_clamp (x := p4) rfl (by first | with_reducible assumption | omega)
                    have kc_p5 := zi_clamp (x := p5) rfl (by first | with_reducible assumption | omega)
                    refine va_copyl hx hb (by rw [hml]; exact hl.1.symm) hown (hts _ zw_t6_92) (hts _ zw_t4_39) (hts _ zw_t4_38) (hts _ zw_t1_18) hK hP hD hS 7 4 4 2 rfl rfl rfl rfl rfl (fun q => absurd (z_lt (k := 0) (by decide) q) (by first | with_reducible assumption | omega)) (fun q => absurd (z_lt (k := 0) (by decide) q) (by first | with_reducible assumption | omega)) (fun q => absurd (z_lt (k := 0) (by decide) q) (by first | with_reducible assumption | omega)) (by first | with_reducible assumption | omega) (by first | with_reducible assumption | omega) (fun _ _ => rfl) (by rw [← hRe]; exact (Nat.le_of_ble_eq_true rfl)) (by rw [← hRe]; exact (Nat.le_of_ble_eq_true rfl)) dX9_paste_109 (fun H locs hP hD hS => ?_)
                    obtain ⟨f_144, ef_144⟩ : ∃ g : Nat → Int64, g = va_cpy f_r3_numbers f_r1_numbers (Int32.toNatClampNeg p2) (Int32.toNatClampNeg p4) (Int32.toNatClampNeg p5) := ⟨_, rfl⟩
                    have hP : va_P (dC, dI) vwCl (zV164 h0 tp h0_tapeLength h0_faultKind h0_faultPlace nw im sl rd wk fm mt ch dy sl cA_sl f_sl r0 r0_width r0_size r0_numbers r0_numbers cA_r0_numbers f_r0_numbers r1_numbers cA_r1_numbers (va_cpy f_r3_numbers f_r1_numbers (Int32.toNatClampNeg p2) (Int32.toNatClampNeg p4) (Int32.toNatClampNeg p5)) r2 r2_width r2_size r2_numbers r2_numbers cA_r2_numbers f_r2_numbers r3_numbers cA_r3_numbers f_r3_numbers r3 r3_width r3_size r3_numbers r1 r1_width r1_size r1_numbers) H := hP
                    have hD : va_D A (zV164 h0 tp h0_tapeLength h0_faultKind h0_faultPlace nw im sl rd wk fm mt ch dy sl cA_sl f_sl r0 r0_width r0_size r0_numbers r0_numbers cA_r0_numbers f_r0_numbers r1_numbers cA_r1_numbers (va_cpy f_r3_numbers f_r1_numbers (Int32.toNatClampNeg p2) (Int32.toNatClampNeg p4) (Int32.toNatClampNeg p5)) r2 r2_width r2_size r2_numbers r2_numbers cA_r2_numbers f_r2_numbers r3_numbers cA_r3_numbers f_r3_numbers r3 r3_width r3_size r3_numbers r1 r1_width r1_size r1_numbers) := hD
                    rw [← ef_144] at hP hD
                    refine lv_iconst (v := 0) hx hb dX9_paste_112 (by decide) ?_
                    exact W.iret (v := 0) hx hb hr (fun t ht hW => by rw [← hQe]; exact ⟨⟨0, (), rfl, (by decide), ⟨f_r0_numbers, f_144, f_r2_numbers, f_r3_numbers, z_ret hP hK hD ht hW [0, 1, 2, 3, 9, 4, 5, 6, 8, 7] [] rfl (by decide) rfl⟩⟩, hS.F ht⟩) hS.2.2 dX9_paste_113
                  · have ic_143 := zz_nne rfl (show Int32.toInt 0 = 0 from by decide) c_143
                    refine lv_bipush (v := (-7)) hx hb dX9_paste_91 (by decide) ?_
                    exact W.iret (v := (-7)) hx hb hr (fun t ht hW => by rw [← hQe]; exact ⟨⟨(-7), (), rfl, (by decide), ⟨f_r0_numbers, f_r1_numbers, f_r2_numbers, f_r3_numbers, z_ret hP hK hD ht hW [0, 1, 2, 3, 9, 4, 5, 6, 8, 7] [] rfl (by decide) rfl⟩⟩, hS.F ht⟩) hS.2.2 dX9_paste_93
              · have ic_139 := zz_neq rfl rfl c_139
                refine lv_bipush (v := (-8)) hx hb dX9_paste_65 (by decide) ?_
                exact W.iret (v := (-8)) hx hb hr (fun t ht hW => by rw [← hQe]; exact ⟨⟨(-8), (), rfl, (by decide), ⟨f_r0_numbers, f_r1_numbers, f_r2_numbers, f_r3_numbers, z_ret hP hK hD ht hW [0, 1, 2, 3, 9, 4, 5, 6, 8, 7] [] rfl (by decide) rfl⟩⟩, hS.F ht⟩) hS.2.2 dX9_paste_67
            · have ic_138 := zz_nne rfl (show Int32.toInt 0 = 0 from by decide) c_138
              refine lv_bipush (v := (-6)) hx hb dX9_paste_49 (by decide) ?_
              exact W.iret (v := (-6)) hx hb hr (fun t ht hW => by rw [← hQe]; exact ⟨⟨(-6), (), rfl, (by decide), ⟨f_r0_numbers, f_r1_numbers, f_r2_numbers, f_r3_numbers, z_ret hP hK hD ht hW [0, 1, 2, 3, 9, 4, 5, 6, 8, 7] [] rfl (by decide) rfl⟩⟩, hS.F ht⟩) hS.2.2 dX9_paste_51
        · have zc_2 : Int32.toInt 2 = 2 := by decide
          refine va_aldq hx hb hK hP 1 0 rfl rfl (zi_in (show Int32.toInt 2 = 2 from by decide) (by decide)) dX9_paste_30 ?_
          refine W.eq (g2 := F0 m 31 ls (.ref r2 :: [])) (by rw [show f_sl (Int32.toNatClampNeg 2) = some r2 from (by rw [show Int32.toNatClampNeg 2 = 2 from by decide]; exact hsl2)]; rfl) ?_
          refine lv_astore (lv' := [(7, .ref r2), (6, .ref r3), (0, .ref h0), (1, .int 3), (2, .int p2), (3, .int 2), (4, .int p4), (5, .int p5)]) hx hb dX9_paste_31 hl (by decide) rfl (fun ls hl => ?_)
          refine lv_aload hx hb dX9_paste_33 (lv_at hl 1 rfl) ?_
          obtain ⟨hPc, hDc, hFc⟩ := z_cut (wc := (zV6 r3 r3_width r3_size r3_numbers)) hP hD hS hA [8] rfl (by decide +kernel)
          have hKc := hK.sub (tys' := []) [] rfl
          refine va_calli (va_runV (As := []) (rest := []) ⟨hx, hb, hml, hown, hts⟩ (k_X6_isThere l sa dC dI r3 r3_width r3_size r3_numbers b_r3_size H.size) (cwV 0 hts (z_gV zw_t5_222 zw_t5_223 zw_t5_224 zw_t1_10 zw_t5_225) rfl rfl rfl (by decide +kernel) (by rw [← hRe]; exact ⟨(Nat.le_of_ble_eq_true rfl), (Nat.le_of_ble_eq_true rfl)⟩)) (z_preV hPc hKc hDc hN hXs hS hFc (q := (RX6, TX6, 3)) (ci := 6) (q0 := 0) rfl rfl) rfl rfl hl.1 rfl (lv_room (Nat.le_of_ble_eq_true rfl)) dX9_paste_35 (by rw [← hRe]; exact ⟨(Nat.le_of_ble_eq_true rfl), (Nat.le_of_ble_eq_true rfl)⟩)) hS (fun q _ h => hFc q h) hFc (fun r_145 u t H1 locs ht hvm hw hB hz1 hk1 hS => ?_)
          obtain ⟨hP, hD, hK⟩ := z_after3 (wn := (zV77 h0 tp h0_tapeLength h0_faultKind h0_faultPlace nw im sl rd wk fm mt ch dy sl cA_sl f_sl r0 r0_width r0_size r0_numbers r0_numbers cA_r0_numbers f_r0_numbers r1 r1_width r1_size r1_numbers r1_numbers cA_r1_numbers f_r1_numbers r2 r2_width r2_size r2_numbers r2_numbers cA_r2_numbers f_r2_numbers r3_numbers cA_r3_numbers f_r3_numbers r3 r3_width r3_size r3_numbers)) hB ht hvm hP hD hK [8] [0, 1, 2, 3, 4, 5, 6, 7, 9] rfl 10 rfl (by decide +kernel) rfl (by decide +kernel) hk1 hFc
          generalize H1 = H at hP hS ⊢
          have hK : va_K (dC, dI) vwCl [(cA_sl, .object RX6), (cA_r0_numbers, .long), (cA_r1_numbers, .long), (cA_r2_numbers, .long), (cA_r3_numbers, .long)] s := hK
          have b_r_145 : 0 ≤ r_145.toInt ∧ r_145.toInt ≤ 1 := hw
          refine lv_if_eq (tgt := 49) hx hb dX9_paste_38 (by decide) (fun c_146 => ?_) (fun c_146 => ?_)
          · have ic_146 := zz_eq rfl (show Int32.toInt 0 = 0 from by decide) c_146
            refine lv_bipush (v := (-6)) hx hb dX9_paste_49 (by decide) ?_
            exact W.iret (v := (-6)) hx hb hr (fun t ht hW => by rw [← hQe]; exact ⟨⟨(-6), (), rfl, (by decide), ⟨f_r0_numbers, f_r1_numbers, f_r2_numbers, f_r3_numbers, z_ret hP hK hD ht hW [0, 1, 2, 3, 4, 5, 6, 7, 9, 8] [] rfl (by decide) rfl⟩⟩, hS.F ht⟩) hS.2.2 dX9_paste_51
          · have ic_146 := zz_neq rfl (show Int32.toInt 0 = 0 from by decide) c_146
            refine lv_aload hx hb dX9_paste_41 (lv_at hl 0 rfl) ?_
            obtain ⟨hPc, hDc, hFc⟩ := z_cut (wc := (zV6 r2 r2_width r2_size r2_numbers)) hP hD hS hA [6] rfl (by decide +kernel)
            have hKc := hK.sub (tys' := []) [] rfl
            refine va_calli (va_runV (As := []) (rest := []) ⟨hx, hb, hml, hown, hts⟩ (k_X6_isThere l sa dC dI r2 r2_width r2_size r2_numbers b_r2_size H.size) (cwV 0 hts (z_gV zw_t5_222 zw_t5_223 zw_t5_224 zw_t1_10 zw_t5_225) rfl rfl rfl (by decide +kernel) (by rw [← hRe]; exact ⟨(Nat.le_of_ble_eq_true rfl), (Nat.le_of_ble_eq_true rfl)⟩)) (z_preV hPc hKc hDc hN hXs hS hFc (q := (RX6, TX6, 3)) (ci := 6) (q0 := 0) rfl rfl) rfl rfl hl.1 rfl (lv_room (Nat.le_of_ble_eq_true rfl)) dX9_paste_43 (by rw [← hRe]; exact ⟨(Nat.le_of_ble_eq_true rfl), (Nat.le_of_ble_eq_true rfl)⟩)) hS (fun q _ h => hFc q h) hFc (fun r_147 u t H1 locs ht hvm hw hB hz1 hk1 hS => ?_)
            obtain ⟨hP, hD, hK⟩ := z_after3 (wn := (zV165 h0 tp h0_tapeLength h0_faultKind h0_faultPlace nw im sl rd wk fm mt ch dy sl cA_sl f_sl r0 r0_width r0_size r0_numbers r0_numbers cA_r0_numbers f_r0_numbers r1 r1_width r1_size r1_numbers r1_numbers cA_r1_numbers f_r1_numbers r2_numbers cA_r2_numbers f_r2_numbers r3_numbers cA_r3_numbers f_r3_numbers r3 r3_width r3_size r3_numbers r2 r2_width r2_size r2_numbers)) hB ht hvm hP hD hK [6] [0, 1, 2, 3, 4, 5, 7, 8, 9] rfl 10 rfl (by decide +kernel) rfl (by decide +kernel) hk1 hFc
            generalize H1 = H at hP hS ⊢
            have hK : va_K (dC, dI) vwCl [(cA_sl, .object RX6), (cA_r0_numbers, .long), (cA_r1_numbers, .long), (cA_r2_numbers, .long), (cA_r3_numbers, .long)] s := hK
            have b_r_147 : 0 ≤ r_147.toInt ∧ r_147.toInt ≤ 1 := hw
            refine lv_if_ne (tgt := 52) hx hb dX9_paste_46 (by decide) (fun c_148 => ?_) (fun c_148 => ?_)
            · have ic_148 := zz_ne rfl (show Int32.toInt 0 = 0 from by decide) c_148
              refine lv_aload hx hb dX9_paste_52 (lv_at hl 1 rfl) ?_
              refine va_get (D := (dC, dI)) (ci := 6) (v := .int r3_width) (C := RX6) (T := TX6) (N := 3) hx hb hts zl_X6 hown hK hP 8 rfl rfl 0 (by decide) (hts _ zw_t2_176) (fun _ h9 => h9) rfl dX9_paste_54 ?_
              refine lv_aload hx hb dX9_paste_57 (lv_at hl 0 rfl) ?_
              refine va_get (D := (dC, dI)) (ci := 6) (v := .int r2_width) (C := RX6) (T := TX6) (N := 3) hx hb hts zl_X6 hown hK hP 9 rfl rfl 0 (by decide) (hts _ zw_t2_176) (fun _ h9 => h9) rfl dX9_paste_59 ?_
              have nb_r3_width := zi_nb r3_width
              have nb_r2_width := zi_nb r2_width
              refine lv_icmp_eq (tgt := 68) hx hb dX9_paste_62 (by decide) (fun c_149 => ?_) (fun c_149 => ?_)
              · have ic_149 := zz_eq rfl rfl c_149
                refine lv_aload hx hb dX9_paste_68 (lv_at hl 1 rfl) ?_
                refine lv_iload_n hx hb dX9_paste_70 rfl (lv_at hl 4 rfl) ?_
                refine lv_iload hx hb dX9_paste_71 (lv_at hl 7 rfl) ?_
                obtain ⟨hPc, hDc, hFc⟩ := z_cut (wc := (zV6 r3 r3_width r3_size r3_numbers)) hP hD hS hA [8] rfl (by decide +kernel)
                have hKc := hK.sub (tys' := []) [] rfl
                refine va_calli (va_runV (As := [.int p2, .int p5]) (rest := []) ⟨hx, hb, hml, hown, hts⟩ (k_X6_hasSpan l sa dC dI r3 p2 p5 r3_width r3_size r3_numbers b_r3_size H.size) (cwV 2 hts (z_gV zw_t6_80 zw_t6_81 zw_t6_82 zw_t1_10 zw_t6_83) rfl rfl rfl (by decide +kernel) (by rw [← hRe]; exact ⟨(Nat.le_of_ble_eq_true rfl), (Nat.le_of_ble_eq_true rfl)⟩)) (z_preV hPc hKc hDc hN hXs hS hFc (q := (RX6, TX6, 3)) (ci := 6) (q0 := 0) rfl rfl) rfl rfl hl.1 rfl (lv_room (Nat.le_of_ble_eq_true rfl)) dX9_paste_73 (by rw [← hRe]; exact ⟨(Nat.le_of_ble_eq_true rfl), (Nat.le_of_ble_eq_true rfl)⟩)) hS (fun q _ h => hFc q h) hFc (fun r_150 u t H1 locs ht hvm hw hB hz1 hk1 hS => ?_)
                obtain ⟨hP, hD, hK⟩ := z_after3 (wn := (zV165 h0 tp h0_tapeLength h0_faultKind h0_faultPlace nw im sl rd wk fm mt ch dy sl cA_sl f_sl r0 r0_width r0_size r0_numbers r0_numbers cA_r0_numbers f_r0_numbers r1 r1_width r1_size r1_numbers r1_numbers cA_r1_numbers f_r1_numbers r2_numbers cA_r2_numbers f_r2_numbers r3_numbers cA_r3_numbers f_r3_numbers r2 r2_width r2_size r2_numbers r3 r3_width r3_size r3_numbers)) hB ht hvm hP hD hK [8] [0, 1, 2, 3, 4, 5, 6, 7, 9] rfl 10 rfl (by decide +kernel) rfl (by decide +kernel) hk1 hFc
                generalize H1 = H at hP hS ⊢
                have hK : va_K (dC, dI) vwCl [(cA_sl, .object RX6), (cA_r0_numbers, .long), (cA_r1_numbers, .long), (cA_r2_numbers, .long), (cA_r3_numbers, .long)] s := hK
                have b_r_150 : 0 ≤ r_150.toInt ∧ r_150.toInt ≤ 1 := hw.1
                have s_r_150 := hw.2
                refine lv_if_eq (tgt := 91) hx hb dX9_paste_76 (by decide) (fun c_151 => ?_) (fun c_151 => ?_)
                · have ic_151 := zz_eq rfl (show Int32.toInt 0 = 0 from by decide) c_151
                  refine lv_bipush (v := (-7)) hx hb dX9_paste_91 (by decide) ?_
                  exact W.iret (v := (-7)) hx hb hr (fun t ht hW => by rw [← hQe]; exact ⟨⟨(-7), (), rfl, (by decide), ⟨f_r0_numbers, f_r1_numbers, f_r2_numbers, f_r3_numbers, z_ret hP hK hD ht hW [0, 1, 2, 3, 4, 5, 8, 6, 9, 7] [] rfl (by decide) rfl⟩⟩, hS.F ht⟩) hS.2.2 dX9_paste_93
                · have ic_151 := zz_neq rfl (show Int32.toInt 0 = 0 from by decide) c_151
                  refine lv_aload hx hb dX9_paste_79 (lv_at hl 0 rfl) ?_
                  refine lv_iload hx hb dX9_paste_81 (lv_at hl 6 rfl) ?_
                  refine lv_iload hx hb dX9_paste_83 (lv_at hl 7 rfl) ?_
                  obtain ⟨hPc, hDc, hFc⟩ := z_cut (wc := (zV6 r2 r2_width r2_size r2_numbers)) hP hD hS hA [8] rfl (by decide +kernel)
                  have hKc := hK.sub (tys' := []) [] rfl
                  refine va_calli (va_runV (As := [.int p4, .int p5]) (rest := []) ⟨hx, hb, hml, hown, hts⟩ (k_X6_hasSpan l sa dC dI r2 p4 p5 r2_width r2_size r2_numbers b_r2_size H.size) (cwV 2 hts (z_gV zw_t6_80 zw_t6_81 zw_t6_82 zw_t1_10 zw_t6_83) rfl rfl rfl (by decide +kernel) (by rw [← hRe]; exact ⟨(Nat.le_of_ble_eq_true rfl), (Nat.le_of_ble_eq_true rfl)⟩)) (z_preV hPc hKc hDc hN hXs hS hFc (q := (RX6, TX6, 3)) (ci := 6) (q0 := 0) rfl rfl) rfl rfl hl.1 rfl (lv_room (Nat.le_of_ble_eq_true rfl)) dX9_paste_85 (by rw [← hRe]; exact ⟨(Nat.le_of_ble_eq_true rfl), (Nat.le_of_ble_eq_true rfl)⟩)) hS (fun q _ h => hFc q h) hFc (fun r_152 u t H1 locs ht hvm hw hB hz1 hk1 hS => ?_)
                  obtain ⟨hP, hD, hK⟩ := z_after3 (wn := (zV165 h0 tp h0_tapeLength h0_faultKind h0_faultPlace nw im sl rd wk fm mt ch dy sl cA_sl f_sl r0 r0_width r0_size r0_numbers r0_numbers cA_r0_numbers f_r0_numbers r1 r1_width r1_size r1_numbers r1_numbers cA_r1_numbers f_r1_numbers r2_numbers cA_r2_numbers f_r2_numbers r3_numbers cA_r3_numbers f_r3_numbers r3 r3_width r3_size r3_numbers r2 r2_width r2_size r2_numbers)) hB ht hvm hP hD hK [8] [0, 1, 2, 3, 4, 5, 6, 7, 9] rfl 10 rfl (by decide +kernel) rfl (by decide +kernel) hk1 hFc
                  generalize H1 = H at hP hS ⊢
                  have hK : va_K (dC, dI) vwCl [(cA_sl, .object RX6), (cA_r0_numbers, .long), (cA_r1_numbers, .long), (cA_r2_numbers, .long), (cA_r3_numbers, .long)] s := hK
                  have b_r_152 : 0 ≤ r_152.toInt ∧ r_152.toInt ≤ 1 := hw.1
                  have s_r_152 := hw.2
                  refine lv_if_ne (tgt := 94) hx hb dX9_paste_88 (by decide) (fun c_153 => ?_) (fun c_153 => ?_)
                  · have ic_153 := zz_ne rfl (show Int32.toInt 0 = 0 from by decide) c_153
                    refine lv_aload hx hb dX9_paste_94 (lv_at hl 1 rfl) ?_
                    refine va_get (D := (dC, dI)) (ci := 6) (v := .ref r3_numbers) (C := RX6) (T := TX6) (N := 3) hx hb hts zl_X6 hown hK hP 8 rfl rfl 2 (by decide) (hts _ zw_t2_181) (fun _ h9 => h9) rfl dX9_paste_96 ?_
                    refine lv_iload_n hx hb dX9_paste_99 rfl (lv_at hl 4 rfl) ?_
                    refine lv_aload hx hb dX9_paste_100 (lv_at hl 0 rfl) ?_
                    refine va_get (D := (dC, dI)) (ci := 6) (v := .ref r2_numbers) (C := RX6) (T := TX6) (N := 3) hx hb hts zl_X6 hown hK hP 9 rfl rfl 2 (by decide) (hts _ zw_t2_181) (fun _ h9 => h9) rfl dX9_paste_102 ?_
                    refine lv_iload hx hb dX9_paste_105 (lv_at hl 6 rfl) ?_
                    refine lv_iload hx hb dX9_paste_107 (lv_at hl 7 rfl) ?_
                    have kc_p2 := zi_clamp (x := p2) rfl (by first | with_reducible assumption | omega)
                    have kc_p4 := zi_clamp (x := p4) rfl (by first | with_reducible assumption | omega)
                    have kc_p5 := zi_clamp (x := p5) rfl (by first | with_reducible assumption | omega)
                    refine va_copyl hx hb (by rw [hml]; exact hl.1.symm) hown (hts _ zw_t6_92) (hts _ zw_t4_39) (hts _ zw_t4_38) (hts _ zw_t1_18) hK hP hD hS 7 6 4 3 rfl rfl rfl rfl rfl (fun q => absurd (z_lt (k := 0) (by decide) q) (by first | with_reducible assumption | omega)) (fun q => absurd (z_lt (k := 0) (by decide) q) (by first | with_reducible assumption | omega)) (fun q => absurd (z_lt (k := 0) (by decide) q) (by first | with_reducible assumption | omega)) (by first | with_reducible assumption | omega) (by first | with_reducible assumption | omega) (fun _ _ => rfl) (by rw [← hRe]; exact (Nat.le_of_ble_eq_true rfl)) (by rw [← hRe]; exact (Nat.le_of_ble_eq_true rfl)) dX9_paste_109 (fun H locs hP hD hS => ?_)
                    obtain ⟨f_154, ef_154⟩ : ∃ g : Nat → Int64, g = va_cpy f_r3_numbers f_r2_numbers (Int32.toNatClampNeg p2) (Int32.toNatClampNeg p4) (Int32.toNatClampNeg p5) := ⟨_, rfl⟩
                    have hP : va_P (dC, dI) vwCl (zV165 h0 tp h0_tapeLength h0_faultKind h0_faultPlace nw im sl rd wk fm mt ch dy sl cA_sl f_sl r0 r0_width r0_size r0_numbers r0_numbers cA_r0_numbers f_r0_numbers r1 r1_width r1_size r1_numbers r1_numbers cA_r1_numbers f_r1_numbers r2_numbers cA_r2_numbers (va_cpy f_r3_numbers f_r2_numbers (Int32.toNatClampNeg p2) (Int32.toNatClampNeg p4) (Int32.toNatClampNeg p5)) r3_numbers cA_r3_numbers f_r3_numbers r3 r3_width r3_size r3_numbers r2 r2_width r2_size r2_numbers) H := hP
                    have hD : va_D A (zV165 h0 tp h0_tapeLength h0_faultKind h0_faultPlace nw im sl rd wk fm mt ch dy sl cA_sl f_sl r0 r0_width r0_size r0_numbers r0_numbers cA_r0_numbers f_r0_numbers r1 r1_width r1_size r1_numbers r1_numbers cA_r1_numbers f_r1_numbers r2_numbers cA_r2_numbers (va_cpy f_r3_numbers f_r2_numbers (Int32.toNatClampNeg p2) (Int32.toNatClampNeg p4) (Int32.toNatClampNeg p5)) r3_numbers cA_r3_numbers f_r3_numbers r3 r3_width r3_size r3_numbers r2 r2_width r2_size r2_numbers) := hD
                    rw [← ef_154] at hP hD
                    refine lv_iconst (v := 0) hx hb dX9_paste_112 (by decide) ?_
                    exact W.iret (v := 0) hx hb hr (fun t ht hW => by rw [← hQe]; exact ⟨⟨0, (), rfl, (by decide), ⟨f_r0_numbers, f_r1_numbers, f_154, f_r3_numbers, z_ret hP hK hD ht hW [0, 1, 2, 3, 4, 5, 9, 6, 8, 7] [] rfl (by decide) rfl⟩⟩, hS.F ht⟩) hS.2.2 dX9_paste_113
                  · have ic_153 := zz_nne rfl (show Int32.toInt 0 = 0 from by decide) c_153
                    refine lv_bipush (v := (-7)) hx hb dX9_paste_91 (by decide) ?_
                    exact W.iret (v := (-7)) hx hb hr (fun t ht hW => by rw [← hQe]; exact ⟨⟨(-7), (), rfl, (by decide), ⟨f_r0_numbers, f_r1_numbers, f_r2_numbers, f_r3_numbers, z_ret hP hK hD ht hW [0, 1, 2, 3, 4, 5, 9, 6, 8, 7] [] rfl (by decide) rfl⟩⟩, hS.F ht⟩) hS.2.2 dX9_paste_93
              · have ic_149 := zz_neq rfl rfl c_149
                refine lv_bipush (v := (-8)) hx hb dX9_paste_65 (by decide) ?_
                exact W.iret (v := (-8)) hx hb hr (fun t ht hW => by rw [← hQe]; exact ⟨⟨(-8), (), rfl, (by decide), ⟨f_r0_numbers, f_r1_numbers, f_r2_numbers, f_r3_numbers, z_ret hP hK hD ht hW [0, 1, 2, 3, 4, 5, 9, 6, 8, 7] [] rfl (by decide) rfl⟩⟩, hS.F ht⟩) hS.2.2 dX9_paste_67
            · have ic_148 := zz_nne rfl (show Int32.toInt 0 = 0 from by decide) c_148
              refine lv_bipush (v := (-6)) hx hb dX9_paste_49 (by decide) ?_
              exact W.iret (v := (-6)) hx hb hr (fun t ht hW => by rw [← hQe]; exact ⟨⟨(-6), (), rfl, (by decide), ⟨f_r0_numbers, f_r1_numbers, f_r2_numbers, f_r3_numbers, z_ret hP hK hD ht hW [0, 1, 2, 3, 4, 5, 9, 6, 8, 7] [] rfl (by decide) rfl⟩⟩, hS.F ht⟩) hS.2.2 dX9_paste_51
        · have zc_3 : Int32.toInt 3 = 3 := by decide
          refine va_aldq hx hb hK hP 1 0 rfl rfl (zi_in (show Int32.toInt 3 = 3 from by decide) (by decide)) dX9_paste_30 ?_
          refine W.eq (g2 := F0 m 31 ls (.ref r3 :: [])) (by rw [show f_sl (Int32.toNatClampNeg 3) = some r3 from (by rw [show Int32.toNatClampNeg 3 = 3 from by decide]; exact hsl3)]; rfl) ?_
          refine lv_astore (lv' := [(7, .ref r3), (6, .ref r3), (0, .ref h0), (1, .int 3), (2, .int p2), (3, .int 3), (4, .int p4), (5, .int p5)]) hx hb dX9_paste_31 hl (by decide) rfl (fun ls hl => ?_)
          refine lv_aload hx hb dX9_paste_33 (lv_at hl 1 rfl) ?_
          obtain ⟨hPc, hDc, hFc⟩ := z_cut (wc := (zV6 r3 r3_width r3_size r3_numbers)) hP hD hS hA [8] rfl (by decide +kernel)
          have hKc := hK.sub (tys' := []) [] rfl
          refine va_calli (va_runV (As := []) (rest := []) ⟨hx, hb, hml, hown, hts⟩ (k_X6_isThere l sa dC dI r3 r3_width r3_size r3_numbers b_r3_size H.size) (cwV 0 hts (z_gV zw_t5_222 zw_t5_223 zw_t5_224 zw_t1_10 zw_t5_225) rfl rfl rfl (by decide +kernel) (by rw [← hRe]; exact ⟨(Nat.le_of_ble_eq_true rfl), (Nat.le_of_ble_eq_true rfl)⟩)) (z_preV hPc hKc hDc hN hXs hS hFc (q := (RX6, TX6, 3)) (ci := 6) (q0 := 0) rfl rfl) rfl rfl hl.1 rfl (lv_room (Nat.le_of_ble_eq_true rfl)) dX9_paste_35 (by rw [← hRe]; exact ⟨(Nat.le_of_ble_eq_true rfl), (Nat.le_of_ble_eq_true rfl)⟩)) hS (fun q _ h => hFc q h) hFc (fun r_155 u t H1 locs ht hvm hw hB hz1 hk1 hS => ?_)
          obtain ⟨hP, hD, hK⟩ := z_after3 (wn := (zV77 h0 tp h0_tapeLength h0_faultKind h0_faultPlace nw im sl rd wk fm mt ch dy sl cA_sl f_sl r0 r0_width r0_size r0_numbers r0_numbers cA_r0_numbers f_r0_numbers r1 r1_width r1_size r1_numbers r1_numbers cA_r1_numbers f_r1_numbers r2 r2_width r2_size r2_numbers r2_numbers cA_r2_numbers f_r2_numbers r3_numbers cA_r3_numbers f_r3_numbers r3 r3_width r3_size r3_numbers)) hB ht hvm hP hD hK [8] [0, 1, 2, 3, 4, 5, 6, 7, 9] rfl 10 rfl (by decide +kernel) rfl (by decide +kernel) hk1 hFc
          generalize H1 = H at hP hS ⊢
          have hK : va_K (dC, dI) vwCl [(cA_sl, .object RX6), (cA_r0_numbers, .long), (cA_r1_numbers, .long), (cA_r2_numbers, .long), (cA_r3_numbers, .long)] s := hK
          have b_r_155 : 0 ≤ r_155.toInt ∧ r_155.toInt ≤ 1 := hw
          refine lv_if_eq (tgt := 49) hx hb dX9_paste_38 (by decide) (fun c_156 => ?_) (fun c_156 => ?_)
          · have ic_156 := zz_eq rfl (show Int32.toInt 0 = 0 from by decide) c_156
            refine lv_bipush (v := (-6)) hx hb dX9_paste_49 (by decide) ?_
            exact W.iret (v := (-6)) hx hb hr (fun t ht hW => by rw [← hQe]; exact ⟨⟨(-6), (), rfl, (by decide), ⟨f_r0_numbers, f_r1_numbers, f_r2_numbers, f_r3_numbers, z_ret hP hK hD ht hW [0, 1, 2, 3, 4, 5, 6, 7, 9, 8] [] rfl (by decide) rfl⟩⟩, hS.F ht⟩) hS.2.2 dX9_paste_51
          · have ic_156 := zz_neq rfl (show Int32.toInt 0 = 0 from by decide) c_156
            refine lv_aload hx hb dX9_paste_41 (lv_at hl 0 rfl) ?_
            obtain ⟨hPc, hDc, hFc⟩ := z_cut (wc := (zV6 r3 r3_width r3_size r3_numbers)) hP hD hS hA [9] rfl (by decide +kernel)
            have hKc := hK.sub (tys' := []) [] rfl
            refine va_calli (va_runV (As := []) (rest := []) ⟨hx, hb, hml, hown, hts⟩ (k_X6_isThere l sa dC dI r3 r3_width r3_size r3_numbers b_r3_size H.size) (cwV 0 hts (z_gV zw_t5_222 zw_t5_223 zw_t5_224 zw_t1_10 zw_t5_225) rfl rfl rfl (by decide +kernel) (by rw [← hRe]; exact ⟨(Nat.le_of_ble_eq_true rfl), (Nat.le_of_ble_eq_true rfl)⟩)) (z_preV hPc hKc hDc hN hXs hS hFc (q := (RX6, TX6, 3)) (ci := 6) (q0 := 0) rfl rfl) rfl rfl hl.1 rfl (lv_room (Nat.le_of_ble_eq_true rfl)) dX9_paste_43 (by rw [← hRe]; exact ⟨(Nat.le_of_ble_eq_true rfl), (Nat.le_of_ble_eq_true rfl)⟩)) hS (fun q _ h => hFc q h) hFc (fun r_157 u t H1 locs ht hvm hw hB hz1 hk1 hS => ?_)
            obtain ⟨hP, hD, hK⟩ := z_after3 (wn := (zV77 h0 tp h0_tapeLength h0_faultKind h0_faultPlace nw im sl rd wk fm mt ch dy sl cA_sl f_sl r0 r0_width r0_size r0_numbers r0_numbers cA_r0_numbers f_r0_numbers r1 r1_width r1_size r1_numbers r1_numbers cA_r1_numbers f_r1_numbers r2 r2_width r2_size r2_numbers r2_numbers cA_r2_numbers f_r2_numbers r3_numbers cA_r3_numbers f_r3_numbers r3 r3_width r3_size r3_numbers)) hB ht hvm hP hD hK [9] [0, 1, 2, 3, 4, 5, 6, 7, 8] rfl 10 rfl (by decide +kernel) rfl (by decide +kernel) hk1 hFc
            generalize H1 = H at hP hS ⊢
            have hK : va_K (dC, dI) vwCl [(cA_sl, .object RX6), (cA_r0_numbers, .long), (cA_r1_numbers, .long), (cA_r2_numbers, .long), (cA_r3_numbers, .long)] s := hK
            have b_r_157 : 0 ≤ r_157.toInt ∧ r_157.toInt ≤ 1 := hw
            refine lv_if_ne (tgt := 52) hx hb dX9_paste_46 (by decide) (fun c_158 => ?_) (fun c_158 => ?_)
            · have ic_158 := zz_ne rfl (show Int32.toInt 0 = 0 from by decide) c_158
              refine lv_aload hx hb dX9_paste_52 (lv_at hl 1 rfl) ?_
              refine va_get (D := (dC, dI)) (ci := 6) (v := .int r3_width) (C := RX6) (T := TX6) (N := 3) hx hb hts zl_X6 hown hK hP 9 rfl rfl 0 (by decide) (hts _ zw_t2_176) (fun _ h9 => h9) rfl dX9_paste_54 ?_
              refine lv_aload hx hb dX9_paste_57 (lv_at hl 0 rfl) ?_
              refine va_get (D := (dC, dI)) (ci := 6) (v := .int r3_width) (C := RX6) (T := TX6) (N := 3) hx hb hts zl_X6 hown hK hP 9 rfl rfl 0 (by decide) (hts _ zw_t2_176) (fun _ h9 => h9) rfl dX9_paste_59 ?_
              have nb_r3_width := zi_nb r3_width
              refine lv_icmp_eq (tgt := 68) hx hb dX9_paste_62 (by decide) (fun c_159 => ?_) (fun q => absurd (zz_neq rfl rfl q) (by first | with_reducible assumption | omega))
              have ic_159 := zz_eq rfl rfl c_159
              refine lv_aload hx hb dX9_paste_68 (lv_at hl 1 rfl) ?_
              refine lv_iload_n hx hb dX9_paste_70 rfl (lv_at hl 4 rfl) ?_
              refine lv_iload hx hb dX9_paste_71 (lv_at hl 7 rfl) ?_
              obtain ⟨hPc, hDc, hFc⟩ := z_cut (wc := (zV6 r3 r3_width r3_size r3_numbers)) hP hD hS hA [9] rfl (by decide +kernel)
              have hKc := hK.sub (tys' := []) [] rfl
              refine va_calli (va_runV (As := [.int p2, .int p5]) (rest := []) ⟨hx, hb, hml, hown, hts⟩ (k_X6_hasSpan l sa dC dI r3 p2 p5 r3_width r3_size r3_numbers b_r3_size H.size) (cwV 2 hts (z_gV zw_t6_80 zw_t6_81 zw_t6_82 zw_t1_10 zw_t6_83) rfl rfl rfl (by decide +kernel) (by rw [← hRe]; exact ⟨(Nat.le_of_ble_eq_true rfl), (Nat.le_of_ble_eq_true rfl)⟩)) (z_preV hPc hKc hDc hN hXs hS hFc (q := (RX6, TX6, 3)) (ci := 6) (q0 := 0) rfl rfl) rfl rfl hl.1 rfl (lv_room (Nat.le_of_ble_eq_true rfl)) dX9_paste_73 (by rw [← hRe]; exact ⟨(Nat.le_of_ble_eq_true rfl), (Nat.le_of_ble_eq_true rfl)⟩)) hS (fun q _ h => hFc q h) hFc (fun r_160 u t H1 locs ht hvm hw hB hz1 hk1 hS => ?_)
              obtain ⟨hP, hD, hK⟩ := z_after3 (wn := (zV77 h0 tp h0_tapeLength h0_faultKind h0_faultPlace nw im sl rd wk fm mt ch dy sl cA_sl f_sl r0 r0_width r0_size r0_numbers r0_numbers cA_r0_numbers f_r0_numbers r1 r1_width r1_size r1_numbers r1_numbers cA_r1_numbers f_r1_numbers r2 r2_width r2_size r2_numbers r2_numbers cA_r2_numbers f_r2_numbers r3_numbers cA_r3_numbers f_r3_numbers r3 r3_width r3_size r3_numbers)) hB ht hvm hP hD hK [9] [0, 1, 2, 3, 4, 5, 6, 7, 8] rfl 10 rfl (by decide +kernel) rfl (by decide +kernel) hk1 hFc
              generalize H1 = H at hP hS ⊢
              have hK : va_K (dC, dI) vwCl [(cA_sl, .object RX6), (cA_r0_numbers, .long), (cA_r1_numbers, .long), (cA_r2_numbers, .long), (cA_r3_numbers, .long)] s := hK
              have b_r_160 : 0 ≤ r_160.toInt ∧ r_160.toInt ≤ 1 := hw.1
              have s_r_160 := hw.2
              refine lv_if_eq (tgt := 91) hx hb dX9_paste_76 (by decide) (fun c_161 => ?_) (fun c_161 => ?_)
              · have ic_161 := zz_eq rfl (show Int32.toInt 0 = 0 from by decide) c_161
                refine lv_bipush (v := (-7)) hx hb dX9_paste_91 (by decide) ?_
                exact W.iret (v := (-7)) hx hb hr (fun t ht hW => by rw [← hQe]; exact ⟨⟨(-7), (), rfl, (by decide), ⟨f_r0_numbers, f_r1_numbers, f_r2_numbers, f_r3_numbers, z_ret hP hK hD ht hW [0, 1, 2, 3, 4, 5, 6, 7, 9, 8] [] rfl (by decide) rfl⟩⟩, hS.F ht⟩) hS.2.2 dX9_paste_93
              · have ic_161 := zz_neq rfl (show Int32.toInt 0 = 0 from by decide) c_161
                refine lv_aload hx hb dX9_paste_79 (lv_at hl 0 rfl) ?_
                refine lv_iload hx hb dX9_paste_81 (lv_at hl 6 rfl) ?_
                refine lv_iload hx hb dX9_paste_83 (lv_at hl 7 rfl) ?_
                obtain ⟨hPc, hDc, hFc⟩ := z_cut (wc := (zV6 r3 r3_width r3_size r3_numbers)) hP hD hS hA [9] rfl (by decide +kernel)
                have hKc := hK.sub (tys' := []) [] rfl
                refine va_calli (va_runV (As := [.int p4, .int p5]) (rest := []) ⟨hx, hb, hml, hown, hts⟩ (k_X6_hasSpan l sa dC dI r3 p4 p5 r3_width r3_size r3_numbers b_r3_size H.size) (cwV 2 hts (z_gV zw_t6_80 zw_t6_81 zw_t6_82 zw_t1_10 zw_t6_83) rfl rfl rfl (by decide +kernel) (by rw [← hRe]; exact ⟨(Nat.le_of_ble_eq_true rfl), (Nat.le_of_ble_eq_true rfl)⟩)) (z_preV hPc hKc hDc hN hXs hS hFc (q := (RX6, TX6, 3)) (ci := 6) (q0 := 0) rfl rfl) rfl rfl hl.1 rfl (lv_room (Nat.le_of_ble_eq_true rfl)) dX9_paste_85 (by rw [← hRe]; exact ⟨(Nat.le_of_ble_eq_true rfl), (Nat.le_of_ble_eq_true rfl)⟩)) hS (fun q _ h => hFc q h) hFc (fun r_162 u t H1 locs ht hvm hw hB hz1 hk1 hS => ?_)
                obtain ⟨hP, hD, hK⟩ := z_after3 (wn := (zV77 h0 tp h0_tapeLength h0_faultKind h0_faultPlace nw im sl rd wk fm mt ch dy sl cA_sl f_sl r0 r0_width r0_size r0_numbers r0_numbers cA_r0_numbers f_r0_numbers r1 r1_width r1_size r1_numbers r1_numbers cA_r1_numbers f_r1_numbers r2 r2_width r2_size r2_numbers r2_numbers cA_r2_numbers f_r2_numbers r3_numbers cA_r3_numbers f_r3_numbers r3 r3_width r3_size r3_numbers)) hB ht hvm hP hD hK [9] [0, 1, 2, 3, 4, 5, 6, 7, 8] rfl 10 rfl (by decide +kernel) rfl (by decide +kernel) hk1 hFc
                generalize H1 = H at hP hS ⊢
                have hK : va_K (dC, dI) vwCl [(cA_sl, .object RX6), (cA_r0_numbers, .long), (cA_r1_numbers, .long), (cA_r2_numbers, .long), (cA_r3_numbers, .long)] s := hK
                have b_r_162 : 0 ≤ r_162.toInt ∧ r_162.toInt ≤ 1 := hw.1
                have s_r_162 := hw.2
                refine lv_if_ne (tgt := 94) hx hb dX9_paste_88 (by decide) (fun c_163 => ?_) (fun c_163 => ?_)
                · have ic_163 := zz_ne rfl (show Int32.toInt 0 = 0 from by decide) c_163
                  refine lv_aload hx hb dX9_paste_94 (lv_at hl 1 rfl) ?_
                  refine va_get (D := (dC, dI)) (ci := 6) (v := .ref r3_numbers) (C := RX6) (T := TX6) (N := 3) hx hb hts zl_X6 hown hK hP 9 rfl rfl 2 (by decide) (hts _ zw_t2_181) (fun _ h9 => h9) rfl dX9_paste_96 ?_
                  refine lv_iload_n hx hb dX9_paste_99 rfl (lv_at hl 4 rfl) ?_
                  refine lv_aload hx hb dX9_paste_100 (lv_at hl 0 rfl) ?_
                  refine va_get (D := (dC, dI)) (ci := 6) (v := .ref r3_numbers) (C := RX6) (T := TX6) (N := 3) hx hb hts zl_X6 hown hK hP 9 rfl rfl 2 (by decide) (hts _ zw_t2_181) (fun _ h9 => h9) rfl dX9_paste_102 ?_
                  refine lv_iload hx hb dX9_paste_105 (lv_at hl 6 rfl) ?_
                  refine lv_iload hx hb dX9_paste_107 (lv_at hl 7 rfl) ?_
                  have kc_p2 := zi_clamp (x := p2) rfl (by first | with_reducible assumption | omega)
                  have kc_p4 := zi_clamp (x := p4) rfl (by first | with_reducible assumption | omega)
                  have kc_p5 := zi_clamp (x := p5) rfl (by first | with_reducible assumption | omega)
                  refine va_copyl hx hb (by rw [hml]; exact hl.1.symm) hown (hts _ zw_t6_92) (hts _ zw_t4_39) (hts _ zw_t4_38) (hts _ zw_t1_18) hK hP hD hS 8 8 4 4 rfl rfl rfl rfl rfl (fun q => absurd (z_lt (k := 0) (by decide) q) (by first | with_reducible assumption | omega)) (fun q => absurd (z_lt (k := 0) (by decide) q) (by first | with_reducible assumption | omega)) (fun q => absurd (z_lt (k := 0) (by decide) q) (by first | with_reducible assumption | omega)) (by first | with_reducible assumption | omega) (by first | with_reducible assumption | omega) (fun _ _ => rfl) (by rw [← hRe]; exact (Nat.le_of_ble_eq_true rfl)) (by rw [← hRe]; exact (Nat.le_of_ble_eq_true rfl)) dX9_paste_109 (fun H locs hP hD hS => ?_)
                  obtain ⟨f_164, ef_164⟩ : ∃ g : Nat → Int64, g = va_cpy f_r3_numbers f_r3_numbers (Int32.toNatClampNeg p2) (Int32.toNatClampNeg p4) (Int32.toNatClampNeg p5) := ⟨_, rfl⟩
                  have hP : va_P (dC, dI) vwCl (zV77 h0 tp h0_tapeLength h0_faultKind h0_faultPlace nw im sl rd wk fm mt ch dy sl cA_sl f_sl r0 r0_width r0_size r0_numbers r0_numbers cA_r0_numbers f_r0_numbers r1 r1_width r1_size r1_numbers r1_numbers cA_r1_numbers f_r1_numbers r2 r2_width r2_size r2_numbers r2_numbers cA_r2_numbers f_r2_numbers r3_numbers cA_r3_numbers (va_cpy f_r3_numbers f_r3_numbers (Int32.toNatClampNeg p2) (Int32.toNatClampNeg p4) (Int32.toNatClampNeg p5)) r3 r3_width r3_size r3_numbers) H := hP
                  have hD : va_D A (zV77 h0 tp h0_tapeLength h0_faultKind h0_faultPlace nw im sl rd wk fm mt ch dy sl cA_sl f_sl r0 r0_width r0_size r0_numbers r0_numbers cA_r0_numbers f_r0_numbers r1 r1_width r1_size r1_numbers r1_numbers cA_r1_numbers f_r1_numbers r2 r2_width r2_size r2_numbers r2_numbers cA_r2_numbers f_r2_numbers r3_numbers cA_r3_numbers (va_cpy f_r3_numbers f_r3_numbers (Int32.toNatClampNeg p2) (Int32.toNatClampNeg p4) (Int32.toNatClampNeg p5)) r3 r3_width r3_size r3_numbers) := hD
                  rw [← ef_164] at hP hD
                  refine lv_iconst (v := 0) hx hb dX9_paste_112 (by decide) ?_
                  exact W.iret (v := 0) hx hb hr (fun t ht hW => by rw [← hQe]; exact ⟨⟨0, (), rfl, (by decide), ⟨f_r0_numbers, f_r1_numbers, f_r2_numbers, f_164, z_ret hP hK hD ht hW [0, 1, 2, 3, 4, 5, 6, 7, 9, 8] [] rfl (by decide) rfl⟩⟩, hS.F ht⟩) hS.2.2 dX9_paste_113
                · have ic_163 := zz_nne rfl (show Int32.toInt 0 = 0 from by decide) c_163
                  refine lv_bipush (v := (-7)) hx hb dX9_paste_91 (by decide) ?_
                  exact W.iret (v := (-7)) hx hb hr (fun t ht hW => by rw [← hQe]; exact ⟨⟨(-7), (), rfl, (by decide), ⟨f_r0_numbers, f_r1_numbers, f_r2_numbers, f_r3_numbers, z_ret hP hK hD ht hW [0, 1, 2, 3, 4, 5, 6, 7, 9, 8] [] rfl (by decide) rfl⟩⟩, hS.F ht⟩) hS.2.2 dX9_paste_93
            · have ic_158 := zz_nne rfl (show Int32.toInt 0 = 0 from by decide) c_158
              refine lv_bipush (v := (-6)) hx hb dX9_paste_49 (by decide) ?_
              exact W.iret (v := (-6)) hx hb hr (fun t ht hW => by rw [← hQe]; exact ⟨⟨(-6), (), rfl, (by decide), ⟨f_r0_numbers, f_r1_numbers, f_r2_numbers, f_r3_numbers, z_ret hP hK hD ht hW [0, 1, 2, 3, 4, 5, 6, 7, 9, 8] [] rfl (by decide) rfl⟩⟩, hS.F ht⟩) hS.2.2 dX9_paste_51
        · omega
      · omega
    · have ic_4 := zz_nne rfl (show Int32.toInt 0 = 0 from by decide) c_4
      refine lv_bipush (v := (-2)) hx hb dX9_paste_14 (by decide) ?_
      exact W.iret (v := (-2)) hx hb hr (fun t ht hW => by rw [← hQe]; exact ⟨⟨(-2), (), rfl, (by decide), ⟨f_r0_numbers, f_r1_numbers, f_r2_numbers, f_r3_numbers, z_ret hP hK hD ht hW [0, 1, 2, 3, 4, 5, 6, 7, 8, 9] [] rfl (by decide) rfl⟩⟩, hS.F ht⟩) hS.2.2 dX9_paste_16
