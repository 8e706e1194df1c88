set_option linter.all false
theorem zw_t7_133 : Cond.constantLong RX10 195 (555) ∈ zT := zt_7 (List.mem_of_getElem? (i := 133) (by decide +kernel)) (by decide +kernel)
def bcX10_gateLine_0 : List Nat := [5, 16, 64, 42, 180, 0, 43, 7, 46, 96, 104, 60, 42, 3, 42, 180, 0, 37, 7, 46, 4, 100, 182, 0, 188, 61, 42, 20, 0, 195, 182, 0, 184, 42, 180, 0, 165, 154, 0, 24, 42, 180, 0, 154, 5, 160, 0, 16, 42, 180, 0, 147, 28, 160, 0, 8, 42, 5, 182, 0]
theorem bcX10_gateLine_0_ok : z_bys cX10_gateLine 0 bcX10_gateLine_0 = true := by decide +kernel
def bcX10_gateLine_60 : List Nat := [181, 42, 180, 0, 46, 27, 28, 79, 42, 180, 0, 46, 27, 4, 96, 42, 3, 42, 180, 0, 37, 7, 46, 4, 100, 182, 0, 188, 79, 42, 180, 0, 43, 7, 92, 46, 4, 96, 79, 177]
theorem bcX10_gateLine_60_ok : z_bys cX10_gateLine 60 bcX10_gateLine_60 = true := by decide +kernel
theorem dX10_gateLine_0 : decode cX10_gateLine 0 = .ok (.iconst 2, 1) := zo_5 (z_byk bcX10_gateLine_0 0 0 _ bcX10_gateLine_0_ok rfl)
theorem dX10_gateLine_1 : decode cX10_gateLine 1 = .ok (.bipush 64, 2) := zo_16 (z_byk bcX10_gateLine_0 0 1 _ bcX10_gateLine_0_ok rfl) (z_byk bcX10_gateLine_0 0 2 _ bcX10_gateLine_0_ok rfl) rfl
theorem dX10_gateLine_10 : decode cX10_gateLine 10 = .ok (.imul, 1) := zo_104 (z_byk bcX10_gateLine_0 0 10 _ bcX10_gateLine_0_ok rfl)
theorem dX10_gateLine_11 : decode cX10_gateLine 11 = .ok (.istore_n 1, 1) := zo_60 (z_byk bcX10_gateLine_0 0 11 _ bcX10_gateLine_0_ok rfl)
theorem dX10_gateLine_12 : decode cX10_gateLine 12 = .ok (.aload_n 0, 1) := zo_42 (z_byk bcX10_gateLine_0 0 12 _ bcX10_gateLine_0_ok rfl)
theorem dX10_gateLine_13 : decode cX10_gateLine 13 = .ok (.iconst 0, 1) := zo_3 (z_byk bcX10_gateLine_0 0 13 _ bcX10_gateLine_0_ok rfl)
theorem dX10_gateLine_14 : decode cX10_gateLine 14 = .ok (.aload_n 0, 1) := zo_42 (z_byk bcX10_gateLine_0 0 14 _ bcX10_gateLine_0_ok rfl)
theorem dX10_gateLine_15 : decode cX10_gateLine 15 = .ok (.getfield 37, 3) := zo_180 (z_byk bcX10_gateLine_0 0 15 _ bcX10_gateLine_0_ok rfl) (z_byk bcX10_gateLine_0 0 16 _ bcX10_gateLine_0_ok rfl) (z_byk bcX10_gateLine_0 0 17 _ bcX10_gateLine_0_ok rfl) rfl
theorem dX10_gateLine_18 : decode cX10_gateLine 18 = .ok (.iconst 4, 1) := zo_7 (z_byk bcX10_gateLine_0 0 18 _ bcX10_gateLine_0_ok rfl)
theorem dX10_gateLine_19 : decode cX10_gateLine 19 = .ok (.iaload, 1) := zo_46 (z_byk bcX10_gateLine_0 0 19 _ bcX10_gateLine_0_ok rfl)
theorem dX10_gateLine_20 : decode cX10_gateLine 20 = .ok (.iconst 1, 1) := zo_4 (z_byk bcX10_gateLine_0 0 20 _ bcX10_gateLine_0_ok rfl)
theorem dX10_gateLine_21 : decode cX10_gateLine 21 = .ok (.isub, 1) := zo_100 (z_byk bcX10_gateLine_0 0 21 _ bcX10_gateLine_0_ok rfl)
theorem dX10_gateLine_22 : decode cX10_gateLine 22 = .ok (.invokevirtual 188, 3) := zo_182 (z_byk bcX10_gateLine_0 0 22 _ bcX10_gateLine_0_ok rfl) (z_byk bcX10_gateLine_0 0 23 _ bcX10_gateLine_0_ok rfl) (z_byk bcX10_gateLine_0 0 24 _ bcX10_gateLine_0_ok rfl) rfl
theorem dX10_gateLine_25 : decode cX10_gateLine 25 = .ok (.istore_n 2, 1) := zo_61 (z_byk bcX10_gateLine_0 0 25 _ bcX10_gateLine_0_ok rfl)
theorem dX10_gateLine_26 : decode cX10_gateLine 26 = .ok (.aload_n 0, 1) := zo_42 (z_byk bcX10_gateLine_0 0 26 _ bcX10_gateLine_0_ok rfl)
theorem dX10_gateLine_27 : decode cX10_gateLine 27 = .ok (.ldc2_w 195, 3) := zo_20 (z_byk bcX10_gateLine_0 0 27 _ bcX10_gateLine_0_ok rfl) (z_byk bcX10_gateLine_0 0 28 _ bcX10_gateLine_0_ok rfl) (z_byk bcX10_gateLine_0 0 29 _ bcX10_gateLine_0_ok rfl) rfl
theorem dX10_gateLine_3 : decode cX10_gateLine 3 = .ok (.aload_n 0, 1) := zo_42 (z_byk bcX10_gateLine_0 0 3 _ bcX10_gateLine_0_ok rfl)
theorem dX10_gateLine_30 : decode cX10_gateLine 30 = .ok (.invokevirtual 184, 3) := zo_182 (z_byk bcX10_gateLine_0 0 30 _ bcX10_gateLine_0_ok rfl) (z_byk bcX10_gateLine_0 0 31 _ bcX10_gateLine_0_ok rfl) (z_byk bcX10_gateLine_0 0 32 _ bcX10_gateLine_0_ok rfl) rfl
theorem dX10_gateLine_33 : decode cX10_gateLine 33 = .ok (.aload_n 0, 1) := zo_42 (z_byk bcX10_gateLine_0 0 33 _ bcX10_gateLine_0_ok rfl)
theorem dX10_gateLine_34 : decode cX10_gateLine 34 = .ok (.getfield 165, 3) := zo_180 (z_byk bcX10_gateLine_0 0 34 _ bcX10_gateLine_0_ok rfl) (z_byk bcX10_gateLine_0 0 35 _ bcX10_gateLine_0_ok rfl) (z_byk bcX10_gateLine_0 0 36 _ bcX10_gateLine_0_ok rfl) rfl
theorem dX10_gateLine_37 : decode cX10_gateLine 37 = .ok (.ifCond .ne 24, 3) := zo_154 (z_byk bcX10_gateLine_0 0 37 _ bcX10_gateLine_0_ok rfl) (z_byk bcX10_gateLine_0 0 38 _ bcX10_gateLine_0_ok rfl) (z_byk bcX10_gateLine_0 0 39 _ bcX10_gateLine_0_ok rfl) rfl
theorem dX10_gateLine_4 : decode cX10_gateLine 4 = .ok (.getfield 43, 3) := zo_180 (z_byk bcX10_gateLine_0 0 4 _ bcX10_gateLine_0_ok rfl) (z_byk bcX10_gateLine_0 0 5 _ bcX10_gateLine_0_ok rfl) (z_byk bcX10_gateLine_0 0 6 _ bcX10_gateLine_0_ok rfl) rfl
theorem dX10_gateLine_40 : decode cX10_gateLine 40 = .ok (.aload_n 0, 1) := zo_42 (z_byk bcX10_gateLine_0 0 40 _ bcX10_gateLine_0_ok rfl)
theorem dX10_gateLine_41 : decode cX10_gateLine 41 = .ok (.getfield 154, 3) := zo_180 (z_byk bcX10_gateLine_0 0 41 _ bcX10_gateLine_0_ok rfl) (z_byk bcX10_gateLine_0 0 42 _ bcX10_gateLine_0_ok rfl) (z_byk bcX10_gateLine_0 0 43 _ bcX10_gateLine_0_ok rfl) rfl
theorem dX10_gateLine_44 : decode cX10_gateLine 44 = .ok (.iconst 2, 1) := zo_5 (z_byk bcX10_gateLine_0 0 44 _ bcX10_gateLine_0_ok rfl)
theorem dX10_gateLine_45 : decode cX10_gateLine 45 = .ok (.if_icmp .ne 16, 3) := zo_160 (z_byk bcX10_gateLine_0 0 45 _ bcX10_gateLine_0_ok rfl) (z_byk bcX10_gateLine_0 0 46 _ bcX10_gateLine_0_ok rfl) (z_byk bcX10_gateLine_0 0 47 _ bcX10_gateLine_0_ok rfl) rfl
theorem dX10_gateLine_48 : decode cX10_gateLine 48 = .ok (.aload_n 0, 1) := zo_42 (z_byk bcX10_gateLine_0 0 48 _ bcX10_gateLine_0_ok rfl)
theorem dX10_gateLine_49 : decode cX10_gateLine 49 = .ok (.getfield 147, 3) := zo_180 (z_byk bcX10_gateLine_0 0 49 _ bcX10_gateLine_0_ok rfl) (z_byk bcX10_gateLine_0 0 50 _ bcX10_gateLine_0_ok rfl) (z_byk bcX10_gateLine_0 0 51 _ bcX10_gateLine_0_ok rfl) rfl
theorem dX10_gateLine_52 : decode cX10_gateLine 52 = .ok (.iload_n 2, 1) := zo_28 (z_byk bcX10_gateLine_0 0 52 _ bcX10_gateLine_0_ok rfl)
theorem dX10_gateLine_53 : decode cX10_gateLine 53 = .ok (.if_icmp .ne 8, 3) := zo_160 (z_byk bcX10_gateLine_0 0 53 _ bcX10_gateLine_0_ok rfl) (z_byk bcX10_gateLine_0 0 54 _ bcX10_gateLine_0_ok rfl) (z_byk bcX10_gateLine_0 0 55 _ bcX10_gateLine_0_ok rfl) rfl
theorem dX10_gateLine_56 : decode cX10_gateLine 56 = .ok (.aload_n 0, 1) := zo_42 (z_byk bcX10_gateLine_0 0 56 _ bcX10_gateLine_0_ok rfl)
theorem dX10_gateLine_57 : decode cX10_gateLine 57 = .ok (.iconst 2, 1) := zo_5 (z_byk bcX10_gateLine_0 0 57 _ bcX10_gateLine_0_ok rfl)
theorem dX10_gateLine_58 : decode cX10_gateLine 58 = .ok (.invokevirtual 181, 3) := zo_182 (z_byk bcX10_gateLine_0 0 58 _ bcX10_gateLine_0_ok rfl) (z_byk bcX10_gateLine_0 0 59 _ bcX10_gateLine_0_ok rfl) (z_byk bcX10_gateLine_60 60 0 _ bcX10_gateLine_60_ok rfl) rfl
theorem dX10_gateLine_61 : decode cX10_gateLine 61 = .ok (.aload_n 0, 1) := zo_42 (z_byk bcX10_gateLine_60 60 1 _ bcX10_gateLine_60_ok rfl)
theorem dX10_gateLine_62 : decode cX10_gateLine 62 = .ok (.getfield 46, 3) := zo_180 (z_byk bcX10_gateLine_60 60 2 _ bcX10_gateLine_60_ok rfl) (z_byk bcX10_gateLine_60 60 3 _ bcX10_gateLine_60_ok rfl) (z_byk bcX10_gateLine_60 60 4 _ bcX10_gateLine_60_ok rfl) rfl
theorem dX10_gateLine_65 : decode cX10_gateLine 65 = .ok (.iload_n 1, 1) := zo_27 (z_byk bcX10_gateLine_60 60 5 _ bcX10_gateLine_60_ok rfl)
theorem dX10_gateLine_66 : decode cX10_gateLine 66 = .ok (.iload_n 2, 1) := zo_28 (z_byk bcX10_gateLine_60 60 6 _ bcX10_gateLine_60_ok rfl)
theorem dX10_gateLine_67 : decode cX10_gateLine 67 = .ok (.iastore, 1) := zo_79 (z_byk bcX10_gateLine_60 60 7 _ bcX10_gateLine_60_ok rfl)
theorem dX10_gateLine_68 : decode cX10_gateLine 68 = .ok (.aload_n 0, 1) := zo_42 (z_byk bcX10_gateLine_60 60 8 _ bcX10_gateLine_60_ok rfl)
theorem dX10_gateLine_69 : decode cX10_gateLine 69 = .ok (.getfield 46, 3) := zo_180 (z_byk bcX10_gateLine_60 60 9 _ bcX10_gateLine_60_ok rfl) (z_byk bcX10_gateLine_60 60 10 _ bcX10_gateLine_60_ok rfl) (z_byk bcX10_gateLine_60 60 11 _ bcX10_gateLine_60_ok rfl) rfl
theorem dX10_gateLine_7 : decode cX10_gateLine 7 = .ok (.iconst 4, 1) := zo_7 (z_byk bcX10_gateLine_0 0 7 _ bcX10_gateLine_0_ok rfl)
theorem dX10_gateLine_72 : decode cX10_gateLine 72 = .ok (.iload_n 1, 1) := zo_27 (z_byk bcX10_gateLine_60 60 12 _ bcX10_gateLine_60_ok rfl)
theorem dX10_gateLine_73 : decode cX10_gateLine 73 = .ok (.iconst 1, 1) := zo_4 (z_byk bcX10_gateLine_60 60 13 _ bcX10_gateLine_60_ok rfl)
theorem dX10_gateLine_74 : decode cX10_gateLine 74 = .ok (.iadd, 1) := zo_96 (z_byk bcX10_gateLine_60 60 14 _ bcX10_gateLine_60_ok rfl)
theorem dX10_gateLine_75 : decode cX10_gateLine 75 = .ok (.aload_n 0, 1) := zo_42 (z_byk bcX10_gateLine_60 60 15 _ bcX10_gateLine_60_ok rfl)
theorem dX10_gateLine_76 : decode cX10_gateLine 76 = .ok (.iconst 0, 1) := zo_3 (z_byk bcX10_gateLine_60 60 16 _ bcX10_gateLine_60_ok rfl)
theorem dX10_gateLine_77 : decode cX10_gateLine 77 = .ok (.aload_n 0, 1) := zo_42 (z_byk bcX10_gateLine_60 60 17 _ bcX10_gateLine_60_ok rfl)
theorem dX10_gateLine_78 : decode cX10_gateLine 78 = .ok (.getfield 37, 3) := zo_180 (z_byk bcX10_gateLine_60 60 18 _ bcX10_gateLine_60_ok rfl) (z_byk bcX10_gateLine_60 60 19 _ bcX10_gateLine_60_ok rfl) (z_byk bcX10_gateLine_60 60 20 _ bcX10_gateLine_60_ok rfl) rfl
theorem dX10_gateLine_8 : decode cX10_gateLine 8 = .ok (.iaload, 1) := zo_46 (z_byk bcX10_gateLine_0 0 8 _ bcX10_gateLine_0_ok rfl)
theorem dX10_gateLine_81 : decode cX10_gateLine 81 = .ok (.iconst 4, 1) := zo_7 (z_byk bcX10_gateLine_60 60 21 _ bcX10_gateLine_60_ok rfl)
theorem dX10_gateLine_82 : decode cX10_gateLine 82 = .ok (.iaload, 1) := zo_46 (z_byk bcX10_gateLine_60 60 22 _ bcX10_gateLine_60_ok rfl)
theorem dX10_gateLine_83 : decode cX10_gateLine 83 = .ok (.iconst 1, 1) := zo_4 (z_byk bcX10_gateLine_60 60 23 _ bcX10_gateLine_60_ok rfl)
theorem dX10_gateLine_84 : decode cX10_gateLine 84 = .ok (.isub, 1) := zo_100 (z_byk bcX10_gateLine_60 60 24 _ bcX10_gateLine_60_ok rfl)
theorem dX10_gateLine_85 : decode cX10_gateLine 85 = .ok (.invokevirtual 188, 3) := zo_182 (z_byk bcX10_gateLine_60 60 25 _ bcX10_gateLine_60_ok rfl) (z_byk bcX10_gateLine_60 60 26 _ bcX10_gateLine_60_ok rfl) (z_byk bcX10_gateLine_60 60 27 _ bcX10_gateLine_60_ok rfl) rfl
theorem dX10_gateLine_88 : decode cX10_gateLine 88 = .ok (.iastore, 1) := zo_79 (z_byk bcX10_gateLine_60 60 28 _ bcX10_gateLine_60_ok rfl)
theorem dX10_gateLine_89 : decode cX10_gateLine 89 = .ok (.aload_n 0, 1) := zo_42 (z_byk bcX10_gateLine_60 60 29 _ bcX10_gateLine_60_ok rfl)
theorem dX10_gateLine_9 : decode cX10_gateLine 9 = .ok (.iadd, 1) := zo_96 (z_byk bcX10_gateLine_0 0 9 _ bcX10_gateLine_0_ok rfl)
theorem dX10_gateLine_90 : decode cX10_gateLine 90 = .ok (.getfield 43, 3) := zo_180 (z_byk bcX10_gateLine_60 60 30 _ bcX10_gateLine_60_ok rfl) (z_byk bcX10_gateLine_60 60 31 _ bcX10_gateLine_60_ok rfl) (z_byk bcX10_gateLine_60 60 32 _ bcX10_gateLine_60_ok rfl) rfl
theorem dX10_gateLine_93 : decode cX10_gateLine 93 = .ok (.iconst 4, 1) := zo_7 (z_byk bcX10_gateLine_60 60 33 _ bcX10_gateLine_60_ok rfl)
theorem dX10_gateLine_94 : decode cX10_gateLine 94 = .ok (.dup2, 1) := zo_92 (z_byk bcX10_gateLine_60 60 34 _ bcX10_gateLine_60_ok rfl)
theorem dX10_gateLine_95 : decode cX10_gateLine 95 = .ok (.iaload, 1) := zo_46 (z_byk bcX10_gateLine_60 60 35 _ bcX10_gateLine_60_ok rfl)
theorem dX10_gateLine_96 : decode cX10_gateLine 96 = .ok (.iconst 1, 1) := zo_4 (z_byk bcX10_gateLine_60 60 36 _ bcX10_gateLine_60_ok rfl)
theorem dX10_gateLine_97 : decode cX10_gateLine 97 = .ok (.iadd, 1) := zo_96 (z_byk bcX10_gateLine_60 60 37 _ bcX10_gateLine_60_ok rfl)
theorem dX10_gateLine_98 : decode cX10_gateLine 98 = .ok (.iastore, 1) := zo_79 (z_byk bcX10_gateLine_60 60 38 _ bcX10_gateLine_60_ok rfl)
theorem dX10_gateLine_99 : decode cX10_gateLine 99 = .ok (.return_, 1) := zo_177 (z_byk bcX10_gateLine_60 60 39 _ bcX10_gateLine_60_ok rfl)
set_option maxHeartbeats 4000000 in
set_option maxRecDepth 100000 in
theorem k_X10_gateLine (l : Launch) (sa : Nat → Nat) (dC : Nat → ClassId) (dI : Nat → Nat → Nat) (m0 : Nat) (m0_thrown : Int32) (m0_width : Nat) (m0_many : Nat) (m0_cells : Nat) (m0_moved : Nat) (m0_tape : Nat) (m0_taped : Int32) (m0_at : Int32) (m0_token : Int32) (m0_place : Int32) (m0_value : Int32) (m0_word : Int64) (m0_bad : Int32) (m0_badPlace : Int32) (m0_fault : Int32) (m0_faultPlace : Int32) (m0_lines : Nat) (m0_hours : Nat) (m0_courts : Nat) (m0_in : Nat) (m0_gates : Nat) (m0_gate : Nat) (m0_people : Nat) (m0_at0 : Nat) (m0_stray : Nat) (m0_set : Nat) (m0_once : Nat) (m0_truth : Nat) (m0_known : Nat) (m0_isKept : Nat) (m0_strays : Int32) (m0_hostPerson : Int32) (m0_hostCourt : Int32) (m0_outside : Int32) (m0_inside : Nat) (m0_can : Nat) (m0_fewest : Nat) (m0_waysTo : Nat) (m0_then : Nat) (m0_two : Nat) (m0_nextTwo : Nat) (m0_three : Nat) (m0_nextThree : Nat) (m0_shut : Int32) (m0_worth : Nat) (m0_digit : Nat) (m0_codes : Int32) (m0_most : Int64) (m0_bestTry : Int32) (m0_dayCourt : Int32) (m0_dayHour : Int32) (m0_dayNo : Int32) (m0_x : Int64) (cA_m0_tape : ClassId) (f_m0_tape : Nat → Int32) (cA_m0_courts : ClassId) (f_m0_courts : Nat → Int32) (cA_m0_gates : ClassId) (f_m0_gates : Nat → Int32) (cA_m0_gate : ClassId) (f_m0_gate : Nat → Int32) (b_m0_taped : 0 ≤ m0_taped.toInt ∧ m0_taped.toInt ≤ 1600) (b_m0_at : 0 ≤ m0_at.toInt ∧ m0_at.toInt ≤ 1600) (b_m0_token : 0 ≤ m0_token.toInt ∧ m0_token.toInt ≤ 4) (b_m0_value : 0 ≤ m0_value.toInt ∧ m0_value.toInt ≤ 1000009) (b_m0_bad : 0 ≤ m0_bad.toInt ∧ m0_bad.toInt ≤ 3) (b_m0_strays : 0 ≤ m0_strays.toInt ∧ m0_strays.toInt ≤ 5) (b_m0_hostCourt : 0 ≤ m0_hostCourt.toInt ∧ m0_hostCourt.toInt ≤ 9) (b_m0_dayCourt : 0 ≤ m0_dayCourt.toInt ∧ m0_dayCourt.toInt ≤ 9) (b_m0_dayHour : 0 ≤ m0_dayHour.toInt ∧ m0_dayHour.toInt ≤ 48) (b_f_m0_courts : ∀ j : Nat, 0 ≤ (f_m0_courts j).toInt ∧ (f_m0_courts j).toInt ≤ 10) (b_f_m0_gates : ∀ j : Nat, 0 ≤ (f_m0_gates j).toInt ∧ (f_m0_gates j).toInt ≤ 16) (b_f_m0_gate : ∀ j : Nat, 0 ≤ (f_m0_gate j).toInt ∧ (f_m0_gate j).toInt ≤ 9) (hep_0 : m0_at.toInt ≤ m0_taped.toInt) (hep_1 : (f_m0_gates (Int32.toNatClampNeg 4)).toInt ≤ 15) (sz : Nat) : Met l yX10_gateLine (.code yX10_gateLine cX10_gateLine 3 none :: zT) ({ frames := 4, cells := 0, slots := 0, locals := 88 }) (va_Pc [.ref m0] (zB sa dC dI (zV590 m0 m0_thrown m0_width m0_many m0_cells m0_moved m0_tape m0_taped m0_at m0_token m0_place m0_value m0_word m0_bad m0_badPlace m0_fault m0_faultPlace m0_lines m0_hours m0_courts m0_in m0_gates m0_gate m0_people m0_at0 m0_stray m0_set m0_once m0_truth m0_known m0_isKept m0_strays m0_hostPerson m0_hostCourt m0_outside m0_inside m0_can m0_fewest m0_waysTo m0_then m0_two m0_nextTwo m0_three m0_nextThree m0_shut m0_worth m0_digit m0_codes m0_most m0_bestTry m0_dayCourt m0_dayHour m0_dayNo m0_x m0_tape cA_m0_tape f_m0_tape m0_courts cA_m0_courts f_m0_courts m0_gates cA_m0_gates f_m0_gates m0_gate cA_m0_gate f_m0_gate) [(cA_m0_tape, .byte), (cA_m0_courts, .int), (cA_m0_gates, .int), (cA_m0_gate, .int)] sz)) (va_Qv (fun _ : Unit => True) (fun _ t => ∃ (n_m0_7 : Int32) (n_m0_8 : Int32) (n_m0_9 : Int32) (n_m0_10 : Int32) (n_m0_11 : Int64) (n_m0_12 : Int32) (n_m0_13 : Int32) (n_m0_gates : Nat → Int32) (n_m0_gate : Nat → Int32), (0 ≤ n_m0_7.toInt ∧ n_m0_7.toInt ≤ 1600) ∧ (0 ≤ n_m0_8.toInt ∧ n_m0_8.toInt ≤ 4) ∧ (0 ≤ n_m0_10.toInt ∧ n_m0_10.toInt ≤ 1000009) ∧ (0 ≤ n_m0_12.toInt ∧ n_m0_12.toInt ≤ 3) ∧ (∀ j : Nat, 0 ≤ (n_m0_gates j).toInt ∧ (n_m0_gates j).toInt ≤ 16) ∧ (∀ j : Nat, 0 ≤ (n_m0_gate j).toInt ∧ (n_m0_gate j).toInt ≤ 9) ∧ (n_m0_7.toInt ≤ m0_taped.toInt) ∧ (zMs (n_m0_12.toInt) (n_m0_7.toInt) (n_m0_8.toInt) ≤ zMs (m0_bad.toInt) (m0_at.toInt) (m0_token.toInt)) ∧ zW dC dI (zV590 m0 m0_thrown m0_width m0_many m0_cells m0_moved m0_tape m0_taped n_m0_7 n_m0_8 n_m0_9 n_m0_10 n_m0_11 n_m0_12 n_m0_13 m0_fault m0_faultPlace m0_lines m0_hours m0_courts m0_in m0_gates m0_gate m0_people m0_at0 m0_stray m0_set m0_once m0_truth m0_known m0_isKept m0_strays m0_hostPerson m0_hostCourt m0_outside m0_inside m0_can m0_fewest m0_waysTo m0_then m0_two m0_nextTwo m0_three m0_nextThree m0_shut m0_worth m0_digit m0_codes m0_most m0_bestTry m0_dayCourt m0_dayHour m0_dayNo m0_x m0_tape cA_m0_tape f_m0_tape m0_courts cA_m0_courts f_m0_courts m0_gates cA_m0_gates n_m0_gates m0_gate cA_m0_gate n_m0_gate) [] (va_A (zV590 m0 m0_thrown m0_width m0_many m0_cells m0_moved m0_tape m0_taped m0_at m0_token m0_place m0_value m0_word m0_bad m0_badPlace m0_fault m0_faultPlace m0_lines m0_hours m0_courts m0_in m0_gates m0_gate m0_people m0_at0 m0_stray m0_set m0_once m0_truth m0_known m0_isKept m0_strays m0_hostPerson m0_hostCourt m0_outside m0_inside m0_can m0_fewest m0_waysTo m0_then m0_two m0_nextTwo m0_three m0_nextThree m0_shut m0_worth m0_digit m0_codes m0_most m0_bestTry m0_dayCourt m0_dayHour m0_dayNo m0_x m0_tape cA_m0_tape f_m0_tape m0_courts cA_m0_courts f_m0_courts m0_gates cA_m0_gates f_m0_gates m0_gate cA_m0_gate f_m0_gate) sz) t) (va_A (zV590 m0 m0_thrown m0_width m0_many m0_cells m0_moved m0_tape m0_taped m0_at m0_token m0_place m0_value m0_word m0_bad m0_badPlace m0_fault m0_faultPlace m0_lines m0_hours m0_courts m0_in m0_gates m0_gate m0_people m0_at0 m0_stray m0_set m0_once m0_truth m0_known m0_isKept m0_strays m0_hostPerson m0_hostCourt m0_outside m0_inside m0_can m0_fewest m0_waysTo m0_then m0_two m0_nextTwo m0_three m0_nextThree m0_shut m0_worth m0_digit m0_codes m0_most m0_bestTry m0_dayCourt m0_dayHour m0_dayNo m0_x m0_tape cA_m0_tape f_m0_tape m0_courts cA_m0_courts f_m0_courts m0_gates cA_m0_gates f_m0_gates m0_gate cA_m0_gate f_m0_gate) sz)) 0 0 (va_A (zV590 m0 m0_thrown m0_width m0_many m0_cells m0_moved m0_tape m0_taped m0_at m0_token m0_place m0_value m0_word m0_bad m0_badPlace m0_fault m0_faultPlace m0_lines m0_hours m0_courts m0_in m0_gates m0_gate m0_people m0_at0 m0_stray m0_set m0_once m0_truth m0_known m0_isKept m0_strays m0_hostPerson m0_hostCourt m0_outside m0_inside m0_can m0_fewest m0_waysTo m0_then m0_two m0_nextTwo m0_three m0_nextThree m0_shut m0_worth m0_digit m0_codes m0_most m0_bestTry m0_dayCourt m0_dayHour m0_dayNo m0_x m0_tape cA_m0_tape f_m0_tape m0_courts cA_m0_courts f_m0_courts m0_gates cA_m0_gates f_m0_gates m0_gate cA_m0_gate f_m0_gate) sz) := by
  refine z_enter (by decide) (by exact (Nat.le_of_ble_eq_true rfl)) ?_
  intro p e s m args below meth c ls A R Qc hargs hsz hQe hAe hRe hx hb hml hr hts hown hlocks hin hl hP hK hD hN hXs hA hS
  rw [hAe] at hQe
  have hown : s.vm.findClass RX10 = some m.cls := hown
  have hl : lv_has ls 3 [(0, .ref m0)] := hl
  refine lv_iconst (v := 2) hx hb dX10_gateLine_0 (by decide) ?_
  refine lv_bipush (v := 64) hx hb dX10_gateLine_1 (by decide) ?_
  refine lv_aload_n hx hb dX10_gateLine_3 rfl (lv_at hl 0 rfl) ?_
  refine va_get (D := (dC, dI)) (ci := 10) (v := .ref m0_gates) (C := RX10) (T := TX10) (N := 53) hx hb hts zl_X10 hown hK hP 0 rfl rfl 20 (by decide) (hts _ zw_t6_120) (fun _ h9 => h9) rfl dX10_gateLine_4 ?_
  refine lv_iconst (v := 4) hx hb dX10_gateLine_7 (by decide) ?_
  refine va_iald hx hb hK hP 3 2 rfl rfl (zi_in (show Int32.toInt 4 = 4 from by decide) (by first | with_reducible assumption | omega)) dX10_gateLine_8 ?_
  refine lv_topi (fun x_1 ex_1 => ?_)
  have b_x_1 : 0 ≤ x_1.toInt ∧ x_1.toInt ≤ 16 := by rw [ex_1]; exact b_f_m0_gates _
  have t_x_1 : x_1.toInt = (f_m0_gates (Int32.toNatClampNeg 4)).toInt := by rw [ex_1]
  refine lv_iadd hx hb dX10_gateLine_9 ?_
  refine lv_topi (fun x_2 ex_2 => ?_)
  have b_x_2 : x_2.toInt = 64 + x_1.toInt := by rw [ex_2]; exact zi_add (show Int32.toInt 64 = 64 from by decide) rfl (by first | with_reducible assumption | omega)
  refine lv_imul hx hb dX10_gateLine_10 ?_
  refine lv_topi (fun x_3 ex_3 => ?_)
  have b_x_3 : x_3.toInt = 2 * x_2.toInt := by rw [ex_3]; exact zi_mul (show Int32.toInt 2 = 2 from by decide) rfl (by first | with_reducible assumption | omega)
  refine lv_istore_n (lv' := [(1, .int x_3), (0, .ref m0)]) hx hb dX10_gateLine_11 rfl hl (by decide) rfl (fun ls hl => ?_)
  refine lv_aload_n hx hb dX10_gateLine_12 rfl (lv_at hl 1 rfl) ?_
  refine lv_iconst (v := 0) hx hb dX10_gateLine_13 (by decide) ?_
  refine lv_aload_n hx hb dX10_gateLine_14 rfl (lv_at hl 1 rfl) ?_
  refine va_get (D := (dC, dI)) (ci := 10) (v := .ref m0_courts) (C := RX10) (T := TX10) (N := 53) hx hb hts zl_X10 hown hK hP 0 rfl rfl 18 (by decide) (hts _ zw_t6_118) (fun _ h9 => h9) rfl dX10_gateLine_15 ?_
  refine lv_iconst (v := 4) hx hb dX10_gateLine_18 (by decide) ?_
  refine va_iald hx hb hK hP 2 1 rfl rfl (zi_in (show Int32.toInt 4 = 4 from by decide) (by first | with_reducible assumption | omega)) dX10_gateLine_19 ?_
  refine lv_topi (fun x_4 ex_4 => ?_)
  have b_x_4 : 0 ≤ x_4.toInt ∧ x_4.toInt ≤ 10 := by rw [ex_4]; exact b_f_m0_courts _
  have t_x_4 : x_4.toInt = (f_m0_courts (Int32.toNatClampNeg 4)).toInt := by rw [ex_4]
  refine lv_iconst (v := 1) hx hb dX10_gateLine_20 (by decide) ?_
  refine lv_isub hx hb dX10_gateLine_21 ?_
  refine lv_topi (fun x_5 ex_5 => ?_)
  have b_x_5 : x_5.toInt = x_4.toInt - 1 := by rw [ex_5]; exact zi_sub rfl (show Int32.toInt 1 = 1 from by decide) (by first | with_reducible assumption | omega)
  obtain ⟨hPc, hDc, hFc⟩ := z_cut (wc := (zV572 m0 m0_thrown m0_width m0_many m0_cells m0_moved m0_tape m0_taped m0_at m0_token m0_place m0_value m0_word m0_bad m0_badPlace m0_fault m0_faultPlace m0_lines m0_hours m0_courts m0_in m0_gates m0_gate m0_people m0_at0 m0_stray m0_set m0_once m0_truth m0_known m0_isKept m0_strays m0_hostPerson m0_hostCourt m0_outside m0_inside m0_can m0_fewest m0_waysTo m0_then m0_two m0_nextTwo m0_three m0_nextThree m0_shut m0_worth m0_digit m0_codes m0_most m0_bestTry m0_dayCourt m0_dayHour m0_dayNo m0_x m0_tape cA_m0_tape f_m0_tape)) hP hD hS hA [0, 1] rfl (by decide +kernel)
  have hKc := hK.sub (tys' := [(cA_m0_tape, .byte)]) [0] rfl
  refine va_calli (va_runV (As := [.int 0, .int x_5]) (rest := []) ⟨hx, hb, hml, hown, hts⟩ (k_X10_number l sa dC dI m0 (0) x_5 m0_thrown m0_width m0_many m0_cells m0_moved m0_tape m0_taped m0_at m0_token m0_place m0_value m0_word m0_bad m0_badPlace m0_fault m0_faultPlace m0_lines m0_hours m0_courts m0_in m0_gates m0_gate m0_people m0_at0 m0_stray m0_set m0_once m0_truth m0_known m0_isKept m0_strays m0_hostPerson m0_hostCourt m0_outside m0_inside m0_can m0_fewest m0_waysTo m0_then m0_two m0_nextTwo m0_three m0_nextThree m0_shut m0_worth m0_digit m0_codes m0_most m0_bestTry m0_dayCourt m0_dayHour m0_dayNo m0_x cA_m0_tape f_m0_tape (by decide) (by first | with_reducible assumption | omega) b_m0_taped b_m0_at b_m0_token b_m0_value b_m0_bad b_m0_strays b_m0_hostCourt b_m0_dayCourt b_m0_dayHour (by first | assumption | omega) s.heap.size) (cwV 2 hts (z_gV zw_t7_110 zw_t7_112 zw_s5_1 zw_t1_11 zw_t7_113) rfl rfl rfl (by decide +kernel) (by rw [← hRe]; exact ⟨(Nat.le_of_ble_eq_true rfl), (Nat.le_of_ble_eq_true rfl)⟩)) (z_preV hPc hKc hDc hN hXs hS hFc (q := (RX10, TX10, 53)) (ci := 10) (q0 := 0) rfl rfl) rfl rfl hl.1 rfl (lv_room (Nat.le_of_ble_eq_true rfl)) dX10_gateLine_22 (by rw [← hRe]; exact ⟨(Nat.le_of_ble_eq_true rfl), (Nat.le_of_ble_eq_true rfl)⟩)) hS (fun q _ h => hFc q h) hFc (fun r_6 u t H1 locs ht hvm hw hB hz1 hk1 hS => ?_)
  obtain ⟨hu, hw⟩ := hw
  rw [hu] at hB
  obtain ⟨n_m0_7, n_m0_8, n_m0_9, n_m0_10, n_m0_11, n_m0_12, n_m0_13, b_n_m0_7, b_n_m0_8, b_n_m0_10, b_n_m0_12, hf_14, hf_15, hf_16, hf_17, hB⟩ := hB
  obtain ⟨hP, hD, hK⟩ := z_after3 (wn := (zV591 m0_courts cA_m0_courts f_m0_courts m0_gates cA_m0_gates f_m0_gates m0_gate cA_m0_gate f_m0_gate m0 m0_thrown m0_width m0_many m0_cells m0_moved m0_tape m0_taped n_m0_7 n_m0_8 n_m0_9 n_m0_10 n_m0_11 n_m0_12 n_m0_13 m0_fault m0_faultPlace m0_lines m0_hours m0_courts m0_in m0_gates m0_gate m0_people m0_at0 m0_stray m0_set m0_once m0_truth m0_known m0_isKept m0_strays m0_hostPerson m0_hostCourt m0_outside m0_inside m0_can m0_fewest m0_waysTo m0_then m0_two m0_nextTwo m0_three m0_nextThree m0_shut m0_worth m0_digit m0_codes m0_most m0_bestTry m0_dayCourt m0_dayHour m0_dayNo m0_x m0_tape cA_m0_tape f_m0_tape)) hB ht hvm hP hD hK [0, 1] [2, 3, 4] rfl 5 rfl (by decide +kernel) rfl (by decide +kernel) hk1 hFc
  generalize H1 = H at hP hS ⊢
  have hK : va_K (dC, dI) vwCl [(cA_m0_tape, .byte), (cA_m0_courts, .int), (cA_m0_gates, .int), (cA_m0_gate, .int)] s := hK
  have b_r_6 : 0 ≤ r_6.toInt ∧ r_6.toInt ≤ 99 := hw.1
  have s_r_6 := hw.2
  have za_0 : Int32.toInt 0 = 0 := by decide
  refine lv_istore_n (lv' := [(2, .int r_6), (1, .int x_3), (0, .ref m0)]) hx hb dX10_gateLine_25 rfl hl (by decide) rfl (fun ls hl => ?_)
  refine lv_aload_n hx hb dX10_gateLine_26 rfl (lv_at hl 2 rfl) ?_
  refine lv_ldc2 (v := 555) hx hb hown (hts _ zw_t7_133) dX10_gateLine_27 ?_
  obtain ⟨hPc, hDc, hFc⟩ := z_cut (wc := (zV572 m0 m0_thrown m0_width m0_many m0_cells m0_moved m0_tape m0_taped n_m0_7 n_m0_8 n_m0_9 n_m0_10 n_m0_11 n_m0_12 n_m0_13 m0_fault m0_faultPlace m0_lines m0_hours m0_courts m0_in m0_gates m0_gate m0_people m0_at0 m0_stray m0_set m0_once m0_truth m0_known m0_isKept m0_strays m0_hostPerson m0_hostCourt m0_outside m0_inside m0_can m0_fewest m0_waysTo m0_then m0_two m0_nextTwo m0_three m0_nextThree m0_shut m0_worth m0_digit m0_codes m0_most m0_bestTry m0_dayCourt m0_dayHour m0_dayNo m0_x m0_tape cA_m0_tape f_m0_tape)) hP hD hS hA [3, 4] rfl (by decide +kernel)
  have hKc := hK.sub (tys' := [(cA_m0_tape, .byte)]) [0] rfl
  refine va_callv (va_runV (As := [.long 555]) (rest := []) ⟨hx, hb, hml, hown, hts⟩ (k_X10_asks l sa dC dI m0 (555) m0_thrown m0_width m0_many m0_cells m0_moved m0_tape m0_taped n_m0_7 n_m0_8 n_m0_9 n_m0_10 n_m0_11 n_m0_12 n_m0_13 m0_fault m0_faultPlace m0_lines m0_hours m0_courts m0_in m0_gates m0_gate m0_people m0_at0 m0_stray m0_set m0_once m0_truth m0_known m0_isKept m0_strays m0_hostPerson m0_hostCourt m0_outside m0_inside m0_can m0_fewest m0_waysTo m0_then m0_two m0_nextTwo m0_three m0_nextThree m0_shut m0_worth m0_digit m0_codes m0_most m0_bestTry m0_dayCourt m0_dayHour m0_dayNo m0_x cA_m0_tape f_m0_tape b_m0_taped (by first | with_reducible assumption | omega) (by first | with_reducible assumption | omega) (by first | with_reducible assumption | omega) (by first | with_reducible assumption | omega) b_m0_strays b_m0_hostCourt b_m0_dayCourt b_m0_dayHour (by first | assumption | omega) H.size) (cwV 1 hts (z_gV zw_t7_89 zw_t7_91 zw_s4_12 zw_t1_11 zw_t7_92) rfl rfl rfl (by decide +kernel) (by rw [← hRe]; exact ⟨(Nat.le_of_ble_eq_true rfl), (Nat.le_of_ble_eq_true rfl)⟩)) (z_preV hPc hKc hDc hN hXs hS hFc (q := (RX10, TX10, 53)) (ci := 10) (q0 := 0) rfl rfl) rfl rfl hl.1 rfl (lv_room (Nat.le_of_ble_eq_true rfl)) dX10_gateLine_30 (by rw [← hRe]; exact ⟨(Nat.le_of_ble_eq_true rfl), (Nat.le_of_ble_eq_true rfl)⟩)) hS (fun q _ h => hFc q h) hFc (fun u t H1 locs ht hvm hw hB hz1 hk1 hS => ?_)
  obtain ⟨n_m0_19, n_m0_20, n_m0_21, n_m0_22, n_m0_23, n_m0_24, n_m0_25, b_n_m0_19, b_n_m0_20, b_n_m0_22, b_n_m0_24, hf_26, hf_27, hf_28, hB⟩ := hB
  obtain ⟨hP, hD, hK⟩ := z_after3 (wn := (zV591 m0_courts cA_m0_courts f_m0_courts m0_gates cA_m0_gates f_m0_gates m0_gate cA_m0_gate f_m0_gate m0 m0_thrown m0_width m0_many m0_cells m0_moved m0_tape m0_taped n_m0_19 n_m0_20 n_m0_21 n_m0_22 n_m0_23 n_m0_24 n_m0_25 m0_fault m0_faultPlace m0_lines m0_hours m0_courts m0_in m0_gates m0_gate m0_people m0_at0 m0_stray m0_set m0_once m0_truth m0_known m0_isKept m0_strays m0_hostPerson m0_hostCourt m0_outside m0_inside m0_can m0_fewest m0_waysTo m0_then m0_two m0_nextTwo m0_three m0_nextThree m0_shut m0_worth m0_digit m0_codes m0_most m0_bestTry m0_dayCourt m0_dayHour m0_dayNo m0_x m0_tape cA_m0_tape f_m0_tape)) hB ht hvm hP hD hK [3, 4] [0, 1, 2] rfl 5 rfl (by decide +kernel) rfl (by decide +kernel) hk1 hFc
  generalize H1 = H at hP hS ⊢
  have hK : va_K (dC, dI) vwCl [(cA_m0_tape, .byte), (cA_m0_courts, .int), (cA_m0_gates, .int), (cA_m0_gate, .int)] s := hK
  refine lv_aload_n hx hb dX10_gateLine_33 rfl (lv_at hl 2 rfl) ?_
  refine va_get (D := (dC, dI)) (ci := 10) (v := .int n_m0_24) (C := RX10) (T := TX10) (N := 53) hx hb hts zl_X10 hown hK hP 3 rfl rfl 12 (by decide) (hts _ zw_t6_112) (fun _ h9 => h9) rfl dX10_gateLine_34 ?_
  refine lv_if_ne (tgt := 61) hx hb dX10_gateLine_37 (by decide) (fun c_29 => ?_) (fun c_29 => ?_)
  · have ic_29 := zz_ne rfl (show Int32.toInt 0 = 0 from by decide) c_29
    refine lv_aload_n hx hb dX10_gateLine_61 rfl (lv_at hl 2 rfl) ?_
    refine va_get (D := (dC, dI)) (ci := 10) (v := .ref m0_gate) (C := RX10) (T := TX10) (N := 53) hx hb hts zl_X10 hown hK hP 3 rfl rfl 21 (by decide) (hts _ zw_t6_121) (fun _ h9 => h9) rfl dX10_gateLine_62 ?_
    refine lv_iload_n hx hb dX10_gateLine_65 rfl (lv_at hl 1 rfl) ?_
    refine lv_iload_n hx hb dX10_gateLine_66 rfl (lv_at hl 0 rfl) ?_
    refine va_iast hx hb hK hP hD hS 2 3 rfl rfl (zi_in rfl (by first | with_reducible assumption | omega)) dX10_gateLine_67 (fun H locs hP hD hS => ?_)
    obtain ⟨f_30, ef_30⟩ : ∃ g : Nat → Int32, g = upd f_m0_gate (Int32.toNatClampNeg x_3) r_6 := ⟨_, rfl⟩
    have u_f_30 : (f_30 (Int32.toNatClampNeg x_3)).toInt = r_6.toInt := by rw [ef_30, pk_us]
    have b_f_30 : ∀ j : Nat, 0 ≤ (f_30 j).toInt ∧ (f_30 j).toInt ≤ 9 := by rw [ef_30]; exact zi_upd b_f_m0_gate rfl (by first | with_reducible assumption | omega)
    have hP : va_P (dC, dI) vwCl (zV591 m0_courts cA_m0_courts f_m0_courts m0_gates cA_m0_gates f_m0_gates m0_gate cA_m0_gate (upd f_m0_gate (Int32.toNatClampNeg x_3) r_6) m0 m0_thrown m0_width m0_many m0_cells m0_moved m0_tape m0_taped n_m0_19 n_m0_20 n_m0_21 n_m0_22 n_m0_23 n_m0_24 n_m0_25 m0_fault m0_faultPlace m0_lines m0_hours m0_courts m0_in m0_gates m0_gate m0_people m0_at0 m0_stray m0_set m0_once m0_truth m0_known m0_isKept m0_strays m0_hostPerson m0_hostCourt m0_outside m0_inside m0_can m0_fewest m0_waysTo m0_then m0_two m0_nextTwo m0_three m0_nextThree m0_shut m0_worth m0_digit m0_codes m0_most m0_bestTry m0_dayCourt m0_dayHour m0_dayNo m0_x m0_tape cA_m0_tape f_m0_tape) H := hP
    have hD : va_D A (zV591 m0_courts cA_m0_courts f_m0_courts m0_gates cA_m0_gates f_m0_gates m0_gate cA_m0_gate (upd f_m0_gate (Int32.toNatClampNeg x_3) r_6) m0 m0_thrown m0_width m0_many m0_cells m0_moved m0_tape m0_taped n_m0_19 n_m0_20 n_m0_21 n_m0_22 n_m0_23 n_m0_24 n_m0_25 m0_fault m0_faultPlace m0_lines m0_hours m0_courts m0_in m0_gates m0_gate m0_people m0_at0 m0_stray m0_set m0_once m0_truth m0_known m0_isKept m0_strays m0_hostPerson m0_hostCourt m0_outside m0_inside m0_can m0_fewest m0_waysTo m0_then m0_two m0_nextTwo m0_three m0_nextThree m0_shut m0_worth m0_digit m0_codes m0_most m0_bestTry m0_dayCourt m0_dayHour m0_dayNo m0_x m0_tape cA_m0_tape f_m0_tape) := hD
    rw [← ef_30] at hP hD
    refine lv_aload_n hx hb dX10_gateLine_68 rfl (lv_at hl 2 rfl) ?_
    refine va_get (D := (dC, dI)) (ci := 10) (v := .ref m0_gate) (C := RX10) (T := TX10) (N := 53) hx hb hts zl_X10 hown hK hP 3 rfl rfl 21 (by decide) (hts _ zw_t6_121) (fun _ h9 => h9) rfl dX10_gateLine_69 ?_
    refine lv_iload_n hx hb dX10_gateLine_72 rfl (lv_at hl 1 rfl) ?_
    refine lv_iconst (v := 1) hx hb dX10_gateLine_73 (by decide) ?_
    refine lv_iadd hx hb dX10_gateLine_74 ?_
    refine lv_topi (fun x_31 ex_31 => ?_)
    have b_x_31 : x_31.toInt = x_3.toInt + 1 := by rw [ex_31]; exact zi_add rfl (show Int32.toInt 1 = 1 from by decide) (by first | with_reducible assumption | omega)
    refine lv_aload_n hx hb dX10_gateLine_75 rfl (lv_at hl 2 rfl) ?_
    refine lv_iconst (v := 0) hx hb dX10_gateLine_76 (by decide) ?_
    refine lv_aload_n hx hb dX10_gateLine_77 rfl (lv_at hl 2 rfl) ?_
    refine va_get (D := (dC, dI)) (ci := 10) (v := .ref m0_courts) (C := RX10) (T := TX10) (N := 53) hx hb hts zl_X10 hown hK hP 3 rfl rfl 18 (by decide) (hts _ zw_t6_118) (fun _ h9 => h9) rfl dX10_gateLine_78 ?_
    refine lv_iconst (v := 4) hx hb dX10_gateLine_81 (by decide) ?_
    refine va_iald hx hb hK hP 0 1 rfl rfl (zi_in (show Int32.toInt 4 = 4 from by decide) (by first | with_reducible assumption | omega)) dX10_gateLine_82 ?_
    refine lv_topi (fun x_32 ex_32 => ?_)
    obtain rfl : x_4 = x_32 := ex_4.trans ex_32.symm
    refine lv_iconst (v := 1) hx hb dX10_gateLine_83 (by decide) ?_
    refine lv_isub hx hb dX10_gateLine_84 ?_
    refine lv_topi (fun x_33 ex_33 => ?_)
    have b_x_33 : x_33.toInt = x_4.toInt - 1 := by rw [ex_33]; exact zi_sub rfl (show Int32.toInt 1 = 1 from by decide) (by first | with_reducible assumption | omega)
    obtain ⟨hPc, hDc, hFc⟩ := z_cut (wc := (zV572 m0 m0_thrown m0_width m0_many m0_cells m0_moved m0_tape m0_taped n_m0_19 n_m0_20 n_m0_21 n_m0_22 n_m0_23 n_m0_24 n_m0_25 m0_fault m0_faultPlace m0_lines m0_hours m0_courts m0_in m0_gates m0_gate m0_people m0_at0 m0_stray m0_set m0_once m0_truth m0_known m0_isKept m0_strays m0_hostPerson m0_hostCourt m0_outside m0_inside m0_can m0_fewest m0_waysTo m0_then m0_two m0_nextTwo m0_three m0_nextThree m0_shut m0_worth m0_digit m0_codes m0_most m0_bestTry m0_dayCourt m0_dayHour m0_dayNo m0_x m0_tape cA_m0_tape f_m0_tape)) hP hD hS hA [3, 4] rfl (by decide +kernel)
    have hKc := hK.sub (tys' := [(cA_m0_tape, .byte)]) [0] rfl
    refine va_calli (va_runV (As := [.int 0, .int x_33]) (rest := [.int x_31, .ref m0_gate]) ⟨hx, hb, hml, hown, hts⟩ (k_X10_number l sa dC dI m0 (0) x_33 m0_thrown m0_width m0_many m0_cells m0_moved m0_tape m0_taped n_m0_19 n_m0_20 n_m0_21 n_m0_22 n_m0_23 n_m0_24 n_m0_25 m0_fault m0_faultPlace m0_lines m0_hours m0_courts m0_in m0_gates m0_gate m0_people m0_at0 m0_stray m0_set m0_once m0_truth m0_known m0_isKept m0_strays m0_hostPerson m0_hostCourt m0_outside m0_inside m0_can m0_fewest m0_waysTo m0_then m0_two m0_nextTwo m0_three m0_nextThree m0_shut m0_worth m0_digit m0_codes m0_most m0_bestTry m0_dayCourt m0_dayHour m0_dayNo m0_x cA_m0_tape f_m0_tape (by decide) (by first | with_reducible assumption | omega) b_m0_taped (by first | with_reducible assumption | omega) (by first | with_reducible assumption | omega) (by first | with_reducible assumption | omega) (by first | with_reducible assumption | omega) b_m0_strays b_m0_hostCourt b_m0_dayCourt b_m0_dayHour (by first | assumption | omega) H.size) (cwV 2 hts (z_gV zw_t7_110 zw_t7_112 zw_s5_1 zw_t1_11 zw_t7_113) rfl rfl rfl (by decide +kernel) (by rw [← hRe]; exact ⟨(Nat.le_of_ble_eq_true rfl), (Nat.le_of_ble_eq_true rfl)⟩)) (z_preV hPc hKc hDc hN hXs hS hFc (q := (RX10, TX10, 53)) (ci := 10) (q0 := 0) rfl rfl) rfl rfl hl.1 rfl (lv_room (Nat.le_of_ble_eq_true rfl)) dX10_gateLine_85 (by rw [← hRe]; exact ⟨(Nat.le_of_ble_eq_true rfl), (Nat.le_of_ble_eq_true rfl)⟩)) hS (fun q _ h => hFc q h) hFc (fun r_34 u t H1 locs ht hvm hw hB hz1 hk1 hS => ?_)
    obtain ⟨hu, hw⟩ := hw
    rw [hu] at hB
    obtain ⟨n_m0_35, n_m0_36, n_m0_37, n_m0_38, n_m0_39, n_m0_40, n_m0_41, b_n_m0_35, b_n_m0_36, b_n_m0_38, b_n_m0_40, hf_42, hf_43, hf_44, hf_45, hB⟩ := hB
    obtain ⟨hP, hD, hK⟩ := z_after3 (wn := (zV591 m0_courts cA_m0_courts f_m0_courts m0_gates cA_m0_gates f_m0_gates m0_gate cA_m0_gate f_30 m0 m0_thrown m0_width m0_many m0_cells m0_moved m0_tape m0_taped n_m0_35 n_m0_36 n_m0_37 n_m0_38 n_m0_39 n_m0_40 n_m0_41 m0_fault m0_faultPlace m0_lines m0_hours m0_courts m0_in m0_gates m0_gate m0_people m0_at0 m0_stray m0_set m0_once m0_truth m0_known m0_isKept m0_strays m0_hostPerson m0_hostCourt m0_outside m0_inside m0_can m0_fewest m0_waysTo m0_then m0_two m0_nextTwo m0_three m0_nextThree m0_shut m0_worth m0_digit m0_codes m0_most m0_bestTry m0_dayCourt m0_dayHour m0_dayNo m0_x m0_tape cA_m0_tape f_m0_tape)) hB ht hvm hP hD hK [3, 4] [0, 1, 2] rfl 5 rfl (by decide +kernel) rfl (by decide +kernel) hk1 hFc
    generalize H1 = H at hP hS ⊢
    have hK : va_K (dC, dI) vwCl [(cA_m0_tape, .byte), (cA_m0_courts, .int), (cA_m0_gates, .int), (cA_m0_gate, .int)] s := hK
    have b_r_34 : 0 ≤ r_34.toInt ∧ r_34.toInt ≤ 99 := hw.1
    have s_r_34 := hw.2
    have za_0 : Int32.toInt 0 = 0 := by decide
    refine va_iast hx hb hK hP hD hS 2 3 rfl rfl (zi_in rfl (by first | with_reducible assumption | omega)) dX10_gateLine_88 (fun H locs hP hD hS => ?_)
    obtain ⟨f_46, ef_46⟩ : ∃ g : Nat → Int32, g = upd f_30 (Int32.toNatClampNeg x_31) r_34 := ⟨_, rfl⟩
    have u_f_46 : (f_46 (Int32.toNatClampNeg x_31)).toInt = r_34.toInt := by rw [ef_46, pk_us]
    have b_f_46 : ∀ j : Nat, 0 ≤ (f_46 j).toInt ∧ (f_46 j).toInt ≤ 9 := by rw [ef_46]; exact zi_upd b_f_30 rfl (by first | with_reducible assumption | omega)
    have hP : va_P (dC, dI) vwCl (zV591 m0_courts cA_m0_courts f_m0_courts m0_gates cA_m0_gates f_m0_gates m0_gate cA_m0_gate (upd f_30 (Int32.toNatClampNeg x_31) r_34) m0 m0_thrown m0_width m0_many m0_cells m0_moved m0_tape m0_taped n_m0_35 n_m0_36 n_m0_37 n_m0_38 n_m0_39 n_m0_40 n_m0_41 m0_fault m0_faultPlace m0_lines m0_hours m0_courts m0_in m0_gates m0_gate m0_people m0_at0 m0_stray m0_set m0_once m0_truth m0_known m0_isKept m0_strays m0_hostPerson m0_hostCourt m0_outside m0_inside m0_can m0_fewest m0_waysTo m0_then m0_two m0_nextTwo m0_three m0_nextThree m0_shut m0_worth m0_digit m0_codes m0_most m0_bestTry m0_dayCourt m0_dayHour m0_dayNo m0_x m0_tape cA_m0_tape f_m0_tape) H := hP
    have hD : va_D A (zV591 m0_courts cA_m0_courts f_m0_courts m0_gates cA_m0_gates f_m0_gates m0_gate cA_m0_gate (upd f_30 (Int32.toNatClampNeg x_31) r_34) m0 m0_thrown m0_width m0_many m0_cells m0_moved m0_tape m0_taped n_m0_35 n_m0_36 n_m0_37 n_m0_38 n_m0_39 n_m0_40 n_m0_41 m0_fault m0_faultPlace m0_lines m0_hours m0_courts m0_in m0_gates m0_gate m0_people m0_at0 m0_stray m0_set m0_once m0_truth m0_known m0_isKept m0_strays m0_hostPerson m0_hostCourt m0_outside m0_inside m0_can m0_fewest m0_waysTo m0_then m0_two m0_nextTwo m0_three m0_nextThree m0_shut m0_worth m0_digit m0_codes m0_most m0_bestTry m0_dayCourt m0_dayHour m0_dayNo m0_x m0_tape cA_m0_tape f_m0_tape) := hD
    rw [← ef_46] at hP hD
    refine lv_aload_n hx hb dX10_gateLine_89 rfl (lv_at hl 2 rfl) ?_
    refine va_get (D := (dC, dI)) (ci := 10) (v := .ref m0_gates) (C := RX10) (T := TX10) (N := 53) hx hb hts zl_X10 hown hK hP 3 rfl rfl 20 (by decide) (hts _ zw_t6_120) (fun _ h9 => h9) rfl dX10_gateLine_90 ?_
    refine lv_iconst (v := 4) hx hb dX10_gateLine_93 (by decide) ?_
    refine lv_dup2_11 hx hb dX10_gateLine_94 rfl rfl ?_
    refine va_iald hx hb hK hP 1 2 rfl rfl (zi_in (show Int32.toInt 4 = 4 from by decide) (by first | with_reducible assumption | omega)) dX10_gateLine_95 ?_
    refine lv_topi (fun x_47 ex_47 => ?_)
    obtain rfl : x_1 = x_47 := ex_1.trans ex_47.symm
    refine lv_iconst (v := 1) hx hb dX10_gateLine_96 (by decide) ?_
    refine lv_iadd hx hb dX10_gateLine_97 ?_
    refine lv_topi (fun x_48 ex_48 => ?_)
    have b_x_48 : x_48.toInt = x_1.toInt + 1 := by rw [ex_48]; exact zi_add rfl (show Int32.toInt 1 = 1 from by decide) (by first | with_reducible assumption | omega)
    refine va_iast hx hb hK hP hD hS 1 2 rfl rfl (zi_in (show Int32.toInt 4 = 4 from by decide) (by first | with_reducible assumption | omega)) dX10_gateLine_98 (fun H locs hP hD hS => ?_)
    obtain ⟨f_49, ef_49⟩ : ∃ g : Nat → Int32, g = upd f_m0_gates (Int32.toNatClampNeg 4) x_48 := ⟨_, rfl⟩
    have u_f_49 : (f_49 (Int32.toNatClampNeg 4)).toInt = x_48.toInt := by rw [ef_49, pk_us]
    have b_f_49 : ∀ j : Nat, 0 ≤ (f_49 j).toInt ∧ (f_49 j).toInt ≤ 16 := by rw [ef_49]; exact zi_upd b_f_m0_gates rfl (by first | with_reducible assumption | omega)
    have hP : va_P (dC, dI) vwCl (zV591 m0_courts cA_m0_courts f_m0_courts m0_gates cA_m0_gates (upd f_m0_gates (Int32.toNatClampNeg 4) x_48) m0_gate cA_m0_gate f_46 m0 m0_thrown m0_width m0_many m0_cells m0_moved m0_tape m0_taped n_m0_35 n_m0_36 n_m0_37 n_m0_38 n_m0_39 n_m0_40 n_m0_41 m0_fault m0_faultPlace m0_lines m0_hours m0_courts m0_in m0_gates m0_gate m0_people m0_at0 m0_stray m0_set m0_once m0_truth m0_known m0_isKept m0_strays m0_hostPerson m0_hostCourt m0_outside m0_inside m0_can m0_fewest m0_waysTo m0_then m0_two m0_nextTwo m0_three m0_nextThree m0_shut m0_worth m0_digit m0_codes m0_most m0_bestTry m0_dayCourt m0_dayHour m0_dayNo m0_x m0_tape cA_m0_tape f_m0_tape) H := hP
    have hD : va_D A (zV591 m0_courts cA_m0_courts f_m0_courts m0_gates cA_m0_gates (upd f_m0_gates (Int32.toNatClampNeg 4) x_48) m0_gate cA_m0_gate f_46 m0 m0_thrown m0_width m0_many m0_cells m0_moved m0_tape m0_taped n_m0_35 n_m0_36 n_m0_37 n_m0_38 n_m0_39 n_m0_40 n_m0_41 m0_fault m0_faultPlace m0_lines m0_hours m0_courts m0_in m0_gates m0_gate m0_people m0_at0 m0_stray m0_set m0_once m0_truth m0_known m0_isKept m0_strays m0_hostPerson m0_hostCourt m0_outside m0_inside m0_can m0_fewest m0_waysTo m0_then m0_two m0_nextTwo m0_three m0_nextThree m0_shut m0_worth m0_digit m0_codes m0_most m0_bestTry m0_dayCourt m0_dayHour m0_dayNo m0_x m0_tape cA_m0_tape f_m0_tape) := hD
    rw [← ef_49] at hP hD
    exact W.vret hx hb hr (fun t ht hW => by rw [← hQe]; exact ⟨⟨(), rfl, trivial, ⟨n_m0_35, n_m0_36, n_m0_37, n_m0_38, n_m0_39, n_m0_40, n_m0_41, f_49, f_46, (by first | with_reducible assumption | omega), (by first | with_reducible assumption | omega), (by first | with_reducible assumption | omega), (by first | with_reducible assumption | omega), b_f_49, b_f_46, (by first | omega | assumption), (by first | omega | assumption), z_ret hP hK hD ht hW [3, 4, 0, 1, 2] [] rfl (by decide) rfl⟩⟩, hS.F ht⟩) hS.2.2 dX10_gateLine_99
  · have ic_29 := zz_nne rfl (show Int32.toInt 0 = 0 from by decide) c_29
    refine lv_aload_n hx hb dX10_gateLine_40 rfl (lv_at hl 2 rfl) ?_
    refine va_get (D := (dC, dI)) (ci := 10) (v := .int n_m0_20) (C := RX10) (T := TX10) (N := 53) hx hb hts zl_X10 hown hK hP 3 rfl rfl 8 (by decide) (hts _ zw_t6_108) (fun _ h9 => h9) rfl dX10_gateLine_41 ?_
    refine lv_iconst (v := 2) hx hb dX10_gateLine_44 (by decide) ?_
    refine lv_icmp_ne (tgt := 61) hx hb dX10_gateLine_45 (by decide) (fun c_50 => ?_) (fun c_50 => ?_)
    · have ic_50 := zz_ne rfl (show Int32.toInt 2 = 2 from by decide) c_50
      refine lv_aload_n hx hb dX10_gateLine_61 rfl (lv_at hl 2 rfl) ?_
      refine va_get (D := (dC, dI)) (ci := 10) (v := .ref m0_gate) (C := RX10) (T := TX10) (N := 53) hx hb hts zl_X10 hown hK hP 3 rfl rfl 21 (by decide) (hts _ zw_t6_121) (fun _ h9 => h9) rfl dX10_gateLine_62 ?_
      refine lv_iload_n hx hb dX10_gateLine_65 rfl (lv_at hl 1 rfl) ?_
      refine lv_iload_n hx hb dX10_gateLine_66 rfl (lv_at hl 0 rfl) ?_
      refine va_iast hx hb hK hP hD hS 2 3 rfl rfl (zi_in rfl (by first | with_reducible assumption | omega)) dX10_gateLine_67 (fun H locs hP hD hS => ?_)
      obtain ⟨f_51, ef_51⟩ : ∃ g : Nat → Int32, g = upd f_m0_gate (Int32.toNatClampNeg x_3) r_6 := ⟨_, rfl⟩
      have u_f_51 : (f_51 (Int32.toNatClampNeg x_3)).toInt = r_6.toInt := by rw [ef_51, pk_us]
      have b_f_51 : ∀ j : Nat, 0 ≤ (f_51 j).toInt ∧ (f_51 j).toInt ≤ 9 := by rw [ef_51]; exact zi_upd b_f_m0_gate rfl (by first | with_reducible assumption | omega)
      have hP : va_P (dC, dI) vwCl (zV591 m0_courts cA_m0_courts f_m0_courts m0_gates cA_m0_gates f_m0_gates m0_gate cA_m0_gate (upd f_m0_gate (Int32.toNatClampNeg x_3) r_6) m0 m0_thrown m0_width m0_many m0_cells m0_moved m0_tape m0_taped n_m0_19 n_m0_20 n_m0_21 n_m0_22 n_m0_23 n_m0_24 n_m0_25 m0_fault m0_faultPlace m0_lines m0_hours m0_courts m0_in m0_gates m0_gate m0_people m0_at0 m0_stray m0_set m0_once m0_truth m0_known m0_isKept m0_strays m0_hostPerson m0_hostCourt m0_outside m0_inside m0_can m0_fewest m0_waysTo m0_then m0_two m0_nextTwo m0_three m0_nextThree m0_shut m0_worth m0_digit m0_codes m0_most m0_bestTry m0_dayCourt m0_dayHour m0_dayNo m0_x m0_tape cA_m0_tape f_m0_tape) H := hP
      have hD : va_D A (zV591 m0_courts cA_m0_courts f_m0_courts m0_gates cA_m0_gates f_m0_gates m0_gate cA_m0_gate (upd f_m0_gate (Int32.toNatClampNeg x_3) r_6) m0 m0_thrown m0_width m0_many m0_cells m0_moved m0_tape m0_taped n_m0_19 n_m0_20 n_m0_21 n_m0_22 n_m0_23 n_m0_24 n_m0_25 m0_fault m0_faultPlace m0_lines m0_hours m0_courts m0_in m0_gates m0_gate m0_people m0_at0 m0_stray m0_set m0_once m0_truth m0_known m0_isKept m0_strays m0_hostPerson m0_hostCourt m0_outside m0_inside m0_can m0_fewest m0_waysTo m0_then m0_two m0_nextTwo m0_three m0_nextThree m0_shut m0_worth m0_digit m0_codes m0_most m0_bestTry m0_dayCourt m0_dayHour m0_dayNo m0_x m0_tape cA_m0_tape f_m0_tape) := hD
      rw [← ef_51] at hP hD
      refine lv_aload_n hx hb dX10_gateLine_68 rfl (lv_at hl 2 rfl) ?_
      refine va_get (D := (dC, dI)) (ci := 10) (v := .ref m0_gate) (C := RX10) (T := TX10) (N := 53) hx hb hts zl_X10 hown hK hP 3 rfl rfl 21 (by decide) (hts _ zw_t6_121) (fun _ h9 => h9) rfl dX10_gateLine_69 ?_
      refine lv_iload_n hx hb dX10_gateLine_72 rfl (lv_at hl 1 rfl) ?_
      refine lv_iconst (v := 1) hx hb dX10_gateLine_73 (by decide) ?_
      refine lv_iadd hx hb dX10_gateLine_74 ?_
      refine lv_topi (fun x_52 ex_52 => ?_)
      have b_x_52 : x_52.toInt = x_3.toInt + 1 := by rw [ex_52]; exact zi_add rfl (show Int32.toInt 1 = 1 from by decide) (by first | with_reducible assumption | omega)
      refine lv_aload_n hx hb dX10_gateLine_75 rfl (lv_at hl 2 rfl) ?_
      refine lv_iconst (v := 0) hx hb dX10_gateLine_76 (by decide) ?_
      refine lv_aload_n hx hb dX10_gateLine_77 rfl (lv_at hl 2 rfl) ?_
      refine va_get (D := (dC, dI)) (ci := 10) (v := .ref m0_courts) (C := RX10) (T := TX10) (N := 53) hx hb hts zl_X10 hown hK hP 3 rfl rfl 18 (by decide) (hts _ zw_t6_118) (fun _ h9 => h9) rfl dX10_gateLine_78 ?_
      refine lv_iconst (v := 4) hx hb dX10_gateLine_81 (by decide) ?_
      refine va_iald hx hb hK hP 0 1 rfl rfl (zi_in (show Int32.toInt 4 = 4 from by decide) (by first | with_reducible assumption | omega)) dX10_gateLine_82 ?_
      refine lv_topi (fun x_53 ex_53 => ?_)
      obtain rfl : x_4 = x_53 := ex_4.trans ex_53.symm
      refine lv_iconst (v := 1) hx hb dX10_gateLine_83 (by decide) ?_
      refine lv_isub hx hb dX10_gateLine_84 ?_
      refine lv_topi (fun x_54 ex_54 => ?_)
      have b_x_54 : x_54.toInt = x_4.toInt - 1 := by rw [ex_54]; exact zi_sub rfl (show Int32.toInt 1 = 1 from by decide) (by first | with_reducible assumption | omega)
      obtain ⟨hPc, hDc, hFc⟩ := z_cut (wc := (zV572 m0 m0_thrown m0_width m0_many m0_cells m0_moved m0_tape m0_taped n_m0_19 n_m0_20 n_m0_21 n_m0_22 n_m0_23 n_m0_24 n_m0_25 m0_fault m0_faultPlace m0_lines m0_hours m0_courts m0_in m0_gates m0_gate m0_people m0_at0 m0_stray m0_set m0_once m0_truth m0_known m0_isKept m0_strays m0_hostPerson m0_hostCourt m0_outside m0_inside m0_can m0_fewest m0_waysTo m0_then m0_two m0_nextTwo m0_three m0_nextThree m0_shut m0_worth m0_digit m0_codes m0_most m0_bestTry m0_dayCourt m0_dayHour m0_dayNo m0_x m0_tape cA_m0_tape f_m0_tape)) hP hD hS hA [3, 4] rfl (by decide +kernel)
      have hKc := hK.sub (tys' := [(cA_m0_tape, .byte)]) [0] rfl
      refine va_calli (va_runV (As := [.int 0, .int x_54]) (rest := [.int x_52, .ref m0_gate]) ⟨hx, hb, hml, hown, hts⟩ (k_X10_number l sa dC dI m0 (0) x_54 m0_thrown m0_width m0_many m0_cells m0_moved m0_tape m0_taped n_m0_19 n_m0_20 n_m0_21 n_m0_22 n_m0_23 n_m0_24 n_m0_25 m0_fault m0_faultPlace m0_lines m0_hours m0_courts m0_in m0_gates m0_gate m0_people m0_at0 m0_stray m0_set m0_once m0_truth m0_known m0_isKept m0_strays m0_hostPerson m0_hostCourt m0_outside m0_inside m0_can m0_fewest m0_waysTo m0_then m0_two m0_nextTwo m0_three m0_nextThree m0_shut m0_worth m0_digit m0_codes m0_most m0_bestTry m0_dayCourt m0_dayHour m0_dayNo m0_x cA_m0_tape f_m0_tape (by decide) (by first | with_reducible assumption | omega) b_m0_taped (by first | with_reducible assumption | omega) (by first | with_reducible assumption | omega) (by first | with_reducible assumption | omega) (by first | with_reducible assumption | omega) b_m0_strays b_m0_hostCourt b_m0_dayCourt b_m0_dayHour (by first | assumption | omega) H.size) (cwV 2 hts (z_gV zw_t7_110 zw_t7_112 zw_s5_1 zw_t1_11 zw_t7_113) rfl rfl rfl (by decide +kernel) (by rw [← hRe]; exact ⟨(Nat.le_of_ble_eq_true rfl), (Nat.le_of_ble_eq_true rfl)⟩)) (z_preV hPc hKc hDc hN hXs hS hFc (q := (RX10, TX10, 53)) (ci := 10) (q0 := 0) rfl rfl) rfl rfl hl.1 rfl (lv_room (Nat.le_of_ble_eq_true rfl)) dX10_gateLine_85 (by rw [← hRe]; exact ⟨(Nat.le_of_ble_eq_true rfl), (Nat.le_of_ble_eq_true rfl)⟩)) hS (fun q _ h => hFc q h) hFc (fun r_55 u t H1 locs ht hvm hw hB hz1 hk1 hS => ?_)
      obtain ⟨hu, hw⟩ := hw
      rw [hu] at hB
      obtain ⟨n_m0_56, n_m0_57, n_m0_58, n_m0_59, n_m0_60, n_m0_61, n_m0_62, b_n_m0_56, b_n_m0_57, b_n_m0_59, b_n_m0_61, hf_63, hf_64, hf_65, hf_66, hB⟩ := hB
      obtain ⟨hP, hD, hK⟩ := z_after3 (wn := (zV591 m0_courts cA_m0_courts f_m0_courts m0_gates cA_m0_gates f_m0_gates m0_gate cA_m0_gate f_51 m0 m0_thrown m0_width m0_many m0_cells m0_moved m0_tape m0_taped n_m0_56 n_m0_57 n_m0_58 n_m0_59 n_m0_60 n_m0_61 n_m0_62 m0_fault m0_faultPlace m0_lines m0_hours m0_courts m0_in m0_gates m0_gate m0_people m0_at0 m0_stray m0_set m0_once m0_truth m0_known m0_isKept m0_strays m0_hostPerson m0_hostCourt m0_outside m0_inside m0_can m0_fewest m0_waysTo m0_then m0_two m0_nextTwo m0_three m0_nextThree m0_shut m0_worth m0_digit m0_codes m0_most m0_bestTry m0_dayCourt m0_dayHour m0_dayNo m0_x m0_tape cA_m0_tape f_m0_tape)) hB ht hvm hP hD hK [3, 4] [0, 1, 2] rfl 5 rfl (by decide +kernel) rfl (by decide +kernel) hk1 hFc
      generalize H1 = H at hP hS ⊢
      have hK : va_K (dC, dI) vwCl [(cA_m0_tape, .byte), (cA_m0_courts, .int), (cA_m0_gates, .int), (cA_m0_gate, .int)] s := hK
      have b_r_55 : 0 ≤ r_55.toInt ∧ r_55.toInt ≤ 99 := hw.1
      have s_r_55 := hw.2
      have za_0 : Int32.toInt 0 = 0 := by decide
      refine va_iast hx hb hK hP hD hS 2 3 rfl rfl (zi_in rfl (by first | with_reducible assumption | omega)) dX10_gateLine_88 (fun H locs hP hD hS => ?_)
      obtain ⟨f_67, ef_67⟩ : ∃ g : Nat → Int32, g = upd f_51 (Int32.toNatClampNeg x_52) r_55 := ⟨_, rfl⟩
      have u_f_67 : (f_67 (Int32.toNatClampNeg x_52)).toInt = r_55.toInt := by rw [ef_67, pk_us]
      have b_f_67 : ∀ j : Nat, 0 ≤ (f_67 j).toInt ∧ (f_67 j).toInt ≤ 9 := by rw [ef_67]; exact zi_upd b_f_51 rfl (by first | with_reducible assumption | omega)
      have hP : va_P (dC, dI) vwCl (zV591 m0_courts cA_m0_courts f_m0_courts m0_gates cA_m0_gates f_m0_gates m0_gate cA_m0_gate (upd f_51 (Int32.toNatClampNeg x_52) r_55) m0 m0_thrown m0_width m0_many m0_cells m0_moved m0_tape m0_taped n_m0_56 n_m0_57 n_m0_58 n_m0_59 n_m0_60 n_m0_61 n_m0_62 m0_fault m0_faultPlace m0_lines m0_hours m0_courts m0_in m0_gates m0_gate m0_people m0_at0 m0_stray m0_set m0_once m0_truth m0_known m0_isKept m0_strays m0_hostPerson m0_hostCourt m0_outside m0_inside m0_can m0_fewest m0_waysTo m0_then m0_two m0_nextTwo m0_three m0_nextThree m0_shut m0_worth m0_digit m0_codes m0_most m0_bestTry m0_dayCourt m0_dayHour m0_dayNo m0_x m0_tape cA_m0_tape f_m0_tape) H := hP
      have hD : va_D A (zV591 m0_courts cA_m0_courts f_m0_courts m0_gates cA_m0_gates f_m0_gates m0_gate cA_m0_gate (upd f_51 (Int32.toNatClampNeg x_52) r_55) m0 m0_thrown m0_width m0_many m0_cells m0_moved m0_tape m0_taped n_m0_56 n_m0_57 n_m0_58 n_m0_59 n_m0_60 n_m0_61 n_m0_62 m0_fault m0_faultPlace m0_lines m0_hours m0_courts m0_in m0_gates m0_gate m0_people m0_at0 m0_stray m0_set m0_once m0_truth m0_known m0_isKept m0_strays m0_hostPerson m0_hostCourt m0_outside m0_inside m0_can m0_fewest m0_waysTo m0_then m0_two m0_nextTwo m0_three m0_nextThree m0_shut m0_worth m0_digit m0_codes m0_most m0_bestTry m0_dayCourt m0_dayHour m0_dayNo m0_x m0_tape cA_m0_tape f_m0_tape) := hD
      rw [← ef_67] at hP hD
      refine lv_aload_n hx hb dX10_gateLine_89 rfl (lv_at hl 2 rfl) ?_
      refine va_get (D := (dC, dI)) (ci := 10) (v := .ref m0_gates) (C := RX10) (T := TX10) (N := 53) hx hb hts zl_X10 hown hK hP 3 rfl rfl 20 (by decide) (hts _ zw_t6_120) (fun _ h9 => h9) rfl dX10_gateLine_90 ?_
      refine lv_iconst (v := 4) hx hb dX10_gateLine_93 (by decide) ?_
      refine lv_dup2_11 hx hb dX10_gateLine_94 rfl rfl ?_
      refine va_iald hx hb hK hP 1 2 rfl rfl (zi_in (show Int32.toInt 4 = 4 from by decide) (by first | with_reducible assumption | omega)) dX10_gateLine_95 ?_
      refine lv_topi (fun x_68 ex_68 => ?_)
      obtain rfl : x_1 = x_68 := ex_1.trans ex_68.symm
      refine lv_iconst (v := 1) hx hb dX10_gateLine_96 (by decide) ?_
      refine lv_iadd hx hb dX10_gateLine_97 ?_
      refine lv_topi (fun x_69 ex_69 => ?_)
      have b_x_69 : x_69.toInt = x_1.toInt + 1 := by rw [ex_69]; exact zi_add rfl (show Int32.toInt 1 = 1 from by decide) (by first | with_reducible assumption | omega)
      refine va_iast hx hb hK hP hD hS 1 2 rfl rfl (zi_in (show Int32.toInt 4 = 4 from by decide) (by first | with_reducible assumption | omega)) dX10_gateLine_98 (fun H locs hP hD hS => ?_)
      obtain ⟨f_70, ef_70⟩ : ∃ g : Nat → Int32, g = upd f_m0_gates (Int32.toNatClampNeg 4) x_69 := ⟨_, rfl⟩
      have u_f_70 : (f_70 (Int32.toNatClampNeg 4)).toInt = x_69.toInt := by rw [ef_70, pk_us]
      have b_f_70 : ∀ j : Nat, 0 ≤ (f_70 j).toInt ∧ (f_70 j).toInt ≤ 16 := by rw [ef_70]; exact zi_upd b_f_m0_gates rfl (by first | with_reducible assumption | omega)
      have hP : va_P (dC, dI) vwCl (zV591 m0_courts cA_m0_courts f_m0_courts m0_gates cA_m0_gates (upd f_m0_gates (Int32.toNatClampNeg 4) x_69) m0_gate cA_m0_gate f_67 m0 m0_thrown m0_width m0_many m0_cells m0_moved m0_tape m0_taped n_m0_56 n_m0_57 n_m0_58 n_m0_59 n_m0_60 n_m0_61 n_m0_62 m0_fault m0_faultPlace m0_lines m0_hours m0_courts m0_in m0_gates m0_gate m0_people m0_at0 m0_stray m0_set m0_once m0_truth m0_known m0_isKept m0_strays m0_hostPerson m0_hostCourt m0_outside m0_inside m0_can m0_fewest m0_waysTo m0_then m0_two m0_nextTwo m0_three m0_nextThree m0_shut m0_worth m0_digit m0_codes m0_most m0_bestTry m0_dayCourt m0_dayHour m0_dayNo m0_x m0_tape cA_m0_tape f_m0_tape) H := hP
      have hD : va_D A (zV591 m0_courts cA_m0_courts f_m0_courts m0_gates cA_m0_gates (upd f_m0_gates (Int32.toNatClampNeg 4) x_69) m0_gate cA_m0_gate f_67 m0 m0_thrown m0_width m0_many m0_cells m0_moved m0_tape m0_taped n_m0_56 n_m0_57 n_m0_58 n_m0_59 n_m0_60 n_m0_61 n_m0_62 m0_fault m0_faultPlace m0_lines m0_hours m0_courts m0_in m0_gates m0_gate m0_people m0_at0 m0_stray m0_set m0_once m0_truth m0_known m0_isKept m0_strays m0_hostPerson m0_hostCourt m0_outside m0_inside m0_can m0_fewest m0_waysTo m0_then m0_two m0_nextTwo m0_three m0_nextThree m0_shut m0_worth m0_digit m0_codes m0_most m0_bestTry m0_dayCourt m0_dayHour m0_dayNo m0_x m0_tape cA_m0_tape f_m0_tape) := hD
      rw [← ef_70] at hP hD
      exact W.vret hx hb hr (fun t ht hW => by rw [← hQe]; exact ⟨⟨(), rfl, trivial, ⟨n_m0_56, n_m0_57, n_m0_58, n_m0_59, n_m0_60, n_m0_61, n_m0_62, f_70, f_67, (by first | with_reducible assumption | omega), (by first | with_reducible assumption | omega), (by first | with_reducible assumption | omega), (by first | with_reducible assumption | omega), b_f_70, b_f_67, (by first | omega | assumption), (by first | omega | assumption), z_ret hP hK hD ht hW [3, 4, 0, 1, 2] [] rfl (by decide) rfl⟩⟩, hS.F ht⟩) hS.2.2 dX10_gateLine_99
    · have ic_50 := zz_nne rfl (show Int32.toInt 2 = 2 from by decide) c_50
      refine lv_aload_n hx hb dX10_gateLine_48 rfl (lv_at hl 2 rfl) ?_
      refine va_get (D := (dC, dI)) (ci := 10) (v := .int n_m0_22) (C := RX10) (T := TX10) (N := 53) hx hb hts zl_X10 hown hK hP 3 rfl rfl 10 (by decide) (hts _ zw_t6_110) (fun _ h9 => h9) rfl dX10_gateLine_49 ?_
      refine lv_iload_n hx hb dX10_gateLine_52 rfl (lv_at hl 0 rfl) ?_
      refine lv_icmp_ne (tgt := 61) hx hb dX10_gateLine_53 (by decide) (fun c_71 => ?_) (fun c_71 => ?_)
      · have ic_71 := zz_ne rfl rfl c_71
        refine lv_aload_n hx hb dX10_gateLine_61 rfl (lv_at hl 2 rfl) ?_
        refine va_get (D := (dC, dI)) (ci := 10) (v := .ref m0_gate) (C := RX10) (T := TX10) (N := 53) hx hb hts zl_X10 hown hK hP 3 rfl rfl 21 (by decide) (hts _ zw_t6_121) (fun _ h9 => h9) rfl dX10_gateLine_62 ?_
        refine lv_iload_n hx hb dX10_gateLine_65 rfl (lv_at hl 1 rfl) ?_
        refine lv_iload_n hx hb dX10_gateLine_66 rfl (lv_at hl 0 rfl) ?_
        refine va_iast hx hb hK hP hD hS 2 3 rfl rfl (zi_in rfl (by first | with_reducible assumption | omega)) dX10_gateLine_67 (fun H locs hP hD hS => ?_)
        obtain ⟨f_72, ef_72⟩ : ∃ g : Nat → Int32, g = upd f_m0_gate (Int32.toNatClampNeg x_3) r_6 := ⟨_, rfl⟩
        have u_f_72 : (f_72 (Int32.toNatClampNeg x_3)).toInt = r_6.toInt := by rw [ef_72, pk_us]
        have b_f_72 : ∀ j : Nat, 0 ≤ (f_72 j).toInt ∧ (f_72 j).toInt ≤ 9 := by rw [ef_72]; exact zi_upd b_f_m0_gate rfl (by first | with_reducible assumption | omega)
        have hP : va_P (dC, dI) vwCl (zV591 m0_courts cA_m0_courts f_m0_courts m0_gates cA_m0_gates f_m0_gates m0_gate cA_m0_gate (upd f_m0_gate (Int32.toNatClampNeg x_3) r_6) m0 m0_thrown m0_width m0_many m0_cells m0_moved m0_tape m0_taped n_m0_19 n_m0_20 n_m0_21 n_m0_22 n_m0_23 n_m0_24 n_m0_25 m0_fault m0_faultPlace m0_lines m0_hours m0_courts m0_in m0_gates m0_gate m0_people m0_at0 m0_stray m0_set m0_once m0_truth m0_known m0_isKept m0_strays m0_hostPerson m0_hostCourt m0_outside m0_inside m0_can m0_fewest m0_waysTo m0_then m0_two m0_nextTwo m0_three m0_nextThree m0_shut m0_worth m0_digit m0_codes m0_most m0_bestTry m0_dayCourt m0_dayHour m0_dayNo m0_x m0_tape cA_m0_tape f_m0_tape) H := hP
        have hD : va_D A (zV591 m0_courts cA_m0_courts f_m0_courts m0_gates cA_m0_gates f_m0_gates m0_gate cA_m0_gate (upd f_m0_gate (Int32.toNatClampNeg x_3) r_6) m0 m0_thrown m0_width m0_many m0_cells m0_moved m0_tape m0_taped n_m0_19 n_m0_20 n_m0_21 n_m0_22 n_m0_23 n_m0_24 n_m0_25 m0_fault m0_faultPlace m0_lines m0_hours m0_courts m0_in m0_gates m0_gate m0_people m0_at0 m0_stray m0_set m0_once m0_truth m0_known m0_isKept m0_strays m0_hostPerson m0_hostCourt m0_outside m0_inside m0_can m0_fewest m0_waysTo m0_then m0_two m0_nextTwo m0_three m0_nextThree m0_shut m0_worth m0_digit m0_codes m0_most m0_bestTry m0_dayCourt m0_dayHour m0_dayNo m0_x m0_tape cA_m0_tape f_m0_tape) := hD
        rw [← ef_72] at hP hD
        refine lv_aload_n hx hb dX10_gateLine_68 rfl (lv_at hl 2 rfl) ?_
        refine va_get (D := (dC, dI)) (ci := 10) (v := .ref m0_gate) (C := RX10) (T := TX10) (N := 53) hx hb hts zl_X10 hown hK hP 3 rfl rfl 21 (by decide) (hts _ zw_t6_121) (fun _ h9 => h9) rfl dX10_gateLine_69 ?_
        refine lv_iload_n hx hb dX10_gateLine_72 rfl (lv_at hl 1 rfl) ?_
        refine lv_iconst (v := 1) hx hb dX10_gateLine_73 (by decide) ?_
        refine lv_iadd hx hb dX10_gateLine_74 ?_
        refine lv_topi (fun x_73 ex_73 => ?_)
        have b_x_73 : x_73.toInt = x_3.toInt + 1 := by rw [ex_73]; exact zi_add rfl (show Int32.toInt 1 = 1 from by decide) (by first | with_reducible assumption | omega)
        refine lv_aload_n hx hb dX10_gateLine_75 rfl (lv_at hl 2 rfl) ?_
        refine lv_iconst (v := 0) hx hb dX10_gateLine_76 (by decide) ?_
        refine lv_aload_n hx hb dX10_gateLine_77 rfl (lv_at hl 2 rfl) ?_
        refine va_get (D := (dC, dI)) (ci := 10) (v := .ref m0_courts) (C := RX10) (T := TX10) (N := 53) hx hb hts zl_X10 hown hK hP 3 rfl rfl 18 (by decide) (hts _ zw_t6_118) (fun _ h9 => h9) rfl dX10_gateLine_78 ?_
        refine lv_iconst (v := 4) hx hb dX10_gateLine_81 (by decide) ?_
        refine va_iald hx hb hK hP 0 1 rfl rfl (zi_in (show Int32.toInt 4 = 4 from by decide) (by first | with_reducible assumption | omega)) dX10_gateLine_82 ?_
        refine lv_topi (fun x_74 ex_74 => ?_)
        obtain rfl : x_4 = x_74 := ex_4.trans ex_74.symm
        refine lv_iconst (v := 1) hx hb dX10_gateLine_83 (by decide) ?_
        refine lv_isub hx hb dX10_gateLine_84 ?_
        refine lv_topi (fun x_75 ex_75 => ?_)
        have b_x_75 : x_75.toInt = x_4.toInt - 1 := by rw [ex_75]; exact zi_sub rfl (show Int32.toInt 1 = 1 from by decide) (by first | with_reducible assumption | omega)
        obtain ⟨hPc, hDc, hFc⟩ := z_cut (wc := (zV572 m0 m0_thrown m0_width m0_many m0_cells m0_moved m0_tape m0_taped n_m0_19 n_m0_20 n_m0_21 n_m0_22 n_m0_23 n_m0_24 n_m0_25 m0_fault m0_faultPlace m0_lines m0_hours m0_courts m0_in m0_gates m0_gate m0_people m0_at0 m0_stray m0_set m0_once m0_truth m0_known m0_isKept m0_strays m0_hostPerson m0_hostCourt m0_outside m0_inside m0_can m0_fewest m0_waysTo m0_then m0_two m0_nextTwo m0_three m0_nextThree m0_shut m0_worth m0_digit m0_codes m0_most m0_bestTry m0_dayCourt m0_dayHour m0_dayNo m0_x m0_tape cA_m0_tape f_m0_tape)) hP hD hS hA [3, 4] rfl (by decide +kernel)
        have hKc := hK.sub (tys' := [(cA_m0_tape, .byte)]) [0] rfl
        refine va_calli (va_runV (As := [.int 0, .int x_75]) (rest := [.int x_73, .ref m0_gate]) ⟨hx, hb, hml, hown, hts⟩ (k_X10_number l sa dC dI m0 (0) x_75 m0_thrown m0_width m0_many m0_cells m0_moved m0_tape m0_taped n_m0_19 n_m0_20 n_m0_21 n_m0_22 n_m0_23 n_m0_24 n_m0_25 m0_fault m0_faultPlace m0_lines m0_hours m0_courts m0_in m0_gates m0_gate m0_people m0_at0 m0_stray m0_set m0_once m0_truth m0_known m0_isKept m0_strays m0_hostPerson m0_hostCourt m0_outside m0_inside m0_can m0_fewest m0_waysTo m0_then m0_two m0_nextTwo m0_three m0_nextThree m0_shut m0_worth m0_digit m0_codes m0_most m0_bestTry m0_dayCourt m0_dayHour m0_dayNo m0_x cA_m0_tape f_m0_tape (by decide) (by first | with_reducible assumption | omega) b_m0_taped (by first | with_reducible assumption | omega) (by first | with_reducible assumption | omega) (by first | with_reducible assumption | omega) (by first | with_reducible assumption | omega) b_m0_strays b_m0_hostCourt b_m0_dayCourt b_m0_dayHour (by first | assumption | omega) H.size) (cwV 2 hts (z_gV zw_t7_110 zw_t7_112 zw_s5_1 zw_t1_11 zw_t7_113) rfl rfl rfl (by decide +kernel) (by rw [← hRe]; exact ⟨(Nat.le_of_ble_eq_true rfl), (Nat.le_of_ble_eq_true rfl)⟩)) (z_preV hPc hKc hDc hN hXs hS hFc (q := (RX10, TX10, 53)) (ci := 10) (q0 := 0) rfl rfl) rfl rfl hl.1 rfl (lv_room (Nat.le_of_ble_eq_true rfl)) dX10_gateLine_85 (by rw [← hRe]; exact ⟨(Nat.le_of_ble_eq_true rfl), (Nat.le_of_ble_eq_true rfl)⟩)) hS (fun q _ h => hFc q h) hFc (fun r_76 u t H1 locs ht hvm hw hB hz1 hk1 hS => ?_)
        obtain ⟨hu, hw⟩ := hw
        rw [hu] at hB
        obtain ⟨n_m0_77, n_m0_78, n_m0_79, n_m0_80, n_m0_81, n_m0_82, n_m0_83, b_n_m0_77, b_n_m0_78, b_n_m0_80, b_n_m0_82, hf_84, hf_85, hf_86, hf_87, hB⟩ := hB
        obtain ⟨hP, hD, hK⟩ := z_after3 (wn := (zV591 m0_courts cA_m0_courts f_m0_courts m0_gates cA_m0_gates f_m0_gates m0_gate cA_m0_gate f_72 m0 m0_thrown m0_width m0_many m0_cells m0_moved m0_tape m0_taped n_m0_77 n_m0_78 n_m0_79 n_m0_80 n_m0_81 n_m0_82 n_m0_83 m0_fault m0_faultPlace m0_lines m0_hours m0_courts m0_in m0_gates m0_gate m0_people m0_at0 m0_stray m0_set m0_once m0_truth m0_known m0_isKept m0_strays m0_hostPerson m0_hostCourt m0_outside m0_inside m0_can m0_fewest m0_waysTo m0_then m0_two m0_nextTwo m0_three m0_nextThree m0_shut m0_worth m0_digit m0_codes m0_most m0_bestTry m0_dayCourt m0_dayHour m0_dayNo m0_x m0_tape cA_m0_tape f_m0_tape)) hB ht hvm hP hD hK [3, 4] [0, 1, 2] rfl 5 rfl (by decide +kernel) rfl (by decide +kernel) hk1 hFc
        generalize H1 = H at hP hS ⊢
        have hK : va_K (dC, dI) vwCl [(cA_m0_tape, .byte), (cA_m0_courts, .int), (cA_m0_gates, .int), (cA_m0_gate, .int)] s := hK
        have b_r_76 : 0 ≤ r_76.toInt ∧ r_76.toInt ≤ 99 := hw.1
        have s_r_76 := hw.2
        have za_0 : Int32.toInt 0 = 0 := by decide
        refine va_iast hx hb hK hP hD hS 2 3 rfl rfl (zi_in rfl (by first | with_reducible assumption | omega)) dX10_gateLine_88 (fun H locs hP hD hS => ?_)
        obtain ⟨f_88, ef_88⟩ : ∃ g : Nat → Int32, g = upd f_72 (Int32.toNatClampNeg x_73) r_76 := ⟨_, rfl⟩
        have u_f_88 : (f_88 (Int32.toNatClampNeg x_73)).toInt = r_76.toInt := by rw [ef_88, pk_us]
        have b_f_88 : ∀ j : Nat, 0 ≤ (f_88 j).toInt ∧ (f_88 j).toInt ≤ 9 := by rw [ef_88]; exact zi_upd b_f_72 rfl (by first | with_reducible assumption | omega)
        have hP : va_P (dC, dI) vwCl (zV591 m0_courts cA_m0_courts f_m0_courts m0_gates cA_m0_gates f_m0_gates m0_gate cA_m0_gate (upd f_72 (Int32.toNatClampNeg x_73) r_76) m0 m0_thrown m0_width m0_many m0_cells m0_moved m0_tape m0_taped n_m0_77 n_m0_78 n_m0_79 n_m0_80 n_m0_81 n_m0_82 n_m0_83 m0_fault m0_faultPlace m0_lines m0_hours m0_courts m0_in m0_gates m0_gate m0_people m0_at0 m0_stray m0_set m0_once m0_truth m0_known m0_isKept m0_strays m0_hostPerson m0_hostCourt m0_outside m0_inside m0_can m0_fewest m0_waysTo m0_then m0_two m0_nextTwo m0_three m0_nextThree m0_shut m0_worth m0_digit m0_codes m0_most m0_bestTry m0_dayCourt m0_dayHour m0_dayNo m0_x m0_tape cA_m0_tape f_m0_tape) H := hP
        have hD : va_D A (zV591 m0_courts cA_m0_courts f_m0_courts m0_gates cA_m0_gates f_m0_gates m0_gate cA_m0_gate (upd f_72 (Int32.toNatClampNeg x_73) r_76) m0 m0_thrown m0_width m0_many m0_cells m0_moved m0_tape m0_taped n_m0_77 n_m0_78 n_m0_79 n_m0_80 n_m0_81 n_m0_82 n_m0_83 m0_fault m0_faultPlace m0_lines m0_hours m0_courts m0_in m0_gates m0_gate m0_people m0_at0 m0_stray m0_set m0_once m0_truth m0_known m0_isKept m0_strays m0_hostPerson m0_hostCourt m0_outside m0_inside m0_can m0_fewest m0_waysTo m0_then m0_two m0_nextTwo m0_three m0_nextThree m0_shut m0_worth m0_digit m0_codes m0_most m0_bestTry m0_dayCourt m0_dayHour m0_dayNo m0_x m0_tape cA_m0_tape f_m0_tape) := hD
        rw [← ef_88] at hP hD
        refine lv_aload_n hx hb dX10_gateLine_89 rfl (lv_at hl 2 rfl) ?_
        refine va_get (D := (dC, dI)) (ci := 10) (v := .ref m0_gates) (C := RX10) (T := TX10) (N := 53) hx hb hts zl_X10 hown hK hP 3 rfl rfl 20 (by decide) (hts _ zw_t6_120) (fun _ h9 => h9) rfl dX10_gateLine_90 ?_
        refine lv_iconst (v := 4) hx hb dX10_gateLine_93 (by decide) ?_
        refine lv_dup2_11 hx hb dX10_gateLine_94 rfl rfl ?_
        refine va_iald hx hb hK hP 1 2 rfl rfl (zi_in (show Int32.toInt 4 = 4 from by decide) (by first | with_reducible assumption | omega)) dX10_gateLine_95 ?_
        refine lv_topi (fun x_89 ex_89 => ?_)
        obtain rfl : x_1 = x_89 := ex_1.trans ex_89.symm
        refine lv_iconst (v := 1) hx hb dX10_gateLine_96 (by decide) ?_
        refine lv_iadd hx hb dX10_gateLine_97 ?_
        refine lv_topi (fun x_90 ex_90 => ?_)
        have b_x_90 : x_90.toInt = x_1.toInt + 1 := by rw [ex_90]; exact zi_add rfl (show Int32.toInt 1 = 1 from by decide) (by first | with_reducible assumption | omega)
        refine va_iast hx hb hK hP hD hS 1 2 rfl rfl (zi_in (show Int32.toInt 4 = 4 from by decide) (by first | with_reducible assumption | omega)) dX10_gateLine_98 (fun H locs hP hD hS => ?_)
        obtain ⟨f_91, ef_91⟩ : ∃ g : Nat → Int32, g = upd f_m0_gates (Int32.toNatClampNeg 4) x_90 := ⟨_, rfl⟩
        have u_f_91 : (f_91 (Int32.toNatClampNeg 4)).toInt = x_90.toInt := by rw [ef_91, pk_us]
        have b_f_91 : ∀ j : Nat, 0 ≤ (f_91 j).toInt ∧ (f_91 j).toInt ≤ 16 := by rw [ef_91]; exact zi_upd b_f_m0_gates rfl (by first | with_reducible assumption | omega)
        have hP : va_P (dC, dI) vwCl (zV591 m0_courts cA_m0_courts f_m0_courts m0_gates cA_m0_gates (upd f_m0_gates (Int32.toNatClampNeg 4) x_90) m0_gate cA_m0_gate f_88 m0 m0_thrown m0_width m0_many m0_cells m0_moved m0_tape m0_taped n_m0_77 n_m0_78 n_m0_79 n_m0_80 n_m0_81 n_m0_82 n_m0_83 m0_fault m0_faultPlace m0_lines m0_hours m0_courts m0_in m0_gates m0_gate m0_people m0_at0 m0_stray m0_set m0_once m0_truth m0_known m0_isKept m0_strays m0_hostPerson m0_hostCourt m0_outside m0_inside m0_can m0_fewest m0_waysTo m0_then m0_two m0_nextTwo m0_three m0_nextThree m0_shut m0_worth m0_digit m0_codes m0_most m0_bestTry m0_dayCourt m0_dayHour m0_dayNo m0_x m0_tape cA_m0_tape f_m0_tape) H := hP
        have hD : va_D A (zV591 m0_courts cA_m0_courts f_m0_courts m0_gates cA_m0_gates (upd f_m0_gates (Int32.toNatClampNeg 4) x_90) m0_gate cA_m0_gate f_88 m0 m0_thrown m0_width m0_many m0_cells m0_moved m0_tape m0_taped n_m0_77 n_m0_78 n_m0_79 n_m0_80 n_m0_81 n_m0_82 n_m0_83 m0_fault m0_faultPlace m0_lines m0_hours m0_courts m0_in m0_gates m0_gate m0_people m0_at0 m0_stray m0_set m0_once m0_truth m0_known m0_isKept m0_strays m0_hostPerson m0_hostCourt m0_outside m0_inside m0_can m0_fewest m0_waysTo m0_then m0_two m0_nextTwo m0_three m0_nextThree m0_shut m0_worth m0_digit m0_codes m0_most m0_bestTry m0_dayCourt m0_dayHour m0_dayNo m0_x m0_tape cA_m0_tape f_m0_tape) := hD
        rw [← ef_91] at hP hD
        exact W.vret hx hb hr (fun t ht hW => by rw [← hQe]; exact ⟨⟨(), rfl, trivial, ⟨n_m0_77, n_m0_78, n_m0_79, n_m0_80, n_m0_81, n_m0_82, n_m0_83, f_91, f_88, (by first | with_reducible assumption | omega), (by first | with_reducible assumption | omega), (by first | with_reducible assumption | omega), (by first | with_reducible assumption | omega), b_f_91, b_f_88, (by first | omega | assumption), (by first | omega | assumption), z_ret hP hK hD ht hW [3, 4, 0, 1, 2] [] rfl (by decide) rfl⟩⟩, hS.F ht⟩) hS.2.2 dX10_gateLine_99
      · have ic_71 := zz_nne rfl rfl c_71
        refine lv_aload_n hx hb dX10_gateLine_56 rfl (lv_at hl 2 rfl) ?_
        refine lv_iconst (v := 2) hx hb dX10_gateLine_57 (by decide) ?_
        obtain ⟨hPc, hDc, hFc⟩ := z_cut (wc := (zV185 m0 m0_thrown m0_width m0_many m0_cells m0_moved m0_tape m0_taped n_m0_19 n_m0_20 n_m0_21 n_m0_22 n_m0_23 n_m0_24 n_m0_25 m0_fault m0_faultPlace m0_lines m0_hours m0_courts m0_in m0_gates m0_gate m0_people m0_at0 m0_stray m0_set m0_once m0_truth m0_known m0_isKept m0_strays m0_hostPerson m0_hostCourt m0_outside m0_inside m0_can m0_fewest m0_waysTo m0_then m0_two m0_nextTwo m0_three m0_nextThree m0_shut m0_worth m0_digit m0_codes m0_most m0_bestTry m0_dayCourt m0_dayHour m0_dayNo m0_x)) hP hD hS hA [3] rfl (by decide +kernel)
        have hKc := hK.sub (tys' := []) [] rfl
        refine va_callv (va_runV (As := [.int 2]) (rest := []) ⟨hx, hb, hml, hown, hts⟩ (k_X10_fails_v1 l sa dC dI m0 (2) m0_thrown m0_width m0_many m0_cells m0_moved m0_tape m0_taped n_m0_19 n_m0_20 n_m0_21 n_m0_22 n_m0_23 n_m0_24 n_m0_25 m0_fault m0_faultPlace m0_lines m0_hours m0_courts m0_in m0_gates m0_gate m0_people m0_at0 m0_stray m0_set m0_once m0_truth m0_known m0_isKept m0_strays m0_hostPerson m0_hostCourt m0_outside m0_inside m0_can m0_fewest m0_waysTo m0_then m0_two m0_nextTwo m0_three m0_nextThree m0_shut m0_worth m0_digit m0_codes m0_most m0_bestTry m0_dayCourt m0_dayHour m0_dayNo m0_x (by decide) b_m0_taped (by first | with_reducible assumption | omega) (by first | with_reducible assumption | omega) (by first | with_reducible assumption | omega) (by first | with_reducible assumption | omega) b_m0_strays b_m0_hostCourt b_m0_dayCourt b_m0_dayHour H.size) (cwV 1 hts (z_gV zw_t7_101 zw_t7_103 zw_s4_15 zw_t1_11 zw_t7_104) rfl rfl rfl (by decide +kernel) (by rw [← hRe]; exact ⟨(Nat.le_of_ble_eq_true rfl), (Nat.le_of_ble_eq_true rfl)⟩)) (z_preV hPc hKc hDc hN hXs hS hFc (q := (RX10, TX10, 53)) (ci := 10) (q0 := 0) rfl rfl) rfl rfl hl.1 rfl (lv_room (Nat.le_of_ble_eq_true rfl)) dX10_gateLine_58 (by rw [← hRe]; exact ⟨(Nat.le_of_ble_eq_true rfl), (Nat.le_of_ble_eq_true rfl)⟩)) hS (fun q _ h => hFc q h) hFc (fun u t H1 locs ht hvm hw hB hz1 hk1 hS => ?_)
        obtain ⟨n_m0_93, n_m0_94, b_n_m0_93, hf_95, hf_96, hB⟩ := hB
        obtain ⟨hP, hD, hK⟩ := z_after3 (wn := (zV592 m0_courts cA_m0_courts f_m0_courts m0_gates cA_m0_gates f_m0_gates m0_gate cA_m0_gate f_m0_gate m0_tape cA_m0_tape f_m0_tape m0 m0_thrown m0_width m0_many m0_cells m0_moved m0_tape m0_taped n_m0_19 n_m0_20 n_m0_21 n_m0_22 n_m0_23 n_m0_93 n_m0_94 m0_fault m0_faultPlace m0_lines m0_hours m0_courts m0_in m0_gates m0_gate m0_people m0_at0 m0_stray m0_set m0_once m0_truth m0_known m0_isKept m0_strays m0_hostPerson m0_hostCourt m0_outside m0_inside m0_can m0_fewest m0_waysTo m0_then m0_two m0_nextTwo m0_three m0_nextThree m0_shut m0_worth m0_digit m0_codes m0_most m0_bestTry m0_dayCourt m0_dayHour m0_dayNo m0_x)) hB ht hvm hP hD hK [3] [0, 1, 2, 4] rfl 5 rfl (by decide +kernel) rfl (by decide +kernel) hk1 hFc
        generalize H1 = H at hP hS ⊢
        have hK : va_K (dC, dI) vwCl [(cA_m0_tape, .byte), (cA_m0_courts, .int), (cA_m0_gates, .int), (cA_m0_gate, .int)] s := hK
        refine lv_aload_n hx hb dX10_gateLine_61 rfl (lv_at hl 2 rfl) ?_
        refine va_get (D := (dC, dI)) (ci := 10) (v := .ref m0_gate) (C := RX10) (T := TX10) (N := 53) hx hb hts zl_X10 hown hK hP 4 rfl rfl 21 (by decide) (hts _ zw_t6_121) (fun _ h9 => h9) rfl dX10_gateLine_62 ?_
        refine lv_iload_n hx hb dX10_gateLine_65 rfl (lv_at hl 1 rfl) ?_
        refine lv_iload_n hx hb dX10_gateLine_66 rfl (lv_at hl 0 rfl) ?_
        refine va_iast hx hb hK hP hD hS 2 3 rfl rfl (zi_in rfl (by first | with_reducible assumption | omega)) dX10_gateLine_67 (fun H locs hP hD hS => ?_)
        obtain ⟨f_97, ef_97⟩ : ∃ g : Nat → Int32, g = upd f_m0_gate (Int32.toNatClampNeg x_3) r_6 := ⟨_, rfl⟩
        have u_f_97 : (f_97 (Int32.toNatClampNeg x_3)).toInt = r_6.toInt := by rw [ef_97, pk_us]
        have b_f_97 : ∀ j : Nat, 0 ≤ (f_97 j).toInt ∧ (f_97 j).toInt ≤ 9 := by rw [ef_97]; exact zi_upd b_f_m0_gate rfl (by first | with_reducible assumption | omega)
        have hP : va_P (dC, dI) vwCl (zV592 m0_courts cA_m0_courts f_m0_courts m0_gates cA_m0_gates f_m0_gates m0_gate cA_m0_gate (upd f_m0_gate (Int32.toNatClampNeg x_3) r_6) m0_tape cA_m0_tape f_m0_tape m0 m0_thrown m0_width m0_many m0_cells m0_moved m0_tape m0_taped n_m0_19 n_m0_20 n_m0_21 n_m0_22 n_m0_23 n_m0_93 n_m0_94 m0_fault m0_faultPlace m0_lines m0_hours m0_courts m0_in m0_gates m0_gate m0_people m0_at0 m0_stray m0_set m0_once m0_truth m0_known m0_isKept m0_strays m0_hostPerson m0_hostCourt m0_outside m0_inside m0_can m0_fewest m0_waysTo m0_then m0_two m0_nextTwo m0_three m0_nextThree m0_shut m0_worth m0_digit m0_codes m0_most m0_bestTry m0_dayCourt m0_dayHour m0_dayNo m0_x) H := hP
        have hD : va_D A (zV592 m0_courts cA_m0_courts f_m0_courts m0_gates cA_m0_gates f_m0_gates m0_gate cA_m0_gate (upd f_m0_gate (Int32.toNatClampNeg x_3) r_6) m0_tape cA_m0_tape f_m0_tape m0 m0_thrown m0_width m0_many m0_cells m0_moved m0_tape m0_taped n_m0_19 n_m0_20 n_m0_21 n_m0_22 n_m0_23 n_m0_93 n_m0_94 m0_fault m0_faultPlace m0_lines m0_hours m0_courts m0_in m0_gates m0_gate m0_people m0_at0 m0_stray m0_set m0_once m0_truth m0_known m0_isKept m0_strays m0_hostPerson m0_hostCourt m0_outside m0_inside m0_can m0_fewest m0_waysTo m0_then m0_two m0_nextTwo m0_three m0_nextThree m0_shut m0_worth m0_digit m0_codes m0_most m0_bestTry m0_dayCourt m0_dayHour m0_dayNo m0_x) := hD
        rw [← ef_97] at hP hD
        refine lv_aload_n hx hb dX10_gateLine_68 rfl (lv_at hl 2 rfl) ?_
        refine va_get (D := (dC, dI)) (ci := 10) (v := .ref m0_gate) (C := RX10) (T := TX10) (N := 53) hx hb hts zl_X10 hown hK hP 4 rfl rfl 21 (by decide) (hts _ zw_t6_121) (fun _ h9 => h9) rfl dX10_gateLine_69 ?_
        refine lv_iload_n hx hb dX10_gateLine_72 rfl (lv_at hl 1 rfl) ?_
        refine lv_iconst (v := 1) hx hb dX10_gateLine_73 (by decide) ?_
        refine lv_iadd hx hb dX10_gateLine_74 ?_
        refine lv_topi (fun x_98 ex_98 => ?_)
        have b_x_98 : x_98.toInt = x_3.toInt + 1 := by rw [ex_98]; exact zi_add rfl (show Int32.toInt 1 = 1 from by decide) (by first | with_reducible assumption | omega)
        refine lv_aload_n hx hb dX10_gateLine_75 rfl (lv_at hl 2 rfl) ?_
        refine lv_iconst (v := 0) hx hb dX10_gateLine_76 (by decide) ?_
        refine lv_aload_n hx hb dX10_gateLine_77 rfl (lv_at hl 2 rfl) ?_
        refine va_get (D := (dC, dI)) (ci := 10) (v := .ref m0_courts) (C := RX10) (T := TX10) (N := 53) hx hb hts zl_X10 hown hK hP 4 rfl rfl 18 (by decide) (hts _ zw_t6_118) (fun _ h9 => h9) rfl dX10_gateLine_78 ?_
        refine lv_iconst (v := 4) hx hb dX10_gateLine_81 (by decide) ?_
        refine va_iald hx hb hK hP 0 1 rfl rfl (zi_in (show Int32.toInt 4 = 4 from by decide) (by first | with_reducible assumption | omega)) dX10_gateLine_82 ?_
        refine lv_topi (fun x_99 ex_99 => ?_)
        obtain rfl : x_4 = x_99 := ex_4.trans ex_99.symm
        refine lv_iconst (v := 1) hx hb dX10_gateLine_83 (by decide) ?_
        refine lv_isub hx hb dX10_gateLine_84 ?_
        refine lv_topi (fun x_100 ex_100 => ?_)
        have b_x_100 : x_100.toInt = x_4.toInt - 1 := by rw [ex_100]; exact zi_sub rfl (show Int32.toInt 1 = 1 from by decide) (by first | with_reducible assumption | omega)
        obtain ⟨hPc, hDc, hFc⟩ := z_cut (wc := (zV572 m0 m0_thrown m0_width m0_many m0_cells m0_moved m0_tape m0_taped n_m0_19 n_m0_20 n_m0_21 n_m0_22 n_m0_23 n_m0_93 n_m0_94 m0_fault m0_faultPlace m0_lines m0_hours m0_courts m0_in m0_gates m0_gate m0_people m0_at0 m0_stray m0_set m0_once m0_truth m0_known m0_isKept m0_strays m0_hostPerson m0_hostCourt m0_outside m0_inside m0_can m0_fewest m0_waysTo m0_then m0_two m0_nextTwo m0_three m0_nextThree m0_shut m0_worth m0_digit m0_codes m0_most m0_bestTry m0_dayCourt m0_dayHour m0_dayNo m0_x m0_tape cA_m0_tape f_m0_tape)) hP hD hS hA [4, 3] rfl (by decide +kernel)
        have hKc := hK.sub (tys' := [(cA_m0_tape, .byte)]) [0] rfl
        refine va_calli (va_runV (As := [.int 0, .int x_100]) (rest := [.int x_98, .ref m0_gate]) ⟨hx, hb, hml, hown, hts⟩ (k_X10_number l sa dC dI m0 (0) x_100 m0_thrown m0_width m0_many m0_cells m0_moved m0_tape m0_taped n_m0_19 n_m0_20 n_m0_21 n_m0_22 n_m0_23 n_m0_93 n_m0_94 m0_fault m0_faultPlace m0_lines m0_hours m0_courts m0_in m0_gates m0_gate m0_people m0_at0 m0_stray m0_set m0_once m0_truth m0_known m0_isKept m0_strays m0_hostPerson m0_hostCourt m0_outside m0_inside m0_can m0_fewest m0_waysTo m0_then m0_two m0_nextTwo m0_three m0_nextThree m0_shut m0_worth m0_digit m0_codes m0_most m0_bestTry m0_dayCourt m0_dayHour m0_dayNo m0_x cA_m0_tape f_m0_tape (by decide) (by first | with_reducible assumption | omega) b_m0_taped (by first | with_reducible assumption | omega) (by first | with_reducible assumption | omega) (by first | with_reducible assumption | omega) (by first | with_reducible assumption | omega) b_m0_strays b_m0_hostCourt b_m0_dayCourt b_m0_dayHour (by first | assumption | omega) H.size) (cwV 2 hts (z_gV zw_t7_110 zw_t7_112 zw_s5_1 zw_t1_11 zw_t7_113) rfl rfl rfl (by decide +kernel) (by rw [← hRe]; exact ⟨(Nat.le_of_ble_eq_true rfl), (Nat.le_of_ble_eq_true rfl)⟩)) (z_preV hPc hKc hDc hN hXs hS hFc (q := (RX10, TX10, 53)) (ci := 10) (q0 := 0) rfl rfl) rfl rfl hl.1 rfl (lv_room (Nat.le_of_ble_eq_true rfl)) dX10_gateLine_85 (by rw [← hRe]; exact ⟨(Nat.le_of_ble_eq_true rfl), (Nat.le_of_ble_eq_true rfl)⟩)) hS (fun q _ h => hFc q h) hFc (fun r_101 u t H1 locs ht hvm hw hB hz1 hk1 hS => ?_)
        obtain ⟨hu, hw⟩ := hw
        rw [hu] at hB
        obtain ⟨n_m0_102, n_m0_103, n_m0_104, n_m0_105, n_m0_106, n_m0_107, n_m0_108, b_n_m0_102, b_n_m0_103, b_n_m0_105, b_n_m0_107, hf_109, hf_110, hf_111, hf_112, hB⟩ := hB
        obtain ⟨hP, hD, hK⟩ := z_after3 (wn := (zV591 m0_courts cA_m0_courts f_m0_courts m0_gates cA_m0_gates f_m0_gates m0_gate cA_m0_gate f_97 m0 m0_thrown m0_width m0_many m0_cells m0_moved m0_tape m0_taped n_m0_102 n_m0_103 n_m0_104 n_m0_105 n_m0_106 n_m0_107 n_m0_108 m0_fault m0_faultPlace m0_lines m0_hours m0_courts m0_in m0_gates m0_gate m0_people m0_at0 m0_stray m0_set m0_once m0_truth m0_known m0_isKept m0_strays m0_hostPerson m0_hostCourt m0_outside m0_inside m0_can m0_fewest m0_waysTo m0_then m0_two m0_nextTwo m0_three m0_nextThree m0_shut m0_worth m0_digit m0_codes m0_most m0_bestTry m0_dayCourt m0_dayHour m0_dayNo m0_x m0_tape cA_m0_tape f_m0_tape)) hB ht hvm hP hD hK [4, 3] [0, 1, 2] rfl 5 rfl (by decide +kernel) rfl (by decide +kernel) hk1 hFc
        generalize H1 = H at hP hS ⊢
        have hK : va_K (dC, dI) vwCl [(cA_m0_tape, .byte), (cA_m0_courts, .int), (cA_m0_gates, .int), (cA_m0_gate, .int)] s := hK
        have b_r_101 : 0 ≤ r_101.toInt ∧ r_101.toInt ≤ 99 := hw.1
        have s_r_101 := hw.2
        have za_0 : Int32.toInt 0 = 0 := by decide
        refine va_iast hx hb hK hP hD hS 2 3 rfl rfl (zi_in rfl (by first | with_reducible assumption | omega)) dX10_gateLine_88 (fun H locs hP hD hS => ?_)
        obtain ⟨f_113, ef_113⟩ : ∃ g : Nat → Int32, g = upd f_97 (Int32.toNatClampNeg x_98) r_101 := ⟨_, rfl⟩
        have u_f_113 : (f_113 (Int32.toNatClampNeg x_98)).toInt = r_101.toInt := by rw [ef_113, pk_us]
        have b_f_113 : ∀ j : Nat, 0 ≤ (f_113 j).toInt ∧ (f_113 j).toInt ≤ 9 := by rw [ef_113]; exact zi_upd b_f_97 rfl (by first | with_reducible assumption | omega)
        have hP : va_P (dC, dI) vwCl (zV591 m0_courts cA_m0_courts f_m0_courts m0_gates cA_m0_gates f_m0_gates m0_gate cA_m0_gate (upd f_97 (Int32.toNatClampNeg x_98) r_101) m0 m0_thrown m0_width m0_many m0_cells m0_moved m0_tape m0_taped n_m0_102 n_m0_103 n_m0_104 n_m0_105 n_m0_106 n_m0_107 n_m0_108 m0_fault m0_faultPlace m0_lines m0_hours m0_courts m0_in m0_gates m0_gate m0_people m0_at0 m0_stray m0_set m0_once m0_truth m0_known m0_isKept m0_strays m0_hostPerson m0_hostCourt m0_outside m0_inside m0_can m0_fewest m0_waysTo m0_then m0_two m0_nextTwo m0_three m0_nextThree m0_shut m0_worth m0_digit m0_codes m0_most m0_bestTry m0_dayCourt m0_dayHour m0_dayNo m0_x m0_tape cA_m0_tape f_m0_tape) H := hP
        have hD : va_D A (zV591 m0_courts cA_m0_courts f_m0_courts m0_gates cA_m0_gates f_m0_gates m0_gate cA_m0_gate (upd f_97 (Int32.toNatClampNeg x_98) r_101) m0 m0_thrown m0_width m0_many m0_cells m0_moved m0_tape m0_taped n_m0_102 n_m0_103 n_m0_104 n_m0_105 n_m0_106 n_m0_107 n_m0_108 m0_fault m0_faultPlace m0_lines m0_hours m0_courts m0_in m0_gates m0_gate m0_people m0_at0 m0_stray m0_set m0_once m0_truth m0_known m0_isKept m0_strays m0_hostPerson m0_hostCourt m0_outside m0_inside m0_can m0_fewest m0_waysTo m0_then m0_two m0_nextTwo m0_three m0_nextThree m0_shut m0_worth m0_digit m0_codes m0_most m0_bestTry m0_dayCourt m0_dayHour m0_dayNo m0_x m0_tape cA_m0_tape f_m0_tape) := hD
        rw [← ef_113] at hP hD
        refine lv_aload_n hx hb dX10_gateLine_89 rfl (lv_at hl 2 rfl) ?_
        refine va_get (D := (dC, dI)) (ci := 10) (v := .ref m0_gates) (C := RX10) (T := TX10) (N := 53) hx hb hts zl_X10 hown hK hP 3 rfl rfl 20 (by decide) (hts _ zw_t6_120) (fun _ h9 => h9) rfl dX10_gateLine_90 ?_
        refine lv_iconst (v := 4) hx hb dX10_gateLine_93 (by decide) ?_
        refine lv_dup2_11 hx hb dX10_gateLine_94 rfl rfl ?_
        refine va_iald hx hb hK hP 1 2 rfl rfl (zi_in (show Int32.toInt 4 = 4 from by decide) (by first | with_reducible assumption | omega)) dX10_gateLine_95 ?_
        refine lv_topi (fun x_114 ex_114 => ?_)
        obtain rfl : x_1 = x_114 := ex_1.trans ex_114.symm
        refine lv_iconst (v := 1) hx hb dX10_gateLine_96 (by decide) ?_
        refine lv_iadd hx hb dX10_gateLine_97 ?_
        refine lv_topi (fun x_115 ex_115 => ?_)
        have b_x_115 : x_115.toInt = x_1.toInt + 1 := by rw [ex_115]; exact zi_add rfl (show Int32.toInt 1 = 1 from by decide) (by first | with_reducible assumption | omega)
        refine va_iast hx hb hK hP hD hS 1 2 rfl rfl (zi_in (show Int32.toInt 4 = 4 from by decide) (by first | with_reducible assumption | omega)) dX10_gateLine_98 (fun H locs hP hD hS => ?_)
        obtain ⟨f_116, ef_116⟩ : ∃ g : Nat → Int32, g = upd f_m0_gates (Int32.toNatClampNeg 4) x_115 := ⟨_, rfl⟩
        have u_f_116 : (f_116 (Int32.toNatClampNeg 4)).toInt = x_115.toInt := by rw [ef_116, pk_us]
        have b_f_116 : ∀ j : Nat, 0 ≤ (f_116 j).toInt ∧ (f_116 j).toInt ≤ 16 := by rw [ef_116]; exact zi_upd b_f_m0_gates rfl (by first | with_reducible assumption | omega)
        have hP : va_P (dC, dI) vwCl (zV591 m0_courts cA_m0_courts f_m0_courts m0_gates cA_m0_gates (upd f_m0_gates (Int32.toNatClampNeg 4) x_115) m0_gate cA_m0_gate f_113 m0 m0_thrown m0_width m0_many m0_cells m0_moved m0_tape m0_taped n_m0_102 n_m0_103 n_m0_104 n_m0_105 n_m0_106 n_m0_107 n_m0_108 m0_fault m0_faultPlace m0_lines m0_hours m0_courts m0_in m0_gates m0_gate m0_people m0_at0 m0_stray m0_set m0_once m0_truth m0_known m0_isKept m0_strays m0_hostPerson m0_hostCourt m0_outside m0_inside m0_can m0_fewest m0_waysTo m0_then m0_two m0_nextTwo m0_three m0_nextThree m0_shut m0_worth m0_digit m0_codes m0_most m0_bestTry m0_dayCourt m0_dayHour m0_dayNo m0_x m0_tape cA_m0_tape f_m0_tape) H := hP
        have hD : va_D A (zV591 m0_courts cA_m0_courts f_m0_courts m0_gates cA_m0_gates (upd f_m0_gates (Int32.toNatClampNeg 4) x_115) m0_gate cA_m0_gate f_113 m0 m0_thrown m0_width m0_many m0_cells m0_moved m0_tape m0_taped n_m0_102 n_m0_103 n_m0_104 n_m0_105 n_m0_106 n_m0_107 n_m0_108 m0_fault m0_faultPlace m0_lines m0_hours m0_courts m0_in m0_gates m0_gate m0_people m0_at0 m0_stray m0_set m0_once m0_truth m0_known m0_isKept m0_strays m0_hostPerson m0_hostCourt m0_outside m0_inside m0_can m0_fewest m0_waysTo m0_then m0_two m0_nextTwo m0_three m0_nextThree m0_shut m0_worth m0_digit m0_codes m0_most m0_bestTry m0_dayCourt m0_dayHour m0_dayNo m0_x m0_tape cA_m0_tape f_m0_tape) := hD
        rw [← ef_116] at hP hD
        exact W.vret hx hb hr (fun t ht hW => by rw [← hQe]; exact ⟨⟨(), rfl, trivial, ⟨n_m0_102, n_m0_103, n_m0_104, n_m0_105, n_m0_106, n_m0_107, n_m0_108, f_116, f_113, (by first | with_reducible assumption | omega), (by first | with_reducible assumption | omega), (by first | with_reducible assumption | omega), (by first | with_reducible assumption | omega), b_f_116, b_f_113, (by first | omega | assumption), (by first | omega | assumption), z_ret hP hK hD ht hW [3, 4, 0, 1, 2] [] rfl (by decide) rfl⟩⟩, hS.F ht⟩) hS.2.2 dX10_gateLine_99
