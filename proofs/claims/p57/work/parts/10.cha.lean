theorem zw_s3_8 : Cond.selects RX0 yX0_shownSurely yX0_shownSurely ∈ zT := zs_3 (List.mem_of_getElem? (i := 8) (by decide +kernel))
theorem zw_s4_1 : Cond.selects RX1 yX1_isDone yX1_isDone ∈ zT := zs_4 (List.mem_of_getElem? (i := 1) (by decide +kernel))
theorem zw_s4_2 : Cond.selects RX1 yX1_pass yX1_pass ∈ zT := zs_4 (List.mem_of_getElem? (i := 2) (by decide +kernel))
theorem zw_t1_154 : Cond.fieldLink RX1 37 "NameGate$Image" "town" "LNameGate$Town;" ∈ zT := zt_1 (List.mem_of_getElem? (i := 154) (by decide +kernel)) (by decide +kernel)
theorem zw_t1_158 : Cond.fieldLink RX1 77 "NameGate$Image" "strayed" "I" ∈ zT := zt_1 (List.mem_of_getElem? (i := 158) (by decide +kernel)) (by decide +kernel)
theorem zw_t1_162 : Cond.fieldLink RX1 71 "NameGate$Image" "names" "I" ∈ zT := zt_1 (List.mem_of_getElem? (i := 162) (by decide +kernel)) (by decide +kernel)
theorem zw_t1_43 : Cond.fieldLink RX1 43 "NameGate$Town" "hours" "I" ∈ zT := zt_1 (List.mem_of_getElem? (i := 43) (by decide +kernel)) (by decide +kernel)
theorem zw_t1_54 : Cond.fieldLink RX1 50 "NameGate$Town" "gateCount" "I" ∈ zT := zt_1 (List.mem_of_getElem? (i := 54) (by decide +kernel)) (by decide +kernel)
theorem zw_t1_68 : Cond.fieldLink RX1 84 "NameGate$Town" "falseHours" "I" ∈ zT := zt_1 (List.mem_of_getElem? (i := 68) (by decide +kernel)) (by decide +kernel)
theorem zw_t1_72 : Cond.fieldLink RX0 51 "NameGate$Town" "strayers" "I" ∈ zT := zt_1 (List.mem_of_getElem? (i := 72) (by decide +kernel)) (by decide +kernel)
theorem zw_t1_8 : Cond.initialized RX0 ∈ zT := zt_1 (List.mem_of_getElem? (i := 8) (by decide +kernel)) (by decide +kernel)
theorem zw_t1_9 : Cond.initialized RX1 ∈ zT := zt_1 (List.mem_of_getElem? (i := 9) (by decide +kernel)) (by decide +kernel)
theorem zw_t2_100 : Cond.fieldLink RX0 18 "NameGate$Chances" "unsure" "[I" ∈ zT := zt_2 (List.mem_of_getElem? (i := 100) (by decide +kernel)) (by decide +kernel)
theorem zw_t2_101 : Cond.fieldLink RX0 22 "NameGate$Chances" "seats" "[I" ∈ zT := zt_2 (List.mem_of_getElem? (i := 101) (by decide +kernel)) (by decide +kernel)
theorem zw_t2_102 : Cond.fieldLink RX0 45 "NameGate$Chances" "unsureCount" "I" ∈ zT := zt_2 (List.mem_of_getElem? (i := 102) (by decide +kernel)) (by decide +kernel)
theorem zw_t2_103 : Cond.fieldLink RX0 48 "NameGate$Chances" "states" "I" ∈ zT := zt_2 (List.mem_of_getElem? (i := 103) (by decide +kernel)) (by decide +kernel)
theorem zw_t2_104 : Cond.fieldLink RX0 26 "NameGate$Chances" "worth" "[I" ∈ zT := zt_2 (List.mem_of_getElem? (i := 104) (by decide +kernel)) (by decide +kernel)
theorem zw_t2_105 : Cond.fieldLink RX0 85 "NameGate$Chances" "certain" "I" ∈ zT := zt_2 (List.mem_of_getElem? (i := 105) (by decide +kernel)) (by decide +kernel)
theorem zw_t2_106 : Cond.fieldLink RX0 29 "NameGate$Chances" "ifTold" "[I" ∈ zT := zt_2 (List.mem_of_getElem? (i := 106) (by decide +kernel)) (by decide +kernel)
theorem zw_t2_107 : Cond.fieldLink RX0 32 "NameGate$Chances" "ifGone" "[I" ∈ zT := zt_2 (List.mem_of_getElem? (i := 107) (by decide +kernel)) (by decide +kernel)
theorem zw_t2_108 : Cond.fieldLink RX0 35 "NameGate$Chances" "digits" "[I" ∈ zT := zt_2 (List.mem_of_getElem? (i := 108) (by decide +kernel)) (by decide +kernel)
theorem zw_t2_109 : Cond.fieldLink RX0 88 "NameGate$Chances" "open" "I" ∈ zT := zt_2 (List.mem_of_getElem? (i := 109) (by decide +kernel)) (by decide +kernel)
theorem zw_t2_110 : Cond.fieldLink RX0 91 "NameGate$Chances" "doubtful" "I" ∈ zT := zt_2 (List.mem_of_getElem? (i := 110) (by decide +kernel)) (by decide +kernel)
theorem zw_t2_153 : Cond.fieldLink RX1 9 "NameGate$Day" "place" "I" ∈ zT := zt_2 (List.mem_of_getElem? (i := 153) (by decide +kernel)) (by decide +kernel)
theorem zw_t2_155 : Cond.fieldLink RX1 15 "NameGate$Day" "court" "I" ∈ zT := zt_2 (List.mem_of_getElem? (i := 155) (by decide +kernel)) (by decide +kernel)
theorem zw_t2_157 : Cond.fieldLink RX1 18 "NameGate$Day" "hour" "I" ∈ zT := zt_2 (List.mem_of_getElem? (i := 157) (by decide +kernel)) (by decide +kernel)
theorem zw_t2_159 : Cond.fieldLink RX1 21 "NameGate$Day" "refusals" "I" ∈ zT := zt_2 (List.mem_of_getElem? (i := 159) (by decide +kernel)) (by decide +kernel)
theorem zw_t2_177 : Cond.fieldLink RX1 24 "NameGate$Row" "size" "I" ∈ zT := zt_2 (List.mem_of_getElem? (i := 177) (by decide +kernel)) (by decide +kernel)
theorem zw_t2_180 : Cond.fieldLink RX1 29 "NameGate$Row" "numbers" "[J" ∈ zT := zt_2 (List.mem_of_getElem? (i := 180) (by decide +kernel)) (by decide +kernel)
theorem zw_t2_95 : Cond.fieldLink RX0 12 "NameGate$Chances" "town" "LNameGate$Town;" ∈ zT := zt_2 (List.mem_of_getElem? (i := 95) (by decide +kernel)) (by decide +kernel)
theorem zw_t2_96 : Cond.fieldLink RX0 38 "NameGate$Chances" "names" "I" ∈ zT := zt_2 (List.mem_of_getElem? (i := 96) (by decide +kernel)) (by decide +kernel)
theorem zw_t2_97 : Cond.fieldLink RX0 42 "NameGate$Chances" "gone" "I" ∈ zT := zt_2 (List.mem_of_getElem? (i := 97) (by decide +kernel)) (by decide +kernel)
theorem zw_t2_98 : Cond.fieldLink RX0 58 "NameGate$Chances" "goal" "I" ∈ zT := zt_2 (List.mem_of_getElem? (i := 98) (by decide +kernel)) (by decide +kernel)
theorem zw_t2_99 : Cond.fieldLink RX0 61 "NameGate$Chances" "lastHour" "I" ∈ zT := zt_2 (List.mem_of_getElem? (i := 99) (by decide +kernel)) (by decide +kernel)
theorem zw_t3_182 : Cond.instanceMethod yX7_hasPerson ∈ zT := zt_3 (List.mem_of_getElem? (i := 182) (by decide +kernel)) (by decide +kernel)
theorem zw_t3_183 : Cond.selects RX7 yX7_hasPerson yX7_hasPerson ∈ zT := zt_3 (List.mem_of_getElem? (i := 183) (by decide +kernel)) (by decide +kernel)
theorem zw_t3_184 : Cond.code yX7_hasPerson cX7_hasPerson 2 (some .boolean) ∈ zT := zt_3 (List.mem_of_getElem? (i := 184) (by decide +kernel)) (by decide +kernel)
theorem zw_t5_230 : Cond.methodLink RX1 33 yX1_isDone ∈ zT := zt_5 (List.mem_of_getElem? (i := 230) (by decide +kernel)) (by decide +kernel)
theorem zw_t5_232 : Cond.instanceMethod yX1_isDone ∈ zT := zt_5 (List.mem_of_getElem? (i := 232) (by decide +kernel)) (by decide +kernel)
theorem zw_t5_233 : Cond.code yX1_isDone cX1_isDone 7 (some .boolean) ∈ zT := zt_5 (List.mem_of_getElem? (i := 233) (by decide +kernel)) (by decide +kernel)
theorem zw_t5_234 : Cond.constantLong RX1 48 (-1) ∈ zT := zt_5 (List.mem_of_getElem? (i := 234) (by decide +kernel)) (by decide +kernel)
theorem zw_t5_235 : Cond.constantLong RX1 53 (100) ∈ zT := zt_5 (List.mem_of_getElem? (i := 235) (by decide +kernel)) (by decide +kernel)
theorem zw_t5_236 : Cond.methodLink RX1 55 yX7_beyond ∈ zT := zt_5 (List.mem_of_getElem? (i := 236) (by decide +kernel)) (by decide +kernel)
theorem zw_t5_237 : Cond.methodLink RX1 59 yX7_isFree ∈ zT := zt_5 (List.mem_of_getElem? (i := 237) (by decide +kernel)) (by decide +kernel)
theorem zw_t5_238 : Cond.methodLink RX1 63 yX1_pass ∈ zT := zt_5 (List.mem_of_getElem? (i := 238) (by decide +kernel)) (by decide +kernel)
theorem zw_t5_63 : Cond.methodLink RX0 79 yX7_showsOf ∈ zT := zt_5 (List.mem_of_getElem? (i := 63) (by decide +kernel)) (by decide +kernel)
theorem zw_t5_64 : Cond.methodLink RX0 82 yX7_openBy ∈ zT := zt_5 (List.mem_of_getElem? (i := 64) (by decide +kernel)) (by decide +kernel)
theorem zw_t5_69 : Cond.methodLink RX0 94 yX0_shownSurely ∈ zT := zt_5 (List.mem_of_getElem? (i := 69) (by decide +kernel)) (by decide +kernel)
theorem zw_t5_71 : Cond.instanceMethod yX0_shownSurely ∈ zT := zt_5 (List.mem_of_getElem? (i := 71) (by decide +kernel)) (by decide +kernel)
theorem zw_t5_72 : Cond.code yX0_shownSurely cX0_shownSurely 2 (some .int) ∈ zT := zt_5 (List.mem_of_getElem? (i := 72) (by decide +kernel)) (by decide +kernel)
theorem zw_t5_77 : Cond.constant RX0 78 (1000000000) ∈ zT := zt_5 (List.mem_of_getElem? (i := 77) (by decide +kernel)) (by decide +kernel)
theorem zw_t6_0 : Cond.instanceMethod yX1_pass ∈ zT := zt_6 (List.mem_of_getElem? (i := 0) (by decide +kernel)) (by decide +kernel)
theorem zw_t6_1 : Cond.code yX1_pass cX1_pass 2 none ∈ zT := zt_6 (List.mem_of_getElem? (i := 1) (by decide +kernel)) (by decide +kernel)
theorem zw_t6_2 : Cond.methodLink RX1 67 yX7_hasPerson ∈ zT := zt_6 (List.mem_of_getElem? (i := 2) (by decide +kernel)) (by decide +kernel)
theorem zw_t6_4 : Cond.methodLink RX1 80 yX7_showsOf ∈ zT := zt_6 (List.mem_of_getElem? (i := 4) (by decide +kernel)) (by decide +kernel)
theorem zw_t6_5 : Cond.methodLink RX1 87 Lib.Math.min.name ∈ zT := zt_6 (List.mem_of_getElem? (i := 5) (by decide +kernel)) (by decide +kernel)
def bcX0_isDoubtful_0 : List Nat := [42, 180, 0, 35, 27, 46, 154, 0, 27, 42, 180, 0, 29, 27, 46, 42, 180, 0, 32, 27, 46, 130, 28, 184, 0, 54, 153, 0, 7, 4, 167, 0, 4, 3, 172]
theorem bcX0_isDoubtful_0_ok : z_bys cX0_isDoubtful 0 bcX0_isDoubtful_0 = true := by decide +kernel
theorem dX0_isDoubtful_0 : decode cX0_isDoubtful 0 = .ok (.aload_n 0, 1) := zo_42 (z_byk bcX0_isDoubtful_0 0 0 _ bcX0_isDoubtful_0_ok rfl)
theorem dX0_isDoubtful_1 : decode cX0_isDoubtful 1 = .ok (.getfield 35, 3) := zo_180 (z_byk bcX0_isDoubtful_0 0 1 _ bcX0_isDoubtful_0_ok rfl) (z_byk bcX0_isDoubtful_0 0 2 _ bcX0_isDoubtful_0_ok rfl) (z_byk bcX0_isDoubtful_0 0 3 _ bcX0_isDoubtful_0_ok rfl) rfl
theorem dX0_isDoubtful_10 : decode cX0_isDoubtful 10 = .ok (.getfield 29, 3) := zo_180 (z_byk bcX0_isDoubtful_0 0 10 _ bcX0_isDoubtful_0_ok rfl) (z_byk bcX0_isDoubtful_0 0 11 _ bcX0_isDoubtful_0_ok rfl) (z_byk bcX0_isDoubtful_0 0 12 _ bcX0_isDoubtful_0_ok rfl) rfl
theorem dX0_isDoubtful_13 : decode cX0_isDoubtful 13 = .ok (.iload_n 1, 1) := zo_27 (z_byk bcX0_isDoubtful_0 0 13 _ bcX0_isDoubtful_0_ok rfl)
theorem dX0_isDoubtful_14 : decode cX0_isDoubtful 14 = .ok (.iaload, 1) := zo_46 (z_byk bcX0_isDoubtful_0 0 14 _ bcX0_isDoubtful_0_ok rfl)
theorem dX0_isDoubtful_15 : decode cX0_isDoubtful 15 = .ok (.aload_n 0, 1) := zo_42 (z_byk bcX0_isDoubtful_0 0 15 _ bcX0_isDoubtful_0_ok rfl)
theorem dX0_isDoubtful_16 : decode cX0_isDoubtful 16 = .ok (.getfield 32, 3) := zo_180 (z_byk bcX0_isDoubtful_0 0 16 _ bcX0_isDoubtful_0_ok rfl) (z_byk bcX0_isDoubtful_0 0 17 _ bcX0_isDoubtful_0_ok rfl) (z_byk bcX0_isDoubtful_0 0 18 _ bcX0_isDoubtful_0_ok rfl) rfl
theorem dX0_isDoubtful_19 : decode cX0_isDoubtful 19 = .ok (.iload_n 1, 1) := zo_27 (z_byk bcX0_isDoubtful_0 0 19 _ bcX0_isDoubtful_0_ok rfl)
theorem dX0_isDoubtful_20 : decode cX0_isDoubtful 20 = .ok (.iaload, 1) := zo_46 (z_byk bcX0_isDoubtful_0 0 20 _ bcX0_isDoubtful_0_ok rfl)
theorem dX0_isDoubtful_21 : decode cX0_isDoubtful 21 = .ok (.ixor, 1) := zo_130 (z_byk bcX0_isDoubtful_0 0 21 _ bcX0_isDoubtful_0_ok rfl)
theorem dX0_isDoubtful_22 : decode cX0_isDoubtful 22 = .ok (.iload_n 2, 1) := zo_28 (z_byk bcX0_isDoubtful_0 0 22 _ bcX0_isDoubtful_0_ok rfl)
theorem dX0_isDoubtful_23 : decode cX0_isDoubtful 23 = .ok (.invokestatic 54, 3) := zo_184 (z_byk bcX0_isDoubtful_0 0 23 _ bcX0_isDoubtful_0_ok rfl) (z_byk bcX0_isDoubtful_0 0 24 _ bcX0_isDoubtful_0_ok rfl) (z_byk bcX0_isDoubtful_0 0 25 _ bcX0_isDoubtful_0_ok rfl) rfl
theorem dX0_isDoubtful_26 : decode cX0_isDoubtful 26 = .ok (.ifCond .eq 7, 3) := zo_153 (z_byk bcX0_isDoubtful_0 0 26 _ bcX0_isDoubtful_0_ok rfl) (z_byk bcX0_isDoubtful_0 0 27 _ bcX0_isDoubtful_0_ok rfl) (z_byk bcX0_isDoubtful_0 0 28 _ bcX0_isDoubtful_0_ok rfl) rfl
theorem dX0_isDoubtful_29 : decode cX0_isDoubtful 29 = .ok (.iconst 1, 1) := zo_4 (z_byk bcX0_isDoubtful_0 0 29 _ bcX0_isDoubtful_0_ok rfl)
theorem dX0_isDoubtful_30 : decode cX0_isDoubtful 30 = .ok (.goto 4, 3) := zo_167 (z_byk bcX0_isDoubtful_0 0 30 _ bcX0_isDoubtful_0_ok rfl) (z_byk bcX0_isDoubtful_0 0 31 _ bcX0_isDoubtful_0_ok rfl) (z_byk bcX0_isDoubtful_0 0 32 _ bcX0_isDoubtful_0_ok rfl) rfl
theorem dX0_isDoubtful_33 : decode cX0_isDoubtful 33 = .ok (.iconst 0, 1) := zo_3 (z_byk bcX0_isDoubtful_0 0 33 _ bcX0_isDoubtful_0_ok rfl)
theorem dX0_isDoubtful_34 : decode cX0_isDoubtful 34 = .ok (.ireturn, 1) := zo_172 (z_byk bcX0_isDoubtful_0 0 34 _ bcX0_isDoubtful_0_ok rfl)
theorem dX0_isDoubtful_4 : decode cX0_isDoubtful 4 = .ok (.iload_n 1, 1) := zo_27 (z_byk bcX0_isDoubtful_0 0 4 _ bcX0_isDoubtful_0_ok rfl)
theorem dX0_isDoubtful_5 : decode cX0_isDoubtful 5 = .ok (.iaload, 1) := zo_46 (z_byk bcX0_isDoubtful_0 0 5 _ bcX0_isDoubtful_0_ok rfl)
theorem dX0_isDoubtful_6 : decode cX0_isDoubtful 6 = .ok (.ifCond .ne 27, 3) := zo_154 (z_byk bcX0_isDoubtful_0 0 6 _ bcX0_isDoubtful_0_ok rfl) (z_byk bcX0_isDoubtful_0 0 7 _ bcX0_isDoubtful_0_ok rfl) (z_byk bcX0_isDoubtful_0 0 8 _ bcX0_isDoubtful_0_ok rfl) rfl
theorem dX0_isDoubtful_9 : decode cX0_isDoubtful 9 = .ok (.aload_n 0, 1) := zo_42 (z_byk bcX0_isDoubtful_0 0 9 _ bcX0_isDoubtful_0_ok rfl)
def bcX0_know_0 : List Nat := [42, 43, 181, 0, 12, 42, 28, 181, 0, 38, 42, 21, 4, 181, 0, 42, 42, 3, 181, 0, 45, 42, 4, 181, 0, 48, 3, 54, 5, 21, 5, 16, 10, 162, 0, 85, 42, 180, 0, 22, 21, 5, 2, 79, 43, 180, 0, 51, 28, 126, 29, 2, 130, 126, 21, 5, 184, 0, 54, 153]
theorem bcX0_know_0_ok : z_bys cX0_know 0 bcX0_know_0 = true := by decide +kernel
def bcX0_know_60 : List Nat := [0, 53, 42, 180, 0, 45, 7, 162, 0, 45, 42, 180, 0, 22, 21, 5, 42, 180, 0, 45, 79, 42, 180, 0, 18, 42, 180, 0, 45, 21, 5, 79, 42, 89, 180, 0, 45, 4, 96, 181, 0, 45, 42, 89, 180, 0, 48, 6, 104, 181, 0, 48, 132, 5, 1, 167, 255, 170, 177]
theorem bcX0_know_60_ok : z_bys cX0_know 60 bcX0_know_60 = true := by decide +kernel
theorem dX0_know_0 : decode cX0_know 0 = .ok (.aload_n 0, 1) := zo_42 (z_byk bcX0_know_0 0 0 _ bcX0_know_0_ok rfl)
theorem dX0_know_1 : decode cX0_know 1 = .ok (.aload_n 1, 1) := zo_43 (z_byk bcX0_know_0 0 1 _ bcX0_know_0_ok rfl)
theorem dX0_know_10 : decode cX0_know 10 = .ok (.aload_n 0, 1) := zo_42 (z_byk bcX0_know_0 0 10 _ bcX0_know_0_ok rfl)
theorem dX0_know_102 : decode cX0_know 102 = .ok (.aload_n 0, 1) := zo_42 (z_byk bcX0_know_60 60 42 _ bcX0_know_60_ok rfl)
theorem dX0_know_103 : decode cX0_know 103 = .ok (.dup, 1) := zo_89 (z_byk bcX0_know_60 60 43 _ bcX0_know_60_ok rfl)
theorem dX0_know_104 : decode cX0_know 104 = .ok (.getfield 48, 3) := zo_180 (z_byk bcX0_know_60 60 44 _ bcX0_know_60_ok rfl) (z_byk bcX0_know_60 60 45 _ bcX0_know_60_ok rfl) (z_byk bcX0_know_60 60 46 _ bcX0_know_60_ok rfl) rfl
theorem dX0_know_107 : decode cX0_know 107 = .ok (.iconst 3, 1) := zo_6 (z_byk bcX0_know_60 60 47 _ bcX0_know_60_ok rfl)
theorem dX0_know_108 : decode cX0_know 108 = .ok (.imul, 1) := zo_104 (z_byk bcX0_know_60 60 48 _ bcX0_know_60_ok rfl)
theorem dX0_know_109 : decode cX0_know 109 = .ok (.putfield 48, 3) := zo_181 (z_byk bcX0_know_60 60 49 _ bcX0_know_60_ok rfl) (z_byk bcX0_know_60 60 50 _ bcX0_know_60_ok rfl) (z_byk bcX0_know_60 60 51 _ bcX0_know_60_ok rfl) rfl
theorem dX0_know_11 : decode cX0_know 11 = .ok (.iload 4, 2) := zo_21 (z_byk bcX0_know_0 0 11 _ bcX0_know_0_ok rfl) (z_byk bcX0_know_0 0 12 _ bcX0_know_0_ok rfl)
theorem dX0_know_112 : decode cX0_know 112 = .ok (.iinc 5 1, 3) := zo_132 (z_byk bcX0_know_60 60 52 _ bcX0_know_60_ok rfl) (z_byk bcX0_know_60 60 53 _ bcX0_know_60_ok rfl) (z_byk bcX0_know_60 60 54 _ bcX0_know_60_ok rfl) rfl
theorem dX0_know_115 : decode cX0_know 115 = .ok (.goto (-86), 3) := zo_167 (z_byk bcX0_know_60 60 55 _ bcX0_know_60_ok rfl) (z_byk bcX0_know_60 60 56 _ bcX0_know_60_ok rfl) (z_byk bcX0_know_60 60 57 _ bcX0_know_60_ok rfl) rfl
theorem dX0_know_118 : decode cX0_know 118 = .ok (.return_, 1) := zo_177 (z_byk bcX0_know_60 60 58 _ bcX0_know_60_ok rfl)
theorem dX0_know_13 : decode cX0_know 13 = .ok (.putfield 42, 3) := zo_181 (z_byk bcX0_know_0 0 13 _ bcX0_know_0_ok rfl) (z_byk bcX0_know_0 0 14 _ bcX0_know_0_ok rfl) (z_byk bcX0_know_0 0 15 _ bcX0_know_0_ok rfl) rfl
theorem dX0_know_16 : decode cX0_know 16 = .ok (.aload_n 0, 1) := zo_42 (z_byk bcX0_know_0 0 16 _ bcX0_know_0_ok rfl)
theorem dX0_know_17 : decode cX0_know 17 = .ok (.iconst 0, 1) := zo_3 (z_byk bcX0_know_0 0 17 _ bcX0_know_0_ok rfl)
theorem dX0_know_18 : decode cX0_know 18 = .ok (.putfield 45, 3) := zo_181 (z_byk bcX0_know_0 0 18 _ bcX0_know_0_ok rfl) (z_byk bcX0_know_0 0 19 _ bcX0_know_0_ok rfl) (z_byk bcX0_know_0 0 20 _ bcX0_know_0_ok rfl) rfl
theorem dX0_know_2 : decode cX0_know 2 = .ok (.putfield 12, 3) := zo_181 (z_byk bcX0_know_0 0 2 _ bcX0_know_0_ok rfl) (z_byk bcX0_know_0 0 3 _ bcX0_know_0_ok rfl) (z_byk bcX0_know_0 0 4 _ bcX0_know_0_ok rfl) rfl
theorem dX0_know_21 : decode cX0_know 21 = .ok (.aload_n 0, 1) := zo_42 (z_byk bcX0_know_0 0 21 _ bcX0_know_0_ok rfl)
theorem dX0_know_22 : decode cX0_know 22 = .ok (.iconst 1, 1) := zo_4 (z_byk bcX0_know_0 0 22 _ bcX0_know_0_ok rfl)
theorem dX0_know_23 : decode cX0_know 23 = .ok (.putfield 48, 3) := zo_181 (z_byk bcX0_know_0 0 23 _ bcX0_know_0_ok rfl) (z_byk bcX0_know_0 0 24 _ bcX0_know_0_ok rfl) (z_byk bcX0_know_0 0 25 _ bcX0_know_0_ok rfl) rfl
theorem dX0_know_26 : decode cX0_know 26 = .ok (.iconst 0, 1) := zo_3 (z_byk bcX0_know_0 0 26 _ bcX0_know_0_ok rfl)
theorem dX0_know_27 : decode cX0_know 27 = .ok (.istore 5, 2) := zo_54 (z_byk bcX0_know_0 0 27 _ bcX0_know_0_ok rfl) (z_byk bcX0_know_0 0 28 _ bcX0_know_0_ok rfl)
theorem dX0_know_29 : decode cX0_know 29 = .ok (.iload 5, 2) := zo_21 (z_byk bcX0_know_0 0 29 _ bcX0_know_0_ok rfl) (z_byk bcX0_know_0 0 30 _ bcX0_know_0_ok rfl)
theorem dX0_know_31 : decode cX0_know 31 = .ok (.bipush 10, 2) := zo_16 (z_byk bcX0_know_0 0 31 _ bcX0_know_0_ok rfl) (z_byk bcX0_know_0 0 32 _ bcX0_know_0_ok rfl) rfl
theorem dX0_know_33 : decode cX0_know 33 = .ok (.if_icmp .ge 85, 3) := zo_162 (z_byk bcX0_know_0 0 33 _ bcX0_know_0_ok rfl) (z_byk bcX0_know_0 0 34 _ bcX0_know_0_ok rfl) (z_byk bcX0_know_0 0 35 _ bcX0_know_0_ok rfl) rfl
theorem dX0_know_36 : decode cX0_know 36 = .ok (.aload_n 0, 1) := zo_42 (z_byk bcX0_know_0 0 36 _ bcX0_know_0_ok rfl)
theorem dX0_know_37 : decode cX0_know 37 = .ok (.getfield 22, 3) := zo_180 (z_byk bcX0_know_0 0 37 _ bcX0_know_0_ok rfl) (z_byk bcX0_know_0 0 38 _ bcX0_know_0_ok rfl) (z_byk bcX0_know_0 0 39 _ bcX0_know_0_ok rfl) rfl
theorem dX0_know_40 : decode cX0_know 40 = .ok (.iload 5, 2) := zo_21 (z_byk bcX0_know_0 0 40 _ bcX0_know_0_ok rfl) (z_byk bcX0_know_0 0 41 _ bcX0_know_0_ok rfl)
theorem dX0_know_42 : decode cX0_know 42 = .ok (.iconst (-1), 1) := zo_2 (z_byk bcX0_know_0 0 42 _ bcX0_know_0_ok rfl)
theorem dX0_know_43 : decode cX0_know 43 = .ok (.iastore, 1) := zo_79 (z_byk bcX0_know_0 0 43 _ bcX0_know_0_ok rfl)
theorem dX0_know_44 : decode cX0_know 44 = .ok (.aload_n 1, 1) := zo_43 (z_byk bcX0_know_0 0 44 _ bcX0_know_0_ok rfl)
theorem dX0_know_45 : decode cX0_know 45 = .ok (.getfield 51, 3) := zo_180 (z_byk bcX0_know_0 0 45 _ bcX0_know_0_ok rfl) (z_byk bcX0_know_0 0 46 _ bcX0_know_0_ok rfl) (z_byk bcX0_know_0 0 47 _ bcX0_know_0_ok rfl) rfl
theorem dX0_know_48 : decode cX0_know 48 = .ok (.iload_n 2, 1) := zo_28 (z_byk bcX0_know_0 0 48 _ bcX0_know_0_ok rfl)
theorem dX0_know_49 : decode cX0_know 49 = .ok (.iand, 1) := zo_126 (z_byk bcX0_know_0 0 49 _ bcX0_know_0_ok rfl)
theorem dX0_know_5 : decode cX0_know 5 = .ok (.aload_n 0, 1) := zo_42 (z_byk bcX0_know_0 0 5 _ bcX0_know_0_ok rfl)
theorem dX0_know_50 : decode cX0_know 50 = .ok (.iload_n 3, 1) := zo_29 (z_byk bcX0_know_0 0 50 _ bcX0_know_0_ok rfl)
theorem dX0_know_51 : decode cX0_know 51 = .ok (.iconst (-1), 1) := zo_2 (z_byk bcX0_know_0 0 51 _ bcX0_know_0_ok rfl)
theorem dX0_know_52 : decode cX0_know 52 = .ok (.ixor, 1) := zo_130 (z_byk bcX0_know_0 0 52 _ bcX0_know_0_ok rfl)
theorem dX0_know_53 : decode cX0_know 53 = .ok (.iand, 1) := zo_126 (z_byk bcX0_know_0 0 53 _ bcX0_know_0_ok rfl)
theorem dX0_know_54 : decode cX0_know 54 = .ok (.iload 5, 2) := zo_21 (z_byk bcX0_know_0 0 54 _ bcX0_know_0_ok rfl) (z_byk bcX0_know_0 0 55 _ bcX0_know_0_ok rfl)
theorem dX0_know_56 : decode cX0_know 56 = .ok (.invokestatic 54, 3) := zo_184 (z_byk bcX0_know_0 0 56 _ bcX0_know_0_ok rfl) (z_byk bcX0_know_0 0 57 _ bcX0_know_0_ok rfl) (z_byk bcX0_know_0 0 58 _ bcX0_know_0_ok rfl) rfl
theorem dX0_know_59 : decode cX0_know 59 = .ok (.ifCond .eq 53, 3) := zo_153 (z_byk bcX0_know_0 0 59 _ bcX0_know_0_ok rfl) (z_byk bcX0_know_60 60 0 _ bcX0_know_60_ok rfl) (z_byk bcX0_know_60 60 1 _ bcX0_know_60_ok rfl) rfl
theorem dX0_know_6 : decode cX0_know 6 = .ok (.iload_n 2, 1) := zo_28 (z_byk bcX0_know_0 0 6 _ bcX0_know_0_ok rfl)
theorem dX0_know_62 : decode cX0_know 62 = .ok (.aload_n 0, 1) := zo_42 (z_byk bcX0_know_60 60 2 _ bcX0_know_60_ok rfl)
theorem dX0_know_63 : decode cX0_know 63 = .ok (.getfield 45, 3) := zo_180 (z_byk bcX0_know_60 60 3 _ bcX0_know_60_ok rfl) (z_byk bcX0_know_60 60 4 _ bcX0_know_60_ok rfl) (z_byk bcX0_know_60 60 5 _ bcX0_know_60_ok rfl) rfl
theorem dX0_know_66 : decode cX0_know 66 = .ok (.iconst 4, 1) := zo_7 (z_byk bcX0_know_60 60 6 _ bcX0_know_60_ok rfl)
theorem dX0_know_67 : decode cX0_know 67 = .ok (.if_icmp .ge 45, 3) := zo_162 (z_byk bcX0_know_60 60 7 _ bcX0_know_60_ok rfl) (z_byk bcX0_know_60 60 8 _ bcX0_know_60_ok rfl) (z_byk bcX0_know_60 60 9 _ bcX0_know_60_ok rfl) rfl
theorem dX0_know_7 : decode cX0_know 7 = .ok (.putfield 38, 3) := zo_181 (z_byk bcX0_know_0 0 7 _ bcX0_know_0_ok rfl) (z_byk bcX0_know_0 0 8 _ bcX0_know_0_ok rfl) (z_byk bcX0_know_0 0 9 _ bcX0_know_0_ok rfl) rfl
theorem dX0_know_70 : decode cX0_know 70 = .ok (.aload_n 0, 1) := zo_42 (z_byk bcX0_know_60 60 10 _ bcX0_know_60_ok rfl)
theorem dX0_know_71 : decode cX0_know 71 = .ok (.getfield 22, 3) := zo_180 (z_byk bcX0_know_60 60 11 _ bcX0_know_60_ok rfl) (z_byk bcX0_know_60 60 12 _ bcX0_know_60_ok rfl) (z_byk bcX0_know_60 60 13 _ bcX0_know_60_ok rfl) rfl
theorem dX0_know_74 : decode cX0_know 74 = .ok (.iload 5, 2) := zo_21 (z_byk bcX0_know_60 60 14 _ bcX0_know_60_ok rfl) (z_byk bcX0_know_60 60 15 _ bcX0_know_60_ok rfl)
theorem dX0_know_76 : decode cX0_know 76 = .ok (.aload_n 0, 1) := zo_42 (z_byk bcX0_know_60 60 16 _ bcX0_know_60_ok rfl)
theorem dX0_know_77 : decode cX0_know 77 = .ok (.getfield 45, 3) := zo_180 (z_byk bcX0_know_60 60 17 _ bcX0_know_60_ok rfl) (z_byk bcX0_know_60 60 18 _ bcX0_know_60_ok rfl) (z_byk bcX0_know_60 60 19 _ bcX0_know_60_ok rfl) rfl
theorem dX0_know_80 : decode cX0_know 80 = .ok (.iastore, 1) := zo_79 (z_byk bcX0_know_60 60 20 _ bcX0_know_60_ok rfl)
theorem dX0_know_81 : decode cX0_know 81 = .ok (.aload_n 0, 1) := zo_42 (z_byk bcX0_know_60 60 21 _ bcX0_know_60_ok rfl)
theorem dX0_know_82 : decode cX0_know 82 = .ok (.getfield 18, 3) := zo_180 (z_byk bcX0_know_60 60 22 _ bcX0_know_60_ok rfl) (z_byk bcX0_know_60 60 23 _ bcX0_know_60_ok rfl) (z_byk bcX0_know_60 60 24 _ bcX0_know_60_ok rfl) rfl
theorem dX0_know_85 : decode cX0_know 85 = .ok (.aload_n 0, 1) := zo_42 (z_byk bcX0_know_60 60 25 _ bcX0_know_60_ok rfl)
theorem dX0_know_86 : decode cX0_know 86 = .ok (.getfield 45, 3) := zo_180 (z_byk bcX0_know_60 60 26 _ bcX0_know_60_ok rfl) (z_byk bcX0_know_60 60 27 _ bcX0_know_60_ok rfl) (z_byk bcX0_know_60 60 28 _ bcX0_know_60_ok rfl) rfl
theorem dX0_know_89 : decode cX0_know 89 = .ok (.iload 5, 2) := zo_21 (z_byk bcX0_know_60 60 29 _ bcX0_know_60_ok rfl) (z_byk bcX0_know_60 60 30 _ bcX0_know_60_ok rfl)
theorem dX0_know_91 : decode cX0_know 91 = .ok (.iastore, 1) := zo_79 (z_byk bcX0_know_60 60 31 _ bcX0_know_60_ok rfl)
theorem dX0_know_92 : decode cX0_know 92 = .ok (.aload_n 0, 1) := zo_42 (z_byk bcX0_know_60 60 32 _ bcX0_know_60_ok rfl)
theorem dX0_know_93 : decode cX0_know 93 = .ok (.dup, 1) := zo_89 (z_byk bcX0_know_60 60 33 _ bcX0_know_60_ok rfl)
theorem dX0_know_94 : decode cX0_know 94 = .ok (.getfield 45, 3) := zo_180 (z_byk bcX0_know_60 60 34 _ bcX0_know_60_ok rfl) (z_byk bcX0_know_60 60 35 _ bcX0_know_60_ok rfl) (z_byk bcX0_know_60 60 36 _ bcX0_know_60_ok rfl) rfl
theorem dX0_know_97 : decode cX0_know 97 = .ok (.iconst 1, 1) := zo_4 (z_byk bcX0_know_60 60 37 _ bcX0_know_60_ok rfl)
theorem dX0_know_98 : decode cX0_know 98 = .ok (.iadd, 1) := zo_96 (z_byk bcX0_know_60 60 38 _ bcX0_know_60_ok rfl)
theorem dX0_know_99 : decode cX0_know 99 = .ok (.putfield 45, 3) := zo_181 (z_byk bcX0_know_60 60 39 _ bcX0_know_60_ok rfl) (z_byk bcX0_know_60 60 40 _ bcX0_know_60_ok rfl) (z_byk bcX0_know_60 60 41 _ bcX0_know_60_ok rfl) rfl
def bcX0_lookAtHour_0 : List Nat := [42, 180, 0, 38, 61, 3, 62, 29, 42, 180, 0, 45, 162, 0, 63, 42, 180, 0, 18, 29, 46, 54, 4, 28, 4, 21, 4, 120, 2, 130, 126, 61, 42, 180, 0, 29, 29, 42, 180, 0, 12, 21, 4, 27, 3, 182, 0, 79, 79, 42, 180, 0, 32, 29, 42, 180, 0, 12, 21, 4]
theorem bcX0_lookAtHour_0_ok : z_bys cX0_lookAtHour 0 bcX0_lookAtHour_0 = true := by decide +kernel
def bcX0_lookAtHour_60 : List Nat := [27, 4, 21, 4, 120, 182, 0, 79, 79, 132, 3, 1, 167, 255, 191, 42, 42, 180, 0, 12, 28, 27, 42, 180, 0, 42, 182, 0, 82, 181, 0, 85, 177]
theorem bcX0_lookAtHour_60_ok : z_bys cX0_lookAtHour 60 bcX0_lookAtHour_60 = true := by decide +kernel
theorem dX0_lookAtHour_0 : decode cX0_lookAtHour 0 = .ok (.aload_n 0, 1) := zo_42 (z_byk bcX0_lookAtHour_0 0 0 _ bcX0_lookAtHour_0_ok rfl)
theorem dX0_lookAtHour_1 : decode cX0_lookAtHour 1 = .ok (.getfield 38, 3) := zo_180 (z_byk bcX0_lookAtHour_0 0 1 _ bcX0_lookAtHour_0_ok rfl) (z_byk bcX0_lookAtHour_0 0 2 _ bcX0_lookAtHour_0_ok rfl) (z_byk bcX0_lookAtHour_0 0 3 _ bcX0_lookAtHour_0_ok rfl) rfl
theorem dX0_lookAtHour_12 : decode cX0_lookAtHour 12 = .ok (.if_icmp .ge 63, 3) := zo_162 (z_byk bcX0_lookAtHour_0 0 12 _ bcX0_lookAtHour_0_ok rfl) (z_byk bcX0_lookAtHour_0 0 13 _ bcX0_lookAtHour_0_ok rfl) (z_byk bcX0_lookAtHour_0 0 14 _ bcX0_lookAtHour_0_ok rfl) rfl
theorem dX0_lookAtHour_15 : decode cX0_lookAtHour 15 = .ok (.aload_n 0, 1) := zo_42 (z_byk bcX0_lookAtHour_0 0 15 _ bcX0_lookAtHour_0_ok rfl)
theorem dX0_lookAtHour_16 : decode cX0_lookAtHour 16 = .ok (.getfield 18, 3) := zo_180 (z_byk bcX0_lookAtHour_0 0 16 _ bcX0_lookAtHour_0_ok rfl) (z_byk bcX0_lookAtHour_0 0 17 _ bcX0_lookAtHour_0_ok rfl) (z_byk bcX0_lookAtHour_0 0 18 _ bcX0_lookAtHour_0_ok rfl) rfl
theorem dX0_lookAtHour_19 : decode cX0_lookAtHour 19 = .ok (.iload_n 3, 1) := zo_29 (z_byk bcX0_lookAtHour_0 0 19 _ bcX0_lookAtHour_0_ok rfl)
theorem dX0_lookAtHour_20 : decode cX0_lookAtHour 20 = .ok (.iaload, 1) := zo_46 (z_byk bcX0_lookAtHour_0 0 20 _ bcX0_lookAtHour_0_ok rfl)
theorem dX0_lookAtHour_21 : decode cX0_lookAtHour 21 = .ok (.istore 4, 2) := zo_54 (z_byk bcX0_lookAtHour_0 0 21 _ bcX0_lookAtHour_0_ok rfl) (z_byk bcX0_lookAtHour_0 0 22 _ bcX0_lookAtHour_0_ok rfl)
theorem dX0_lookAtHour_23 : decode cX0_lookAtHour 23 = .ok (.iload_n 2, 1) := zo_28 (z_byk bcX0_lookAtHour_0 0 23 _ bcX0_lookAtHour_0_ok rfl)
theorem dX0_lookAtHour_24 : decode cX0_lookAtHour 24 = .ok (.iconst 1, 1) := zo_4 (z_byk bcX0_lookAtHour_0 0 24 _ bcX0_lookAtHour_0_ok rfl)
theorem dX0_lookAtHour_25 : decode cX0_lookAtHour 25 = .ok (.iload 4, 2) := zo_21 (z_byk bcX0_lookAtHour_0 0 25 _ bcX0_lookAtHour_0_ok rfl) (z_byk bcX0_lookAtHour_0 0 26 _ bcX0_lookAtHour_0_ok rfl)
theorem dX0_lookAtHour_27 : decode cX0_lookAtHour 27 = .ok (.ishl, 1) := zo_120 (z_byk bcX0_lookAtHour_0 0 27 _ bcX0_lookAtHour_0_ok rfl)
theorem dX0_lookAtHour_28 : decode cX0_lookAtHour 28 = .ok (.iconst (-1), 1) := zo_2 (z_byk bcX0_lookAtHour_0 0 28 _ bcX0_lookAtHour_0_ok rfl)
theorem dX0_lookAtHour_29 : decode cX0_lookAtHour 29 = .ok (.ixor, 1) := zo_130 (z_byk bcX0_lookAtHour_0 0 29 _ bcX0_lookAtHour_0_ok rfl)
theorem dX0_lookAtHour_30 : decode cX0_lookAtHour 30 = .ok (.iand, 1) := zo_126 (z_byk bcX0_lookAtHour_0 0 30 _ bcX0_lookAtHour_0_ok rfl)
theorem dX0_lookAtHour_31 : decode cX0_lookAtHour 31 = .ok (.istore_n 2, 1) := zo_61 (z_byk bcX0_lookAtHour_0 0 31 _ bcX0_lookAtHour_0_ok rfl)
theorem dX0_lookAtHour_32 : decode cX0_lookAtHour 32 = .ok (.aload_n 0, 1) := zo_42 (z_byk bcX0_lookAtHour_0 0 32 _ bcX0_lookAtHour_0_ok rfl)
theorem dX0_lookAtHour_33 : decode cX0_lookAtHour 33 = .ok (.getfield 29, 3) := zo_180 (z_byk bcX0_lookAtHour_0 0 33 _ bcX0_lookAtHour_0_ok rfl) (z_byk bcX0_lookAtHour_0 0 34 _ bcX0_lookAtHour_0_ok rfl) (z_byk bcX0_lookAtHour_0 0 35 _ bcX0_lookAtHour_0_ok rfl) rfl
theorem dX0_lookAtHour_36 : decode cX0_lookAtHour 36 = .ok (.iload_n 3, 1) := zo_29 (z_byk bcX0_lookAtHour_0 0 36 _ bcX0_lookAtHour_0_ok rfl)
theorem dX0_lookAtHour_37 : decode cX0_lookAtHour 37 = .ok (.aload_n 0, 1) := zo_42 (z_byk bcX0_lookAtHour_0 0 37 _ bcX0_lookAtHour_0_ok rfl)
theorem dX0_lookAtHour_38 : decode cX0_lookAtHour 38 = .ok (.getfield 12, 3) := zo_180 (z_byk bcX0_lookAtHour_0 0 38 _ bcX0_lookAtHour_0_ok rfl) (z_byk bcX0_lookAtHour_0 0 39 _ bcX0_lookAtHour_0_ok rfl) (z_byk bcX0_lookAtHour_0 0 40 _ bcX0_lookAtHour_0_ok rfl) rfl
theorem dX0_lookAtHour_4 : decode cX0_lookAtHour 4 = .ok (.istore_n 2, 1) := zo_61 (z_byk bcX0_lookAtHour_0 0 4 _ bcX0_lookAtHour_0_ok rfl)
theorem dX0_lookAtHour_41 : decode cX0_lookAtHour 41 = .ok (.iload 4, 2) := zo_21 (z_byk bcX0_lookAtHour_0 0 41 _ bcX0_lookAtHour_0_ok rfl) (z_byk bcX0_lookAtHour_0 0 42 _ bcX0_lookAtHour_0_ok rfl)
theorem dX0_lookAtHour_43 : decode cX0_lookAtHour 43 = .ok (.iload_n 1, 1) := zo_27 (z_byk bcX0_lookAtHour_0 0 43 _ bcX0_lookAtHour_0_ok rfl)
theorem dX0_lookAtHour_44 : decode cX0_lookAtHour 44 = .ok (.iconst 0, 1) := zo_3 (z_byk bcX0_lookAtHour_0 0 44 _ bcX0_lookAtHour_0_ok rfl)
theorem dX0_lookAtHour_45 : decode cX0_lookAtHour 45 = .ok (.invokevirtual 79, 3) := zo_182 (z_byk bcX0_lookAtHour_0 0 45 _ bcX0_lookAtHour_0_ok rfl) (z_byk bcX0_lookAtHour_0 0 46 _ bcX0_lookAtHour_0_ok rfl) (z_byk bcX0_lookAtHour_0 0 47 _ bcX0_lookAtHour_0_ok rfl) rfl
theorem dX0_lookAtHour_48 : decode cX0_lookAtHour 48 = .ok (.iastore, 1) := zo_79 (z_byk bcX0_lookAtHour_0 0 48 _ bcX0_lookAtHour_0_ok rfl)
theorem dX0_lookAtHour_49 : decode cX0_lookAtHour 49 = .ok (.aload_n 0, 1) := zo_42 (z_byk bcX0_lookAtHour_0 0 49 _ bcX0_lookAtHour_0_ok rfl)
theorem dX0_lookAtHour_5 : decode cX0_lookAtHour 5 = .ok (.iconst 0, 1) := zo_3 (z_byk bcX0_lookAtHour_0 0 5 _ bcX0_lookAtHour_0_ok rfl)
theorem dX0_lookAtHour_50 : decode cX0_lookAtHour 50 = .ok (.getfield 32, 3) := zo_180 (z_byk bcX0_lookAtHour_0 0 50 _ bcX0_lookAtHour_0_ok rfl) (z_byk bcX0_lookAtHour_0 0 51 _ bcX0_lookAtHour_0_ok rfl) (z_byk bcX0_lookAtHour_0 0 52 _ bcX0_lookAtHour_0_ok rfl) rfl
theorem dX0_lookAtHour_53 : decode cX0_lookAtHour 53 = .ok (.iload_n 3, 1) := zo_29 (z_byk bcX0_lookAtHour_0 0 53 _ bcX0_lookAtHour_0_ok rfl)
theorem dX0_lookAtHour_54 : decode cX0_lookAtHour 54 = .ok (.aload_n 0, 1) := zo_42 (z_byk bcX0_lookAtHour_0 0 54 _ bcX0_lookAtHour_0_ok rfl)
theorem dX0_lookAtHour_55 : decode cX0_lookAtHour 55 = .ok (.getfield 12, 3) := zo_180 (z_byk bcX0_lookAtHour_0 0 55 _ bcX0_lookAtHour_0_ok rfl) (z_byk bcX0_lookAtHour_0 0 56 _ bcX0_lookAtHour_0_ok rfl) (z_byk bcX0_lookAtHour_0 0 57 _ bcX0_lookAtHour_0_ok rfl) rfl
theorem dX0_lookAtHour_58 : decode cX0_lookAtHour 58 = .ok (.iload 4, 2) := zo_21 (z_byk bcX0_lookAtHour_0 0 58 _ bcX0_lookAtHour_0_ok rfl) (z_byk bcX0_lookAtHour_0 0 59 _ bcX0_lookAtHour_0_ok rfl)
theorem dX0_lookAtHour_6 : decode cX0_lookAtHour 6 = .ok (.istore_n 3, 1) := zo_62 (z_byk bcX0_lookAtHour_0 0 6 _ bcX0_lookAtHour_0_ok rfl)
theorem dX0_lookAtHour_60 : decode cX0_lookAtHour 60 = .ok (.iload_n 1, 1) := zo_27 (z_byk bcX0_lookAtHour_60 60 0 _ bcX0_lookAtHour_60_ok rfl)
theorem dX0_lookAtHour_61 : decode cX0_lookAtHour 61 = .ok (.iconst 1, 1) := zo_4 (z_byk bcX0_lookAtHour_60 60 1 _ bcX0_lookAtHour_60_ok rfl)
theorem dX0_lookAtHour_62 : decode cX0_lookAtHour 62 = .ok (.iload 4, 2) := zo_21 (z_byk bcX0_lookAtHour_60 60 2 _ bcX0_lookAtHour_60_ok rfl) (z_byk bcX0_lookAtHour_60 60 3 _ bcX0_lookAtHour_60_ok rfl)
theorem dX0_lookAtHour_64 : decode cX0_lookAtHour 64 = .ok (.ishl, 1) := zo_120 (z_byk bcX0_lookAtHour_60 60 4 _ bcX0_lookAtHour_60_ok rfl)
theorem dX0_lookAtHour_65 : decode cX0_lookAtHour 65 = .ok (.invokevirtual 79, 3) := zo_182 (z_byk bcX0_lookAtHour_60 60 5 _ bcX0_lookAtHour_60_ok rfl) (z_byk bcX0_lookAtHour_60 60 6 _ bcX0_lookAtHour_60_ok rfl) (z_byk bcX0_lookAtHour_60 60 7 _ bcX0_lookAtHour_60_ok rfl) rfl
theorem dX0_lookAtHour_68 : decode cX0_lookAtHour 68 = .ok (.iastore, 1) := zo_79 (z_byk bcX0_lookAtHour_60 60 8 _ bcX0_lookAtHour_60_ok rfl)
theorem dX0_lookAtHour_69 : decode cX0_lookAtHour 69 = .ok (.iinc 3 1, 3) := zo_132 (z_byk bcX0_lookAtHour_60 60 9 _ bcX0_lookAtHour_60_ok rfl) (z_byk bcX0_lookAtHour_60 60 10 _ bcX0_lookAtHour_60_ok rfl) (z_byk bcX0_lookAtHour_60 60 11 _ bcX0_lookAtHour_60_ok rfl) rfl
theorem dX0_lookAtHour_7 : decode cX0_lookAtHour 7 = .ok (.iload_n 3, 1) := zo_29 (z_byk bcX0_lookAtHour_0 0 7 _ bcX0_lookAtHour_0_ok rfl)
theorem dX0_lookAtHour_72 : decode cX0_lookAtHour 72 = .ok (.goto (-65), 3) := zo_167 (z_byk bcX0_lookAtHour_60 60 12 _ bcX0_lookAtHour_60_ok rfl) (z_byk bcX0_lookAtHour_60 60 13 _ bcX0_lookAtHour_60_ok rfl) (z_byk bcX0_lookAtHour_60 60 14 _ bcX0_lookAtHour_60_ok rfl) rfl
theorem dX0_lookAtHour_75 : decode cX0_lookAtHour 75 = .ok (.aload_n 0, 1) := zo_42 (z_byk bcX0_lookAtHour_60 60 15 _ bcX0_lookAtHour_60_ok rfl)
theorem dX0_lookAtHour_76 : decode cX0_lookAtHour 76 = .ok (.aload_n 0, 1) := zo_42 (z_byk bcX0_lookAtHour_60 60 16 _ bcX0_lookAtHour_60_ok rfl)
theorem dX0_lookAtHour_77 : decode cX0_lookAtHour 77 = .ok (.getfield 12, 3) := zo_180 (z_byk bcX0_lookAtHour_60 60 17 _ bcX0_lookAtHour_60_ok rfl) (z_byk bcX0_lookAtHour_60 60 18 _ bcX0_lookAtHour_60_ok rfl) (z_byk bcX0_lookAtHour_60 60 19 _ bcX0_lookAtHour_60_ok rfl) rfl
theorem dX0_lookAtHour_8 : decode cX0_lookAtHour 8 = .ok (.aload_n 0, 1) := zo_42 (z_byk bcX0_lookAtHour_0 0 8 _ bcX0_lookAtHour_0_ok rfl)
theorem dX0_lookAtHour_80 : decode cX0_lookAtHour 80 = .ok (.iload_n 2, 1) := zo_28 (z_byk bcX0_lookAtHour_60 60 20 _ bcX0_lookAtHour_60_ok rfl)
theorem dX0_lookAtHour_81 : decode cX0_lookAtHour 81 = .ok (.iload_n 1, 1) := zo_27 (z_byk bcX0_lookAtHour_60 60 21 _ bcX0_lookAtHour_60_ok rfl)
theorem dX0_lookAtHour_82 : decode cX0_lookAtHour 82 = .ok (.aload_n 0, 1) := zo_42 (z_byk bcX0_lookAtHour_60 60 22 _ bcX0_lookAtHour_60_ok rfl)
theorem dX0_lookAtHour_83 : decode cX0_lookAtHour 83 = .ok (.getfield 42, 3) := zo_180 (z_byk bcX0_lookAtHour_60 60 23 _ bcX0_lookAtHour_60_ok rfl) (z_byk bcX0_lookAtHour_60 60 24 _ bcX0_lookAtHour_60_ok rfl) (z_byk bcX0_lookAtHour_60 60 25 _ bcX0_lookAtHour_60_ok rfl) rfl
theorem dX0_lookAtHour_86 : decode cX0_lookAtHour 86 = .ok (.invokevirtual 82, 3) := zo_182 (z_byk bcX0_lookAtHour_60 60 26 _ bcX0_lookAtHour_60_ok rfl) (z_byk bcX0_lookAtHour_60 60 27 _ bcX0_lookAtHour_60_ok rfl) (z_byk bcX0_lookAtHour_60 60 28 _ bcX0_lookAtHour_60_ok rfl) rfl
theorem dX0_lookAtHour_89 : decode cX0_lookAtHour 89 = .ok (.putfield 85, 3) := zo_181 (z_byk bcX0_lookAtHour_60 60 29 _ bcX0_lookAtHour_60_ok rfl) (z_byk bcX0_lookAtHour_60 60 30 _ bcX0_lookAtHour_60_ok rfl) (z_byk bcX0_lookAtHour_60 60 31 _ bcX0_lookAtHour_60_ok rfl) rfl
theorem dX0_lookAtHour_9 : decode cX0_lookAtHour 9 = .ok (.getfield 45, 3) := zo_180 (z_byk bcX0_lookAtHour_0 0 9 _ bcX0_lookAtHour_0_ok rfl) (z_byk bcX0_lookAtHour_0 0 10 _ bcX0_lookAtHour_0_ok rfl) (z_byk bcX0_lookAtHour_0 0 11 _ bcX0_lookAtHour_0_ok rfl) rfl
theorem dX0_lookAtHour_92 : decode cX0_lookAtHour 92 = .ok (.return_, 1) := zo_177 (z_byk bcX0_lookAtHour_60 60 32 _ bcX0_lookAtHour_60_ok rfl)
def bcX0_lookAtState_0 : List Nat := [27, 61, 42, 42, 180, 0, 85, 181, 0, 88, 42, 3, 181, 0, 91, 3, 62, 29, 42, 180, 0, 45, 162, 0, 67, 42, 180, 0, 35, 29, 28, 6, 112, 79, 28, 6, 108, 61, 42, 89, 180, 0, 88, 42, 29, 182, 0, 94, 128, 181, 0, 88, 42, 180, 0, 35, 29, 46, 154, 0]
theorem bcX0_lookAtState_0_ok : z_bys cX0_lookAtState 0 bcX0_lookAtState_0 = true := by decide +kernel
def bcX0_lookAtState_60 : List Nat := [25, 42, 89, 180, 0, 91, 42, 180, 0, 29, 29, 46, 42, 180, 0, 32, 29, 46, 130, 128, 181, 0, 91, 132, 3, 1, 167, 255, 187, 177]
theorem bcX0_lookAtState_60_ok : z_bys cX0_lookAtState 60 bcX0_lookAtState_60 = true := by decide +kernel
theorem dX0_lookAtState_0 : decode cX0_lookAtState 0 = .ok (.iload_n 1, 1) := zo_27 (z_byk bcX0_lookAtState_0 0 0 _ bcX0_lookAtState_0_ok rfl)
theorem dX0_lookAtState_1 : decode cX0_lookAtState 1 = .ok (.istore_n 2, 1) := zo_61 (z_byk bcX0_lookAtState_0 0 1 _ bcX0_lookAtState_0_ok rfl)
theorem dX0_lookAtState_10 : decode cX0_lookAtState 10 = .ok (.aload_n 0, 1) := zo_42 (z_byk bcX0_lookAtState_0 0 10 _ bcX0_lookAtState_0_ok rfl)
theorem dX0_lookAtState_11 : decode cX0_lookAtState 11 = .ok (.iconst 0, 1) := zo_3 (z_byk bcX0_lookAtState_0 0 11 _ bcX0_lookAtState_0_ok rfl)
theorem dX0_lookAtState_12 : decode cX0_lookAtState 12 = .ok (.putfield 91, 3) := zo_181 (z_byk bcX0_lookAtState_0 0 12 _ bcX0_lookAtState_0_ok rfl) (z_byk bcX0_lookAtState_0 0 13 _ bcX0_lookAtState_0_ok rfl) (z_byk bcX0_lookAtState_0 0 14 _ bcX0_lookAtState_0_ok rfl) rfl
theorem dX0_lookAtState_15 : decode cX0_lookAtState 15 = .ok (.iconst 0, 1) := zo_3 (z_byk bcX0_lookAtState_0 0 15 _ bcX0_lookAtState_0_ok rfl)
theorem dX0_lookAtState_16 : decode cX0_lookAtState 16 = .ok (.istore_n 3, 1) := zo_62 (z_byk bcX0_lookAtState_0 0 16 _ bcX0_lookAtState_0_ok rfl)
theorem dX0_lookAtState_17 : decode cX0_lookAtState 17 = .ok (.iload_n 3, 1) := zo_29 (z_byk bcX0_lookAtState_0 0 17 _ bcX0_lookAtState_0_ok rfl)
theorem dX0_lookAtState_18 : decode cX0_lookAtState 18 = .ok (.aload_n 0, 1) := zo_42 (z_byk bcX0_lookAtState_0 0 18 _ bcX0_lookAtState_0_ok rfl)
theorem dX0_lookAtState_19 : decode cX0_lookAtState 19 = .ok (.getfield 45, 3) := zo_180 (z_byk bcX0_lookAtState_0 0 19 _ bcX0_lookAtState_0_ok rfl) (z_byk bcX0_lookAtState_0 0 20 _ bcX0_lookAtState_0_ok rfl) (z_byk bcX0_lookAtState_0 0 21 _ bcX0_lookAtState_0_ok rfl) rfl
theorem dX0_lookAtState_2 : decode cX0_lookAtState 2 = .ok (.aload_n 0, 1) := zo_42 (z_byk bcX0_lookAtState_0 0 2 _ bcX0_lookAtState_0_ok rfl)
theorem dX0_lookAtState_22 : decode cX0_lookAtState 22 = .ok (.if_icmp .ge 67, 3) := zo_162 (z_byk bcX0_lookAtState_0 0 22 _ bcX0_lookAtState_0_ok rfl) (z_byk bcX0_lookAtState_0 0 23 _ bcX0_lookAtState_0_ok rfl) (z_byk bcX0_lookAtState_0 0 24 _ bcX0_lookAtState_0_ok rfl) rfl
theorem dX0_lookAtState_25 : decode cX0_lookAtState 25 = .ok (.aload_n 0, 1) := zo_42 (z_byk bcX0_lookAtState_0 0 25 _ bcX0_lookAtState_0_ok rfl)
theorem dX0_lookAtState_26 : decode cX0_lookAtState 26 = .ok (.getfield 35, 3) := zo_180 (z_byk bcX0_lookAtState_0 0 26 _ bcX0_lookAtState_0_ok rfl) (z_byk bcX0_lookAtState_0 0 27 _ bcX0_lookAtState_0_ok rfl) (z_byk bcX0_lookAtState_0 0 28 _ bcX0_lookAtState_0_ok rfl) rfl
theorem dX0_lookAtState_29 : decode cX0_lookAtState 29 = .ok (.iload_n 3, 1) := zo_29 (z_byk bcX0_lookAtState_0 0 29 _ bcX0_lookAtState_0_ok rfl)
theorem dX0_lookAtState_3 : decode cX0_lookAtState 3 = .ok (.aload_n 0, 1) := zo_42 (z_byk bcX0_lookAtState_0 0 3 _ bcX0_lookAtState_0_ok rfl)
theorem dX0_lookAtState_30 : decode cX0_lookAtState 30 = .ok (.iload_n 2, 1) := zo_28 (z_byk bcX0_lookAtState_0 0 30 _ bcX0_lookAtState_0_ok rfl)
theorem dX0_lookAtState_31 : decode cX0_lookAtState 31 = .ok (.iconst 3, 1) := zo_6 (z_byk bcX0_lookAtState_0 0 31 _ bcX0_lookAtState_0_ok rfl)
theorem dX0_lookAtState_32 : decode cX0_lookAtState 32 = .ok (.irem, 1) := zo_112 (z_byk bcX0_lookAtState_0 0 32 _ bcX0_lookAtState_0_ok rfl)
theorem dX0_lookAtState_33 : decode cX0_lookAtState 33 = .ok (.iastore, 1) := zo_79 (z_byk bcX0_lookAtState_0 0 33 _ bcX0_lookAtState_0_ok rfl)
theorem dX0_lookAtState_34 : decode cX0_lookAtState 34 = .ok (.iload_n 2, 1) := zo_28 (z_byk bcX0_lookAtState_0 0 34 _ bcX0_lookAtState_0_ok rfl)
theorem dX0_lookAtState_35 : decode cX0_lookAtState 35 = .ok (.iconst 3, 1) := zo_6 (z_byk bcX0_lookAtState_0 0 35 _ bcX0_lookAtState_0_ok rfl)
theorem dX0_lookAtState_36 : decode cX0_lookAtState 36 = .ok (.idiv, 1) := zo_108 (z_byk bcX0_lookAtState_0 0 36 _ bcX0_lookAtState_0_ok rfl)
theorem dX0_lookAtState_37 : decode cX0_lookAtState 37 = .ok (.istore_n 2, 1) := zo_61 (z_byk bcX0_lookAtState_0 0 37 _ bcX0_lookAtState_0_ok rfl)
theorem dX0_lookAtState_38 : decode cX0_lookAtState 38 = .ok (.aload_n 0, 1) := zo_42 (z_byk bcX0_lookAtState_0 0 38 _ bcX0_lookAtState_0_ok rfl)
theorem dX0_lookAtState_39 : decode cX0_lookAtState 39 = .ok (.dup, 1) := zo_89 (z_byk bcX0_lookAtState_0 0 39 _ bcX0_lookAtState_0_ok rfl)
theorem dX0_lookAtState_4 : decode cX0_lookAtState 4 = .ok (.getfield 85, 3) := zo_180 (z_byk bcX0_lookAtState_0 0 4 _ bcX0_lookAtState_0_ok rfl) (z_byk bcX0_lookAtState_0 0 5 _ bcX0_lookAtState_0_ok rfl) (z_byk bcX0_lookAtState_0 0 6 _ bcX0_lookAtState_0_ok rfl) rfl
theorem dX0_lookAtState_40 : decode cX0_lookAtState 40 = .ok (.getfield 88, 3) := zo_180 (z_byk bcX0_lookAtState_0 0 40 _ bcX0_lookAtState_0_ok rfl) (z_byk bcX0_lookAtState_0 0 41 _ bcX0_lookAtState_0_ok rfl) (z_byk bcX0_lookAtState_0 0 42 _ bcX0_lookAtState_0_ok rfl) rfl
theorem dX0_lookAtState_43 : decode cX0_lookAtState 43 = .ok (.aload_n 0, 1) := zo_42 (z_byk bcX0_lookAtState_0 0 43 _ bcX0_lookAtState_0_ok rfl)
theorem dX0_lookAtState_44 : decode cX0_lookAtState 44 = .ok (.iload_n 3, 1) := zo_29 (z_byk bcX0_lookAtState_0 0 44 _ bcX0_lookAtState_0_ok rfl)
theorem dX0_lookAtState_45 : decode cX0_lookAtState 45 = .ok (.invokevirtual 94, 3) := zo_182 (z_byk bcX0_lookAtState_0 0 45 _ bcX0_lookAtState_0_ok rfl) (z_byk bcX0_lookAtState_0 0 46 _ bcX0_lookAtState_0_ok rfl) (z_byk bcX0_lookAtState_0 0 47 _ bcX0_lookAtState_0_ok rfl) rfl
theorem dX0_lookAtState_48 : decode cX0_lookAtState 48 = .ok (.ior, 1) := zo_128 (z_byk bcX0_lookAtState_0 0 48 _ bcX0_lookAtState_0_ok rfl)
theorem dX0_lookAtState_49 : decode cX0_lookAtState 49 = .ok (.putfield 88, 3) := zo_181 (z_byk bcX0_lookAtState_0 0 49 _ bcX0_lookAtState_0_ok rfl) (z_byk bcX0_lookAtState_0 0 50 _ bcX0_lookAtState_0_ok rfl) (z_byk bcX0_lookAtState_0 0 51 _ bcX0_lookAtState_0_ok rfl) rfl
theorem dX0_lookAtState_52 : decode cX0_lookAtState 52 = .ok (.aload_n 0, 1) := zo_42 (z_byk bcX0_lookAtState_0 0 52 _ bcX0_lookAtState_0_ok rfl)
theorem dX0_lookAtState_53 : decode cX0_lookAtState 53 = .ok (.getfield 35, 3) := zo_180 (z_byk bcX0_lookAtState_0 0 53 _ bcX0_lookAtState_0_ok rfl) (z_byk bcX0_lookAtState_0 0 54 _ bcX0_lookAtState_0_ok rfl) (z_byk bcX0_lookAtState_0 0 55 _ bcX0_lookAtState_0_ok rfl) rfl
theorem dX0_lookAtState_56 : decode cX0_lookAtState 56 = .ok (.iload_n 3, 1) := zo_29 (z_byk bcX0_lookAtState_0 0 56 _ bcX0_lookAtState_0_ok rfl)
theorem dX0_lookAtState_57 : decode cX0_lookAtState 57 = .ok (.iaload, 1) := zo_46 (z_byk bcX0_lookAtState_0 0 57 _ bcX0_lookAtState_0_ok rfl)
theorem dX0_lookAtState_58 : decode cX0_lookAtState 58 = .ok (.ifCond .ne 25, 3) := zo_154 (z_byk bcX0_lookAtState_0 0 58 _ bcX0_lookAtState_0_ok rfl) (z_byk bcX0_lookAtState_0 0 59 _ bcX0_lookAtState_0_ok rfl) (z_byk bcX0_lookAtState_60 60 0 _ bcX0_lookAtState_60_ok rfl) rfl
theorem dX0_lookAtState_61 : decode cX0_lookAtState 61 = .ok (.aload_n 0, 1) := zo_42 (z_byk bcX0_lookAtState_60 60 1 _ bcX0_lookAtState_60_ok rfl)
theorem dX0_lookAtState_62 : decode cX0_lookAtState 62 = .ok (.dup, 1) := zo_89 (z_byk bcX0_lookAtState_60 60 2 _ bcX0_lookAtState_60_ok rfl)
theorem dX0_lookAtState_63 : decode cX0_lookAtState 63 = .ok (.getfield 91, 3) := zo_180 (z_byk bcX0_lookAtState_60 60 3 _ bcX0_lookAtState_60_ok rfl) (z_byk bcX0_lookAtState_60 60 4 _ bcX0_lookAtState_60_ok rfl) (z_byk bcX0_lookAtState_60 60 5 _ bcX0_lookAtState_60_ok rfl) rfl
theorem dX0_lookAtState_66 : decode cX0_lookAtState 66 = .ok (.aload_n 0, 1) := zo_42 (z_byk bcX0_lookAtState_60 60 6 _ bcX0_lookAtState_60_ok rfl)
theorem dX0_lookAtState_67 : decode cX0_lookAtState 67 = .ok (.getfield 29, 3) := zo_180 (z_byk bcX0_lookAtState_60 60 7 _ bcX0_lookAtState_60_ok rfl) (z_byk bcX0_lookAtState_60 60 8 _ bcX0_lookAtState_60_ok rfl) (z_byk bcX0_lookAtState_60 60 9 _ bcX0_lookAtState_60_ok rfl) rfl
theorem dX0_lookAtState_7 : decode cX0_lookAtState 7 = .ok (.putfield 88, 3) := zo_181 (z_byk bcX0_lookAtState_0 0 7 _ bcX0_lookAtState_0_ok rfl) (z_byk bcX0_lookAtState_0 0 8 _ bcX0_lookAtState_0_ok rfl) (z_byk bcX0_lookAtState_0 0 9 _ bcX0_lookAtState_0_ok rfl) rfl
theorem dX0_lookAtState_70 : decode cX0_lookAtState 70 = .ok (.iload_n 3, 1) := zo_29 (z_byk bcX0_lookAtState_60 60 10 _ bcX0_lookAtState_60_ok rfl)
theorem dX0_lookAtState_71 : decode cX0_lookAtState 71 = .ok (.iaload, 1) := zo_46 (z_byk bcX0_lookAtState_60 60 11 _ bcX0_lookAtState_60_ok rfl)
theorem dX0_lookAtState_72 : decode cX0_lookAtState 72 = .ok (.aload_n 0, 1) := zo_42 (z_byk bcX0_lookAtState_60 60 12 _ bcX0_lookAtState_60_ok rfl)
theorem dX0_lookAtState_73 : decode cX0_lookAtState 73 = .ok (.getfield 32, 3) := zo_180 (z_byk bcX0_lookAtState_60 60 13 _ bcX0_lookAtState_60_ok rfl) (z_byk bcX0_lookAtState_60 60 14 _ bcX0_lookAtState_60_ok rfl) (z_byk bcX0_lookAtState_60 60 15 _ bcX0_lookAtState_60_ok rfl) rfl
theorem dX0_lookAtState_76 : decode cX0_lookAtState 76 = .ok (.iload_n 3, 1) := zo_29 (z_byk bcX0_lookAtState_60 60 16 _ bcX0_lookAtState_60_ok rfl)
theorem dX0_lookAtState_77 : decode cX0_lookAtState 77 = .ok (.iaload, 1) := zo_46 (z_byk bcX0_lookAtState_60 60 17 _ bcX0_lookAtState_60_ok rfl)
theorem dX0_lookAtState_78 : decode cX0_lookAtState 78 = .ok (.ixor, 1) := zo_130 (z_byk bcX0_lookAtState_60 60 18 _ bcX0_lookAtState_60_ok rfl)
theorem dX0_lookAtState_79 : decode cX0_lookAtState 79 = .ok (.ior, 1) := zo_128 (z_byk bcX0_lookAtState_60 60 19 _ bcX0_lookAtState_60_ok rfl)
theorem dX0_lookAtState_80 : decode cX0_lookAtState 80 = .ok (.putfield 91, 3) := zo_181 (z_byk bcX0_lookAtState_60 60 20 _ bcX0_lookAtState_60_ok rfl) (z_byk bcX0_lookAtState_60 60 21 _ bcX0_lookAtState_60_ok rfl) (z_byk bcX0_lookAtState_60 60 22 _ bcX0_lookAtState_60_ok rfl) rfl
theorem dX0_lookAtState_83 : decode cX0_lookAtState 83 = .ok (.iinc 3 1, 3) := zo_132 (z_byk bcX0_lookAtState_60 60 23 _ bcX0_lookAtState_60_ok rfl) (z_byk bcX0_lookAtState_60 60 24 _ bcX0_lookAtState_60_ok rfl) (z_byk bcX0_lookAtState_60 60 25 _ bcX0_lookAtState_60_ok rfl) rfl
theorem dX0_lookAtState_86 : decode cX0_lookAtState 86 = .ok (.goto (-69), 3) := zo_167 (z_byk bcX0_lookAtState_60 60 26 _ bcX0_lookAtState_60_ok rfl) (z_byk bcX0_lookAtState_60 60 27 _ bcX0_lookAtState_60_ok rfl) (z_byk bcX0_lookAtState_60 60 28 _ bcX0_lookAtState_60_ok rfl) rfl
theorem dX0_lookAtState_89 : decode cX0_lookAtState 89 = .ok (.return_, 1) := zo_177 (z_byk bcX0_lookAtState_60 60 29 _ bcX0_lookAtState_60_ok rfl)
def bcX0_shownSurely_0 : List Nat := [42, 180, 0, 35, 27, 46, 154, 0, 17, 42, 180, 0, 29, 27, 46, 42, 180, 0, 32, 27, 46, 126, 172, 42, 180, 0, 35, 27, 46, 4, 160, 0, 12, 42, 180, 0, 29, 27, 46, 167, 0, 9, 42, 180, 0, 32, 27, 46, 172]
theorem bcX0_shownSurely_0_ok : z_bys cX0_shownSurely 0 bcX0_shownSurely_0 = true := by decide +kernel
theorem dX0_shownSurely_0 : decode cX0_shownSurely 0 = .ok (.aload_n 0, 1) := zo_42 (z_byk bcX0_shownSurely_0 0 0 _ bcX0_shownSurely_0_ok rfl)
theorem dX0_shownSurely_1 : decode cX0_shownSurely 1 = .ok (.getfield 35, 3) := zo_180 (z_byk bcX0_shownSurely_0 0 1 _ bcX0_shownSurely_0_ok rfl) (z_byk bcX0_shownSurely_0 0 2 _ bcX0_shownSurely_0_ok rfl) (z_byk bcX0_shownSurely_0 0 3 _ bcX0_shownSurely_0_ok rfl) rfl
theorem dX0_shownSurely_10 : decode cX0_shownSurely 10 = .ok (.getfield 29, 3) := zo_180 (z_byk bcX0_shownSurely_0 0 10 _ bcX0_shownSurely_0_ok rfl) (z_byk bcX0_shownSurely_0 0 11 _ bcX0_shownSurely_0_ok rfl) (z_byk bcX0_shownSurely_0 0 12 _ bcX0_shownSurely_0_ok rfl) rfl
theorem dX0_shownSurely_13 : decode cX0_shownSurely 13 = .ok (.iload_n 1, 1) := zo_27 (z_byk bcX0_shownSurely_0 0 13 _ bcX0_shownSurely_0_ok rfl)
theorem dX0_shownSurely_14 : decode cX0_shownSurely 14 = .ok (.iaload, 1) := zo_46 (z_byk bcX0_shownSurely_0 0 14 _ bcX0_shownSurely_0_ok rfl)
theorem dX0_shownSurely_15 : decode cX0_shownSurely 15 = .ok (.aload_n 0, 1) := zo_42 (z_byk bcX0_shownSurely_0 0 15 _ bcX0_shownSurely_0_ok rfl)
theorem dX0_shownSurely_16 : decode cX0_shownSurely 16 = .ok (.getfield 32, 3) := zo_180 (z_byk bcX0_shownSurely_0 0 16 _ bcX0_shownSurely_0_ok rfl) (z_byk bcX0_shownSurely_0 0 17 _ bcX0_shownSurely_0_ok rfl) (z_byk bcX0_shownSurely_0 0 18 _ bcX0_shownSurely_0_ok rfl) rfl
theorem dX0_shownSurely_19 : decode cX0_shownSurely 19 = .ok (.iload_n 1, 1) := zo_27 (z_byk bcX0_shownSurely_0 0 19 _ bcX0_shownSurely_0_ok rfl)
theorem dX0_shownSurely_20 : decode cX0_shownSurely 20 = .ok (.iaload, 1) := zo_46 (z_byk bcX0_shownSurely_0 0 20 _ bcX0_shownSurely_0_ok rfl)
theorem dX0_shownSurely_21 : decode cX0_shownSurely 21 = .ok (.iand, 1) := zo_126 (z_byk bcX0_shownSurely_0 0 21 _ bcX0_shownSurely_0_ok rfl)
theorem dX0_shownSurely_22 : decode cX0_shownSurely 22 = .ok (.ireturn, 1) := zo_172 (z_byk bcX0_shownSurely_0 0 22 _ bcX0_shownSurely_0_ok rfl)
theorem dX0_shownSurely_23 : decode cX0_shownSurely 23 = .ok (.aload_n 0, 1) := zo_42 (z_byk bcX0_shownSurely_0 0 23 _ bcX0_shownSurely_0_ok rfl)
theorem dX0_shownSurely_24 : decode cX0_shownSurely 24 = .ok (.getfield 35, 3) := zo_180 (z_byk bcX0_shownSurely_0 0 24 _ bcX0_shownSurely_0_ok rfl) (z_byk bcX0_shownSurely_0 0 25 _ bcX0_shownSurely_0_ok rfl) (z_byk bcX0_shownSurely_0 0 26 _ bcX0_shownSurely_0_ok rfl) rfl
theorem dX0_shownSurely_27 : decode cX0_shownSurely 27 = .ok (.iload_n 1, 1) := zo_27 (z_byk bcX0_shownSurely_0 0 27 _ bcX0_shownSurely_0_ok rfl)
theorem dX0_shownSurely_28 : decode cX0_shownSurely 28 = .ok (.iaload, 1) := zo_46 (z_byk bcX0_shownSurely_0 0 28 _ bcX0_shownSurely_0_ok rfl)
theorem dX0_shownSurely_29 : decode cX0_shownSurely 29 = .ok (.iconst 1, 1) := zo_4 (z_byk bcX0_shownSurely_0 0 29 _ bcX0_shownSurely_0_ok rfl)
theorem dX0_shownSurely_30 : decode cX0_shownSurely 30 = .ok (.if_icmp .ne 12, 3) := zo_160 (z_byk bcX0_shownSurely_0 0 30 _ bcX0_shownSurely_0_ok rfl) (z_byk bcX0_shownSurely_0 0 31 _ bcX0_shownSurely_0_ok rfl) (z_byk bcX0_shownSurely_0 0 32 _ bcX0_shownSurely_0_ok rfl) rfl
theorem dX0_shownSurely_33 : decode cX0_shownSurely 33 = .ok (.aload_n 0, 1) := zo_42 (z_byk bcX0_shownSurely_0 0 33 _ bcX0_shownSurely_0_ok rfl)
theorem dX0_shownSurely_34 : decode cX0_shownSurely 34 = .ok (.getfield 29, 3) := zo_180 (z_byk bcX0_shownSurely_0 0 34 _ bcX0_shownSurely_0_ok rfl) (z_byk bcX0_shownSurely_0 0 35 _ bcX0_shownSurely_0_ok rfl) (z_byk bcX0_shownSurely_0 0 36 _ bcX0_shownSurely_0_ok rfl) rfl
theorem dX0_shownSurely_37 : decode cX0_shownSurely 37 = .ok (.iload_n 1, 1) := zo_27 (z_byk bcX0_shownSurely_0 0 37 _ bcX0_shownSurely_0_ok rfl)
theorem dX0_shownSurely_38 : decode cX0_shownSurely 38 = .ok (.iaload, 1) := zo_46 (z_byk bcX0_shownSurely_0 0 38 _ bcX0_shownSurely_0_ok rfl)
theorem dX0_shownSurely_39 : decode cX0_shownSurely 39 = .ok (.goto 9, 3) := zo_167 (z_byk bcX0_shownSurely_0 0 39 _ bcX0_shownSurely_0_ok rfl) (z_byk bcX0_shownSurely_0 0 40 _ bcX0_shownSurely_0_ok rfl) (z_byk bcX0_shownSurely_0 0 41 _ bcX0_shownSurely_0_ok rfl) rfl
theorem dX0_shownSurely_4 : decode cX0_shownSurely 4 = .ok (.iload_n 1, 1) := zo_27 (z_byk bcX0_shownSurely_0 0 4 _ bcX0_shownSurely_0_ok rfl)
theorem dX0_shownSurely_42 : decode cX0_shownSurely 42 = .ok (.aload_n 0, 1) := zo_42 (z_byk bcX0_shownSurely_0 0 42 _ bcX0_shownSurely_0_ok rfl)
theorem dX0_shownSurely_43 : decode cX0_shownSurely 43 = .ok (.getfield 32, 3) := zo_180 (z_byk bcX0_shownSurely_0 0 43 _ bcX0_shownSurely_0_ok rfl) (z_byk bcX0_shownSurely_0 0 44 _ bcX0_shownSurely_0_ok rfl) (z_byk bcX0_shownSurely_0 0 45 _ bcX0_shownSurely_0_ok rfl) rfl
theorem dX0_shownSurely_46 : decode cX0_shownSurely 46 = .ok (.iload_n 1, 1) := zo_27 (z_byk bcX0_shownSurely_0 0 46 _ bcX0_shownSurely_0_ok rfl)
theorem dX0_shownSurely_47 : decode cX0_shownSurely 47 = .ok (.iaload, 1) := zo_46 (z_byk bcX0_shownSurely_0 0 47 _ bcX0_shownSurely_0_ok rfl)
theorem dX0_shownSurely_48 : decode cX0_shownSurely 48 = .ok (.ireturn, 1) := zo_172 (z_byk bcX0_shownSurely_0 0 48 _ bcX0_shownSurely_0_ok rfl)
theorem dX0_shownSurely_5 : decode cX0_shownSurely 5 = .ok (.iaload, 1) := zo_46 (z_byk bcX0_shownSurely_0 0 5 _ bcX0_shownSurely_0_ok rfl)
theorem dX0_shownSurely_6 : decode cX0_shownSurely 6 = .ok (.ifCond .ne 17, 3) := zo_154 (z_byk bcX0_shownSurely_0 0 6 _ bcX0_shownSurely_0_ok rfl) (z_byk bcX0_shownSurely_0 0 7 _ bcX0_shownSurely_0_ok rfl) (z_byk bcX0_shownSurely_0 0 8 _ bcX0_shownSurely_0_ok rfl) rfl
theorem dX0_shownSurely_9 : decode cX0_shownSurely 9 = .ok (.aload_n 0, 1) := zo_42 (z_byk bcX0_shownSurely_0 0 9 _ bcX0_shownSurely_0_ok rfl)
def bcX0_worthAt_0 : List Nat := [27, 42, 180, 0, 58, 160, 0, 6, 18, 78, 172, 28, 42, 180, 0, 61, 161, 0, 7, 3, 167, 0, 19, 42, 180, 0, 26, 28, 16, 10, 104, 27, 96, 16, 81, 104, 29, 96, 46, 172]
theorem bcX0_worthAt_0_ok : z_bys cX0_worthAt 0 bcX0_worthAt_0 = true := by decide +kernel
theorem dX0_worthAt_0 : decode cX0_worthAt 0 = .ok (.iload_n 1, 1) := zo_27 (z_byk bcX0_worthAt_0 0 0 _ bcX0_worthAt_0_ok rfl)
theorem dX0_worthAt_1 : decode cX0_worthAt 1 = .ok (.aload_n 0, 1) := zo_42 (z_byk bcX0_worthAt_0 0 1 _ bcX0_worthAt_0_ok rfl)
theorem dX0_worthAt_10 : decode cX0_worthAt 10 = .ok (.ireturn, 1) := zo_172 (z_byk bcX0_worthAt_0 0 10 _ bcX0_worthAt_0_ok rfl)
theorem dX0_worthAt_11 : decode cX0_worthAt 11 = .ok (.iload_n 2, 1) := zo_28 (z_byk bcX0_worthAt_0 0 11 _ bcX0_worthAt_0_ok rfl)
theorem dX0_worthAt_12 : decode cX0_worthAt 12 = .ok (.aload_n 0, 1) := zo_42 (z_byk bcX0_worthAt_0 0 12 _ bcX0_worthAt_0_ok rfl)
theorem dX0_worthAt_13 : decode cX0_worthAt 13 = .ok (.getfield 61, 3) := zo_180 (z_byk bcX0_worthAt_0 0 13 _ bcX0_worthAt_0_ok rfl) (z_byk bcX0_worthAt_0 0 14 _ bcX0_worthAt_0_ok rfl) (z_byk bcX0_worthAt_0 0 15 _ bcX0_worthAt_0_ok rfl) rfl
theorem dX0_worthAt_16 : decode cX0_worthAt 16 = .ok (.if_icmp .lt 7, 3) := zo_161 (z_byk bcX0_worthAt_0 0 16 _ bcX0_worthAt_0_ok rfl) (z_byk bcX0_worthAt_0 0 17 _ bcX0_worthAt_0_ok rfl) (z_byk bcX0_worthAt_0 0 18 _ bcX0_worthAt_0_ok rfl) rfl
theorem dX0_worthAt_19 : decode cX0_worthAt 19 = .ok (.iconst 0, 1) := zo_3 (z_byk bcX0_worthAt_0 0 19 _ bcX0_worthAt_0_ok rfl)
theorem dX0_worthAt_2 : decode cX0_worthAt 2 = .ok (.getfield 58, 3) := zo_180 (z_byk bcX0_worthAt_0 0 2 _ bcX0_worthAt_0_ok rfl) (z_byk bcX0_worthAt_0 0 3 _ bcX0_worthAt_0_ok rfl) (z_byk bcX0_worthAt_0 0 4 _ bcX0_worthAt_0_ok rfl) rfl
theorem dX0_worthAt_20 : decode cX0_worthAt 20 = .ok (.goto 19, 3) := zo_167 (z_byk bcX0_worthAt_0 0 20 _ bcX0_worthAt_0_ok rfl) (z_byk bcX0_worthAt_0 0 21 _ bcX0_worthAt_0_ok rfl) (z_byk bcX0_worthAt_0 0 22 _ bcX0_worthAt_0_ok rfl) rfl
theorem dX0_worthAt_23 : decode cX0_worthAt 23 = .ok (.aload_n 0, 1) := zo_42 (z_byk bcX0_worthAt_0 0 23 _ bcX0_worthAt_0_ok rfl)
theorem dX0_worthAt_24 : decode cX0_worthAt 24 = .ok (.getfield 26, 3) := zo_180 (z_byk bcX0_worthAt_0 0 24 _ bcX0_worthAt_0_ok rfl) (z_byk bcX0_worthAt_0 0 25 _ bcX0_worthAt_0_ok rfl) (z_byk bcX0_worthAt_0 0 26 _ bcX0_worthAt_0_ok rfl) rfl
theorem dX0_worthAt_27 : decode cX0_worthAt 27 = .ok (.iload_n 2, 1) := zo_28 (z_byk bcX0_worthAt_0 0 27 _ bcX0_worthAt_0_ok rfl)
theorem dX0_worthAt_28 : decode cX0_worthAt 28 = .ok (.bipush 10, 2) := zo_16 (z_byk bcX0_worthAt_0 0 28 _ bcX0_worthAt_0_ok rfl) (z_byk bcX0_worthAt_0 0 29 _ bcX0_worthAt_0_ok rfl) rfl
theorem dX0_worthAt_30 : decode cX0_worthAt 30 = .ok (.imul, 1) := zo_104 (z_byk bcX0_worthAt_0 0 30 _ bcX0_worthAt_0_ok rfl)
theorem dX0_worthAt_31 : decode cX0_worthAt 31 = .ok (.iload_n 1, 1) := zo_27 (z_byk bcX0_worthAt_0 0 31 _ bcX0_worthAt_0_ok rfl)
theorem dX0_worthAt_32 : decode cX0_worthAt 32 = .ok (.iadd, 1) := zo_96 (z_byk bcX0_worthAt_0 0 32 _ bcX0_worthAt_0_ok rfl)
theorem dX0_worthAt_33 : decode cX0_worthAt 33 = .ok (.bipush 81, 2) := zo_16 (z_byk bcX0_worthAt_0 0 33 _ bcX0_worthAt_0_ok rfl) (z_byk bcX0_worthAt_0 0 34 _ bcX0_worthAt_0_ok rfl) rfl
theorem dX0_worthAt_35 : decode cX0_worthAt 35 = .ok (.imul, 1) := zo_104 (z_byk bcX0_worthAt_0 0 35 _ bcX0_worthAt_0_ok rfl)
theorem dX0_worthAt_36 : decode cX0_worthAt 36 = .ok (.iload_n 3, 1) := zo_29 (z_byk bcX0_worthAt_0 0 36 _ bcX0_worthAt_0_ok rfl)
theorem dX0_worthAt_37 : decode cX0_worthAt 37 = .ok (.iadd, 1) := zo_96 (z_byk bcX0_worthAt_0 0 37 _ bcX0_worthAt_0_ok rfl)
theorem dX0_worthAt_38 : decode cX0_worthAt 38 = .ok (.iaload, 1) := zo_46 (z_byk bcX0_worthAt_0 0 38 _ bcX0_worthAt_0_ok rfl)
theorem dX0_worthAt_39 : decode cX0_worthAt 39 = .ok (.ireturn, 1) := zo_172 (z_byk bcX0_worthAt_0 0 39 _ bcX0_worthAt_0_ok rfl)
theorem dX0_worthAt_5 : decode cX0_worthAt 5 = .ok (.if_icmp .ne 6, 3) := zo_160 (z_byk bcX0_worthAt_0 0 5 _ bcX0_worthAt_0_ok rfl) (z_byk bcX0_worthAt_0 0 6 _ bcX0_worthAt_0_ok rfl) (z_byk bcX0_worthAt_0 0 7 _ bcX0_worthAt_0_ok rfl) rfl
theorem dX0_worthAt_8 : decode cX0_worthAt 8 = .ok (.ldc 78, 2) := zo_18 (z_byk bcX0_worthAt_0 0 8 _ bcX0_worthAt_0_ok rfl) (z_byk bcX0_worthAt_0 0 9 _ bcX0_worthAt_0_ok rfl)
def bcX1_isDone_0 : List Nat := [43, 180, 0, 37, 58, 4, 42, 180, 0, 18, 25, 4, 180, 0, 43, 162, 0, 26, 32, 20, 0, 48, 148, 155, 0, 18, 32, 25, 4, 180, 0, 50, 133, 20, 0, 53, 105, 148, 155, 0, 5, 3, 172, 32, 20, 0, 48, 148, 154, 0, 15, 42, 89, 180, 0, 18, 4, 96, 181, 0]
theorem bcX1_isDone_0_ok : z_bys cX1_isDone 0 bcX1_isDone_0 = true := by decide +kernel
def bcX1_isDone_60 : List Nat := [18, 4, 172, 32, 136, 16, 100, 112, 54, 5, 25, 4, 32, 136, 16, 100, 108, 42, 180, 0, 15, 182, 0, 55, 54, 6, 21, 6, 2, 160, 0, 5, 3, 172, 25, 4, 42, 180, 0, 15, 21, 6, 182, 0, 59, 153, 0, 29, 21, 5, 16, 99, 160, 0, 9, 42, 21, 6, 182, 0]
theorem bcX1_isDone_60_ok : z_bys cX1_isDone 60 bcX1_isDone_60 = true := by decide +kernel
def bcX1_isDone_120 : List Nat := [63, 21, 5, 16, 99, 160, 0, 7, 4, 167, 0, 4, 3, 172, 25, 4, 21, 5, 182, 0, 67, 153, 0, 15, 43, 180, 0, 71, 21, 5, 184, 0, 74, 154, 0, 5, 3, 172, 25, 4, 21, 5, 42, 180, 0, 18, 43, 180, 0, 77, 182, 0, 80, 21, 6, 184, 0, 74, 153, 0]
theorem bcX1_isDone_120_ok : z_bys cX1_isDone 120 bcX1_isDone_120 = true := by decide +kernel
def bcX1_isDone_180 : List Nat := [12, 42, 21, 6, 182, 0, 63, 167, 0, 37, 42, 89, 180, 0, 21, 4, 96, 181, 0, 21, 42, 42, 180, 0, 18, 4, 96, 25, 4, 180, 0, 84, 96, 25, 4, 180, 0, 43, 184, 0, 87, 181, 0, 18, 4, 172]
theorem bcX1_isDone_180_ok : z_bys cX1_isDone 180 bcX1_isDone_180 = true := by decide +kernel
theorem dX1_isDone_0 : decode cX1_isDone 0 = .ok (.aload_n 1, 1) := zo_43 (z_byk bcX1_isDone_0 0 0 _ bcX1_isDone_0_ok rfl)
theorem dX1_isDone_1 : decode cX1_isDone 1 = .ok (.getfield 37, 3) := zo_180 (z_byk bcX1_isDone_0 0 1 _ bcX1_isDone_0_ok rfl) (z_byk bcX1_isDone_0 0 2 _ bcX1_isDone_0_ok rfl) (z_byk bcX1_isDone_0 0 3 _ bcX1_isDone_0_ok rfl) rfl
theorem dX1_isDone_10 : decode cX1_isDone 10 = .ok (.aload 4, 2) := zo_25 (z_byk bcX1_isDone_0 0 10 _ bcX1_isDone_0_ok rfl) (z_byk bcX1_isDone_0 0 11 _ bcX1_isDone_0_ok rfl)
theorem dX1_isDone_100 : decode cX1_isDone 100 = .ok (.iload 6, 2) := zo_21 (z_byk bcX1_isDone_60 60 40 _ bcX1_isDone_60_ok rfl) (z_byk bcX1_isDone_60 60 41 _ bcX1_isDone_60_ok rfl)
theorem dX1_isDone_102 : decode cX1_isDone 102 = .ok (.invokevirtual 59, 3) := zo_182 (z_byk bcX1_isDone_60 60 42 _ bcX1_isDone_60_ok rfl) (z_byk bcX1_isDone_60 60 43 _ bcX1_isDone_60_ok rfl) (z_byk bcX1_isDone_60 60 44 _ bcX1_isDone_60_ok rfl) rfl
theorem dX1_isDone_105 : decode cX1_isDone 105 = .ok (.ifCond .eq 29, 3) := zo_153 (z_byk bcX1_isDone_60 60 45 _ bcX1_isDone_60_ok rfl) (z_byk bcX1_isDone_60 60 46 _ bcX1_isDone_60_ok rfl) (z_byk bcX1_isDone_60 60 47 _ bcX1_isDone_60_ok rfl) rfl
theorem dX1_isDone_108 : decode cX1_isDone 108 = .ok (.iload 5, 2) := zo_21 (z_byk bcX1_isDone_60 60 48 _ bcX1_isDone_60_ok rfl) (z_byk bcX1_isDone_60 60 49 _ bcX1_isDone_60_ok rfl)
theorem dX1_isDone_110 : decode cX1_isDone 110 = .ok (.bipush 99, 2) := zo_16 (z_byk bcX1_isDone_60 60 50 _ bcX1_isDone_60_ok rfl) (z_byk bcX1_isDone_60 60 51 _ bcX1_isDone_60_ok rfl) rfl
theorem dX1_isDone_112 : decode cX1_isDone 112 = .ok (.if_icmp .ne 9, 3) := zo_160 (z_byk bcX1_isDone_60 60 52 _ bcX1_isDone_60_ok rfl) (z_byk bcX1_isDone_60 60 53 _ bcX1_isDone_60_ok rfl) (z_byk bcX1_isDone_60 60 54 _ bcX1_isDone_60_ok rfl) rfl
theorem dX1_isDone_115 : decode cX1_isDone 115 = .ok (.aload_n 0, 1) := zo_42 (z_byk bcX1_isDone_60 60 55 _ bcX1_isDone_60_ok rfl)
theorem dX1_isDone_116 : decode cX1_isDone 116 = .ok (.iload 6, 2) := zo_21 (z_byk bcX1_isDone_60 60 56 _ bcX1_isDone_60_ok rfl) (z_byk bcX1_isDone_60 60 57 _ bcX1_isDone_60_ok rfl)
theorem dX1_isDone_118 : decode cX1_isDone 118 = .ok (.invokevirtual 63, 3) := zo_182 (z_byk bcX1_isDone_60 60 58 _ bcX1_isDone_60_ok rfl) (z_byk bcX1_isDone_60 60 59 _ bcX1_isDone_60_ok rfl) (z_byk bcX1_isDone_120 120 0 _ bcX1_isDone_120_ok rfl) rfl
theorem dX1_isDone_12 : decode cX1_isDone 12 = .ok (.getfield 43, 3) := zo_180 (z_byk bcX1_isDone_0 0 12 _ bcX1_isDone_0_ok rfl) (z_byk bcX1_isDone_0 0 13 _ bcX1_isDone_0_ok rfl) (z_byk bcX1_isDone_0 0 14 _ bcX1_isDone_0_ok rfl) rfl
theorem dX1_isDone_121 : decode cX1_isDone 121 = .ok (.iload 5, 2) := zo_21 (z_byk bcX1_isDone_120 120 1 _ bcX1_isDone_120_ok rfl) (z_byk bcX1_isDone_120 120 2 _ bcX1_isDone_120_ok rfl)
theorem dX1_isDone_123 : decode cX1_isDone 123 = .ok (.bipush 99, 2) := zo_16 (z_byk bcX1_isDone_120 120 3 _ bcX1_isDone_120_ok rfl) (z_byk bcX1_isDone_120 120 4 _ bcX1_isDone_120_ok rfl) rfl
theorem dX1_isDone_125 : decode cX1_isDone 125 = .ok (.if_icmp .ne 7, 3) := zo_160 (z_byk bcX1_isDone_120 120 5 _ bcX1_isDone_120_ok rfl) (z_byk bcX1_isDone_120 120 6 _ bcX1_isDone_120_ok rfl) (z_byk bcX1_isDone_120 120 7 _ bcX1_isDone_120_ok rfl) rfl
theorem dX1_isDone_128 : decode cX1_isDone 128 = .ok (.iconst 1, 1) := zo_4 (z_byk bcX1_isDone_120 120 8 _ bcX1_isDone_120_ok rfl)
theorem dX1_isDone_129 : decode cX1_isDone 129 = .ok (.goto 4, 3) := zo_167 (z_byk bcX1_isDone_120 120 9 _ bcX1_isDone_120_ok rfl) (z_byk bcX1_isDone_120 120 10 _ bcX1_isDone_120_ok rfl) (z_byk bcX1_isDone_120 120 11 _ bcX1_isDone_120_ok rfl) rfl
theorem dX1_isDone_132 : decode cX1_isDone 132 = .ok (.iconst 0, 1) := zo_3 (z_byk bcX1_isDone_120 120 12 _ bcX1_isDone_120_ok rfl)
theorem dX1_isDone_133 : decode cX1_isDone 133 = .ok (.ireturn, 1) := zo_172 (z_byk bcX1_isDone_120 120 13 _ bcX1_isDone_120_ok rfl)
theorem dX1_isDone_134 : decode cX1_isDone 134 = .ok (.aload 4, 2) := zo_25 (z_byk bcX1_isDone_120 120 14 _ bcX1_isDone_120_ok rfl) (z_byk bcX1_isDone_120 120 15 _ bcX1_isDone_120_ok rfl)
theorem dX1_isDone_136 : decode cX1_isDone 136 = .ok (.iload 5, 2) := zo_21 (z_byk bcX1_isDone_120 120 16 _ bcX1_isDone_120_ok rfl) (z_byk bcX1_isDone_120 120 17 _ bcX1_isDone_120_ok rfl)
theorem dX1_isDone_138 : decode cX1_isDone 138 = .ok (.invokevirtual 67, 3) := zo_182 (z_byk bcX1_isDone_120 120 18 _ bcX1_isDone_120_ok rfl) (z_byk bcX1_isDone_120 120 19 _ bcX1_isDone_120_ok rfl) (z_byk bcX1_isDone_120 120 20 _ bcX1_isDone_120_ok rfl) rfl
theorem dX1_isDone_141 : decode cX1_isDone 141 = .ok (.ifCond .eq 15, 3) := zo_153 (z_byk bcX1_isDone_120 120 21 _ bcX1_isDone_120_ok rfl) (z_byk bcX1_isDone_120 120 22 _ bcX1_isDone_120_ok rfl) (z_byk bcX1_isDone_120 120 23 _ bcX1_isDone_120_ok rfl) rfl
theorem dX1_isDone_144 : decode cX1_isDone 144 = .ok (.aload_n 1, 1) := zo_43 (z_byk bcX1_isDone_120 120 24 _ bcX1_isDone_120_ok rfl)
theorem dX1_isDone_145 : decode cX1_isDone 145 = .ok (.getfield 71, 3) := zo_180 (z_byk bcX1_isDone_120 120 25 _ bcX1_isDone_120_ok rfl) (z_byk bcX1_isDone_120 120 26 _ bcX1_isDone_120_ok rfl) (z_byk bcX1_isDone_120 120 27 _ bcX1_isDone_120_ok rfl) rfl
theorem dX1_isDone_148 : decode cX1_isDone 148 = .ok (.iload 5, 2) := zo_21 (z_byk bcX1_isDone_120 120 28 _ bcX1_isDone_120_ok rfl) (z_byk bcX1_isDone_120 120 29 _ bcX1_isDone_120_ok rfl)
theorem dX1_isDone_15 : decode cX1_isDone 15 = .ok (.if_icmp .ge 26, 3) := zo_162 (z_byk bcX1_isDone_0 0 15 _ bcX1_isDone_0_ok rfl) (z_byk bcX1_isDone_0 0 16 _ bcX1_isDone_0_ok rfl) (z_byk bcX1_isDone_0 0 17 _ bcX1_isDone_0_ok rfl) rfl
theorem dX1_isDone_150 : decode cX1_isDone 150 = .ok (.invokestatic 74, 3) := zo_184 (z_byk bcX1_isDone_120 120 30 _ bcX1_isDone_120_ok rfl) (z_byk bcX1_isDone_120 120 31 _ bcX1_isDone_120_ok rfl) (z_byk bcX1_isDone_120 120 32 _ bcX1_isDone_120_ok rfl) rfl
theorem dX1_isDone_153 : decode cX1_isDone 153 = .ok (.ifCond .ne 5, 3) := zo_154 (z_byk bcX1_isDone_120 120 33 _ bcX1_isDone_120_ok rfl) (z_byk bcX1_isDone_120 120 34 _ bcX1_isDone_120_ok rfl) (z_byk bcX1_isDone_120 120 35 _ bcX1_isDone_120_ok rfl) rfl
theorem dX1_isDone_156 : decode cX1_isDone 156 = .ok (.iconst 0, 1) := zo_3 (z_byk bcX1_isDone_120 120 36 _ bcX1_isDone_120_ok rfl)
theorem dX1_isDone_157 : decode cX1_isDone 157 = .ok (.ireturn, 1) := zo_172 (z_byk bcX1_isDone_120 120 37 _ bcX1_isDone_120_ok rfl)
theorem dX1_isDone_158 : decode cX1_isDone 158 = .ok (.aload 4, 2) := zo_25 (z_byk bcX1_isDone_120 120 38 _ bcX1_isDone_120_ok rfl) (z_byk bcX1_isDone_120 120 39 _ bcX1_isDone_120_ok rfl)
theorem dX1_isDone_160 : decode cX1_isDone 160 = .ok (.iload 5, 2) := zo_21 (z_byk bcX1_isDone_120 120 40 _ bcX1_isDone_120_ok rfl) (z_byk bcX1_isDone_120 120 41 _ bcX1_isDone_120_ok rfl)
theorem dX1_isDone_162 : decode cX1_isDone 162 = .ok (.aload_n 0, 1) := zo_42 (z_byk bcX1_isDone_120 120 42 _ bcX1_isDone_120_ok rfl)
theorem dX1_isDone_163 : decode cX1_isDone 163 = .ok (.getfield 18, 3) := zo_180 (z_byk bcX1_isDone_120 120 43 _ bcX1_isDone_120_ok rfl) (z_byk bcX1_isDone_120 120 44 _ bcX1_isDone_120_ok rfl) (z_byk bcX1_isDone_120 120 45 _ bcX1_isDone_120_ok rfl) rfl
theorem dX1_isDone_166 : decode cX1_isDone 166 = .ok (.aload_n 1, 1) := zo_43 (z_byk bcX1_isDone_120 120 46 _ bcX1_isDone_120_ok rfl)
theorem dX1_isDone_167 : decode cX1_isDone 167 = .ok (.getfield 77, 3) := zo_180 (z_byk bcX1_isDone_120 120 47 _ bcX1_isDone_120_ok rfl) (z_byk bcX1_isDone_120 120 48 _ bcX1_isDone_120_ok rfl) (z_byk bcX1_isDone_120 120 49 _ bcX1_isDone_120_ok rfl) rfl
theorem dX1_isDone_170 : decode cX1_isDone 170 = .ok (.invokevirtual 80, 3) := zo_182 (z_byk bcX1_isDone_120 120 50 _ bcX1_isDone_120_ok rfl) (z_byk bcX1_isDone_120 120 51 _ bcX1_isDone_120_ok rfl) (z_byk bcX1_isDone_120 120 52 _ bcX1_isDone_120_ok rfl) rfl
theorem dX1_isDone_173 : decode cX1_isDone 173 = .ok (.iload 6, 2) := zo_21 (z_byk bcX1_isDone_120 120 53 _ bcX1_isDone_120_ok rfl) (z_byk bcX1_isDone_120 120 54 _ bcX1_isDone_120_ok rfl)
theorem dX1_isDone_175 : decode cX1_isDone 175 = .ok (.invokestatic 74, 3) := zo_184 (z_byk bcX1_isDone_120 120 55 _ bcX1_isDone_120_ok rfl) (z_byk bcX1_isDone_120 120 56 _ bcX1_isDone_120_ok rfl) (z_byk bcX1_isDone_120 120 57 _ bcX1_isDone_120_ok rfl) rfl
theorem dX1_isDone_178 : decode cX1_isDone 178 = .ok (.ifCond .eq 12, 3) := zo_153 (z_byk bcX1_isDone_120 120 58 _ bcX1_isDone_120_ok rfl) (z_byk bcX1_isDone_120 120 59 _ bcX1_isDone_120_ok rfl) (z_byk bcX1_isDone_180 180 0 _ bcX1_isDone_180_ok rfl) rfl
theorem dX1_isDone_18 : decode cX1_isDone 18 = .ok (.lload_n 2, 1) := zo_32 (z_byk bcX1_isDone_0 0 18 _ bcX1_isDone_0_ok rfl)
theorem dX1_isDone_181 : decode cX1_isDone 181 = .ok (.aload_n 0, 1) := zo_42 (z_byk bcX1_isDone_180 180 1 _ bcX1_isDone_180_ok rfl)
theorem dX1_isDone_182 : decode cX1_isDone 182 = .ok (.iload 6, 2) := zo_21 (z_byk bcX1_isDone_180 180 2 _ bcX1_isDone_180_ok rfl) (z_byk bcX1_isDone_180 180 3 _ bcX1_isDone_180_ok rfl)
theorem dX1_isDone_184 : decode cX1_isDone 184 = .ok (.invokevirtual 63, 3) := zo_182 (z_byk bcX1_isDone_180 180 4 _ bcX1_isDone_180_ok rfl) (z_byk bcX1_isDone_180 180 5 _ bcX1_isDone_180_ok rfl) (z_byk bcX1_isDone_180 180 6 _ bcX1_isDone_180_ok rfl) rfl
theorem dX1_isDone_187 : decode cX1_isDone 187 = .ok (.goto 37, 3) := zo_167 (z_byk bcX1_isDone_180 180 7 _ bcX1_isDone_180_ok rfl) (z_byk bcX1_isDone_180 180 8 _ bcX1_isDone_180_ok rfl) (z_byk bcX1_isDone_180 180 9 _ bcX1_isDone_180_ok rfl) rfl
theorem dX1_isDone_19 : decode cX1_isDone 19 = .ok (.ldc2_w 48, 3) := zo_20 (z_byk bcX1_isDone_0 0 19 _ bcX1_isDone_0_ok rfl) (z_byk bcX1_isDone_0 0 20 _ bcX1_isDone_0_ok rfl) (z_byk bcX1_isDone_0 0 21 _ bcX1_isDone_0_ok rfl) rfl
theorem dX1_isDone_190 : decode cX1_isDone 190 = .ok (.aload_n 0, 1) := zo_42 (z_byk bcX1_isDone_180 180 10 _ bcX1_isDone_180_ok rfl)
theorem dX1_isDone_191 : decode cX1_isDone 191 = .ok (.dup, 1) := zo_89 (z_byk bcX1_isDone_180 180 11 _ bcX1_isDone_180_ok rfl)
theorem dX1_isDone_192 : decode cX1_isDone 192 = .ok (.getfield 21, 3) := zo_180 (z_byk bcX1_isDone_180 180 12 _ bcX1_isDone_180_ok rfl) (z_byk bcX1_isDone_180 180 13 _ bcX1_isDone_180_ok rfl) (z_byk bcX1_isDone_180 180 14 _ bcX1_isDone_180_ok rfl) rfl
theorem dX1_isDone_195 : decode cX1_isDone 195 = .ok (.iconst 1, 1) := zo_4 (z_byk bcX1_isDone_180 180 15 _ bcX1_isDone_180_ok rfl)
theorem dX1_isDone_196 : decode cX1_isDone 196 = .ok (.iadd, 1) := zo_96 (z_byk bcX1_isDone_180 180 16 _ bcX1_isDone_180_ok rfl)
theorem dX1_isDone_197 : decode cX1_isDone 197 = .ok (.putfield 21, 3) := zo_181 (z_byk bcX1_isDone_180 180 17 _ bcX1_isDone_180_ok rfl) (z_byk bcX1_isDone_180 180 18 _ bcX1_isDone_180_ok rfl) (z_byk bcX1_isDone_180 180 19 _ bcX1_isDone_180_ok rfl) rfl
theorem dX1_isDone_200 : decode cX1_isDone 200 = .ok (.aload_n 0, 1) := zo_42 (z_byk bcX1_isDone_180 180 20 _ bcX1_isDone_180_ok rfl)
theorem dX1_isDone_201 : decode cX1_isDone 201 = .ok (.aload_n 0, 1) := zo_42 (z_byk bcX1_isDone_180 180 21 _ bcX1_isDone_180_ok rfl)
theorem dX1_isDone_202 : decode cX1_isDone 202 = .ok (.getfield 18, 3) := zo_180 (z_byk bcX1_isDone_180 180 22 _ bcX1_isDone_180_ok rfl) (z_byk bcX1_isDone_180 180 23 _ bcX1_isDone_180_ok rfl) (z_byk bcX1_isDone_180 180 24 _ bcX1_isDone_180_ok rfl) rfl
theorem dX1_isDone_205 : decode cX1_isDone 205 = .ok (.iconst 1, 1) := zo_4 (z_byk bcX1_isDone_180 180 25 _ bcX1_isDone_180_ok rfl)
theorem dX1_isDone_206 : decode cX1_isDone 206 = .ok (.iadd, 1) := zo_96 (z_byk bcX1_isDone_180 180 26 _ bcX1_isDone_180_ok rfl)
theorem dX1_isDone_207 : decode cX1_isDone 207 = .ok (.aload 4, 2) := zo_25 (z_byk bcX1_isDone_180 180 27 _ bcX1_isDone_180_ok rfl) (z_byk bcX1_isDone_180 180 28 _ bcX1_isDone_180_ok rfl)
theorem dX1_isDone_209 : decode cX1_isDone 209 = .ok (.getfield 84, 3) := zo_180 (z_byk bcX1_isDone_180 180 29 _ bcX1_isDone_180_ok rfl) (z_byk bcX1_isDone_180 180 30 _ bcX1_isDone_180_ok rfl) (z_byk bcX1_isDone_180 180 31 _ bcX1_isDone_180_ok rfl) rfl
theorem dX1_isDone_212 : decode cX1_isDone 212 = .ok (.iadd, 1) := zo_96 (z_byk bcX1_isDone_180 180 32 _ bcX1_isDone_180_ok rfl)
theorem dX1_isDone_213 : decode cX1_isDone 213 = .ok (.aload 4, 2) := zo_25 (z_byk bcX1_isDone_180 180 33 _ bcX1_isDone_180_ok rfl) (z_byk bcX1_isDone_180 180 34 _ bcX1_isDone_180_ok rfl)
theorem dX1_isDone_215 : decode cX1_isDone 215 = .ok (.getfield 43, 3) := zo_180 (z_byk bcX1_isDone_180 180 35 _ bcX1_isDone_180_ok rfl) (z_byk bcX1_isDone_180 180 36 _ bcX1_isDone_180_ok rfl) (z_byk bcX1_isDone_180 180 37 _ bcX1_isDone_180_ok rfl) rfl
theorem dX1_isDone_218 : decode cX1_isDone 218 = .ok (.invokestatic 87, 3) := zo_184 (z_byk bcX1_isDone_180 180 38 _ bcX1_isDone_180_ok rfl) (z_byk bcX1_isDone_180 180 39 _ bcX1_isDone_180_ok rfl) (z_byk bcX1_isDone_180 180 40 _ bcX1_isDone_180_ok rfl) rfl
theorem dX1_isDone_22 : decode cX1_isDone 22 = .ok (.lcmp, 1) := zo_148 (z_byk bcX1_isDone_0 0 22 _ bcX1_isDone_0_ok rfl)
theorem dX1_isDone_221 : decode cX1_isDone 221 = .ok (.putfield 18, 3) := zo_181 (z_byk bcX1_isDone_180 180 41 _ bcX1_isDone_180_ok rfl) (z_byk bcX1_isDone_180 180 42 _ bcX1_isDone_180_ok rfl) (z_byk bcX1_isDone_180 180 43 _ bcX1_isDone_180_ok rfl) rfl
theorem dX1_isDone_224 : decode cX1_isDone 224 = .ok (.iconst 1, 1) := zo_4 (z_byk bcX1_isDone_180 180 44 _ bcX1_isDone_180_ok rfl)
theorem dX1_isDone_225 : decode cX1_isDone 225 = .ok (.ireturn, 1) := zo_172 (z_byk bcX1_isDone_180 180 45 _ bcX1_isDone_180_ok rfl)
theorem dX1_isDone_23 : decode cX1_isDone 23 = .ok (.ifCond .lt 18, 3) := zo_155 (z_byk bcX1_isDone_0 0 23 _ bcX1_isDone_0_ok rfl) (z_byk bcX1_isDone_0 0 24 _ bcX1_isDone_0_ok rfl) (z_byk bcX1_isDone_0 0 25 _ bcX1_isDone_0_ok rfl) rfl
theorem dX1_isDone_26 : decode cX1_isDone 26 = .ok (.lload_n 2, 1) := zo_32 (z_byk bcX1_isDone_0 0 26 _ bcX1_isDone_0_ok rfl)
theorem dX1_isDone_27 : decode cX1_isDone 27 = .ok (.aload 4, 2) := zo_25 (z_byk bcX1_isDone_0 0 27 _ bcX1_isDone_0_ok rfl) (z_byk bcX1_isDone_0 0 28 _ bcX1_isDone_0_ok rfl)
theorem dX1_isDone_29 : decode cX1_isDone 29 = .ok (.getfield 50, 3) := zo_180 (z_byk bcX1_isDone_0 0 29 _ bcX1_isDone_0_ok rfl) (z_byk bcX1_isDone_0 0 30 _ bcX1_isDone_0_ok rfl) (z_byk bcX1_isDone_0 0 31 _ bcX1_isDone_0_ok rfl) rfl
theorem dX1_isDone_32 : decode cX1_isDone 32 = .ok (.i2l, 1) := zo_133 (z_byk bcX1_isDone_0 0 32 _ bcX1_isDone_0_ok rfl)
theorem dX1_isDone_33 : decode cX1_isDone 33 = .ok (.ldc2_w 53, 3) := zo_20 (z_byk bcX1_isDone_0 0 33 _ bcX1_isDone_0_ok rfl) (z_byk bcX1_isDone_0 0 34 _ bcX1_isDone_0_ok rfl) (z_byk bcX1_isDone_0 0 35 _ bcX1_isDone_0_ok rfl) rfl
theorem dX1_isDone_36 : decode cX1_isDone 36 = .ok (.lmul, 1) := zo_105 (z_byk bcX1_isDone_0 0 36 _ bcX1_isDone_0_ok rfl)
theorem dX1_isDone_37 : decode cX1_isDone 37 = .ok (.lcmp, 1) := zo_148 (z_byk bcX1_isDone_0 0 37 _ bcX1_isDone_0_ok rfl)
theorem dX1_isDone_38 : decode cX1_isDone 38 = .ok (.ifCond .lt 5, 3) := zo_155 (z_byk bcX1_isDone_0 0 38 _ bcX1_isDone_0_ok rfl) (z_byk bcX1_isDone_0 0 39 _ bcX1_isDone_0_ok rfl) (z_byk bcX1_isDone_0 0 40 _ bcX1_isDone_0_ok rfl) rfl
theorem dX1_isDone_4 : decode cX1_isDone 4 = .ok (.astore 4, 2) := zo_58 (z_byk bcX1_isDone_0 0 4 _ bcX1_isDone_0_ok rfl) (z_byk bcX1_isDone_0 0 5 _ bcX1_isDone_0_ok rfl)
theorem dX1_isDone_41 : decode cX1_isDone 41 = .ok (.iconst 0, 1) := zo_3 (z_byk bcX1_isDone_0 0 41 _ bcX1_isDone_0_ok rfl)
theorem dX1_isDone_42 : decode cX1_isDone 42 = .ok (.ireturn, 1) := zo_172 (z_byk bcX1_isDone_0 0 42 _ bcX1_isDone_0_ok rfl)
theorem dX1_isDone_43 : decode cX1_isDone 43 = .ok (.lload_n 2, 1) := zo_32 (z_byk bcX1_isDone_0 0 43 _ bcX1_isDone_0_ok rfl)
theorem dX1_isDone_44 : decode cX1_isDone 44 = .ok (.ldc2_w 48, 3) := zo_20 (z_byk bcX1_isDone_0 0 44 _ bcX1_isDone_0_ok rfl) (z_byk bcX1_isDone_0 0 45 _ bcX1_isDone_0_ok rfl) (z_byk bcX1_isDone_0 0 46 _ bcX1_isDone_0_ok rfl) rfl
theorem dX1_isDone_47 : decode cX1_isDone 47 = .ok (.lcmp, 1) := zo_148 (z_byk bcX1_isDone_0 0 47 _ bcX1_isDone_0_ok rfl)
theorem dX1_isDone_48 : decode cX1_isDone 48 = .ok (.ifCond .ne 15, 3) := zo_154 (z_byk bcX1_isDone_0 0 48 _ bcX1_isDone_0_ok rfl) (z_byk bcX1_isDone_0 0 49 _ bcX1_isDone_0_ok rfl) (z_byk bcX1_isDone_0 0 50 _ bcX1_isDone_0_ok rfl) rfl
theorem dX1_isDone_51 : decode cX1_isDone 51 = .ok (.aload_n 0, 1) := zo_42 (z_byk bcX1_isDone_0 0 51 _ bcX1_isDone_0_ok rfl)
theorem dX1_isDone_52 : decode cX1_isDone 52 = .ok (.dup, 1) := zo_89 (z_byk bcX1_isDone_0 0 52 _ bcX1_isDone_0_ok rfl)
theorem dX1_isDone_53 : decode cX1_isDone 53 = .ok (.getfield 18, 3) := zo_180 (z_byk bcX1_isDone_0 0 53 _ bcX1_isDone_0_ok rfl) (z_byk bcX1_isDone_0 0 54 _ bcX1_isDone_0_ok rfl) (z_byk bcX1_isDone_0 0 55 _ bcX1_isDone_0_ok rfl) rfl
theorem dX1_isDone_56 : decode cX1_isDone 56 = .ok (.iconst 1, 1) := zo_4 (z_byk bcX1_isDone_0 0 56 _ bcX1_isDone_0_ok rfl)
theorem dX1_isDone_57 : decode cX1_isDone 57 = .ok (.iadd, 1) := zo_96 (z_byk bcX1_isDone_0 0 57 _ bcX1_isDone_0_ok rfl)
theorem dX1_isDone_58 : decode cX1_isDone 58 = .ok (.putfield 18, 3) := zo_181 (z_byk bcX1_isDone_0 0 58 _ bcX1_isDone_0_ok rfl) (z_byk bcX1_isDone_0 0 59 _ bcX1_isDone_0_ok rfl) (z_byk bcX1_isDone_60 60 0 _ bcX1_isDone_60_ok rfl) rfl
theorem dX1_isDone_6 : decode cX1_isDone 6 = .ok (.aload_n 0, 1) := zo_42 (z_byk bcX1_isDone_0 0 6 _ bcX1_isDone_0_ok rfl)
theorem dX1_isDone_61 : decode cX1_isDone 61 = .ok (.iconst 1, 1) := zo_4 (z_byk bcX1_isDone_60 60 1 _ bcX1_isDone_60_ok rfl)
theorem dX1_isDone_62 : decode cX1_isDone 62 = .ok (.ireturn, 1) := zo_172 (z_byk bcX1_isDone_60 60 2 _ bcX1_isDone_60_ok rfl)
theorem dX1_isDone_63 : decode cX1_isDone 63 = .ok (.lload_n 2, 1) := zo_32 (z_byk bcX1_isDone_60 60 3 _ bcX1_isDone_60_ok rfl)
theorem dX1_isDone_64 : decode cX1_isDone 64 = .ok (.l2i, 1) := zo_136 (z_byk bcX1_isDone_60 60 4 _ bcX1_isDone_60_ok rfl)
theorem dX1_isDone_65 : decode cX1_isDone 65 = .ok (.bipush 100, 2) := zo_16 (z_byk bcX1_isDone_60 60 5 _ bcX1_isDone_60_ok rfl) (z_byk bcX1_isDone_60 60 6 _ bcX1_isDone_60_ok rfl) rfl
theorem dX1_isDone_67 : decode cX1_isDone 67 = .ok (.irem, 1) := zo_112 (z_byk bcX1_isDone_60 60 7 _ bcX1_isDone_60_ok rfl)
theorem dX1_isDone_68 : decode cX1_isDone 68 = .ok (.istore 5, 2) := zo_54 (z_byk bcX1_isDone_60 60 8 _ bcX1_isDone_60_ok rfl) (z_byk bcX1_isDone_60 60 9 _ bcX1_isDone_60_ok rfl)
theorem dX1_isDone_7 : decode cX1_isDone 7 = .ok (.getfield 18, 3) := zo_180 (z_byk bcX1_isDone_0 0 7 _ bcX1_isDone_0_ok rfl) (z_byk bcX1_isDone_0 0 8 _ bcX1_isDone_0_ok rfl) (z_byk bcX1_isDone_0 0 9 _ bcX1_isDone_0_ok rfl) rfl
theorem dX1_isDone_70 : decode cX1_isDone 70 = .ok (.aload 4, 2) := zo_25 (z_byk bcX1_isDone_60 60 10 _ bcX1_isDone_60_ok rfl) (z_byk bcX1_isDone_60 60 11 _ bcX1_isDone_60_ok rfl)
theorem dX1_isDone_72 : decode cX1_isDone 72 = .ok (.lload_n 2, 1) := zo_32 (z_byk bcX1_isDone_60 60 12 _ bcX1_isDone_60_ok rfl)
theorem dX1_isDone_73 : decode cX1_isDone 73 = .ok (.l2i, 1) := zo_136 (z_byk bcX1_isDone_60 60 13 _ bcX1_isDone_60_ok rfl)
theorem dX1_isDone_74 : decode cX1_isDone 74 = .ok (.bipush 100, 2) := zo_16 (z_byk bcX1_isDone_60 60 14 _ bcX1_isDone_60_ok rfl) (z_byk bcX1_isDone_60 60 15 _ bcX1_isDone_60_ok rfl) rfl
theorem dX1_isDone_76 : decode cX1_isDone 76 = .ok (.idiv, 1) := zo_108 (z_byk bcX1_isDone_60 60 16 _ bcX1_isDone_60_ok rfl)
theorem dX1_isDone_77 : decode cX1_isDone 77 = .ok (.aload_n 0, 1) := zo_42 (z_byk bcX1_isDone_60 60 17 _ bcX1_isDone_60_ok rfl)
theorem dX1_isDone_78 : decode cX1_isDone 78 = .ok (.getfield 15, 3) := zo_180 (z_byk bcX1_isDone_60 60 18 _ bcX1_isDone_60_ok rfl) (z_byk bcX1_isDone_60 60 19 _ bcX1_isDone_60_ok rfl) (z_byk bcX1_isDone_60 60 20 _ bcX1_isDone_60_ok rfl) rfl
theorem dX1_isDone_81 : decode cX1_isDone 81 = .ok (.invokevirtual 55, 3) := zo_182 (z_byk bcX1_isDone_60 60 21 _ bcX1_isDone_60_ok rfl) (z_byk bcX1_isDone_60 60 22 _ bcX1_isDone_60_ok rfl) (z_byk bcX1_isDone_60 60 23 _ bcX1_isDone_60_ok rfl) rfl
theorem dX1_isDone_84 : decode cX1_isDone 84 = .ok (.istore 6, 2) := zo_54 (z_byk bcX1_isDone_60 60 24 _ bcX1_isDone_60_ok rfl) (z_byk bcX1_isDone_60 60 25 _ bcX1_isDone_60_ok rfl)
theorem dX1_isDone_86 : decode cX1_isDone 86 = .ok (.iload 6, 2) := zo_21 (z_byk bcX1_isDone_60 60 26 _ bcX1_isDone_60_ok rfl) (z_byk bcX1_isDone_60 60 27 _ bcX1_isDone_60_ok rfl)
theorem dX1_isDone_88 : decode cX1_isDone 88 = .ok (.iconst (-1), 1) := zo_2 (z_byk bcX1_isDone_60 60 28 _ bcX1_isDone_60_ok rfl)
theorem dX1_isDone_89 : decode cX1_isDone 89 = .ok (.if_icmp .ne 5, 3) := zo_160 (z_byk bcX1_isDone_60 60 29 _ bcX1_isDone_60_ok rfl) (z_byk bcX1_isDone_60 60 30 _ bcX1_isDone_60_ok rfl) (z_byk bcX1_isDone_60 60 31 _ bcX1_isDone_60_ok rfl) rfl
theorem dX1_isDone_92 : decode cX1_isDone 92 = .ok (.iconst 0, 1) := zo_3 (z_byk bcX1_isDone_60 60 32 _ bcX1_isDone_60_ok rfl)
theorem dX1_isDone_93 : decode cX1_isDone 93 = .ok (.ireturn, 1) := zo_172 (z_byk bcX1_isDone_60 60 33 _ bcX1_isDone_60_ok rfl)
theorem dX1_isDone_94 : decode cX1_isDone 94 = .ok (.aload 4, 2) := zo_25 (z_byk bcX1_isDone_60 60 34 _ bcX1_isDone_60_ok rfl) (z_byk bcX1_isDone_60 60 35 _ bcX1_isDone_60_ok rfl)
theorem dX1_isDone_96 : decode cX1_isDone 96 = .ok (.aload_n 0, 1) := zo_42 (z_byk bcX1_isDone_60 60 36 _ bcX1_isDone_60_ok rfl)
theorem dX1_isDone_97 : decode cX1_isDone 97 = .ok (.getfield 15, 3) := zo_180 (z_byk bcX1_isDone_60 60 37 _ bcX1_isDone_60_ok rfl) (z_byk bcX1_isDone_60 60 38 _ bcX1_isDone_60_ok rfl) (z_byk bcX1_isDone_60 60 39 _ bcX1_isDone_60_ok rfl) rfl
def bcX1_live_0 : List Nat := [42, 3, 181, 0, 9, 42, 3, 181, 0, 15, 42, 3, 181, 0, 18, 42, 3, 181, 0, 21, 3, 62, 29, 44, 180, 0, 24, 162, 0, 33, 42, 43, 44, 180, 0, 29, 29, 47, 182, 0, 33, 153, 0, 19, 42, 89, 180, 0, 9, 4, 96, 181, 0, 9, 132, 3, 1, 167, 255, 221]
theorem bcX1_live_0_ok : z_bys cX1_live 0 bcX1_live_0 = true := by decide +kernel
def bcX1_live_60 : List Nat := [177]
theorem bcX1_live_60_ok : z_bys cX1_live 60 bcX1_live_60 = true := by decide +kernel
theorem dX1_live_0 : decode cX1_live 0 = .ok (.aload_n 0, 1) := zo_42 (z_byk bcX1_live_0 0 0 _ bcX1_live_0_ok rfl)
theorem dX1_live_1 : decode cX1_live 1 = .ok (.iconst 0, 1) := zo_3 (z_byk bcX1_live_0 0 1 _ bcX1_live_0_ok rfl)
theorem dX1_live_10 : decode cX1_live 10 = .ok (.aload_n 0, 1) := zo_42 (z_byk bcX1_live_0 0 10 _ bcX1_live_0_ok rfl)
theorem dX1_live_11 : decode cX1_live 11 = .ok (.iconst 0, 1) := zo_3 (z_byk bcX1_live_0 0 11 _ bcX1_live_0_ok rfl)
theorem dX1_live_12 : decode cX1_live 12 = .ok (.putfield 18, 3) := zo_181 (z_byk bcX1_live_0 0 12 _ bcX1_live_0_ok rfl) (z_byk bcX1_live_0 0 13 _ bcX1_live_0_ok rfl) (z_byk bcX1_live_0 0 14 _ bcX1_live_0_ok rfl) rfl
theorem dX1_live_15 : decode cX1_live 15 = .ok (.aload_n 0, 1) := zo_42 (z_byk bcX1_live_0 0 15 _ bcX1_live_0_ok rfl)
theorem dX1_live_16 : decode cX1_live 16 = .ok (.iconst 0, 1) := zo_3 (z_byk bcX1_live_0 0 16 _ bcX1_live_0_ok rfl)
theorem dX1_live_17 : decode cX1_live 17 = .ok (.putfield 21, 3) := zo_181 (z_byk bcX1_live_0 0 17 _ bcX1_live_0_ok rfl) (z_byk bcX1_live_0 0 18 _ bcX1_live_0_ok rfl) (z_byk bcX1_live_0 0 19 _ bcX1_live_0_ok rfl) rfl
theorem dX1_live_2 : decode cX1_live 2 = .ok (.putfield 9, 3) := zo_181 (z_byk bcX1_live_0 0 2 _ bcX1_live_0_ok rfl) (z_byk bcX1_live_0 0 3 _ bcX1_live_0_ok rfl) (z_byk bcX1_live_0 0 4 _ bcX1_live_0_ok rfl) rfl
theorem dX1_live_20 : decode cX1_live 20 = .ok (.iconst 0, 1) := zo_3 (z_byk bcX1_live_0 0 20 _ bcX1_live_0_ok rfl)
theorem dX1_live_21 : decode cX1_live 21 = .ok (.istore_n 3, 1) := zo_62 (z_byk bcX1_live_0 0 21 _ bcX1_live_0_ok rfl)
theorem dX1_live_22 : decode cX1_live 22 = .ok (.iload_n 3, 1) := zo_29 (z_byk bcX1_live_0 0 22 _ bcX1_live_0_ok rfl)
theorem dX1_live_23 : decode cX1_live 23 = .ok (.aload_n 2, 1) := zo_44 (z_byk bcX1_live_0 0 23 _ bcX1_live_0_ok rfl)
theorem dX1_live_24 : decode cX1_live 24 = .ok (.getfield 24, 3) := zo_180 (z_byk bcX1_live_0 0 24 _ bcX1_live_0_ok rfl) (z_byk bcX1_live_0 0 25 _ bcX1_live_0_ok rfl) (z_byk bcX1_live_0 0 26 _ bcX1_live_0_ok rfl) rfl
theorem dX1_live_27 : decode cX1_live 27 = .ok (.if_icmp .ge 33, 3) := zo_162 (z_byk bcX1_live_0 0 27 _ bcX1_live_0_ok rfl) (z_byk bcX1_live_0 0 28 _ bcX1_live_0_ok rfl) (z_byk bcX1_live_0 0 29 _ bcX1_live_0_ok rfl) rfl
theorem dX1_live_30 : decode cX1_live 30 = .ok (.aload_n 0, 1) := zo_42 (z_byk bcX1_live_0 0 30 _ bcX1_live_0_ok rfl)
theorem dX1_live_31 : decode cX1_live 31 = .ok (.aload_n 1, 1) := zo_43 (z_byk bcX1_live_0 0 31 _ bcX1_live_0_ok rfl)
theorem dX1_live_32 : decode cX1_live 32 = .ok (.aload_n 2, 1) := zo_44 (z_byk bcX1_live_0 0 32 _ bcX1_live_0_ok rfl)
theorem dX1_live_33 : decode cX1_live 33 = .ok (.getfield 29, 3) := zo_180 (z_byk bcX1_live_0 0 33 _ bcX1_live_0_ok rfl) (z_byk bcX1_live_0 0 34 _ bcX1_live_0_ok rfl) (z_byk bcX1_live_0 0 35 _ bcX1_live_0_ok rfl) rfl
theorem dX1_live_36 : decode cX1_live 36 = .ok (.iload_n 3, 1) := zo_29 (z_byk bcX1_live_0 0 36 _ bcX1_live_0_ok rfl)
theorem dX1_live_37 : decode cX1_live 37 = .ok (.laload, 1) := zo_47 (z_byk bcX1_live_0 0 37 _ bcX1_live_0_ok rfl)
theorem dX1_live_38 : decode cX1_live 38 = .ok (.invokevirtual 33, 3) := zo_182 (z_byk bcX1_live_0 0 38 _ bcX1_live_0_ok rfl) (z_byk bcX1_live_0 0 39 _ bcX1_live_0_ok rfl) (z_byk bcX1_live_0 0 40 _ bcX1_live_0_ok rfl) rfl
theorem dX1_live_41 : decode cX1_live 41 = .ok (.ifCond .eq 19, 3) := zo_153 (z_byk bcX1_live_0 0 41 _ bcX1_live_0_ok rfl) (z_byk bcX1_live_0 0 42 _ bcX1_live_0_ok rfl) (z_byk bcX1_live_0 0 43 _ bcX1_live_0_ok rfl) rfl
theorem dX1_live_44 : decode cX1_live 44 = .ok (.aload_n 0, 1) := zo_42 (z_byk bcX1_live_0 0 44 _ bcX1_live_0_ok rfl)
theorem dX1_live_45 : decode cX1_live 45 = .ok (.dup, 1) := zo_89 (z_byk bcX1_live_0 0 45 _ bcX1_live_0_ok rfl)
theorem dX1_live_46 : decode cX1_live 46 = .ok (.getfield 9, 3) := zo_180 (z_byk bcX1_live_0 0 46 _ bcX1_live_0_ok rfl) (z_byk bcX1_live_0 0 47 _ bcX1_live_0_ok rfl) (z_byk bcX1_live_0 0 48 _ bcX1_live_0_ok rfl) rfl
theorem dX1_live_49 : decode cX1_live 49 = .ok (.iconst 1, 1) := zo_4 (z_byk bcX1_live_0 0 49 _ bcX1_live_0_ok rfl)
theorem dX1_live_5 : decode cX1_live 5 = .ok (.aload_n 0, 1) := zo_42 (z_byk bcX1_live_0 0 5 _ bcX1_live_0_ok rfl)
theorem dX1_live_50 : decode cX1_live 50 = .ok (.iadd, 1) := zo_96 (z_byk bcX1_live_0 0 50 _ bcX1_live_0_ok rfl)
theorem dX1_live_51 : decode cX1_live 51 = .ok (.putfield 9, 3) := zo_181 (z_byk bcX1_live_0 0 51 _ bcX1_live_0_ok rfl) (z_byk bcX1_live_0 0 52 _ bcX1_live_0_ok rfl) (z_byk bcX1_live_0 0 53 _ bcX1_live_0_ok rfl) rfl
theorem dX1_live_54 : decode cX1_live 54 = .ok (.iinc 3 1, 3) := zo_132 (z_byk bcX1_live_0 0 54 _ bcX1_live_0_ok rfl) (z_byk bcX1_live_0 0 55 _ bcX1_live_0_ok rfl) (z_byk bcX1_live_0 0 56 _ bcX1_live_0_ok rfl) rfl
theorem dX1_live_57 : decode cX1_live 57 = .ok (.goto (-35), 3) := zo_167 (z_byk bcX1_live_0 0 57 _ bcX1_live_0_ok rfl) (z_byk bcX1_live_0 0 58 _ bcX1_live_0_ok rfl) (z_byk bcX1_live_0 0 59 _ bcX1_live_0_ok rfl) rfl
theorem dX1_live_6 : decode cX1_live 6 = .ok (.iconst 0, 1) := zo_3 (z_byk bcX1_live_0 0 6 _ bcX1_live_0_ok rfl)
theorem dX1_live_60 : decode cX1_live 60 = .ok (.return_, 1) := zo_177 (z_byk bcX1_live_60 60 0 _ bcX1_live_60_ok rfl)
theorem dX1_live_7 : decode cX1_live 7 = .ok (.putfield 15, 3) := zo_181 (z_byk bcX1_live_0 0 7 _ bcX1_live_0_ok rfl) (z_byk bcX1_live_0 0 8 _ bcX1_live_0_ok rfl) (z_byk bcX1_live_0 0 9 _ bcX1_live_0_ok rfl) rfl
def bcX1_pass_0 : List Nat := [42, 27, 181, 0, 15, 42, 89, 180, 0, 18, 4, 96, 181, 0, 18, 177]
theorem bcX1_pass_0_ok : z_bys cX1_pass 0 bcX1_pass_0 = true := by decide +kernel
theorem dX1_pass_0 : decode cX1_pass 0 = .ok (.aload_n 0, 1) := zo_42 (z_byk bcX1_pass_0 0 0 _ bcX1_pass_0_ok rfl)
theorem dX1_pass_1 : decode cX1_pass 1 = .ok (.iload_n 1, 1) := zo_27 (z_byk bcX1_pass_0 0 1 _ bcX1_pass_0_ok rfl)
theorem dX1_pass_10 : decode cX1_pass 10 = .ok (.iconst 1, 1) := zo_4 (z_byk bcX1_pass_0 0 10 _ bcX1_pass_0_ok rfl)
theorem dX1_pass_11 : decode cX1_pass 11 = .ok (.iadd, 1) := zo_96 (z_byk bcX1_pass_0 0 11 _ bcX1_pass_0_ok rfl)
theorem dX1_pass_12 : decode cX1_pass 12 = .ok (.putfield 18, 3) := zo_181 (z_byk bcX1_pass_0 0 12 _ bcX1_pass_0_ok rfl) (z_byk bcX1_pass_0 0 13 _ bcX1_pass_0_ok rfl) (z_byk bcX1_pass_0 0 14 _ bcX1_pass_0_ok rfl) rfl
theorem dX1_pass_15 : decode cX1_pass 15 = .ok (.return_, 1) := zo_177 (z_byk bcX1_pass_0 0 15 _ bcX1_pass_0_ok rfl)
theorem dX1_pass_2 : decode cX1_pass 2 = .ok (.putfield 15, 3) := zo_181 (z_byk bcX1_pass_0 0 2 _ bcX1_pass_0_ok rfl) (z_byk bcX1_pass_0 0 3 _ bcX1_pass_0_ok rfl) (z_byk bcX1_pass_0 0 4 _ bcX1_pass_0_ok rfl) rfl
theorem dX1_pass_5 : decode cX1_pass 5 = .ok (.aload_n 0, 1) := zo_42 (z_byk bcX1_pass_0 0 5 _ bcX1_pass_0_ok rfl)
theorem dX1_pass_6 : decode cX1_pass 6 = .ok (.dup, 1) := zo_89 (z_byk bcX1_pass_0 0 6 _ bcX1_pass_0_ok rfl)
theorem dX1_pass_7 : decode cX1_pass 7 = .ok (.getfield 18, 3) := zo_180 (z_byk bcX1_pass_0 0 7 _ bcX1_pass_0_ok rfl) (z_byk bcX1_pass_0 0 8 _ bcX1_pass_0_ok rfl) (z_byk bcX1_pass_0 0 9 _ bcX1_pass_0_ok rfl) rfl
set_option maxHeartbeats 4000000 in
set_option maxRecDepth 100000 in
theorem k_X0_know (l : Launch) (sa : Nat → Nat) (dC : Nat → ClassId) (dI : Nat → Nat → Nat) (ch : Nat) (tn : Nat) (p2 : Int32) (p3 : Int32) (p4 : Int32) (ct : Nat) (ch_names : Int32) (ch_gone : Int32) (ch_goal : Int32) (ch_lastHour : Int32) (ch_unsure : Nat) (ch_seats : Nat) (ch_unsureCount : Int32) (ch_states : Int32) (ch_worth : Nat) (ch_certain : Int32) (ch_ifTold : Nat) (ch_ifGone : Nat) (ch_digits : Nat) (ch_open : Int32) (ch_doubtful : Int32) (ch_outcomes : Int32) (cA_ch_unsure : ClassId) (f_ch_unsure : Nat → Int32) (cA_ch_seats : ClassId) (f_ch_seats : Nat → Int32) (tn_hours : Int32) (tn_courts : Int32) (tn_gateCount : Int32) (tn_people : Int32) (tn_lines : Int32) (tn_falseHours : Int32) (tn_strayers : Int32) (tn_deep : Int32) (tn_above : Nat) (tn_doors : Nat) (tn_degrees : Nat) (tn_neighbours : Nat) (tn_shows : Nat) (tn_oneEnd : Nat) (tn_otherEnd : Nat) (tn_told : Nat) (tn_strayParts : Nat) (tn_strayCourts : Nat) (b_ch_lastHour : 0 ≤ ch_lastHour.toInt ∧ ch_lastHour.toInt ≤ 48) (b_ch_unsureCount : 0 ≤ ch_unsureCount.toInt ∧ ch_unsureCount.toInt ≤ 4) (b_ch_states : 1 ≤ ch_states.toInt ∧ ch_states.toInt ≤ 81) (b_f_ch_unsure : ∀ j : Nat, 0 ≤ (f_ch_unsure j).toInt ∧ (f_ch_unsure j).toInt ≤ 9) (b_f_ch_seats : ∀ j : Nat, (-1) ≤ (f_ch_seats j).toInt ∧ (f_ch_seats j).toInt ≤ 3) (b_tn_hours : 0 ≤ tn_hours.toInt ∧ tn_hours.toInt ≤ 48) (b_tn_courts : 0 ≤ tn_courts.toInt ∧ tn_courts.toInt ≤ 10) (b_tn_gateCount : 0 ≤ tn_gateCount.toInt ∧ tn_gateCount.toInt ≤ 16) (b_tn_people : 0 ≤ tn_people.toInt ∧ tn_people.toInt ≤ 10) (b_tn_falseHours : 0 ≤ tn_falseHours.toInt ∧ tn_falseHours.toInt ≤ 9) (b_tn_deep : 0 ≤ tn_deep.toInt ∧ tn_deep.toInt ≤ 1) (sz : Nat) : Met l yX0_know (.code yX0_know cX0_know 6 none :: zT) ({ frames := 1, cells := 0, slots := 0, locals := 21 }) (va_Pc [.ref ch, .ref tn, .int p2, .int p3, .int p4] (zB sa dC dI (zV72 ch ct ch_names ch_gone ch_goal ch_lastHour ch_unsure ch_seats ch_unsureCount ch_states ch_worth ch_certain ch_ifTold ch_ifGone ch_digits ch_open ch_doubtful ch_outcomes ch_unsure cA_ch_unsure f_ch_unsure ch_seats cA_ch_seats f_ch_seats tn tn_hours tn_courts tn_gateCount tn_people tn_lines tn_falseHours tn_strayers tn_deep tn_above tn_doors tn_degrees tn_neighbours tn_shows tn_oneEnd tn_otherEnd tn_told tn_strayParts tn_strayCourts) [(cA_ch_unsure, .int), (cA_ch_seats, .int)] sz)) (va_Qv (fun _ : Unit => True) (fun _ t => ∃ (n_ch_1 : Int32) (n_ch_2 : Int32) (n_ch_7 : Int32) (n_ch_8 : Int32) (n_ch_unsure : Nat → Int32) (n_ch_seats : Nat → Int32), (0 ≤ n_ch_7.toInt ∧ n_ch_7.toInt ≤ 4) ∧ (1 ≤ n_ch_8.toInt ∧ n_ch_8.toInt ≤ 81) ∧ (∀ j : Nat, 0 ≤ (n_ch_unsure j).toInt ∧ (n_ch_unsure j).toInt ≤ 9) ∧ (∀ j : Nat, (-1) ≤ (n_ch_seats j).toInt ∧ (n_ch_seats j).toInt ≤ 3) ∧ zW dC dI (zV72 ch tn n_ch_1 n_ch_2 ch_goal ch_lastHour ch_unsure ch_seats n_ch_7 n_ch_8 ch_worth ch_certain ch_ifTold ch_ifGone ch_digits ch_open ch_doubtful ch_outcomes ch_unsure cA_ch_unsure n_ch_unsure ch_seats cA_ch_seats n_ch_seats tn tn_hours tn_courts tn_gateCount tn_people tn_lines tn_falseHours tn_strayers tn_deep tn_above tn_doors tn_degrees tn_neighbours tn_shows tn_oneEnd tn_otherEnd tn_told tn_strayParts tn_strayCourts) [] (va_A (zV72 ch ct ch_names ch_gone ch_goal ch_lastHour ch_unsure ch_seats ch_unsureCount ch_states ch_worth ch_certain ch_ifTold ch_ifGone ch_digits ch_open ch_doubtful ch_outcomes ch_unsure cA_ch_unsure f_ch_unsure ch_seats cA_ch_seats f_ch_seats tn tn_hours tn_courts tn_gateCount tn_people tn_lines tn_falseHours tn_strayers tn_deep tn_above tn_doors tn_degrees tn_neighbours tn_shows tn_oneEnd tn_otherEnd tn_told tn_strayParts tn_strayCourts) sz) t) (va_A (zV72 ch ct ch_names ch_gone ch_goal ch_lastHour ch_unsure ch_seats ch_unsureCount ch_states ch_worth ch_certain ch_ifTold ch_ifGone ch_digits ch_open ch_doubtful ch_outcomes ch_unsure cA_ch_unsure f_ch_unsure ch_seats cA_ch_seats f_ch_seats tn tn_hours tn_courts tn_gateCount tn_people tn_lines tn_falseHours tn_strayers tn_deep tn_above tn_doors tn_degrees tn_neighbours tn_shows tn_oneEnd tn_otherEnd tn_told tn_strayParts tn_strayCourts) sz)) 0 0 (va_A (zV72 ch ct ch_names ch_gone ch_goal ch_lastHour ch_unsure ch_seats ch_unsureCount ch_states ch_worth ch_certain ch_ifTold ch_ifGone ch_digits ch_open ch_doubtful ch_outcomes ch_unsure cA_ch_unsure f_ch_unsure ch_seats cA_ch_seats f_ch_seats tn tn_hours tn_courts tn_gateCount tn_people tn_lines tn_falseHours tn_strayers tn_deep tn_above tn_doors tn_degrees tn_neighbours tn_shows tn_oneEnd tn_otherEnd tn_told tn_strayParts tn_strayCourts) sz) := by
  refine z_enter (by decide) (by exact (Nat.le_of_ble_eq_true rfl)) ?_
  intro p e s m args below meth c ls A R Qc hargs hsz hQe hAe hRe hx hb hml hr hts hown hlocks hin hl hP hK hD hN hXs hA hS
  rw [hAe] at hQe
  have hown : s.vm.findClass RX0 = some m.cls := hown
  have hl : lv_has ls 6 [(0, .ref ch), (1, .ref tn), (2, .int p2), (3, .int p3), (4, .int p4)] := hl
  refine lv_aload_n hx hb dX0_know_0 rfl (lv_at hl 0 rfl) ?_
  refine lv_aload_n hx hb dX0_know_1 rfl (lv_at hl 1 rfl) ?_
  refine va_put (D := (dC, dI)) (ci := 0) (v := .ref tn) (ty := (.object "NameGate$Town")) (C := RX0) (T := TX0) (N := 17) hx hb hts zl_X0 tyX0 tyX0_ok nmX0 hown hK hP hD hS 0 rfl rfl 0 (by decide) (hts _ zw_t2_95) (fun _ h9 => h9) rfl (by decide +kernel) rfl rfl (Nat.le_of_ble_eq_true rfl) dX0_know_2 (fun H locs hP hD hS => ?_)
  have hP : va_P (dC, dI) vwCl (zV72 ch tn ch_names ch_gone ch_goal ch_lastHour ch_unsure ch_seats ch_unsureCount ch_states ch_worth ch_certain ch_ifTold ch_ifGone ch_digits ch_open ch_doubtful ch_outcomes ch_unsure cA_ch_unsure f_ch_unsure ch_seats cA_ch_seats f_ch_seats tn tn_hours tn_courts tn_gateCount tn_people tn_lines tn_falseHours tn_strayers tn_deep tn_above tn_doors tn_degrees tn_neighbours tn_shows tn_oneEnd tn_otherEnd tn_told tn_strayParts tn_strayCourts) H := hP
  have hD : va_D A (zV72 ch tn ch_names ch_gone ch_goal ch_lastHour ch_unsure ch_seats ch_unsureCount ch_states ch_worth ch_certain ch_ifTold ch_ifGone ch_digits ch_open ch_doubtful ch_outcomes ch_unsure cA_ch_unsure f_ch_unsure ch_seats cA_ch_seats f_ch_seats tn tn_hours tn_courts tn_gateCount tn_people tn_lines tn_falseHours tn_strayers tn_deep tn_above tn_doors tn_degrees tn_neighbours tn_shows tn_oneEnd tn_otherEnd tn_told tn_strayParts tn_strayCourts) := hD
  refine lv_aload_n hx hb dX0_know_5 rfl (lv_at hl 0 rfl) ?_
  refine lv_iload_n hx hb dX0_know_6 rfl (lv_at hl 2 rfl) ?_
  refine va_put (D := (dC, dI)) (ci := 0) (v := .int p2) (ty := .int) (C := RX0) (T := TX0) (N := 17) hx hb hts zl_X0 tyX0 tyX0_ok nmX0 hown hK hP hD hS 0 rfl rfl 1 (by decide) (hts _ zw_t2_96) (fun _ h9 => h9) rfl (by decide +kernel) rfl rfl (Nat.le_of_ble_eq_true rfl) dX0_know_7 (fun H locs hP hD hS => ?_)
  have hP : va_P (dC, dI) vwCl (zV72 ch tn p2 ch_gone ch_goal ch_lastHour ch_unsure ch_seats ch_unsureCount ch_states ch_worth ch_certain ch_ifTold ch_ifGone ch_digits ch_open ch_doubtful ch_outcomes ch_unsure cA_ch_unsure f_ch_unsure ch_seats cA_ch_seats f_ch_seats tn tn_hours tn_courts tn_gateCount tn_people tn_lines tn_falseHours tn_strayers tn_deep tn_above tn_doors tn_degrees tn_neighbours tn_shows tn_oneEnd tn_otherEnd tn_told tn_strayParts tn_strayCourts) H := hP
  have hD : va_D A (zV72 ch tn p2 ch_gone ch_goal ch_lastHour ch_unsure ch_seats ch_unsureCount ch_states ch_worth ch_certain ch_ifTold ch_ifGone ch_digits ch_open ch_doubtful ch_outcomes ch_unsure cA_ch_unsure f_ch_unsure ch_seats cA_ch_seats f_ch_seats tn tn_hours tn_courts tn_gateCount tn_people tn_lines tn_falseHours tn_strayers tn_deep tn_above tn_doors tn_degrees tn_neighbours tn_shows tn_oneEnd tn_otherEnd tn_told tn_strayParts tn_strayCourts) := hD
  refine lv_aload_n hx hb dX0_know_10 rfl (lv_at hl 0 rfl) ?_
  refine lv_iload hx hb dX0_know_11 (lv_at hl 4 rfl) ?_
  refine va_put (D := (dC, dI)) (ci := 0) (v := .int p4) (ty := .int) (C := RX0) (T := TX0) (N := 17) hx hb hts zl_X0 tyX0 tyX0_ok nmX0 hown hK hP hD hS 0 rfl rfl 2 (by decide) (hts _ zw_t2_97) (fun _ h9 => h9) rfl (by decide +kernel) rfl rfl (Nat.le_of_ble_eq_true rfl) dX0_know_13 (fun H locs hP hD hS => ?_)
  have hP : va_P (dC, dI) vwCl (zV72 ch tn p2 p4 ch_goal ch_lastHour ch_unsure ch_seats ch_unsureCount ch_states ch_worth ch_certain ch_ifTold ch_ifGone ch_digits ch_open ch_doubtful ch_outcomes ch_unsure cA_ch_unsure f_ch_unsure ch_seats cA_ch_seats f_ch_seats tn tn_hours tn_courts tn_gateCount tn_people tn_lines tn_falseHours tn_strayers tn_deep tn_above tn_doors tn_degrees tn_neighbours tn_shows tn_oneEnd tn_otherEnd tn_told tn_strayParts tn_strayCourts) H := hP
  have hD : va_D A (zV72 ch tn p2 p4 ch_goal ch_lastHour ch_unsure ch_seats ch_unsureCount ch_states ch_worth ch_certain ch_ifTold ch_ifGone ch_digits ch_open ch_doubtful ch_outcomes ch_unsure cA_ch_unsure f_ch_unsure ch_seats cA_ch_seats f_ch_seats tn tn_hours tn_courts tn_gateCount tn_people tn_lines tn_falseHours tn_strayers tn_deep tn_above tn_doors tn_degrees tn_neighbours tn_shows tn_oneEnd tn_otherEnd tn_told tn_strayParts tn_strayCourts) := hD
  refine lv_aload_n hx hb dX0_know_16 rfl (lv_at hl 0 rfl) ?_
  refine lv_iconst (v := 0) hx hb dX0_know_17 (by decide) ?_
  refine va_put (D := (dC, dI)) (ci := 0) (v := .int 0) (ty := .int) (C := RX0) (T := TX0) (N := 17) hx hb hts zl_X0 tyX0 tyX0_ok nmX0 hown hK hP hD hS 0 rfl rfl 7 (by decide) (hts _ zw_t2_102) (fun _ h9 => h9) rfl (by decide +kernel) rfl rfl (Nat.le_of_ble_eq_true rfl) dX0_know_18 (fun H locs hP hD hS => ?_)
  have hP : va_P (dC, dI) vwCl (zV73 ch tn p2 p4 ch_goal ch_lastHour ch_unsure ch_seats ch_states ch_worth ch_certain ch_ifTold ch_ifGone ch_digits ch_open ch_doubtful ch_outcomes ch_unsure cA_ch_unsure f_ch_unsure ch_seats cA_ch_seats f_ch_seats tn tn_hours tn_courts tn_gateCount tn_people tn_lines tn_falseHours tn_strayers tn_deep tn_above tn_doors tn_degrees tn_neighbours tn_shows tn_oneEnd tn_otherEnd tn_told tn_strayParts tn_strayCourts) H := hP
  have hD : va_D A (zV73 ch tn p2 p4 ch_goal ch_lastHour ch_unsure ch_seats ch_states ch_worth ch_certain ch_ifTold ch_ifGone ch_digits ch_open ch_doubtful ch_outcomes ch_unsure cA_ch_unsure f_ch_unsure ch_seats cA_ch_seats f_ch_seats tn tn_hours tn_courts tn_gateCount tn_people tn_lines tn_falseHours tn_strayers tn_deep tn_above tn_doors tn_degrees tn_neighbours tn_shows tn_oneEnd tn_otherEnd tn_told tn_strayParts tn_strayCourts) := hD
  refine lv_aload_n hx hb dX0_know_21 rfl (lv_at hl 0 rfl) ?_
  refine lv_iconst (v := 1) hx hb dX0_know_22 (by decide) ?_
  refine va_put (D := (dC, dI)) (ci := 0) (v := .int 1) (ty := .int) (C := RX0) (T := TX0) (N := 17) hx hb hts zl_X0 tyX0 tyX0_ok nmX0 hown hK hP hD hS 0 rfl rfl 8 (by decide) (hts _ zw_t2_103) (fun _ h9 => h9) rfl (by decide +kernel) rfl rfl (Nat.le_of_ble_eq_true rfl) dX0_know_23 (fun H locs hP hD hS => ?_)
  have hP : va_P (dC, dI) vwCl (zV74 ch tn p2 p4 ch_goal ch_lastHour ch_unsure ch_seats ch_worth ch_certain ch_ifTold ch_ifGone ch_digits ch_open ch_doubtful ch_outcomes ch_unsure cA_ch_unsure f_ch_unsure ch_seats cA_ch_seats f_ch_seats tn tn_hours tn_courts tn_gateCount tn_people tn_lines tn_falseHours tn_strayers tn_deep tn_above tn_doors tn_degrees tn_neighbours tn_shows tn_oneEnd tn_otherEnd tn_told tn_strayParts tn_strayCourts) H := hP
  have hD : va_D A (zV74 ch tn p2 p4 ch_goal ch_lastHour ch_unsure ch_seats ch_worth ch_certain ch_ifTold ch_ifGone ch_digits ch_open ch_doubtful ch_outcomes ch_unsure cA_ch_unsure f_ch_unsure ch_seats cA_ch_seats f_ch_seats tn tn_hours tn_courts tn_gateCount tn_people tn_lines tn_falseHours tn_strayers tn_deep tn_above tn_doors tn_degrees tn_neighbours tn_shows tn_oneEnd tn_otherEnd tn_told tn_strayParts tn_strayCourts) := hD
  refine lv_iconst (v := 0) hx hb dX0_know_26 (by decide) ?_
  refine lv_istore (lv' := [(5, .int 0), (0, .ref ch), (1, .ref tn), (2, .int p2), (3, .int p3), (4, .int p4)]) hx hb dX0_know_27 hl (by decide) rfl (fun ls hl => ?_)
  have loop_1 : ∀ (t : Nat) (v5_1 : Int32) (w_ch_7_3 : Int32) (w_ch_8_4 : Int32) (g_ch_unsure_5 : Nat → Int32) (g_ch_seats_2 : Nat → Int32) (b_v5_1 : 0 ≤ v5_1.toInt ∧ v5_1.toInt ≤ 10) (b_w_ch_7_3 : 0 ≤ w_ch_7_3.toInt ∧ w_ch_7_3.toInt ≤ 4) (b_w_ch_8_4 : 1 ≤ w_ch_8_4.toInt ∧ w_ch_8_4.toInt ≤ 81) (b_g_ch_unsure_5 : ∀ j : Nat, 0 ≤ (g_ch_unsure_5 j).toInt ∧ (g_ch_unsure_5 j).toInt ≤ 9) (b_g_ch_seats_2 : ∀ j : Nat, (-1) ≤ (g_ch_seats_2 j).toInt ∧ (g_ch_seats_2 j).toInt ≤ 3) (ex_1 : (w_ch_7_3.toInt = 0 ∧ w_ch_8_4.toInt = 1) ∨ (w_ch_7_3.toInt = 1 ∧ w_ch_8_4.toInt = 3) ∨ (w_ch_7_3.toInt = 2 ∧ w_ch_8_4.toInt = 9) ∨ (w_ch_7_3.toInt = 3 ∧ w_ch_8_4.toInt = 27) ∨ (w_ch_7_3.toInt = 4 ∧ w_ch_8_4.toInt = 81)) (H : Heap) (locs : List Loc) (ls : Array Slot), 10 - v5_1.toInt < (t : Int) → va_P (dC, dI) vwCl (zV72 ch tn p2 p4 ch_goal ch_lastHour ch_unsure ch_seats w_ch_7_3 w_ch_8_4 ch_worth ch_certain ch_ifTold ch_ifGone ch_digits ch_open ch_doubtful ch_outcomes ch_unsure cA_ch_unsure g_ch_unsure_5 ch_seats cA_ch_seats g_ch_seats_2 tn tn_hours tn_courts tn_gateCount tn_people tn_lines tn_falseHours tn_strayers tn_deep tn_above tn_doors tn_degrees tn_neighbours tn_shows tn_oneEnd tn_otherEnd tn_told tn_strayParts tn_strayCourts) H → va_D A (zV72 ch tn p2 p4 ch_goal ch_lastHour ch_unsure ch_seats w_ch_7_3 w_ch_8_4 ch_worth ch_certain ch_ifTold ch_ifGone ch_digits ch_open ch_doubtful ch_outcomes ch_unsure cA_ch_unsure g_ch_unsure_5 ch_seats cA_ch_seats g_ch_seats_2 tn tn_hours tn_courts tn_gateCount tn_people tn_lines tn_falseHours tn_strayers tn_deep tn_above tn_doors tn_degrees tn_neighbours tn_shows tn_oneEnd tn_otherEnd tn_told tn_strayParts tn_strayCourts) → va_S A s.heap H locs → lv_has ls 6 [(0, .ref ch), (1, .ref tn), (2, .int p2), (3, .int p3), (4, .int p4), (5, .int v5_1)] → W p l e R s m args below meth c H locs 0 0 (MQ below Qc args s 0 0 A) (F0 m 29 ls []) := by
    intro t
    induction t with
    | zero => intro v5_1 w_ch_7_3 w_ch_8_4 g_ch_unsure_5 g_ch_seats_2 b_v5_1 b_w_ch_7_3 b_w_ch_8_4 b_g_ch_unsure_5 b_g_ch_seats_2 ex_1 H locs ls hmu _ _ _ _; exact absurd hmu (by first | with_reducible assumption | omega)
    | succ t ih_1 =>
      intro v5_1 w_ch_7_3 w_ch_8_4 g_ch_unsure_5 g_ch_seats_2 b_v5_1 b_w_ch_7_3 b_w_ch_8_4 b_g_ch_unsure_5 b_g_ch_seats_2 ex_1 H locs ls hmu hP hD hS hl
      refine lv_iload hx hb dX0_know_29 (lv_at hl 5 rfl) ?_
      refine lv_bipush (v := 10) hx hb dX0_know_31 (by decide) ?_
      refine lv_icmp_ge (tgt := 118) hx hb dX0_know_33 (by decide) (fun c_6 => ?_) (fun c_6 => ?_)
      · have ic_6 := zz_ge rfl (show Int32.toInt 10 = 10 from by decide) c_6
        exact W.vret hx hb hr (fun t ht hW => by rw [← hQe]; exact ⟨⟨(), rfl, trivial, ⟨p2, p4, w_ch_7_3, w_ch_8_4, g_ch_unsure_5, g_ch_seats_2, (by first | with_reducible assumption | omega), (by first | with_reducible assumption | omega), b_g_ch_unsure_5, b_g_ch_seats_2, z_ret hP hK hD ht hW [0, 1, 2, 3] [] rfl (by decide) rfl⟩⟩, hS.F ht⟩) hS.2.2 dX0_know_118
      · have ic_6 := zz_nge rfl (show Int32.toInt 10 = 10 from by decide) c_6
        refine lv_aload_n hx hb dX0_know_36 rfl (lv_at hl 0 rfl) ?_
        refine va_get (D := (dC, dI)) (ci := 0) (v := .ref ch_seats) (C := RX0) (T := TX0) (N := 17) hx hb hts zl_X0 hown hK hP 0 rfl rfl 6 (by decide) (hts _ zw_t2_101) (fun _ h9 => h9) rfl dX0_know_37 ?_
        refine lv_iload hx hb dX0_know_40 (lv_at hl 5 rfl) ?_
        refine lv_iconst (v := (-1)) hx hb dX0_know_42 (by decide) ?_
        refine va_iast hx hb hK hP hD hS 2 1 rfl rfl (zi_in rfl (by first | with_reducible assumption | omega)) dX0_know_43 (fun H locs hP hD hS => ?_)
        obtain ⟨f_7, ef_7⟩ : ∃ g : Nat → Int32, g = upd g_ch_seats_2 (Int32.toNatClampNeg v5_1) (-1) := ⟨_, rfl⟩
        have b_f_7 : ∀ j : Nat, (-1) ≤ (f_7 j).toInt ∧ (f_7 j).toInt ≤ 3 := by rw [ef_7]; exact zi_upd b_g_ch_seats_2 (show Int32.toInt (-1) = (-1) from by decide) (by first | with_reducible assumption | omega)
        have hP : va_P (dC, dI) vwCl (zV72 ch tn p2 p4 ch_goal ch_lastHour ch_unsure ch_seats w_ch_7_3 w_ch_8_4 ch_worth ch_certain ch_ifTold ch_ifGone ch_digits ch_open ch_doubtful ch_outcomes ch_unsure cA_ch_unsure g_ch_unsure_5 ch_seats cA_ch_seats (upd g_ch_seats_2 (Int32.toNatClampNeg v5_1) (-1)) tn tn_hours tn_courts tn_gateCount tn_people tn_lines tn_falseHours tn_strayers tn_deep tn_above tn_doors tn_degrees tn_neighbours tn_shows tn_oneEnd tn_otherEnd tn_told tn_strayParts tn_strayCourts) H := hP
        have hD : va_D A (zV72 ch tn p2 p4 ch_goal ch_lastHour ch_unsure ch_seats w_ch_7_3 w_ch_8_4 ch_worth ch_certain ch_ifTold ch_ifGone ch_digits ch_open ch_doubtful ch_outcomes ch_unsure cA_ch_unsure g_ch_unsure_5 ch_seats cA_ch_seats (upd g_ch_seats_2 (Int32.toNatClampNeg v5_1) (-1)) tn tn_hours tn_courts tn_gateCount tn_people tn_lines tn_falseHours tn_strayers tn_deep tn_above tn_doors tn_degrees tn_neighbours tn_shows tn_oneEnd tn_otherEnd tn_told tn_strayParts tn_strayCourts) := hD
        rw [← ef_7] at hP hD
        refine lv_aload_n hx hb dX0_know_44 rfl (lv_at hl 1 rfl) ?_
        refine va_get (D := (dC, dI)) (ci := 7) (v := .int tn_strayers) (C := RX7) (T := TX7) (N := 18) hx hb hts zl_X7 hown hK hP 3 rfl rfl 6 (by decide) (hts _ zw_t1_72) (fun _ h9 => h9) rfl dX0_know_45 ?_
        refine lv_iload_n hx hb dX0_know_48 rfl (lv_at hl 2 rfl) ?_
        refine lv_iand hx hb dX0_know_49 ?_
        refine lv_topi (fun x_8 ex_8 => ?_)
        refine lv_iload_n hx hb dX0_know_50 rfl (lv_at hl 3 rfl) ?_
        refine lv_iconst (v := (-1)) hx hb dX0_know_51 (by decide) ?_
        refine lv_ixor hx hb dX0_know_52 ?_
        refine lv_topi (fun x_9 ex_9 => ?_)
        refine lv_iand hx hb dX0_know_53 ?_
        refine lv_topi (fun x_10 ex_10 => ?_)
        refine lv_iload hx hb dX0_know_54 (lv_at hl 5 rfl) ?_
        obtain ⟨hPc, hDc, hFc⟩ := z_cut (wc := []) hP hD hS hA [] rfl (by decide +kernel)
        have hKc := hK.sub (tys' := []) [] rfl
        refine va_calli (va_runSN (As := [.int x_10, .int v5_1]) (rest := []) ⟨hx, hb, hml, hown, hts⟩ (k_X9_has l sa dC dI x_10 v5_1 H.size) ⟨va_cnB 2 hts (z_gI zw_t3_124) rfl rfl rfl hN.2.2.2.2.2.1 (hts _ zw_t1_1) (by decide +kernel) (by rw [← hRe]; exact ⟨(Nat.le_of_ble_eq_true rfl), (Nat.le_of_ble_eq_true rfl)⟩), (hts _ zw_t3_123), trivial⟩ (z_preS hPc hKc hDc hN hXs hS hFc) rfl rfl hl.1 rfl (lv_room (Nat.le_of_ble_eq_true rfl)) dX0_know_56 (by rw [← hRe]; exact ⟨(Nat.le_of_ble_eq_true rfl), (Nat.le_of_ble_eq_true rfl)⟩)) hS (fun q _ h => hFc q h) hFc (fun r_11 u t H1 locs ht hvm hw hB hz1 hk1 hS => ?_)
        obtain ⟨hP, hD, hK⟩ := z_after3 (wn := (zV72 ch tn p2 p4 ch_goal ch_lastHour ch_unsure ch_seats w_ch_7_3 w_ch_8_4 ch_worth ch_certain ch_ifTold ch_ifGone ch_digits ch_open ch_doubtful ch_outcomes ch_unsure cA_ch_unsure g_ch_unsure_5 ch_seats cA_ch_seats f_7 tn tn_hours tn_courts tn_gateCount tn_people tn_lines tn_falseHours tn_strayers tn_deep tn_above tn_doors tn_degrees tn_neighbours tn_shows tn_oneEnd tn_otherEnd tn_told tn_strayParts tn_strayCourts)) hB ht hvm hP hD hK [] [0, 1, 2, 3] rfl 4 rfl (by decide +kernel) rfl (by decide +kernel) hk1 hFc
        generalize H1 = H at hP hS ⊢
        have hK : va_K (dC, dI) vwCl [(cA_ch_unsure, .int), (cA_ch_seats, .int)] s := hK
        have b_r_11 : 0 ≤ r_11.toInt ∧ r_11.toInt ≤ 1 := hw
        refine lv_if_eq (tgt := 112) hx hb dX0_know_59 (by decide) (fun c_12 => ?_) (fun c_12 => ?_)
        · have ic_12 := zz_eq rfl (show Int32.toInt 0 = 0 from by decide) c_12
          obtain ⟨x_13, ex_13⟩ : ∃ z : Int32, z = v5_1 + Int32.ofInt 1 := ⟨_, rfl⟩
          have b_x_13 : x_13.toInt = v5_1.toInt + 1 := by rw [ex_13]; exact zi_add rfl (show (Int32.ofInt 1).toInt = 1 from by decide) (by first | with_reducible assumption | omega)
          refine lv_iinc (v := x_13) (lv' := [(5, .int x_13), (0, .ref ch), (1, .ref tn), (2, .int p2), (3, .int p3), (4, .int p4)]) hx hb dX0_know_112 hl (k := 5) rfl ex_13.symm (by decide) rfl (fun ls hl => ?_)
          refine lv_goto (tgt := 29) hx hb dX0_know_115 (by decide) ?_
          exact ih_1 x_13 w_ch_7_3 w_ch_8_4 g_ch_unsure_5 f_7 (by first | with_reducible assumption | omega) (by first | with_reducible assumption | omega) (by first | with_reducible assumption | omega) b_g_ch_unsure_5 b_f_7 (by first | decide | omega) _ _ _ (by first | with_reducible assumption | omega) (hP.sub (ws' := (zV72 ch tn p2 p4 ch_goal ch_lastHour ch_unsure ch_seats w_ch_7_3 w_ch_8_4 ch_worth ch_certain ch_ifTold ch_ifGone ch_digits ch_open ch_doubtful ch_outcomes ch_unsure cA_ch_unsure g_ch_unsure_5 ch_seats cA_ch_seats f_7 tn tn_hours tn_courts tn_gateCount tn_people tn_lines tn_falseHours tn_strayers tn_deep tn_above tn_doors tn_degrees tn_neighbours tn_shows tn_oneEnd tn_otherEnd tn_told tn_strayParts tn_strayCourts)) [0, 1, 2, 3] rfl) (hD.sub (ws' := (zV72 ch tn p2 p4 ch_goal ch_lastHour ch_unsure ch_seats w_ch_7_3 w_ch_8_4 ch_worth ch_certain ch_ifTold ch_ifGone ch_digits ch_open ch_doubtful ch_outcomes ch_unsure cA_ch_unsure g_ch_unsure_5 ch_seats cA_ch_seats f_7 tn tn_hours tn_courts tn_gateCount tn_people tn_lines tn_falseHours tn_strayers tn_deep tn_above tn_doors tn_degrees tn_neighbours tn_shows tn_oneEnd tn_otherEnd tn_told tn_strayParts tn_strayCourts)) [0, 1, 2, 3] (by decide) rfl) hS (lv_sub hl [1, 2, 3, 4, 5, 0] rfl)
        · have ic_12 := zz_neq rfl (show Int32.toInt 0 = 0 from by decide) c_12
          refine lv_aload_n hx hb dX0_know_62 rfl (lv_at hl 0 rfl) ?_
          refine va_get (D := (dC, dI)) (ci := 0) (v := .int w_ch_7_3) (C := RX0) (T := TX0) (N := 17) hx hb hts zl_X0 hown hK hP 0 rfl rfl 7 (by decide) (hts _ zw_t2_102) (fun _ h9 => h9) rfl dX0_know_63 ?_
          refine lv_iconst (v := 4) hx hb dX0_know_66 (by decide) ?_
          refine lv_icmp_ge (tgt := 112) hx hb dX0_know_67 (by decide) (fun c_14 => ?_) (fun c_14 => ?_)
          · have ic_14 := zz_ge rfl (show Int32.toInt 4 = 4 from by decide) c_14
            obtain ⟨x_15, ex_15⟩ : ∃ z : Int32, z = v5_1 + Int32.ofInt 1 := ⟨_, rfl⟩
            have b_x_15 : x_15.toInt = v5_1.toInt + 1 := by rw [ex_15]; exact zi_add rfl (show (Int32.ofInt 1).toInt = 1 from by decide) (by first | with_reducible assumption | omega)
            refine lv_iinc (v := x_15) (lv' := [(5, .int x_15), (0, .ref ch), (1, .ref tn), (2, .int p2), (3, .int p3), (4, .int p4)]) hx hb dX0_know_112 hl (k := 5) rfl ex_15.symm (by decide) rfl (fun ls hl => ?_)
            refine lv_goto (tgt := 29) hx hb dX0_know_115 (by decide) ?_
            exact ih_1 x_15 w_ch_7_3 w_ch_8_4 g_ch_unsure_5 f_7 (by first | with_reducible assumption | omega) (by first | with_reducible assumption | omega) (by first | with_reducible assumption | omega) b_g_ch_unsure_5 b_f_7 (by first | decide | omega) _ _ _ (by first | with_reducible assumption | omega) (hP.sub (ws' := (zV72 ch tn p2 p4 ch_goal ch_lastHour ch_unsure ch_seats w_ch_7_3 w_ch_8_4 ch_worth ch_certain ch_ifTold ch_ifGone ch_digits ch_open ch_doubtful ch_outcomes ch_unsure cA_ch_unsure g_ch_unsure_5 ch_seats cA_ch_seats f_7 tn tn_hours tn_courts tn_gateCount tn_people tn_lines tn_falseHours tn_strayers tn_deep tn_above tn_doors tn_degrees tn_neighbours tn_shows tn_oneEnd tn_otherEnd tn_told tn_strayParts tn_strayCourts)) [0, 1, 2, 3] rfl) (hD.sub (ws' := (zV72 ch tn p2 p4 ch_goal ch_lastHour ch_unsure ch_seats w_ch_7_3 w_ch_8_4 ch_worth ch_certain ch_ifTold ch_ifGone ch_digits ch_open ch_doubtful ch_outcomes ch_unsure cA_ch_unsure g_ch_unsure_5 ch_seats cA_ch_seats f_7 tn tn_hours tn_courts tn_gateCount tn_people tn_lines tn_falseHours tn_strayers tn_deep tn_above tn_doors tn_degrees tn_neighbours tn_shows tn_oneEnd tn_otherEnd tn_told tn_strayParts tn_strayCourts)) [0, 1, 2, 3] (by decide) rfl) hS (lv_sub hl [1, 2, 3, 4, 5, 0] rfl)
          · have ic_14 := zz_nge rfl (show Int32.toInt 4 = 4 from by decide) c_14
            refine lv_aload_n hx hb dX0_know_70 rfl (lv_at hl 0 rfl) ?_
            refine va_get (D := (dC, dI)) (ci := 0) (v := .ref ch_seats) (C := RX0) (T := TX0) (N := 17) hx hb hts zl_X0 hown hK hP 0 rfl rfl 6 (by decide) (hts _ zw_t2_101) (fun _ h9 => h9) rfl dX0_know_71 ?_
            refine lv_iload hx hb dX0_know_74 (lv_at hl 5 rfl) ?_
            refine lv_aload_n hx hb dX0_know_76 rfl (lv_at hl 0 rfl) ?_
            refine va_get (D := (dC, dI)) (ci := 0) (v := .int w_ch_7_3) (C := RX0) (T := TX0) (N := 17) hx hb hts zl_X0 hown hK hP 0 rfl rfl 7 (by decide) (hts _ zw_t2_102) (fun _ h9 => h9) rfl dX0_know_77 ?_
            refine va_iast hx hb hK hP hD hS 2 1 rfl rfl (zi_in rfl (by first | with_reducible assumption | omega)) dX0_know_80 (fun H locs hP hD hS => ?_)
            obtain ⟨f_16, ef_16⟩ : ∃ g : Nat → Int32, g = upd f_7 (Int32.toNatClampNeg v5_1) w_ch_7_3 := ⟨_, rfl⟩
            have b_f_16 : ∀ j : Nat, (-1) ≤ (f_16 j).toInt ∧ (f_16 j).toInt ≤ 3 := by rw [ef_16]; exact zi_upd b_f_7 rfl (by first | with_reducible assumption | omega)
            have hP : va_P (dC, dI) vwCl (zV72 ch tn p2 p4 ch_goal ch_lastHour ch_unsure ch_seats w_ch_7_3 w_ch_8_4 ch_worth ch_certain ch_ifTold ch_ifGone ch_digits ch_open ch_doubtful ch_outcomes ch_unsure cA_ch_unsure g_ch_unsure_5 ch_seats cA_ch_seats (upd f_7 (Int32.toNatClampNeg v5_1) w_ch_7_3) tn tn_hours tn_courts tn_gateCount tn_people tn_lines tn_falseHours tn_strayers tn_deep tn_above tn_doors tn_degrees tn_neighbours tn_shows tn_oneEnd tn_otherEnd tn_told tn_strayParts tn_strayCourts) H := hP
            have hD : va_D A (zV72 ch tn p2 p4 ch_goal ch_lastHour ch_unsure ch_seats w_ch_7_3 w_ch_8_4 ch_worth ch_certain ch_ifTold ch_ifGone ch_digits ch_open ch_doubtful ch_outcomes ch_unsure cA_ch_unsure g_ch_unsure_5 ch_seats cA_ch_seats (upd f_7 (Int32.toNatClampNeg v5_1) w_ch_7_3) tn tn_hours tn_courts tn_gateCount tn_people tn_lines tn_falseHours tn_strayers tn_deep tn_above tn_doors tn_degrees tn_neighbours tn_shows tn_oneEnd tn_otherEnd tn_told tn_strayParts tn_strayCourts) := hD
            rw [← ef_16] at hP hD
            refine lv_aload_n hx hb dX0_know_81 rfl (lv_at hl 0 rfl) ?_
            refine va_get (D := (dC, dI)) (ci := 0) (v := .ref ch_unsure) (C := RX0) (T := TX0) (N := 17) hx hb hts zl_X0 hown hK hP 0 rfl rfl 5 (by decide) (hts _ zw_t2_100) (fun _ h9 => h9) rfl dX0_know_82 ?_
            refine lv_aload_n hx hb dX0_know_85 rfl (lv_at hl 0 rfl) ?_
            refine va_get (D := (dC, dI)) (ci := 0) (v := .int w_ch_7_3) (C := RX0) (T := TX0) (N := 17) hx hb hts zl_X0 hown hK hP 0 rfl rfl 7 (by decide) (hts _ zw_t2_102) (fun _ h9 => h9) rfl dX0_know_86 ?_
            refine lv_iload hx hb dX0_know_89 (lv_at hl 5 rfl) ?_
            refine va_iast hx hb hK hP hD hS 1 0 rfl rfl (zi_in rfl (by first | with_reducible assumption | omega)) dX0_know_91 (fun H locs hP hD hS => ?_)
            obtain ⟨f_17, ef_17⟩ : ∃ g : Nat → Int32, g = upd g_ch_unsure_5 (Int32.toNatClampNeg w_ch_7_3) v5_1 := ⟨_, rfl⟩
            have b_f_17 : ∀ j : Nat, 0 ≤ (f_17 j).toInt ∧ (f_17 j).toInt ≤ 9 := by rw [ef_17]; exact zi_upd b_g_ch_unsure_5 rfl (by first | with_reducible assumption | omega)
            have hP : va_P (dC, dI) vwCl (zV72 ch tn p2 p4 ch_goal ch_lastHour ch_unsure ch_seats w_ch_7_3 w_ch_8_4 ch_worth ch_certain ch_ifTold ch_ifGone ch_digits ch_open ch_doubtful ch_outcomes ch_unsure cA_ch_unsure (upd g_ch_unsure_5 (Int32.toNatClampNeg w_ch_7_3) v5_1) ch_seats cA_ch_seats f_16 tn tn_hours tn_courts tn_gateCount tn_people tn_lines tn_falseHours tn_strayers tn_deep tn_above tn_doors tn_degrees tn_neighbours tn_shows tn_oneEnd tn_otherEnd tn_told tn_strayParts tn_strayCourts) H := hP
            have hD : va_D A (zV72 ch tn p2 p4 ch_goal ch_lastHour ch_unsure ch_seats w_ch_7_3 w_ch_8_4 ch_worth ch_certain ch_ifTold ch_ifGone ch_digits ch_open ch_doubtful ch_outcomes ch_unsure cA_ch_unsure (upd g_ch_unsure_5 (Int32.toNatClampNeg w_ch_7_3) v5_1) ch_seats cA_ch_seats f_16 tn tn_hours tn_courts tn_gateCount tn_people tn_lines tn_falseHours tn_strayers tn_deep tn_above tn_doors tn_degrees tn_neighbours tn_shows tn_oneEnd tn_otherEnd tn_told tn_strayParts tn_strayCourts) := hD
            rw [← ef_17] at hP hD
            refine lv_aload_n hx hb dX0_know_92 rfl (lv_at hl 0 rfl) ?_
            refine lv_dup hx hb dX0_know_93 rfl ?_
            refine va_get (D := (dC, dI)) (ci := 0) (v := .int w_ch_7_3) (C := RX0) (T := TX0) (N := 17) hx hb hts zl_X0 hown hK hP 0 rfl rfl 7 (by decide) (hts _ zw_t2_102) (fun _ h9 => h9) rfl dX0_know_94 ?_
            refine lv_iconst (v := 1) hx hb dX0_know_97 (by decide) ?_
            refine lv_iadd hx hb dX0_know_98 ?_
            refine lv_topi (fun x_18 ex_18 => ?_)
            have b_x_18 : x_18.toInt = w_ch_7_3.toInt + 1 := by rw [ex_18]; exact zi_add rfl (show Int32.toInt 1 = 1 from by decide) (by first | with_reducible assumption | omega)
            refine va_put (D := (dC, dI)) (ci := 0) (v := .int x_18) (ty := .int) (C := RX0) (T := TX0) (N := 17) hx hb hts zl_X0 tyX0 tyX0_ok nmX0 hown hK hP hD hS 0 rfl rfl 7 (by decide) (hts _ zw_t2_102) (fun _ h9 => h9) rfl (by decide +kernel) rfl rfl (Nat.le_of_ble_eq_true rfl) dX0_know_99 (fun H locs hP hD hS => ?_)
            have hP : va_P (dC, dI) vwCl (zV72 ch tn p2 p4 ch_goal ch_lastHour ch_unsure ch_seats x_18 w_ch_8_4 ch_worth ch_certain ch_ifTold ch_ifGone ch_digits ch_open ch_doubtful ch_outcomes ch_unsure cA_ch_unsure f_17 ch_seats cA_ch_seats f_16 tn tn_hours tn_courts tn_gateCount tn_people tn_lines tn_falseHours tn_strayers tn_deep tn_above tn_doors tn_degrees tn_neighbours tn_shows tn_oneEnd tn_otherEnd tn_told tn_strayParts tn_strayCourts) H := hP
            have hD : va_D A (zV72 ch tn p2 p4 ch_goal ch_lastHour ch_unsure ch_seats x_18 w_ch_8_4 ch_worth ch_certain ch_ifTold ch_ifGone ch_digits ch_open ch_doubtful ch_outcomes ch_unsure cA_ch_unsure f_17 ch_seats cA_ch_seats f_16 tn tn_hours tn_courts tn_gateCount tn_people tn_lines tn_falseHours tn_strayers tn_deep tn_above tn_doors tn_degrees tn_neighbours tn_shows tn_oneEnd tn_otherEnd tn_told tn_strayParts tn_strayCourts) := hD
            refine lv_aload_n hx hb dX0_know_102 rfl (lv_at hl 0 rfl) ?_
            refine lv_dup hx hb dX0_know_103 rfl ?_
            refine va_get (D := (dC, dI)) (ci := 0) (v := .int w_ch_8_4) (C := RX0) (T := TX0) (N := 17) hx hb hts zl_X0 hown hK hP 0 rfl rfl 8 (by decide) (hts _ zw_t2_103) (fun _ h9 => h9) rfl dX0_know_104 ?_
            refine lv_iconst (v := 3) hx hb dX0_know_107 (by decide) ?_
            refine lv_imul hx hb dX0_know_108 ?_
            refine lv_topi (fun x_19 ex_19 => ?_)
            have b_x_19 : x_19.toInt = w_ch_8_4.toInt * 3 := by rw [ex_19]; exact zi_mul rfl (show Int32.toInt 3 = 3 from by decide) (by first | with_reducible assumption | omega)
            refine va_put (D := (dC, dI)) (ci := 0) (v := .int x_19) (ty := .int) (C := RX0) (T := TX0) (N := 17) hx hb hts zl_X0 tyX0 tyX0_ok nmX0 hown hK hP hD hS 0 rfl rfl 8 (by decide) (hts _ zw_t2_103) (fun _ h9 => h9) rfl (by decide +kernel) rfl rfl (Nat.le_of_ble_eq_true rfl) dX0_know_109 (fun H locs hP hD hS => ?_)
            have hP : va_P (dC, dI) vwCl (zV72 ch tn p2 p4 ch_goal ch_lastHour ch_unsure ch_seats x_18 x_19 ch_worth ch_certain ch_ifTold ch_ifGone ch_digits ch_open ch_doubtful ch_outcomes ch_unsure cA_ch_unsure f_17 ch_seats cA_ch_seats f_16 tn tn_hours tn_courts tn_gateCount tn_people tn_lines tn_falseHours tn_strayers tn_deep tn_above tn_doors tn_degrees tn_neighbours tn_shows tn_oneEnd tn_otherEnd tn_told tn_strayParts tn_strayCourts) H := hP
            have hD : va_D A (zV72 ch tn p2 p4 ch_goal ch_lastHour ch_unsure ch_seats x_18 x_19 ch_worth ch_certain ch_ifTold ch_ifGone ch_digits ch_open ch_doubtful ch_outcomes ch_unsure cA_ch_unsure f_17 ch_seats cA_ch_seats f_16 tn tn_hours tn_courts tn_gateCount tn_people tn_lines tn_falseHours tn_strayers tn_deep tn_above tn_doors tn_degrees tn_neighbours tn_shows tn_oneEnd tn_otherEnd tn_told tn_strayParts tn_strayCourts) := hD
            obtain ⟨x_20, ex_20⟩ : ∃ z : Int32, z = v5_1 + Int32.ofInt 1 := ⟨_, rfl⟩
            have b_x_20 : x_20.toInt = v5_1.toInt + 1 := by rw [ex_20]; exact zi_add rfl (show (Int32.ofInt 1).toInt = 1 from by decide) (by first | with_reducible assumption | omega)
            refine lv_iinc (v := x_20) (lv' := [(5, .int x_20), (0, .ref ch), (1, .ref tn), (2, .int p2), (3, .int p3), (4, .int p4)]) hx hb dX0_know_112 hl (k := 5) rfl ex_20.symm (by decide) rfl (fun ls hl => ?_)
            refine lv_goto (tgt := 29) hx hb dX0_know_115 (by decide) ?_
            exact ih_1 x_20 x_18 x_19 f_17 f_16 (by first | with_reducible assumption | omega) (by first | with_reducible assumption | omega) (by first | with_reducible assumption | omega) b_f_17 b_f_16 (by first | decide | omega) _ _ _ (by first | with_reducible assumption | omega) (hP.sub (ws' := (zV72 ch tn p2 p4 ch_goal ch_lastHour ch_unsure ch_seats x_18 x_19 ch_worth ch_certain ch_ifTold ch_ifGone ch_digits ch_open ch_doubtful ch_outcomes ch_unsure cA_ch_unsure f_17 ch_seats cA_ch_seats f_16 tn tn_hours tn_courts tn_gateCount tn_people tn_lines tn_falseHours tn_strayers tn_deep tn_above tn_doors tn_degrees tn_neighbours tn_shows tn_oneEnd tn_otherEnd tn_told tn_strayParts tn_strayCourts)) [0, 1, 2, 3] rfl) (hD.sub (ws' := (zV72 ch tn p2 p4 ch_goal ch_lastHour ch_unsure ch_seats x_18 x_19 ch_worth ch_certain ch_ifTold ch_ifGone ch_digits ch_open ch_doubtful ch_outcomes ch_unsure cA_ch_unsure f_17 ch_seats cA_ch_seats f_16 tn tn_hours tn_courts tn_gateCount tn_people tn_lines tn_falseHours tn_strayers tn_deep tn_above tn_doors tn_degrees tn_neighbours tn_shows tn_oneEnd tn_otherEnd tn_told tn_strayParts tn_strayCourts)) [0, 1, 2, 3] (by decide) rfl) hS (lv_sub hl [1, 2, 3, 4, 5, 0] rfl)
  exact loop_1 12 (0) (0) (1) f_ch_unsure f_ch_seats (by decide) (by decide) (by decide) b_f_ch_unsure b_f_ch_seats (by first | decide | omega) _ _ _ (by decide) hP hD hS (lv_sub hl [1, 2, 3, 4, 5, 0] rfl)
set_option maxHeartbeats 4000000 in
set_option maxRecDepth 100000 in
theorem k_X0_worthAt (l : Launch) (sa : Nat → Nat) (dC : Nat → ClassId) (dI : Nat → Nat → Nat) (ch : Nat) (p1 : Int32) (p2 : Int32) (p3 : Int32) (tn : Nat) (ch_names : Int32) (ch_gone : Int32) (ch_goal : Int32) (ch_lastHour : Int32) (ch_unsure : Nat) (ch_seats : Nat) (ch_unsureCount : Int32) (ch_states : Int32) (ch_worth : Nat) (ch_certain : Int32) (ch_ifTold : Nat) (ch_ifGone : Nat) (ch_digits : Nat) (ch_open : Int32) (ch_doubtful : Int32) (ch_outcomes : Int32) (cA_ch_worth : ClassId) (f_ch_worth : Nat → Int32) (b_p1 : 0 ≤ p1.toInt ∧ p1.toInt ≤ 9) (b_p2 : 0 ≤ p2.toInt ∧ p2.toInt ≤ 48) (b_p3 : 0 ≤ p3.toInt ∧ p3.toInt ≤ 80) (b_ch_lastHour : 0 ≤ ch_lastHour.toInt ∧ ch_lastHour.toInt ≤ 48) (b_ch_unsureCount : 0 ≤ ch_unsureCount.toInt ∧ ch_unsureCount.toInt ≤ 4) (b_ch_states : 1 ≤ ch_states.toInt ∧ ch_states.toInt ≤ 81) (sz : Nat) : Met l yX0_worthAt (.code yX0_worthAt cX0_worthAt 4 (some .int) :: zT) ({ frames := 0, cells := 0, slots := 0, locals := 0 }) (va_Pc [.ref ch, .int p1, .int p2, .int p3] (zB sa dC dI (zV75 ch tn ch_names ch_gone ch_goal ch_lastHour ch_unsure ch_seats ch_unsureCount ch_states ch_worth ch_certain ch_ifTold ch_ifGone ch_digits ch_open ch_doubtful ch_outcomes ch_worth cA_ch_worth f_ch_worth) [(cA_ch_worth, .int)] sz)) (va_Qi (fun (r : Int32) (_ : Unit) => True) (fun _ t => zW dC dI (zV75 ch tn ch_names ch_gone ch_goal ch_lastHour ch_unsure ch_seats ch_unsureCount ch_states ch_worth ch_certain ch_ifTold ch_ifGone ch_digits ch_open ch_doubtful ch_outcomes ch_worth cA_ch_worth f_ch_worth) [] (va_A (zV75 ch tn ch_names ch_gone ch_goal ch_lastHour ch_unsure ch_seats ch_unsureCount ch_states ch_worth ch_certain ch_ifTold ch_ifGone ch_digits ch_open ch_doubtful ch_outcomes ch_worth cA_ch_worth f_ch_worth) sz) t) (va_A (zV75 ch tn ch_names ch_gone ch_goal ch_lastHour ch_unsure ch_seats ch_unsureCount ch_states ch_worth ch_certain ch_ifTold ch_ifGone ch_digits ch_open ch_doubtful ch_outcomes ch_worth cA_ch_worth f_ch_worth) sz)) 0 0 (va_A (zV75 ch tn ch_names ch_gone ch_goal ch_lastHour ch_unsure ch_seats ch_unsureCount ch_states ch_worth ch_certain ch_ifTold ch_ifGone ch_digits ch_open ch_doubtful ch_outcomes ch_worth cA_ch_worth f_ch_worth) sz) := by
  refine z_enter (by decide) (by exact (Nat.le_of_ble_eq_true rfl)) ?_
  intro p e s m args below meth c ls A R Qc hargs hsz hQe hAe hRe hx hb hml hr hts hown hlocks hin hl hP hK hD hN hXs hA hS
  rw [hAe] at hQe
  have hown : s.vm.findClass RX0 = some m.cls := hown
  have hl : lv_has ls 4 [(0, .ref ch), (1, .int p1), (2, .int p2), (3, .int p3)] := hl
  refine lv_iload_n hx hb dX0_worthAt_0 rfl (lv_at hl 1 rfl) ?_
  refine lv_aload_n hx hb dX0_worthAt_1 rfl (lv_at hl 0 rfl) ?_
  refine va_get (D := (dC, dI)) (ci := 0) (v := .int ch_goal) (C := RX0) (T := TX0) (N := 17) hx hb hts zl_X0 hown hK hP 0 rfl rfl 3 (by decide) (hts _ zw_t2_98) (fun _ h9 => h9) rfl dX0_worthAt_2 ?_
  have nb_ch_goal := zi_nb ch_goal
  refine lv_icmp_ne (tgt := 11) hx hb dX0_worthAt_5 (by decide) (fun c_1 => ?_) (fun c_1 => ?_)
  · have ic_1 := zz_ne rfl rfl c_1
    refine lv_iload_n hx hb dX0_worthAt_11 rfl (lv_at hl 2 rfl) ?_
    refine lv_aload_n hx hb dX0_worthAt_12 rfl (lv_at hl 0 rfl) ?_
    refine va_get (D := (dC, dI)) (ci := 0) (v := .int ch_lastHour) (C := RX0) (T := TX0) (N := 17) hx hb hts zl_X0 hown hK hP 0 rfl rfl 4 (by decide) (hts _ zw_t2_99) (fun _ h9 => h9) rfl dX0_worthAt_13 ?_
    refine lv_icmp_lt (tgt := 23) hx hb dX0_worthAt_16 (by decide) (fun c_2 => ?_) (fun c_2 => ?_)
    · have ic_2 := zz_lt rfl rfl c_2
      refine lv_aload_n hx hb dX0_worthAt_23 rfl (lv_at hl 0 rfl) ?_
      refine va_get (D := (dC, dI)) (ci := 0) (v := .ref ch_worth) (C := RX0) (T := TX0) (N := 17) hx hb hts zl_X0 hown hK hP 0 rfl rfl 9 (by decide) (hts _ zw_t2_104) (fun _ h9 => h9) rfl dX0_worthAt_24 ?_
      refine lv_iload_n hx hb dX0_worthAt_27 rfl (lv_at hl 2 rfl) ?_
      refine lv_bipush (v := 10) hx hb dX0_worthAt_28 (by decide) ?_
      refine lv_imul hx hb dX0_worthAt_30 ?_
      refine lv_topi (fun x_3 ex_3 => ?_)
      have b_x_3 : x_3.toInt = p2.toInt * 10 := by rw [ex_3]; exact zi_mul rfl (show Int32.toInt 10 = 10 from by decide) (by first | with_reducible assumption | omega)
      refine lv_iload_n hx hb dX0_worthAt_31 rfl (lv_at hl 1 rfl) ?_
      refine lv_iadd hx hb dX0_worthAt_32 ?_
      refine lv_topi (fun x_4 ex_4 => ?_)
      have b_x_4 : x_4.toInt = x_3.toInt + p1.toInt := by rw [ex_4]; exact zi_add rfl rfl (by first | with_reducible assumption | omega)
      refine lv_bipush (v := 81) hx hb dX0_worthAt_33 (by decide) ?_
      refine lv_imul hx hb dX0_worthAt_35 ?_
      refine lv_topi (fun x_5 ex_5 => ?_)
      have b_x_5 : x_5.toInt = x_4.toInt * 81 := by rw [ex_5]; exact zi_mul rfl (show Int32.toInt 81 = 81 from by decide) (by first | with_reducible assumption | omega)
      refine lv_iload_n hx hb dX0_worthAt_36 rfl (lv_at hl 3 rfl) ?_
      refine lv_iadd hx hb dX0_worthAt_37 ?_
      refine lv_topi (fun x_6 ex_6 => ?_)
      have b_x_6 : x_6.toInt = x_5.toInt + p3.toInt := by rw [ex_6]; exact zi_add rfl rfl (by first | with_reducible assumption | omega)
      refine va_iald hx hb hK hP 1 0 rfl rfl (zi_in rfl (by first | with_reducible assumption | omega)) dX0_worthAt_38 ?_
      refine lv_topi (fun x_7 ex_7 => ?_)
      exact W.iret (v := x_7) hx hb hr (fun t ht hW => by rw [← hQe]; exact ⟨⟨x_7, (), rfl, trivial, z_ret hP hK hD ht hW [0, 1] [] rfl (by decide) rfl⟩, hS.F ht⟩) hS.2.2 dX0_worthAt_39
    · have ic_2 := zz_nlt rfl rfl c_2
      refine lv_iconst (v := 0) hx hb dX0_worthAt_19 (by decide) ?_
      refine lv_goto (tgt := 39) hx hb dX0_worthAt_20 (by decide) ?_
      exact W.iret (v := 0) hx hb hr (fun t ht hW => by rw [← hQe]; exact ⟨⟨0, (), rfl, trivial, z_ret hP hK hD ht hW [0, 1] [] rfl (by decide) rfl⟩, hS.F ht⟩) hS.2.2 dX0_worthAt_39
  · have ic_1 := zz_nne rfl rfl c_1
    refine lv_ldc (v := 1000000000) hx hb hown (hts _ zw_t5_77) dX0_worthAt_8 ?_
    exact W.iret (v := 1000000000) hx hb hr (fun t ht hW => by rw [← hQe]; exact ⟨⟨1000000000, (), rfl, trivial, z_ret hP hK hD ht hW [0, 1] [] rfl (by decide) rfl⟩, hS.F ht⟩) hS.2.2 dX0_worthAt_10
set_option maxHeartbeats 4000000 in
set_option maxRecDepth 100000 in
theorem k_X0_lookAtHour (l : Launch) (sa : Nat → Nat) (dC : Nat → ClassId) (dI : Nat → Nat → Nat) (ch : Nat) (p1 : Int32) (tn : Nat) (ch_names : Int32) (ch_gone : Int32) (ch_goal : Int32) (ch_lastHour : Int32) (ch_unsure : Nat) (ch_seats : Nat) (ch_unsureCount : Int32) (ch_states : Int32) (ch_worth : Nat) (ch_certain : Int32) (ch_ifTold : Nat) (ch_ifGone : Nat) (ch_digits : Nat) (ch_open : Int32) (ch_doubtful : Int32) (ch_outcomes : Int32) (cA_ch_unsure : ClassId) (f_ch_unsure : Nat → Int32) (cA_ch_ifTold : ClassId) (f_ch_ifTold : Nat → Int32) (cA_ch_ifGone : ClassId) (f_ch_ifGone : Nat → Int32) (tn_hours : Int32) (tn_courts : Int32) (tn_gateCount : Int32) (tn_people : Int32) (tn_lines : Int32) (tn_falseHours : Int32) (tn_strayers : Int32) (tn_deep : Int32) (tn_above : Nat) (tn_doors : Nat) (tn_degrees : Nat) (tn_neighbours : Nat) (tn_shows : Nat) (tn_oneEnd : Nat) (tn_otherEnd : Nat) (tn_told : Nat) (tn_strayParts : Nat) (tn_strayCourts : Nat) (cA_tn_shows : ClassId) (f_tn_shows : Nat → Int32) (cA_tn_told : ClassId) (f_tn_told : Nat → Int32) (cA_tn_strayCourts : ClassId) (f_tn_strayCourts : Nat → Int32) (b_p1 : 0 ≤ p1.toInt ∧ p1.toInt ≤ 47) (b_ch_lastHour : 0 ≤ ch_lastHour.toInt ∧ ch_lastHour.toInt ≤ 48) (b_ch_unsureCount : 0 ≤ ch_unsureCount.toInt ∧ ch_unsureCount.toInt ≤ 4) (b_ch_states : 1 ≤ ch_states.toInt ∧ ch_states.toInt ≤ 81) (b_f_ch_unsure : ∀ j : Nat, 0 ≤ (f_ch_unsure j).toInt ∧ (f_ch_unsure j).toInt ≤ 9) (b_tn_hours : 0 ≤ tn_hours.toInt ∧ tn_hours.toInt ≤ 48) (b_tn_courts : 0 ≤ tn_courts.toInt ∧ tn_courts.toInt ≤ 10) (b_tn_gateCount : 0 ≤ tn_gateCount.toInt ∧ tn_gateCount.toInt ≤ 16) (b_tn_people : 0 ≤ tn_people.toInt ∧ tn_people.toInt ≤ 10) (b_tn_falseHours : 0 ≤ tn_falseHours.toInt ∧ tn_falseHours.toInt ≤ 9) (b_tn_deep : 0 ≤ tn_deep.toInt ∧ tn_deep.toInt ≤ 1) (b_f_tn_told : ∀ j : Nat, 0 ≤ (f_tn_told j).toInt ∧ (f_tn_told j).toInt ≤ 9) (b_f_tn_strayCourts : ∀ j : Nat, 0 ≤ (f_tn_strayCourts j).toInt ∧ (f_tn_strayCourts j).toInt ≤ 9) (sz : Nat) : Met l yX0_lookAtHour (.code yX0_lookAtHour cX0_lookAtHour 5 none :: zT) ({ frames := 3, cells := 0, slots := 0, locals := 72 }) (va_Pc [.ref ch, .int p1] (zB sa dC dI (zV76 ch tn ch_names ch_gone ch_goal ch_lastHour ch_unsure ch_seats ch_unsureCount ch_states ch_worth ch_certain ch_ifTold ch_ifGone ch_digits ch_open ch_doubtful ch_outcomes ch_unsure cA_ch_unsure f_ch_unsure ch_ifTold cA_ch_ifTold f_ch_ifTold ch_ifGone cA_ch_ifGone f_ch_ifGone tn tn_hours tn_courts tn_gateCount tn_people tn_lines tn_falseHours tn_strayers tn_deep tn_above tn_doors tn_degrees tn_neighbours tn_shows tn_oneEnd tn_otherEnd tn_told tn_strayParts tn_strayCourts tn_shows cA_tn_shows f_tn_shows tn_told cA_tn_told f_tn_told tn_strayCourts cA_tn_strayCourts f_tn_strayCourts) [(cA_ch_unsure, .int), (cA_ch_ifTold, .int), (cA_ch_ifGone, .int), (cA_tn_shows, .int), (cA_tn_told, .int), (cA_tn_strayCourts, .int)] sz)) (va_Qv (fun _ : Unit => True) (fun _ t => ∃ (n_ch_10 : Int32) (n_ch_ifTold : Nat → Int32) (n_ch_ifGone : Nat → Int32), zW dC dI (zV76 ch tn ch_names ch_gone ch_goal ch_lastHour ch_unsure ch_seats ch_unsureCount ch_states ch_worth n_ch_10 ch_ifTold ch_ifGone ch_digits ch_open ch_doubtful ch_outcomes ch_unsure cA_ch_unsure f_ch_unsure ch_ifTold cA_ch_ifTold n_ch_ifTold ch_ifGone cA_ch_ifGone n_ch_ifGone tn tn_hours tn_courts tn_gateCount tn_people tn_lines tn_falseHours tn_strayers tn_deep tn_above tn_doors tn_degrees tn_neighbours tn_shows tn_oneEnd tn_otherEnd tn_told tn_strayParts tn_strayCourts tn_shows cA_tn_shows f_tn_shows tn_told cA_tn_told f_tn_told tn_strayCourts cA_tn_strayCourts f_tn_strayCourts) [] (va_A (zV76 ch tn ch_names ch_gone ch_goal ch_lastHour ch_unsure ch_seats ch_unsureCount ch_states ch_worth ch_certain ch_ifTold ch_ifGone ch_digits ch_open ch_doubtful ch_outcomes ch_unsure cA_ch_unsure f_ch_unsure ch_ifTold cA_ch_ifTold f_ch_ifTold ch_ifGone cA_ch_ifGone f_ch_ifGone tn tn_hours tn_courts tn_gateCount tn_people tn_lines tn_falseHours tn_strayers tn_deep tn_above tn_doors tn_degrees tn_neighbours tn_shows tn_oneEnd tn_otherEnd tn_told tn_strayParts tn_strayCourts tn_shows cA_tn_shows f_tn_shows tn_told cA_tn_told f_tn_told tn_strayCourts cA_tn_strayCourts f_tn_strayCourts) sz) t) (va_A (zV76 ch tn ch_names ch_gone ch_goal ch_lastHour ch_unsure ch_seats ch_unsureCount ch_states ch_worth ch_certain ch_ifTold ch_ifGone ch_digits ch_open ch_doubtful ch_outcomes ch_unsure cA_ch_unsure f_ch_unsure ch_ifTold cA_ch_ifTold f_ch_ifTold ch_ifGone cA_ch_ifGone f_ch_ifGone tn tn_hours tn_courts tn_gateCount tn_people tn_lines tn_falseHours tn_strayers tn_deep tn_above tn_doors tn_degrees tn_neighbours tn_shows tn_oneEnd tn_otherEnd tn_told tn_strayParts tn_strayCourts tn_shows cA_tn_shows f_tn_shows tn_told cA_tn_told f_tn_told tn_strayCourts cA_tn_strayCourts f_tn_strayCourts) sz)) 0 0 (va_A (zV76 ch tn ch_names ch_gone ch_goal ch_lastHour ch_unsure ch_seats ch_unsureCount ch_states ch_worth ch_certain ch_ifTold ch_ifGone ch_digits ch_open ch_doubtful ch_outcomes ch_unsure cA_ch_unsure f_ch_unsure ch_ifTold cA_ch_ifTold f_ch_ifTold ch_ifGone cA_ch_ifGone f_ch_ifGone tn tn_hours tn_courts tn_gateCount tn_people tn_lines tn_falseHours tn_strayers tn_deep tn_above tn_doors tn_degrees tn_neighbours tn_shows tn_oneEnd tn_otherEnd tn_told tn_strayParts tn_strayCourts tn_shows cA_tn_shows f_tn_shows tn_told cA_tn_told f_tn_told tn_strayCourts cA_tn_strayCourts f_tn_strayCourts) sz) := by
  refine z_enter (by decide) (by exact (Nat.le_of_ble_eq_true rfl)) ?_
  intro p e s m args below meth c ls A R Qc hargs hsz hQe hAe hRe hx hb hml hr hts hown hlocks hin hl hP hK hD hN hXs hA hS
  rw [hAe] at hQe
  have hown : s.vm.findClass RX0 = some m.cls := hown
  have hl : lv_has ls 5 [(0, .ref ch), (1, .int p1)] := hl
  refine lv_aload_n hx hb dX0_lookAtHour_0 rfl (lv_at hl 0 rfl) ?_
  refine va_get (D := (dC, dI)) (ci := 0) (v := .int ch_names) (C := RX0) (T := TX0) (N := 17) hx hb hts zl_X0 hown hK hP 0 rfl rfl 1 (by decide) (hts _ zw_t2_96) (fun _ h9 => h9) rfl dX0_lookAtHour_1 ?_
  refine lv_istore_n (lv' := [(2, .int ch_names), (0, .ref ch), (1, .int p1)]) hx hb dX0_lookAtHour_4 rfl hl (by decide) rfl (fun ls hl => ?_)
  refine lv_iconst (v := 0) hx hb dX0_lookAtHour_5 (by decide) ?_
  refine lv_istore_n (lv' := [(3, .int 0), (2, .int ch_names), (0, .ref ch), (1, .int p1)]) hx hb dX0_lookAtHour_6 rfl hl (by decide) rfl (fun ls hl => ?_)
  have loop_1 : ∀ (t : Nat) (v2_1 : Int32) (v3_2 : Int32) (g_ch_ifTold_3 : Nat → Int32) (g_ch_ifGone_4 : Nat → Int32) (b_v3_2 : 0 ≤ v3_2.toInt ∧ v3_2.toInt ≤ 4) (H : Heap) (locs : List Loc) (ls : Array Slot), 4 - v3_2.toInt < (t : Int) → va_P (dC, dI) vwCl (zV76 ch tn ch_names ch_gone ch_goal ch_lastHour ch_unsure ch_seats ch_unsureCount ch_states ch_worth ch_certain ch_ifTold ch_ifGone ch_digits ch_open ch_doubtful ch_outcomes ch_unsure cA_ch_unsure f_ch_unsure ch_ifTold cA_ch_ifTold g_ch_ifTold_3 ch_ifGone cA_ch_ifGone g_ch_ifGone_4 tn tn_hours tn_courts tn_gateCount tn_people tn_lines tn_falseHours tn_strayers tn_deep tn_above tn_doors tn_degrees tn_neighbours tn_shows tn_oneEnd tn_otherEnd tn_told tn_strayParts tn_strayCourts tn_shows cA_tn_shows f_tn_shows tn_told cA_tn_told f_tn_told tn_strayCourts cA_tn_strayCourts f_tn_strayCourts) H → va_D A (zV76 ch tn ch_names ch_gone ch_goal ch_lastHour ch_unsure ch_seats ch_unsureCount ch_states ch_worth ch_certain ch_ifTold ch_ifGone ch_digits ch_open ch_doubtful ch_outcomes ch_unsure cA_ch_unsure f_ch_unsure ch_ifTold cA_ch_ifTold g_ch_ifTold_3 ch_ifGone cA_ch_ifGone g_ch_ifGone_4 tn tn_hours tn_courts tn_gateCount tn_people tn_lines tn_falseHours tn_strayers tn_deep tn_above tn_doors tn_degrees tn_neighbours tn_shows tn_oneEnd tn_otherEnd tn_told tn_strayParts tn_strayCourts tn_shows cA_tn_shows f_tn_shows tn_told cA_tn_told f_tn_told tn_strayCourts cA_tn_strayCourts f_tn_strayCourts) → va_S A s.heap H locs → lv_has ls 5 [(0, .ref ch), (1, .int p1), (2, .int v2_1), (3, .int v3_2)] → W p l e R s m args below meth c H locs 0 0 (MQ below Qc args s 0 0 A) (F0 m 7 ls []) := by
    intro t
    induction t with
    | zero => intro v2_1 v3_2 g_ch_ifTold_3 g_ch_ifGone_4 b_v3_2 H locs ls hmu _ _ _ _; exact absurd hmu (by first | with_reducible assumption | omega)
    | succ t ih_1 =>
      intro v2_1 v3_2 g_ch_ifTold_3 g_ch_ifGone_4 b_v3_2 H locs ls hmu hP hD hS hl
      refine lv_iload_n hx hb dX0_lookAtHour_7 rfl (lv_at hl 3 rfl) ?_
      refine lv_aload_n hx hb dX0_lookAtHour_8 rfl (lv_at hl 0 rfl) ?_
      refine va_get (D := (dC, dI)) (ci := 0) (v := .int ch_unsureCount) (C := RX0) (T := TX0) (N := 17) hx hb hts zl_X0 hown hK hP 0 rfl rfl 7 (by decide) (hts _ zw_t2_102) (fun _ h9 => h9) rfl dX0_lookAtHour_9 ?_
      refine lv_icmp_ge (tgt := 75) hx hb dX0_lookAtHour_12 (by decide) (fun c_5 => ?_) (fun c_5 => ?_)
      · have ic_5 := zz_ge rfl rfl c_5
        refine lv_aload_n hx hb dX0_lookAtHour_75 rfl (lv_at hl 0 rfl) ?_
        refine lv_aload_n hx hb dX0_lookAtHour_76 rfl (lv_at hl 0 rfl) ?_
        refine va_get (D := (dC, dI)) (ci := 0) (v := .ref tn) (C := RX0) (T := TX0) (N := 17) hx hb hts zl_X0 hown hK hP 0 rfl rfl 0 (by decide) (hts _ zw_t2_95) (fun _ h9 => h9) rfl dX0_lookAtHour_77 ?_
        refine lv_iload_n hx hb dX0_lookAtHour_80 rfl (lv_at hl 2 rfl) ?_
        refine lv_iload_n hx hb dX0_lookAtHour_81 rfl (lv_at hl 1 rfl) ?_
        refine lv_aload_n hx hb dX0_lookAtHour_82 rfl (lv_at hl 0 rfl) ?_
        refine va_get (D := (dC, dI)) (ci := 0) (v := .int ch_gone) (C := RX0) (T := TX0) (N := 17) hx hb hts zl_X0 hown hK hP 0 rfl rfl 2 (by decide) (hts _ zw_t2_97) (fun _ h9 => h9) rfl dX0_lookAtHour_83 ?_
        obtain ⟨hPc, hDc, hFc⟩ := z_cut (wc := (zV3 tn tn_hours tn_courts tn_gateCount tn_people tn_lines tn_falseHours tn_strayers tn_deep tn_above tn_doors tn_degrees tn_neighbours tn_shows tn_oneEnd tn_otherEnd tn_told tn_strayParts tn_strayCourts tn_shows cA_tn_shows f_tn_shows tn_told cA_tn_told f_tn_told tn_strayCourts cA_tn_strayCourts f_tn_strayCourts)) hP hD hS hA [4, 5, 6, 7] rfl (by decide +kernel)
        have hKc := hK.sub (tys' := [(cA_tn_shows, .int), (cA_tn_told, .int), (cA_tn_strayCourts, .int)]) [3, 4, 5] rfl
        refine va_calli (va_runV (As := [.int v2_1, .int p1, .int ch_gone]) (rest := [.ref ch]) ⟨hx, hb, hml, hown, hts⟩ (k_X7_openBy l sa dC dI tn v2_1 p1 ch_gone tn_hours tn_courts tn_gateCount tn_people tn_lines tn_falseHours tn_strayers tn_deep tn_above tn_doors tn_degrees tn_neighbours tn_shows tn_oneEnd tn_otherEnd tn_told tn_strayParts tn_strayCourts cA_tn_shows f_tn_shows cA_tn_told f_tn_told cA_tn_strayCourts f_tn_strayCourts b_p1 b_tn_hours b_tn_courts b_tn_gateCount b_tn_people b_tn_falseHours b_tn_deep b_f_tn_told b_f_tn_strayCourts H.size) (cwV 3 hts (z_gV zw_t5_64 zw_t4_41 zw_t4_42 zw_t1_3 zw_t4_43) rfl rfl rfl (by decide +kernel) (by rw [← hRe]; exact ⟨(Nat.le_of_ble_eq_true rfl), (Nat.le_of_ble_eq_true rfl)⟩)) (z_preV hPc hKc hDc hN hXs hS hFc (q := (RX7, TX7, 18)) (ci := 7) (q0 := 0) rfl rfl) rfl rfl hl.1 rfl (lv_room (Nat.le_of_ble_eq_true rfl)) dX0_lookAtHour_86 (by rw [← hRe]; exact ⟨(Nat.le_of_ble_eq_true rfl), (Nat.le_of_ble_eq_true rfl)⟩)) hS (fun q _ h => hFc q h) hFc (fun r_6 u t H1 locs ht hvm hw hB hz1 hk1 hS => ?_)
        obtain ⟨hP, hD, hK⟩ := z_after3 (wn := (zV76 ch tn ch_names ch_gone ch_goal ch_lastHour ch_unsure ch_seats ch_unsureCount ch_states ch_worth ch_certain ch_ifTold ch_ifGone ch_digits ch_open ch_doubtful ch_outcomes ch_unsure cA_ch_unsure f_ch_unsure ch_ifTold cA_ch_ifTold g_ch_ifTold_3 ch_ifGone cA_ch_ifGone g_ch_ifGone_4 tn tn_hours tn_courts tn_gateCount tn_people tn_lines tn_falseHours tn_strayers tn_deep tn_above tn_doors tn_degrees tn_neighbours tn_shows tn_oneEnd tn_otherEnd tn_told tn_strayParts tn_strayCourts tn_shows cA_tn_shows f_tn_shows tn_told cA_tn_told f_tn_told tn_strayCourts cA_tn_strayCourts f_tn_strayCourts)) hB ht hvm hP hD hK [4, 5, 6, 7] [0, 1, 2, 3] rfl 8 rfl (by decide +kernel) rfl (by decide +kernel) hk1 hFc
        generalize H1 = H at hP hS ⊢
        have hK : va_K (dC, dI) vwCl [(cA_ch_unsure, .int), (cA_ch_ifTold, .int), (cA_ch_ifGone, .int), (cA_tn_shows, .int), (cA_tn_told, .int), (cA_tn_strayCourts, .int)] s := hK
        refine va_put (D := (dC, dI)) (ci := 0) (v := .int r_6) (ty := .int) (C := RX0) (T := TX0) (N := 17) hx hb hts zl_X0 tyX0 tyX0_ok nmX0 hown hK hP hD hS 0 rfl rfl 10 (by decide) (hts _ zw_t2_105) (fun _ h9 => h9) rfl (by decide +kernel) rfl rfl (Nat.le_of_ble_eq_true rfl) dX0_lookAtHour_89 (fun H locs hP hD hS => ?_)
        have hP : va_P (dC, dI) vwCl (zV76 ch tn ch_names ch_gone ch_goal ch_lastHour ch_unsure ch_seats ch_unsureCount ch_states ch_worth r_6 ch_ifTold ch_ifGone ch_digits ch_open ch_doubtful ch_outcomes ch_unsure cA_ch_unsure f_ch_unsure ch_ifTold cA_ch_ifTold g_ch_ifTold_3 ch_ifGone cA_ch_ifGone g_ch_ifGone_4 tn tn_hours tn_courts tn_gateCount tn_people tn_lines tn_falseHours tn_strayers tn_deep tn_above tn_doors tn_degrees tn_neighbours tn_shows tn_oneEnd tn_otherEnd tn_told tn_strayParts tn_strayCourts tn_shows cA_tn_shows f_tn_shows tn_told cA_tn_told f_tn_told tn_strayCourts cA_tn_strayCourts f_tn_strayCourts) H := hP
        have hD : va_D A (zV76 ch tn ch_names ch_gone ch_goal ch_lastHour ch_unsure ch_seats ch_unsureCount ch_states ch_worth r_6 ch_ifTold ch_ifGone ch_digits ch_open ch_doubtful ch_outcomes ch_unsure cA_ch_unsure f_ch_unsure ch_ifTold cA_ch_ifTold g_ch_ifTold_3 ch_ifGone cA_ch_ifGone g_ch_ifGone_4 tn tn_hours tn_courts tn_gateCount tn_people tn_lines tn_falseHours tn_strayers tn_deep tn_above tn_doors tn_degrees tn_neighbours tn_shows tn_oneEnd tn_otherEnd tn_told tn_strayParts tn_strayCourts tn_shows cA_tn_shows f_tn_shows tn_told cA_tn_told f_tn_told tn_strayCourts cA_tn_strayCourts f_tn_strayCourts) := hD
        exact W.vret hx hb hr (fun t ht hW => by rw [← hQe]; exact ⟨⟨(), rfl, trivial, ⟨r_6, g_ch_ifTold_3, g_ch_ifGone_4, z_ret hP hK hD ht hW [0, 1, 2, 3, 4, 5, 6, 7] [] rfl (by decide) rfl⟩⟩, hS.F ht⟩) hS.2.2 dX0_lookAtHour_92
      · have ic_5 := zz_nge rfl rfl c_5
        refine lv_aload_n hx hb dX0_lookAtHour_15 rfl (lv_at hl 0 rfl) ?_
        refine va_get (D := (dC, dI)) (ci := 0) (v := .ref ch_unsure) (C := RX0) (T := TX0) (N := 17) hx hb hts zl_X0 hown hK hP 0 rfl rfl 5 (by decide) (hts _ zw_t2_100) (fun _ h9 => h9) rfl dX0_lookAtHour_16 ?_
        refine lv_iload_n hx hb dX0_lookAtHour_19 rfl (lv_at hl 3 rfl) ?_
        refine va_iald hx hb hK hP 1 0 rfl rfl (zi_in rfl (by first | with_reducible assumption | omega)) dX0_lookAtHour_20 ?_
        refine lv_topi (fun x_7 ex_7 => ?_)
        have b_x_7 : 0 ≤ x_7.toInt ∧ x_7.toInt ≤ 9 := by rw [ex_7]; exact b_f_ch_unsure _
        refine lv_istore (lv' := [(4, .int x_7), (0, .ref ch), (1, .int p1), (2, .int v2_1), (3, .int v3_2)]) hx hb dX0_lookAtHour_21 hl (by decide) rfl (fun ls hl => ?_)
        refine lv_iload_n hx hb dX0_lookAtHour_23 rfl (lv_at hl 3 rfl) ?_
        refine lv_iconst (v := 1) hx hb dX0_lookAtHour_24 (by decide) ?_
        refine lv_iload hx hb dX0_lookAtHour_25 (lv_at hl 0 rfl) ?_
        refine lv_ishl hx hb dX0_lookAtHour_27 ?_
        refine lv_topi (fun x_8 ex_8 => ?_)
        have b_x_8 : 1 ≤ x_8.toInt ∧ x_8.toInt ≤ 1024 := by rw [ex_8]; exact zi_shl1 rfl (by first | with_reducible assumption | omega)
        refine lv_iconst (v := (-1)) hx hb dX0_lookAtHour_28 (by decide) ?_
        refine lv_ixor hx hb dX0_lookAtHour_29 ?_
        refine lv_topi (fun x_9 ex_9 => ?_)
        refine lv_iand hx hb dX0_lookAtHour_30 ?_
        refine lv_topi (fun x_10 ex_10 => ?_)
        refine lv_istore_n (lv' := [(2, .int x_10), (4, .int x_7), (0, .ref ch), (1, .int p1), (3, .int v3_2)]) hx hb dX0_lookAtHour_31 rfl hl (by decide) rfl (fun ls hl => ?_)
        refine lv_aload_n hx hb dX0_lookAtHour_32 rfl (lv_at hl 2 rfl) ?_
        refine va_get (D := (dC, dI)) (ci := 0) (v := .ref ch_ifTold) (C := RX0) (T := TX0) (N := 17) hx hb hts zl_X0 hown hK hP 0 rfl rfl 11 (by decide) (hts _ zw_t2_106) (fun _ h9 => h9) rfl dX0_lookAtHour_33 ?_
        refine lv_iload_n hx hb dX0_lookAtHour_36 rfl (lv_at hl 4 rfl) ?_
        refine lv_aload_n hx hb dX0_lookAtHour_37 rfl (lv_at hl 2 rfl) ?_
        refine va_get (D := (dC, dI)) (ci := 0) (v := .ref tn) (C := RX0) (T := TX0) (N := 17) hx hb hts zl_X0 hown hK hP 0 rfl rfl 0 (by decide) (hts _ zw_t2_95) (fun _ h9 => h9) rfl dX0_lookAtHour_38 ?_
        refine lv_iload hx hb dX0_lookAtHour_41 (lv_at hl 1 rfl) ?_
        refine lv_iload_n hx hb dX0_lookAtHour_43 rfl (lv_at hl 3 rfl) ?_
        refine lv_iconst (v := 0) hx hb dX0_lookAtHour_44 (by decide) ?_
        obtain ⟨hPc, hDc, hFc⟩ := z_cut (wc := (zV3 tn tn_hours tn_courts tn_gateCount tn_people tn_lines tn_falseHours tn_strayers tn_deep tn_above tn_doors tn_degrees tn_neighbours tn_shows tn_oneEnd tn_otherEnd tn_told tn_strayParts tn_strayCourts tn_shows cA_tn_shows f_tn_shows tn_told cA_tn_told f_tn_told tn_strayCourts cA_tn_strayCourts f_tn_strayCourts)) hP hD hS hA [4, 5, 6, 7] rfl (by decide +kernel)
        have hKc := hK.sub (tys' := [(cA_tn_shows, .int), (cA_tn_told, .int), (cA_tn_strayCourts, .int)]) [3, 4, 5] rfl
        refine va_calli (va_runV (As := [.int x_7, .int p1, .int 0]) (rest := [.int v3_2, .ref ch_ifTold]) ⟨hx, hb, hml, hown, hts⟩ (k_X7_showsOf l sa dC dI tn x_7 p1 (0) tn_hours tn_courts tn_gateCount tn_people tn_lines tn_falseHours tn_strayers tn_deep tn_above tn_doors tn_degrees tn_neighbours tn_shows tn_oneEnd tn_otherEnd tn_told tn_strayParts tn_strayCourts cA_tn_shows f_tn_shows cA_tn_told f_tn_told cA_tn_strayCourts f_tn_strayCourts b_x_7 b_p1 b_tn_hours b_tn_courts b_tn_gateCount b_tn_people b_tn_falseHours b_tn_deep b_f_tn_told b_f_tn_strayCourts H.size) (cwV 3 hts (z_gV zw_t5_63 zw_t3_206 zw_t3_207 zw_t1_3 zw_t3_208) rfl rfl rfl (by decide +kernel) (by rw [← hRe]; exact ⟨(Nat.le_of_ble_eq_true rfl), (Nat.le_of_ble_eq_true rfl)⟩)) (z_preV hPc hKc hDc hN hXs hS hFc (q := (RX7, TX7, 18)) (ci := 7) (q0 := 0) rfl rfl) rfl rfl hl.1 rfl (lv_room (Nat.le_of_ble_eq_true rfl)) dX0_lookAtHour_45 (by rw [← hRe]; exact ⟨(Nat.le_of_ble_eq_true rfl), (Nat.le_of_ble_eq_true rfl)⟩)) hS (fun q _ h => hFc q h) hFc (fun r_11 u t H1 locs ht hvm hw hB hz1 hk1 hS => ?_)
        obtain ⟨hP, hD, hK⟩ := z_after3 (wn := (zV76 ch tn ch_names ch_gone ch_goal ch_lastHour ch_unsure ch_seats ch_unsureCount ch_states ch_worth ch_certain ch_ifTold ch_ifGone ch_digits ch_open ch_doubtful ch_outcomes ch_unsure cA_ch_unsure f_ch_unsure ch_ifTold cA_ch_ifTold g_ch_ifTold_3 ch_ifGone cA_ch_ifGone g_ch_ifGone_4 tn tn_hours tn_courts tn_gateCount tn_people tn_lines tn_falseHours tn_strayers tn_deep tn_above tn_doors tn_degrees tn_neighbours tn_shows tn_oneEnd tn_otherEnd tn_told tn_strayParts tn_strayCourts tn_shows cA_tn_shows f_tn_shows tn_told cA_tn_told f_tn_told tn_strayCourts cA_tn_strayCourts f_tn_strayCourts)) hB ht hvm hP hD hK [4, 5, 6, 7] [0, 1, 2, 3] rfl 8 rfl (by decide +kernel) rfl (by decide +kernel) hk1 hFc
        generalize H1 = H at hP hS ⊢
        have hK : va_K (dC, dI) vwCl [(cA_ch_unsure, .int), (cA_ch_ifTold, .int), (cA_ch_ifGone, .int), (cA_tn_shows, .int), (cA_tn_told, .int), (cA_tn_strayCourts, .int)] s := hK
        refine va_iast hx hb hK hP hD hS 2 1 rfl rfl (zi_in rfl (by first | with_reducible assumption | omega)) dX0_lookAtHour_48 (fun H locs hP hD hS => ?_)
        obtain ⟨f_12, ef_12⟩ : ∃ g : Nat → Int32, g = upd g_ch_ifTold_3 (Int32.toNatClampNeg v3_2) r_11 := ⟨_, rfl⟩
        have hP : va_P (dC, dI) vwCl (zV76 ch tn ch_names ch_gone ch_goal ch_lastHour ch_unsure ch_seats ch_unsureCount ch_states ch_worth ch_certain ch_ifTold ch_ifGone ch_digits ch_open ch_doubtful ch_outcomes ch_unsure cA_ch_unsure f_ch_unsure ch_ifTold cA_ch_ifTold (upd g_ch_ifTold_3 (Int32.toNatClampNeg v3_2) r_11) ch_ifGone cA_ch_ifGone g_ch_ifGone_4 tn tn_hours tn_courts tn_gateCount tn_people tn_lines tn_falseHours tn_strayers tn_deep tn_above tn_doors tn_degrees tn_neighbours tn_shows tn_oneEnd tn_otherEnd tn_told tn_strayParts tn_strayCourts tn_shows cA_tn_shows f_tn_shows tn_told cA_tn_told f_tn_told tn_strayCourts cA_tn_strayCourts f_tn_strayCourts) H := hP
        have hD : va_D A (zV76 ch tn ch_names ch_gone ch_goal ch_lastHour ch_unsure ch_seats ch_unsureCount ch_states ch_worth ch_certain ch_ifTold ch_ifGone ch_digits ch_open ch_doubtful ch_outcomes ch_unsure cA_ch_unsure f_ch_unsure ch_ifTold cA_ch_ifTold (upd g_ch_ifTold_3 (Int32.toNatClampNeg v3_2) r_11) ch_ifGone cA_ch_ifGone g_ch_ifGone_4 tn tn_hours tn_courts tn_gateCount tn_people tn_lines tn_falseHours tn_strayers tn_deep tn_above tn_doors tn_degrees tn_neighbours tn_shows tn_oneEnd tn_otherEnd tn_told tn_strayParts tn_strayCourts tn_shows cA_tn_shows f_tn_shows tn_told cA_tn_told f_tn_told tn_strayCourts cA_tn_strayCourts f_tn_strayCourts) := hD
        rw [← ef_12] at hP hD
        refine lv_aload_n hx hb dX0_lookAtHour_49 rfl (lv_at hl 2 rfl) ?_
        refine va_get (D := (dC, dI)) (ci := 0) (v := .ref ch_ifGone) (C := RX0) (T := TX0) (N := 17) hx hb hts zl_X0 hown hK hP 0 rfl rfl 12 (by decide) (hts _ zw_t2_107) (fun _ h9 => h9) rfl dX0_lookAtHour_50 ?_
        refine lv_iload_n hx hb dX0_lookAtHour_53 rfl (lv_at hl 4 rfl) ?_
        refine lv_aload_n hx hb dX0_lookAtHour_54 rfl (lv_at hl 2 rfl) ?_
        refine va_get (D := (dC, dI)) (ci := 0) (v := .ref tn) (C := RX0) (T := TX0) (N := 17) hx hb hts zl_X0 hown hK hP 0 rfl rfl 0 (by decide) (hts _ zw_t2_95) (fun _ h9 => h9) rfl dX0_lookAtHour_55 ?_
        refine lv_iload hx hb dX0_lookAtHour_58 (lv_at hl 1 rfl) ?_
        refine lv_iload_n hx hb dX0_lookAtHour_60 rfl (lv_at hl 3 rfl) ?_
        refine lv_iconst (v := 1) hx hb dX0_lookAtHour_61 (by decide) ?_
        refine lv_iload hx hb dX0_lookAtHour_62 (lv_at hl 1 rfl) ?_
        refine lv_ishl hx hb dX0_lookAtHour_64 ?_
        refine lv_topi (fun x_13 ex_13 => ?_)
        have b_x_13 : 1 ≤ x_13.toInt ∧ x_13.toInt ≤ 1024 := by rw [ex_13]; exact zi_shl1 rfl (by first | with_reducible assumption | omega)
        obtain ⟨hPc, hDc, hFc⟩ := z_cut (wc := (zV3 tn tn_hours tn_courts tn_gateCount tn_people tn_lines tn_falseHours tn_strayers tn_deep tn_above tn_doors tn_degrees tn_neighbours tn_shows tn_oneEnd tn_otherEnd tn_told tn_strayParts tn_strayCourts tn_shows cA_tn_shows f_tn_shows tn_told cA_tn_told f_tn_told tn_strayCourts cA_tn_strayCourts f_tn_strayCourts)) hP hD hS hA [4, 5, 6, 7] rfl (by decide +kernel)
        have hKc := hK.sub (tys' := [(cA_tn_shows, .int), (cA_tn_told, .int), (cA_tn_strayCourts, .int)]) [3, 4, 5] rfl
        refine va_calli (va_runV (As := [.int x_7, .int p1, .int x_13]) (rest := [.int v3_2, .ref ch_ifGone]) ⟨hx, hb, hml, hown, hts⟩ (k_X7_showsOf l sa dC dI tn x_7 p1 x_13 tn_hours tn_courts tn_gateCount tn_people tn_lines tn_falseHours tn_strayers tn_deep tn_above tn_doors tn_degrees tn_neighbours tn_shows tn_oneEnd tn_otherEnd tn_told tn_strayParts tn_strayCourts cA_tn_shows f_tn_shows cA_tn_told f_tn_told cA_tn_strayCourts f_tn_strayCourts b_x_7 b_p1 b_tn_hours b_tn_courts b_tn_gateCount b_tn_people b_tn_falseHours b_tn_deep b_f_tn_told b_f_tn_strayCourts H.size) (cwV 3 hts (z_gV zw_t5_63 zw_t3_206 zw_t3_207 zw_t1_3 zw_t3_208) rfl rfl rfl (by decide +kernel) (by rw [← hRe]; exact ⟨(Nat.le_of_ble_eq_true rfl), (Nat.le_of_ble_eq_true rfl)⟩)) (z_preV hPc hKc hDc hN hXs hS hFc (q := (RX7, TX7, 18)) (ci := 7) (q0 := 0) rfl rfl) rfl rfl hl.1 rfl (lv_room (Nat.le_of_ble_eq_true rfl)) dX0_lookAtHour_65 (by rw [← hRe]; exact ⟨(Nat.le_of_ble_eq_true rfl), (Nat.le_of_ble_eq_true rfl)⟩)) hS (fun q _ h => hFc q h) hFc (fun r_14 u t H1 locs ht hvm hw hB hz1 hk1 hS => ?_)
        obtain ⟨hP, hD, hK⟩ := z_after3 (wn := (zV76 ch tn ch_names ch_gone ch_goal ch_lastHour ch_unsure ch_seats ch_unsureCount ch_states ch_worth ch_certain ch_ifTold ch_ifGone ch_digits ch_open ch_doubtful ch_outcomes ch_unsure cA_ch_unsure f_ch_unsure ch_ifTold cA_ch_ifTold f_12 ch_ifGone cA_ch_ifGone g_ch_ifGone_4 tn tn_hours tn_courts tn_gateCount tn_people tn_lines tn_falseHours tn_strayers tn_deep tn_above tn_doors tn_degrees tn_neighbours tn_shows tn_oneEnd tn_otherEnd tn_told tn_strayParts tn_strayCourts tn_shows cA_tn_shows f_tn_shows tn_told cA_tn_told f_tn_told tn_strayCourts cA_tn_strayCourts f_tn_strayCourts)) hB ht hvm hP hD hK [4, 5, 6, 7] [0, 1, 2, 3] rfl 8 rfl (by decide +kernel) rfl (by decide +kernel) hk1 hFc
        generalize H1 = H at hP hS ⊢
        have hK : va_K (dC, dI) vwCl [(cA_ch_unsure, .int), (cA_ch_ifTold, .int), (cA_ch_ifGone, .int), (cA_tn_shows, .int), (cA_tn_told, .int), (cA_tn_strayCourts, .int)] s := hK
        refine va_iast hx hb hK hP hD hS 3 2 rfl rfl (zi_in rfl (by first | with_reducible assumption | omega)) dX0_lookAtHour_68 (fun H locs hP hD hS => ?_)
        obtain ⟨f_15, ef_15⟩ : ∃ g : Nat → Int32, g = upd g_ch_ifGone_4 (Int32.toNatClampNeg v3_2) r_14 := ⟨_, rfl⟩
        have hP : va_P (dC, dI) vwCl (zV76 ch tn ch_names ch_gone ch_goal ch_lastHour ch_unsure ch_seats ch_unsureCount ch_states ch_worth ch_certain ch_ifTold ch_ifGone ch_digits ch_open ch_doubtful ch_outcomes ch_unsure cA_ch_unsure f_ch_unsure ch_ifTold cA_ch_ifTold f_12 ch_ifGone cA_ch_ifGone (upd g_ch_ifGone_4 (Int32.toNatClampNeg v3_2) r_14) tn tn_hours tn_courts tn_gateCount tn_people tn_lines tn_falseHours tn_strayers tn_deep tn_above tn_doors tn_degrees tn_neighbours tn_shows tn_oneEnd tn_otherEnd tn_told tn_strayParts tn_strayCourts tn_shows cA_tn_shows f_tn_shows tn_told cA_tn_told f_tn_told tn_strayCourts cA_tn_strayCourts f_tn_strayCourts) H := hP
        have hD : va_D A (zV76 ch tn ch_names ch_gone ch_goal ch_lastHour ch_unsure ch_seats ch_unsureCount ch_states ch_worth ch_certain ch_ifTold ch_ifGone ch_digits ch_open ch_doubtful ch_outcomes ch_unsure cA_ch_unsure f_ch_unsure ch_ifTold cA_ch_ifTold f_12 ch_ifGone cA_ch_ifGone (upd g_ch_ifGone_4 (Int32.toNatClampNeg v3_2) r_14) tn tn_hours tn_courts tn_gateCount tn_people tn_lines tn_falseHours tn_strayers tn_deep tn_above tn_doors tn_degrees tn_neighbours tn_shows tn_oneEnd tn_otherEnd tn_told tn_strayParts tn_strayCourts tn_shows cA_tn_shows f_tn_shows tn_told cA_tn_told f_tn_told tn_strayCourts cA_tn_strayCourts f_tn_strayCourts) := hD
        rw [← ef_15] at hP hD
        obtain ⟨x_16, ex_16⟩ : ∃ z : Int32, z = v3_2 + Int32.ofInt 1 := ⟨_, rfl⟩
        have b_x_16 : x_16.toInt = v3_2.toInt + 1 := by rw [ex_16]; exact zi_add rfl (show (Int32.ofInt 1).toInt = 1 from by decide) (by first | with_reducible assumption | omega)
        refine lv_iinc (v := x_16) (lv' := [(3, .int x_16), (2, .int x_10), (4, .int x_7), (0, .ref ch), (1, .int p1)]) hx hb dX0_lookAtHour_69 hl (k := 4) rfl ex_16.symm (by decide) rfl (fun ls hl => ?_)
        refine lv_goto (tgt := 7) hx hb dX0_lookAtHour_72 (by decide) ?_
        exact ih_1 x_10 x_16 f_12 f_15 (by first | with_reducible assumption | omega) _ _ _ (by first | with_reducible assumption | omega) (hP.sub (ws' := (zV76 ch tn ch_names ch_gone ch_goal ch_lastHour ch_unsure ch_seats ch_unsureCount ch_states ch_worth ch_certain ch_ifTold ch_ifGone ch_digits ch_open ch_doubtful ch_outcomes ch_unsure cA_ch_unsure f_ch_unsure ch_ifTold cA_ch_ifTold f_12 ch_ifGone cA_ch_ifGone f_15 tn tn_hours tn_courts tn_gateCount tn_people tn_lines tn_falseHours tn_strayers tn_deep tn_above tn_doors tn_degrees tn_neighbours tn_shows tn_oneEnd tn_otherEnd tn_told tn_strayParts tn_strayCourts tn_shows cA_tn_shows f_tn_shows tn_told cA_tn_told f_tn_told tn_strayCourts cA_tn_strayCourts f_tn_strayCourts)) [0, 1, 2, 3, 4, 5, 6, 7] rfl) (hD.sub (ws' := (zV76 ch tn ch_names ch_gone ch_goal ch_lastHour ch_unsure ch_seats ch_unsureCount ch_states ch_worth ch_certain ch_ifTold ch_ifGone ch_digits ch_open ch_doubtful ch_outcomes ch_unsure cA_ch_unsure f_ch_unsure ch_ifTold cA_ch_ifTold f_12 ch_ifGone cA_ch_ifGone f_15 tn tn_hours tn_courts tn_gateCount tn_people tn_lines tn_falseHours tn_strayers tn_deep tn_above tn_doors tn_degrees tn_neighbours tn_shows tn_oneEnd tn_otherEnd tn_told tn_strayParts tn_strayCourts tn_shows cA_tn_shows f_tn_shows tn_told cA_tn_told f_tn_told tn_strayCourts cA_tn_strayCourts f_tn_strayCourts)) [0, 1, 2, 3, 4, 5, 6, 7] (by decide) rfl) hS (lv_sub hl [3, 4, 1, 0] rfl)
  exact loop_1 6 ch_names (0) f_ch_ifTold f_ch_ifGone (by decide) _ _ _ (by decide) hP hD hS (lv_sub hl [2, 3, 1, 0] rfl)
set_option maxHeartbeats 4000000 in
set_option maxRecDepth 100000 in
theorem k_X0_shownSurely (l : Launch) (sa : Nat → Nat) (dC : Nat → ClassId) (dI : Nat → Nat → Nat) (ch : Nat) (p1 : Int32) (tn : Nat) (ch_names : Int32) (ch_gone : Int32) (ch_goal : Int32) (ch_lastHour : Int32) (ch_unsure : Nat) (ch_seats : Nat) (ch_unsureCount : Int32) (ch_states : Int32) (ch_worth : Nat) (ch_certain : Int32) (ch_ifTold : Nat) (ch_ifGone : Nat) (ch_digits : Nat) (ch_open : Int32) (ch_doubtful : Int32) (ch_outcomes : Int32) (cA_ch_ifTold : ClassId) (f_ch_ifTold : Nat → Int32) (cA_ch_ifGone : ClassId) (f_ch_ifGone : Nat → Int32) (cA_ch_digits : ClassId) (f_ch_digits : Nat → Int32) (b_p1 : 0 ≤ p1.toInt ∧ p1.toInt ≤ 3) (b_ch_lastHour : 0 ≤ ch_lastHour.toInt ∧ ch_lastHour.toInt ≤ 48) (b_ch_unsureCount : 0 ≤ ch_unsureCount.toInt ∧ ch_unsureCount.toInt ≤ 4) (b_ch_states : 1 ≤ ch_states.toInt ∧ ch_states.toInt ≤ 81) (b_f_ch_digits : ∀ j : Nat, 0 ≤ (f_ch_digits j).toInt ∧ (f_ch_digits j).toInt ≤ 2) (sz : Nat) : Met l yX0_shownSurely (.code yX0_shownSurely cX0_shownSurely 2 (some .int) :: zT) ({ frames := 0, cells := 0, slots := 0, locals := 0 }) (va_Pc [.ref ch, .int p1] (zB sa dC dI (zV77 ch tn ch_names ch_gone ch_goal ch_lastHour ch_unsure ch_seats ch_unsureCount ch_states ch_worth ch_certain ch_ifTold ch_ifGone ch_digits ch_open ch_doubtful ch_outcomes ch_ifTold cA_ch_ifTold f_ch_ifTold ch_ifGone cA_ch_ifGone f_ch_ifGone ch_digits cA_ch_digits f_ch_digits) [(cA_ch_ifTold, .int), (cA_ch_ifGone, .int), (cA_ch_digits, .int)] sz)) (va_Qi (fun (r : Int32) (_ : Unit) => True) (fun _ t => zW dC dI (zV77 ch tn ch_names ch_gone ch_goal ch_lastHour ch_unsure ch_seats ch_unsureCount ch_states ch_worth ch_certain ch_ifTold ch_ifGone ch_digits ch_open ch_doubtful ch_outcomes ch_ifTold cA_ch_ifTold f_ch_ifTold ch_ifGone cA_ch_ifGone f_ch_ifGone ch_digits cA_ch_digits f_ch_digits) [] (va_A (zV77 ch tn ch_names ch_gone ch_goal ch_lastHour ch_unsure ch_seats ch_unsureCount ch_states ch_worth ch_certain ch_ifTold ch_ifGone ch_digits ch_open ch_doubtful ch_outcomes ch_ifTold cA_ch_ifTold f_ch_ifTold ch_ifGone cA_ch_ifGone f_ch_ifGone ch_digits cA_ch_digits f_ch_digits) sz) t) (va_A (zV77 ch tn ch_names ch_gone ch_goal ch_lastHour ch_unsure ch_seats ch_unsureCount ch_states ch_worth ch_certain ch_ifTold ch_ifGone ch_digits ch_open ch_doubtful ch_outcomes ch_ifTold cA_ch_ifTold f_ch_ifTold ch_ifGone cA_ch_ifGone f_ch_ifGone ch_digits cA_ch_digits f_ch_digits) sz)) 0 0 (va_A (zV77 ch tn ch_names ch_gone ch_goal ch_lastHour ch_unsure ch_seats ch_unsureCount ch_states ch_worth ch_certain ch_ifTold ch_ifGone ch_digits ch_open ch_doubtful ch_outcomes ch_ifTold cA_ch_ifTold f_ch_ifTold ch_ifGone cA_ch_ifGone f_ch_ifGone ch_digits cA_ch_digits f_ch_digits) sz) := by
  refine z_enter (by decide) (by exact (Nat.le_of_ble_eq_true rfl)) ?_
  intro p e s m args below meth c ls A R Qc hargs hsz hQe hAe hRe hx hb hml hr hts hown hlocks hin hl hP hK hD hN hXs hA hS
  rw [hAe] at hQe
  have hown : s.vm.findClass RX0 = some m.cls := hown
  have hl : lv_has ls 2 [(0, .ref ch), (1, .int p1)] := hl
  refine lv_aload_n hx hb dX0_shownSurely_0 rfl (lv_at hl 0 rfl) ?_
  refine va_get (D := (dC, dI)) (ci := 0) (v := .ref ch_digits) (C := RX0) (T := TX0) (N := 17) hx hb hts zl_X0 hown hK hP 0 rfl rfl 13 (by decide) (hts _ zw_t2_108) (fun _ h9 => h9) rfl dX0_shownSurely_1 ?_
  refine lv_iload_n hx hb dX0_shownSurely_4 rfl (lv_at hl 1 rfl) ?_
  refine va_iald hx hb hK hP 3 2 rfl rfl (zi_in rfl (by first | with_reducible assumption | omega)) dX0_shownSurely_5 ?_
  refine lv_topi (fun x_1 ex_1 => ?_)
  have b_x_1 : 0 ≤ x_1.toInt ∧ x_1.toInt ≤ 2 := by rw [ex_1]; exact b_f_ch_digits _
  refine lv_if_ne (tgt := 23) hx hb dX0_shownSurely_6 (by decide) (fun c_2 => ?_) (fun c_2 => ?_)
  · have ic_2 := zz_ne rfl (show Int32.toInt 0 = 0 from by decide) c_2
    refine lv_aload_n hx hb dX0_shownSurely_23 rfl (lv_at hl 0 rfl) ?_
    refine va_get (D := (dC, dI)) (ci := 0) (v := .ref ch_digits) (C := RX0) (T := TX0) (N := 17) hx hb hts zl_X0 hown hK hP 0 rfl rfl 13 (by decide) (hts _ zw_t2_108) (fun _ h9 => h9) rfl dX0_shownSurely_24 ?_
    refine lv_iload_n hx hb dX0_shownSurely_27 rfl (lv_at hl 1 rfl) ?_
    refine va_iald hx hb hK hP 3 2 rfl rfl (zi_in rfl (by first | with_reducible assumption | omega)) dX0_shownSurely_28 ?_
    refine lv_topi (fun x_3 ex_3 => ?_)
    obtain rfl : x_1 = x_3 := ex_1.trans ex_3.symm
    refine lv_iconst (v := 1) hx hb dX0_shownSurely_29 (by decide) ?_
    refine lv_icmp_ne (tgt := 42) hx hb dX0_shownSurely_30 (by decide) (fun c_4 => ?_) (fun c_4 => ?_)
    · have ic_4 := zz_ne rfl (show Int32.toInt 1 = 1 from by decide) c_4
      refine lv_aload_n hx hb dX0_shownSurely_42 rfl (lv_at hl 0 rfl) ?_
      refine va_get (D := (dC, dI)) (ci := 0) (v := .ref ch_ifGone) (C := RX0) (T := TX0) (N := 17) hx hb hts zl_X0 hown hK hP 0 rfl rfl 12 (by decide) (hts _ zw_t2_107) (fun _ h9 => h9) rfl dX0_shownSurely_43 ?_
      refine lv_iload_n hx hb dX0_shownSurely_46 rfl (lv_at hl 1 rfl) ?_
      refine va_iald hx hb hK hP 2 1 rfl rfl (zi_in rfl (by first | with_reducible assumption | omega)) dX0_shownSurely_47 ?_
      refine lv_topi (fun x_5 ex_5 => ?_)
      exact W.iret (v := x_5) hx hb hr (fun t ht hW => by rw [← hQe]; exact ⟨⟨x_5, (), rfl, trivial, z_ret hP hK hD ht hW [0, 1, 2, 3] [] rfl (by decide) rfl⟩, hS.F ht⟩) hS.2.2 dX0_shownSurely_48
    · have ic_4 := zz_nne rfl (show Int32.toInt 1 = 1 from by decide) c_4
      refine lv_aload_n hx hb dX0_shownSurely_33 rfl (lv_at hl 0 rfl) ?_
      refine va_get (D := (dC, dI)) (ci := 0) (v := .ref ch_ifTold) (C := RX0) (T := TX0) (N := 17) hx hb hts zl_X0 hown hK hP 0 rfl rfl 11 (by decide) (hts _ zw_t2_106) (fun _ h9 => h9) rfl dX0_shownSurely_34 ?_
      refine lv_iload_n hx hb dX0_shownSurely_37 rfl (lv_at hl 1 rfl) ?_
      refine va_iald hx hb hK hP 1 0 rfl rfl (zi_in rfl (by first | with_reducible assumption | omega)) dX0_shownSurely_38 ?_
      refine lv_topi (fun x_6 ex_6 => ?_)
      refine lv_goto (tgt := 48) hx hb dX0_shownSurely_39 (by decide) ?_
      exact W.iret (v := x_6) hx hb hr (fun t ht hW => by rw [← hQe]; exact ⟨⟨x_6, (), rfl, trivial, z_ret hP hK hD ht hW [0, 1, 2, 3] [] rfl (by decide) rfl⟩, hS.F ht⟩) hS.2.2 dX0_shownSurely_48
  · have ic_2 := zz_nne rfl (show Int32.toInt 0 = 0 from by decide) c_2
    refine lv_aload_n hx hb dX0_shownSurely_9 rfl (lv_at hl 0 rfl) ?_
    refine va_get (D := (dC, dI)) (ci := 0) (v := .ref ch_ifTold) (C := RX0) (T := TX0) (N := 17) hx hb hts zl_X0 hown hK hP 0 rfl rfl 11 (by decide) (hts _ zw_t2_106) (fun _ h9 => h9) rfl dX0_shownSurely_10 ?_
    refine lv_iload_n hx hb dX0_shownSurely_13 rfl (lv_at hl 1 rfl) ?_
    refine va_iald hx hb hK hP 1 0 rfl rfl (zi_in rfl (by first | with_reducible assumption | omega)) dX0_shownSurely_14 ?_
    refine lv_topi (fun x_7 ex_7 => ?_)
    refine lv_aload_n hx hb dX0_shownSurely_15 rfl (lv_at hl 0 rfl) ?_
    refine va_get (D := (dC, dI)) (ci := 0) (v := .ref ch_ifGone) (C := RX0) (T := TX0) (N := 17) hx hb hts zl_X0 hown hK hP 0 rfl rfl 12 (by decide) (hts _ zw_t2_107) (fun _ h9 => h9) rfl dX0_shownSurely_16 ?_
    refine lv_iload_n hx hb dX0_shownSurely_19 rfl (lv_at hl 1 rfl) ?_
    refine va_iald hx hb hK hP 2 1 rfl rfl (zi_in rfl (by first | with_reducible assumption | omega)) dX0_shownSurely_20 ?_
    refine lv_topi (fun x_8 ex_8 => ?_)
    refine lv_iand hx hb dX0_shownSurely_21 ?_
    refine lv_topi (fun x_9 ex_9 => ?_)
    exact W.iret (v := x_9) hx hb hr (fun t ht hW => by rw [← hQe]; exact ⟨⟨x_9, (), rfl, trivial, z_ret hP hK hD ht hW [0, 1, 2, 3] [] rfl (by decide) rfl⟩, hS.F ht⟩) hS.2.2 dX0_shownSurely_22
set_option maxHeartbeats 4000000 in
set_option maxRecDepth 100000 in
theorem k_X0_lookAtState (l : Launch) (sa : Nat → Nat) (dC : Nat → ClassId) (dI : Nat → Nat → Nat) (ch : Nat) (p1 : Int32) (tn : Nat) (ch_names : Int32) (ch_gone : Int32) (ch_goal : Int32) (ch_lastHour : Int32) (ch_unsure : Nat) (ch_seats : Nat) (ch_unsureCount : Int32) (ch_states : Int32) (ch_worth : Nat) (ch_certain : Int32) (ch_ifTold : Nat) (ch_ifGone : Nat) (ch_digits : Nat) (ch_open : Int32) (ch_doubtful : Int32) (ch_outcomes : Int32) (cA_ch_ifTold : ClassId) (f_ch_ifTold : Nat → Int32) (cA_ch_ifGone : ClassId) (f_ch_ifGone : Nat → Int32) (cA_ch_digits : ClassId) (f_ch_digits : Nat → Int32) (b_p1 : 0 ≤ p1.toInt ∧ p1.toInt ≤ 80) (b_ch_lastHour : 0 ≤ ch_lastHour.toInt ∧ ch_lastHour.toInt ≤ 48) (b_ch_unsureCount : 0 ≤ ch_unsureCount.toInt ∧ ch_unsureCount.toInt ≤ 4) (b_ch_states : 1 ≤ ch_states.toInt ∧ ch_states.toInt ≤ 81) (b_f_ch_digits : ∀ j : Nat, 0 ≤ (f_ch_digits j).toInt ∧ (f_ch_digits j).toInt ≤ 2) (sz : Nat) : Met l yX0_lookAtState (.code yX0_lookAtState cX0_lookAtState 4 none :: zT) ({ frames := 1, cells := 0, slots := 0, locals := 21 }) (va_Pc [.ref ch, .int p1] (zB sa dC dI (zV77 ch tn ch_names ch_gone ch_goal ch_lastHour ch_unsure ch_seats ch_unsureCount ch_states ch_worth ch_certain ch_ifTold ch_ifGone ch_digits ch_open ch_doubtful ch_outcomes ch_ifTold cA_ch_ifTold f_ch_ifTold ch_ifGone cA_ch_ifGone f_ch_ifGone ch_digits cA_ch_digits f_ch_digits) [(cA_ch_ifTold, .int), (cA_ch_ifGone, .int), (cA_ch_digits, .int)] sz)) (va_Qv (fun _ : Unit => True) (fun _ t => ∃ (n_ch_14 : Int32) (n_ch_15 : Int32) (n_ch_digits : Nat → Int32), (∀ j : Nat, 0 ≤ (n_ch_digits j).toInt ∧ (n_ch_digits j).toInt ≤ 2) ∧ zW dC dI (zV77 ch tn ch_names ch_gone ch_goal ch_lastHour ch_unsure ch_seats ch_unsureCount ch_states ch_worth ch_certain ch_ifTold ch_ifGone ch_digits n_ch_14 n_ch_15 ch_outcomes ch_ifTold cA_ch_ifTold f_ch_ifTold ch_ifGone cA_ch_ifGone f_ch_ifGone ch_digits cA_ch_digits n_ch_digits) [] (va_A (zV77 ch tn ch_names ch_gone ch_goal ch_lastHour ch_unsure ch_seats ch_unsureCount ch_states ch_worth ch_certain ch_ifTold ch_ifGone ch_digits ch_open ch_doubtful ch_outcomes ch_ifTold cA_ch_ifTold f_ch_ifTold ch_ifGone cA_ch_ifGone f_ch_ifGone ch_digits cA_ch_digits f_ch_digits) sz) t) (va_A (zV77 ch tn ch_names ch_gone ch_goal ch_lastHour ch_unsure ch_seats ch_unsureCount ch_states ch_worth ch_certain ch_ifTold ch_ifGone ch_digits ch_open ch_doubtful ch_outcomes ch_ifTold cA_ch_ifTold f_ch_ifTold ch_ifGone cA_ch_ifGone f_ch_ifGone ch_digits cA_ch_digits f_ch_digits) sz)) 0 0 (va_A (zV77 ch tn ch_names ch_gone ch_goal ch_lastHour ch_unsure ch_seats ch_unsureCount ch_states ch_worth ch_certain ch_ifTold ch_ifGone ch_digits ch_open ch_doubtful ch_outcomes ch_ifTold cA_ch_ifTold f_ch_ifTold ch_ifGone cA_ch_ifGone f_ch_ifGone ch_digits cA_ch_digits f_ch_digits) sz) := by
  refine z_enter (by decide) (by exact (Nat.le_of_ble_eq_true rfl)) ?_
  intro p e s m args below meth c ls A R Qc hargs hsz hQe hAe hRe hx hb hml hr hts hown hlocks hin hl hP hK hD hN hXs hA hS
  rw [hAe] at hQe
  have hown : s.vm.findClass RX0 = some m.cls := hown
  have hl : lv_has ls 4 [(0, .ref ch), (1, .int p1)] := hl
  refine lv_iload_n hx hb dX0_lookAtState_0 rfl (lv_at hl 1 rfl) ?_
  refine lv_istore_n (lv' := [(2, .int p1), (0, .ref ch), (1, .int p1)]) hx hb dX0_lookAtState_1 rfl hl (by decide) rfl (fun ls hl => ?_)
  refine lv_aload_n hx hb dX0_lookAtState_2 rfl (lv_at hl 1 rfl) ?_
  refine lv_aload_n hx hb dX0_lookAtState_3 rfl (lv_at hl 1 rfl) ?_
  refine va_get (D := (dC, dI)) (ci := 0) (v := .int ch_certain) (C := RX0) (T := TX0) (N := 17) hx hb hts zl_X0 hown hK hP 0 rfl rfl 10 (by decide) (hts _ zw_t2_105) (fun _ h9 => h9) rfl dX0_lookAtState_4 ?_
  refine va_put (D := (dC, dI)) (ci := 0) (v := .int ch_certain) (ty := .int) (C := RX0) (T := TX0) (N := 17) hx hb hts zl_X0 tyX0 tyX0_ok nmX0 hown hK hP hD hS 0 rfl rfl 14 (by decide) (hts _ zw_t2_109) (fun _ h9 => h9) rfl (by decide +kernel) rfl rfl (Nat.le_of_ble_eq_true rfl) dX0_lookAtState_7 (fun H locs hP hD hS => ?_)
  have hP : va_P (dC, dI) vwCl (zV77 ch tn ch_names ch_gone ch_goal ch_lastHour ch_unsure ch_seats ch_unsureCount ch_states ch_worth ch_certain ch_ifTold ch_ifGone ch_digits ch_certain ch_doubtful ch_outcomes ch_ifTold cA_ch_ifTold f_ch_ifTold ch_ifGone cA_ch_ifGone f_ch_ifGone ch_digits cA_ch_digits f_ch_digits) H := hP
  have hD : va_D A (zV77 ch tn ch_names ch_gone ch_goal ch_lastHour ch_unsure ch_seats ch_unsureCount ch_states ch_worth ch_certain ch_ifTold ch_ifGone ch_digits ch_certain ch_doubtful ch_outcomes ch_ifTold cA_ch_ifTold f_ch_ifTold ch_ifGone cA_ch_ifGone f_ch_ifGone ch_digits cA_ch_digits f_ch_digits) := hD
  refine lv_aload_n hx hb dX0_lookAtState_10 rfl (lv_at hl 1 rfl) ?_
  refine lv_iconst (v := 0) hx hb dX0_lookAtState_11 (by decide) ?_
  refine va_put (D := (dC, dI)) (ci := 0) (v := .int 0) (ty := .int) (C := RX0) (T := TX0) (N := 17) hx hb hts zl_X0 tyX0 tyX0_ok nmX0 hown hK hP hD hS 0 rfl rfl 15 (by decide) (hts _ zw_t2_110) (fun _ h9 => h9) rfl (by decide +kernel) rfl rfl (Nat.le_of_ble_eq_true rfl) dX0_lookAtState_12 (fun H locs hP hD hS => ?_)
  have hP : va_P (dC, dI) vwCl (zV78 ch tn ch_names ch_gone ch_goal ch_lastHour ch_unsure ch_seats ch_unsureCount ch_states ch_worth ch_certain ch_ifTold ch_ifGone ch_digits ch_certain ch_outcomes ch_ifTold cA_ch_ifTold f_ch_ifTold ch_ifGone cA_ch_ifGone f_ch_ifGone ch_digits cA_ch_digits f_ch_digits) H := hP
  have hD : va_D A (zV78 ch tn ch_names ch_gone ch_goal ch_lastHour ch_unsure ch_seats ch_unsureCount ch_states ch_worth ch_certain ch_ifTold ch_ifGone ch_digits ch_certain ch_outcomes ch_ifTold cA_ch_ifTold f_ch_ifTold ch_ifGone cA_ch_ifGone f_ch_ifGone ch_digits cA_ch_digits f_ch_digits) := hD
  refine lv_iconst (v := 0) hx hb dX0_lookAtState_15 (by decide) ?_
  refine lv_istore_n (lv' := [(3, .int 0), (2, .int p1), (0, .ref ch), (1, .int p1)]) hx hb dX0_lookAtState_16 rfl hl (by decide) rfl (fun ls hl => ?_)
  have loop_1 : ∀ (t : Nat) (v2_1 : Int32) (v3_2 : Int32) (w_ch_14_3 : Int32) (w_ch_15_5 : Int32) (g_ch_digits_4 : Nat → Int32) (b_v2_1 : 0 ≤ v2_1.toInt ∧ v2_1.toInt ≤ 80) (b_v3_2 : 0 ≤ v3_2.toInt ∧ v3_2.toInt ≤ 4) (b_g_ch_digits_4 : ∀ j : Nat, 0 ≤ (g_ch_digits_4 j).toInt ∧ (g_ch_digits_4 j).toInt ≤ 2) (H : Heap) (locs : List Loc) (ls : Array Slot), 4 - v3_2.toInt < (t : Int) → va_P (dC, dI) vwCl (zV77 ch tn ch_names ch_gone ch_goal ch_lastHour ch_unsure ch_seats ch_unsureCount ch_states ch_worth ch_certain ch_ifTold ch_ifGone ch_digits w_ch_14_3 w_ch_15_5 ch_outcomes ch_ifTold cA_ch_ifTold f_ch_ifTold ch_ifGone cA_ch_ifGone f_ch_ifGone ch_digits cA_ch_digits g_ch_digits_4) H → va_D A (zV77 ch tn ch_names ch_gone ch_goal ch_lastHour ch_unsure ch_seats ch_unsureCount ch_states ch_worth ch_certain ch_ifTold ch_ifGone ch_digits w_ch_14_3 w_ch_15_5 ch_outcomes ch_ifTold cA_ch_ifTold f_ch_ifTold ch_ifGone cA_ch_ifGone f_ch_ifGone ch_digits cA_ch_digits g_ch_digits_4) → va_S A s.heap H locs → lv_has ls 4 [(0, .ref ch), (1, .int p1), (2, .int v2_1), (3, .int v3_2)] → W p l e R s m args below meth c H locs 0 0 (MQ below Qc args s 0 0 A) (F0 m 17 ls []) := by
    intro t
    induction t with
    | zero => intro v2_1 v3_2 w_ch_14_3 w_ch_15_5 g_ch_digits_4 b_v2_1 b_v3_2 b_g_ch_digits_4 H locs ls hmu _ _ _ _; exact absurd hmu (by first | with_reducible assumption | omega)
    | succ t ih_1 =>
      intro v2_1 v3_2 w_ch_14_3 w_ch_15_5 g_ch_digits_4 b_v2_1 b_v3_2 b_g_ch_digits_4 H locs ls hmu hP hD hS hl
      refine lv_iload_n hx hb dX0_lookAtState_17 rfl (lv_at hl 3 rfl) ?_
      refine lv_aload_n hx hb dX0_lookAtState_18 rfl (lv_at hl 0 rfl) ?_
      refine va_get (D := (dC, dI)) (ci := 0) (v := .int ch_unsureCount) (C := RX0) (T := TX0) (N := 17) hx hb hts zl_X0 hown hK hP 0 rfl rfl 7 (by decide) (hts _ zw_t2_102) (fun _ h9 => h9) rfl dX0_lookAtState_19 ?_
      refine lv_icmp_ge (tgt := 89) hx hb dX0_lookAtState_22 (by decide) (fun c_6 => ?_) (fun c_6 => ?_)
      · have ic_6 := zz_ge rfl rfl c_6
        exact W.vret hx hb hr (fun t ht hW => by rw [← hQe]; exact ⟨⟨(), rfl, trivial, ⟨w_ch_14_3, w_ch_15_5, g_ch_digits_4, b_g_ch_digits_4, z_ret hP hK hD ht hW [0, 1, 2, 3] [] rfl (by decide) rfl⟩⟩, hS.F ht⟩) hS.2.2 dX0_lookAtState_89
      · have ic_6 := zz_nge rfl rfl c_6
        refine lv_aload_n hx hb dX0_lookAtState_25 rfl (lv_at hl 0 rfl) ?_
        refine va_get (D := (dC, dI)) (ci := 0) (v := .ref ch_digits) (C := RX0) (T := TX0) (N := 17) hx hb hts zl_X0 hown hK hP 0 rfl rfl 13 (by decide) (hts _ zw_t2_108) (fun _ h9 => h9) rfl dX0_lookAtState_26 ?_
        refine lv_iload_n hx hb dX0_lookAtState_29 rfl (lv_at hl 3 rfl) ?_
        refine lv_iload_n hx hb dX0_lookAtState_30 rfl (lv_at hl 2 rfl) ?_
        refine lv_iconst (v := 3) hx hb dX0_lookAtState_31 (by decide) ?_
        refine lv_irem hx hb dX0_lookAtState_32 (by decide) ?_
        refine lv_topi (fun x_7 ex_7 => ?_)
        have b_x_7 : x_7.toInt = v2_1.toInt % 3 := by rw [ex_7]; exact zi_rem rfl (show Int32.toInt 3 = 3 from by decide) (by first | with_reducible assumption | omega) (by decide)
        refine va_iast hx hb hK hP hD hS 3 2 rfl rfl (zi_in rfl (by first | with_reducible assumption | omega)) dX0_lookAtState_33 (fun H locs hP hD hS => ?_)
        obtain ⟨f_8, ef_8⟩ : ∃ g : Nat → Int32, g = upd g_ch_digits_4 (Int32.toNatClampNeg v3_2) x_7 := ⟨_, rfl⟩
        have b_f_8 : ∀ j : Nat, 0 ≤ (f_8 j).toInt ∧ (f_8 j).toInt ≤ 2 := by rw [ef_8]; exact zi_upd b_g_ch_digits_4 rfl (by first | with_reducible assumption | omega)
        have hP : va_P (dC, dI) vwCl (zV77 ch tn ch_names ch_gone ch_goal ch_lastHour ch_unsure ch_seats ch_unsureCount ch_states ch_worth ch_certain ch_ifTold ch_ifGone ch_digits w_ch_14_3 w_ch_15_5 ch_outcomes ch_ifTold cA_ch_ifTold f_ch_ifTold ch_ifGone cA_ch_ifGone f_ch_ifGone ch_digits cA_ch_digits (upd g_ch_digits_4 (Int32.toNatClampNeg v3_2) x_7)) H := hP
        have hD : va_D A (zV77 ch tn ch_names ch_gone ch_goal ch_lastHour ch_unsure ch_seats ch_unsureCount ch_states ch_worth ch_certain ch_ifTold ch_ifGone ch_digits w_ch_14_3 w_ch_15_5 ch_outcomes ch_ifTold cA_ch_ifTold f_ch_ifTold ch_ifGone cA_ch_ifGone f_ch_ifGone ch_digits cA_ch_digits (upd g_ch_digits_4 (Int32.toNatClampNeg v3_2) x_7)) := hD
        rw [← ef_8] at hP hD
        refine lv_iload_n hx hb dX0_lookAtState_34 rfl (lv_at hl 2 rfl) ?_
        refine lv_iconst (v := 3) hx hb dX0_lookAtState_35 (by decide) ?_
        refine lv_idiv hx hb dX0_lookAtState_36 (by decide) ?_
        refine lv_topi (fun x_9 ex_9 => ?_)
        have b_x_9 : x_9.toInt = v2_1.toInt / 3 := by rw [ex_9]; exact zi_div rfl (show Int32.toInt 3 = 3 from by decide) (by first | with_reducible assumption | omega) (by decide)
        refine lv_istore_n (lv' := [(2, .int x_9), (0, .ref ch), (1, .int p1), (3, .int v3_2)]) hx hb dX0_lookAtState_37 rfl hl (by decide) rfl (fun ls hl => ?_)
        refine lv_aload_n hx hb dX0_lookAtState_38 rfl (lv_at hl 1 rfl) ?_
        refine lv_dup hx hb dX0_lookAtState_39 rfl ?_
        refine va_get (D := (dC, dI)) (ci := 0) (v := .int w_ch_14_3) (C := RX0) (T := TX0) (N := 17) hx hb hts zl_X0 hown hK hP 0 rfl rfl 14 (by decide) (hts _ zw_t2_109) (fun _ h9 => h9) rfl dX0_lookAtState_40 ?_
        refine lv_aload_n hx hb dX0_lookAtState_43 rfl (lv_at hl 1 rfl) ?_
        refine lv_iload_n hx hb dX0_lookAtState_44 rfl (lv_at hl 3 rfl) ?_
        obtain ⟨hPc, hDc, hFc⟩ := z_cut (wc := (zV77 ch tn ch_names ch_gone ch_goal ch_lastHour ch_unsure ch_seats ch_unsureCount ch_states ch_worth ch_certain ch_ifTold ch_ifGone ch_digits w_ch_14_3 w_ch_15_5 ch_outcomes ch_ifTold cA_ch_ifTold f_ch_ifTold ch_ifGone cA_ch_ifGone f_ch_ifGone ch_digits cA_ch_digits f_8)) hP hD hS hA [0, 1, 2, 3] rfl (by decide +kernel)
        have hKc := hK.sub (tys' := [(cA_ch_ifTold, .int), (cA_ch_ifGone, .int), (cA_ch_digits, .int)]) [0, 1, 2] rfl
        refine va_calli (va_runV (As := [.int v3_2]) (rest := [.int w_ch_14_3, .ref ch]) ⟨hx, hb, hml, hown, hts⟩ (k_X0_shownSurely l sa dC dI ch v3_2 tn ch_names ch_gone ch_goal ch_lastHour ch_unsure ch_seats ch_unsureCount ch_states ch_worth ch_certain ch_ifTold ch_ifGone ch_digits w_ch_14_3 w_ch_15_5 ch_outcomes cA_ch_ifTold f_ch_ifTold cA_ch_ifGone f_ch_ifGone cA_ch_digits f_8 (by first | with_reducible assumption | omega) b_ch_lastHour b_ch_unsureCount b_ch_states b_f_8 H.size) (cwV 1 hts (z_gV zw_t5_69 zw_t5_71 zw_s3_8 zw_t1_8 zw_t5_72) rfl rfl rfl (by decide +kernel) (by rw [← hRe]; exact ⟨(Nat.le_of_ble_eq_true rfl), (Nat.le_of_ble_eq_true rfl)⟩)) (z_preV hPc hKc hDc hN hXs hS hFc (q := (RX0, TX0, 17)) (ci := 0) (q0 := 0) rfl rfl) rfl rfl hl.1 rfl (lv_room (Nat.le_of_ble_eq_true rfl)) dX0_lookAtState_45 (by rw [← hRe]; exact ⟨(Nat.le_of_ble_eq_true rfl), (Nat.le_of_ble_eq_true rfl)⟩)) hS (fun q _ h => hFc q h) hFc (fun r_10 u t H1 locs ht hvm hw hB hz1 hk1 hS => ?_)
        obtain ⟨hP, hD, hK⟩ := z_after3 (wn := (zV77 ch tn ch_names ch_gone ch_goal ch_lastHour ch_unsure ch_seats ch_unsureCount ch_states ch_worth ch_certain ch_ifTold ch_ifGone ch_digits w_ch_14_3 w_ch_15_5 ch_outcomes ch_ifTold cA_ch_ifTold f_ch_ifTold ch_ifGone cA_ch_ifGone f_ch_ifGone ch_digits cA_ch_digits f_8)) hB ht hvm hP hD hK [0, 1, 2, 3] [] rfl 4 rfl (by decide +kernel) rfl (by decide +kernel) hk1 hFc
        generalize H1 = H at hP hS ⊢
        have hK : va_K (dC, dI) vwCl [(cA_ch_ifTold, .int), (cA_ch_ifGone, .int), (cA_ch_digits, .int)] s := hK
        refine lv_ior hx hb dX0_lookAtState_48 ?_
        refine lv_topi (fun x_11 ex_11 => ?_)
        refine va_put (D := (dC, dI)) (ci := 0) (v := .int x_11) (ty := .int) (C := RX0) (T := TX0) (N := 17) hx hb hts zl_X0 tyX0 tyX0_ok nmX0 hown hK hP hD hS 0 rfl rfl 14 (by decide) (hts _ zw_t2_109) (fun _ h9 => h9) rfl (by decide +kernel) rfl rfl (Nat.le_of_ble_eq_true rfl) dX0_lookAtState_49 (fun H locs hP hD hS => ?_)
        have hP : va_P (dC, dI) vwCl (zV77 ch tn ch_names ch_gone ch_goal ch_lastHour ch_unsure ch_seats ch_unsureCount ch_states ch_worth ch_certain ch_ifTold ch_ifGone ch_digits x_11 w_ch_15_5 ch_outcomes ch_ifTold cA_ch_ifTold f_ch_ifTold ch_ifGone cA_ch_ifGone f_ch_ifGone ch_digits cA_ch_digits f_8) H := hP
        have hD : va_D A (zV77 ch tn ch_names ch_gone ch_goal ch_lastHour ch_unsure ch_seats ch_unsureCount ch_states ch_worth ch_certain ch_ifTold ch_ifGone ch_digits x_11 w_ch_15_5 ch_outcomes ch_ifTold cA_ch_ifTold f_ch_ifTold ch_ifGone cA_ch_ifGone f_ch_ifGone ch_digits cA_ch_digits f_8) := hD
        refine lv_aload_n hx hb dX0_lookAtState_52 rfl (lv_at hl 1 rfl) ?_
        refine va_get (D := (dC, dI)) (ci := 0) (v := .ref ch_digits) (C := RX0) (T := TX0) (N := 17) hx hb hts zl_X0 hown hK hP 0 rfl rfl 13 (by decide) (hts _ zw_t2_108) (fun _ h9 => h9) rfl dX0_lookAtState_53 ?_
        refine lv_iload_n hx hb dX0_lookAtState_56 rfl (lv_at hl 3 rfl) ?_
        refine va_iald hx hb hK hP 3 2 rfl rfl (zi_in rfl (by first | with_reducible assumption | omega)) dX0_lookAtState_57 ?_
        refine lv_topi (fun x_12 ex_12 => ?_)
        have b_x_12 : 0 ≤ x_12.toInt ∧ x_12.toInt ≤ 2 := by rw [ex_12]; exact b_f_8 _
        refine lv_if_ne (tgt := 83) hx hb dX0_lookAtState_58 (by decide) (fun c_13 => ?_) (fun c_13 => ?_)
        · have ic_13 := zz_ne rfl (show Int32.toInt 0 = 0 from by decide) c_13
          obtain ⟨x_14, ex_14⟩ : ∃ z : Int32, z = v3_2 + Int32.ofInt 1 := ⟨_, rfl⟩
          have b_x_14 : x_14.toInt = v3_2.toInt + 1 := by rw [ex_14]; exact zi_add rfl (show (Int32.ofInt 1).toInt = 1 from by decide) (by first | with_reducible assumption | omega)
          refine lv_iinc (v := x_14) (lv' := [(3, .int x_14), (2, .int x_9), (0, .ref ch), (1, .int p1)]) hx hb dX0_lookAtState_83 hl (k := 3) rfl ex_14.symm (by decide) rfl (fun ls hl => ?_)
          refine lv_goto (tgt := 17) hx hb dX0_lookAtState_86 (by decide) ?_
          exact ih_1 x_9 x_14 x_11 w_ch_15_5 f_8 (by first | with_reducible assumption | omega) (by first | with_reducible assumption | omega) b_f_8 _ _ _ (by first | with_reducible assumption | omega) (hP.sub (ws' := (zV77 ch tn ch_names ch_gone ch_goal ch_lastHour ch_unsure ch_seats ch_unsureCount ch_states ch_worth ch_certain ch_ifTold ch_ifGone ch_digits x_11 w_ch_15_5 ch_outcomes ch_ifTold cA_ch_ifTold f_ch_ifTold ch_ifGone cA_ch_ifGone f_ch_ifGone ch_digits cA_ch_digits f_8)) [0, 1, 2, 3] rfl) (hD.sub (ws' := (zV77 ch tn ch_names ch_gone ch_goal ch_lastHour ch_unsure ch_seats ch_unsureCount ch_states ch_worth ch_certain ch_ifTold ch_ifGone ch_digits x_11 w_ch_15_5 ch_outcomes ch_ifTold cA_ch_ifTold f_ch_ifTold ch_ifGone cA_ch_ifGone f_ch_ifGone ch_digits cA_ch_digits f_8)) [0, 1, 2, 3] (by decide) rfl) hS (lv_sub hl [2, 3, 1, 0] rfl)
        · have ic_13 := zz_nne rfl (show Int32.toInt 0 = 0 from by decide) c_13
          refine lv_aload_n hx hb dX0_lookAtState_61 rfl (lv_at hl 1 rfl) ?_
          refine lv_dup hx hb dX0_lookAtState_62 rfl ?_
          refine va_get (D := (dC, dI)) (ci := 0) (v := .int w_ch_15_5) (C := RX0) (T := TX0) (N := 17) hx hb hts zl_X0 hown hK hP 0 rfl rfl 15 (by decide) (hts _ zw_t2_110) (fun _ h9 => h9) rfl dX0_lookAtState_63 ?_
          refine lv_aload_n hx hb dX0_lookAtState_66 rfl (lv_at hl 1 rfl) ?_
          refine va_get (D := (dC, dI)) (ci := 0) (v := .ref ch_ifTold) (C := RX0) (T := TX0) (N := 17) hx hb hts zl_X0 hown hK hP 0 rfl rfl 11 (by decide) (hts _ zw_t2_106) (fun _ h9 => h9) rfl dX0_lookAtState_67 ?_
          refine lv_iload_n hx hb dX0_lookAtState_70 rfl (lv_at hl 3 rfl) ?_
          refine va_iald hx hb hK hP 1 0 rfl rfl (zi_in rfl (by first | with_reducible assumption | omega)) dX0_lookAtState_71 ?_
          refine lv_topi (fun x_15 ex_15 => ?_)
          refine lv_aload_n hx hb dX0_lookAtState_72 rfl (lv_at hl 1 rfl) ?_
          refine va_get (D := (dC, dI)) (ci := 0) (v := .ref ch_ifGone) (C := RX0) (T := TX0) (N := 17) hx hb hts zl_X0 hown hK hP 0 rfl rfl 12 (by decide) (hts _ zw_t2_107) (fun _ h9 => h9) rfl dX0_lookAtState_73 ?_
          refine lv_iload_n hx hb dX0_lookAtState_76 rfl (lv_at hl 3 rfl) ?_
          refine va_iald hx hb hK hP 2 1 rfl rfl (zi_in rfl (by first | with_reducible assumption | omega)) dX0_lookAtState_77 ?_
          refine lv_topi (fun x_16 ex_16 => ?_)
          refine lv_ixor hx hb dX0_lookAtState_78 ?_
          refine lv_topi (fun x_17 ex_17 => ?_)
          refine lv_ior hx hb dX0_lookAtState_79 ?_
          refine lv_topi (fun x_18 ex_18 => ?_)
          refine va_put (D := (dC, dI)) (ci := 0) (v := .int x_18) (ty := .int) (C := RX0) (T := TX0) (N := 17) hx hb hts zl_X0 tyX0 tyX0_ok nmX0 hown hK hP hD hS 0 rfl rfl 15 (by decide) (hts _ zw_t2_110) (fun _ h9 => h9) rfl (by decide +kernel) rfl rfl (Nat.le_of_ble_eq_true rfl) dX0_lookAtState_80 (fun H locs hP hD hS => ?_)
          have hP : va_P (dC, dI) vwCl (zV77 ch tn ch_names ch_gone ch_goal ch_lastHour ch_unsure ch_seats ch_unsureCount ch_states ch_worth ch_certain ch_ifTold ch_ifGone ch_digits x_11 x_18 ch_outcomes ch_ifTold cA_ch_ifTold f_ch_ifTold ch_ifGone cA_ch_ifGone f_ch_ifGone ch_digits cA_ch_digits f_8) H := hP
          have hD : va_D A (zV77 ch tn ch_names ch_gone ch_goal ch_lastHour ch_unsure ch_seats ch_unsureCount ch_states ch_worth ch_certain ch_ifTold ch_ifGone ch_digits x_11 x_18 ch_outcomes ch_ifTold cA_ch_ifTold f_ch_ifTold ch_ifGone cA_ch_ifGone f_ch_ifGone ch_digits cA_ch_digits f_8) := hD
          obtain ⟨x_19, ex_19⟩ : ∃ z : Int32, z = v3_2 + Int32.ofInt 1 := ⟨_, rfl⟩
          have b_x_19 : x_19.toInt = v3_2.toInt + 1 := by rw [ex_19]; exact zi_add rfl (show (Int32.ofInt 1).toInt = 1 from by decide) (by first | with_reducible assumption | omega)
          refine lv_iinc (v := x_19) (lv' := [(3, .int x_19), (2, .int x_9), (0, .ref ch), (1, .int p1)]) hx hb dX0_lookAtState_83 hl (k := 3) rfl ex_19.symm (by decide) rfl (fun ls hl => ?_)
          refine lv_goto (tgt := 17) hx hb dX0_lookAtState_86 (by decide) ?_
          exact ih_1 x_9 x_19 x_11 x_18 f_8 (by first | with_reducible assumption | omega) (by first | with_reducible assumption | omega) b_f_8 _ _ _ (by first | with_reducible assumption | omega) (hP.sub (ws' := (zV77 ch tn ch_names ch_gone ch_goal ch_lastHour ch_unsure ch_seats ch_unsureCount ch_states ch_worth ch_certain ch_ifTold ch_ifGone ch_digits x_11 x_18 ch_outcomes ch_ifTold cA_ch_ifTold f_ch_ifTold ch_ifGone cA_ch_ifGone f_ch_ifGone ch_digits cA_ch_digits f_8)) [0, 1, 2, 3] rfl) (hD.sub (ws' := (zV77 ch tn ch_names ch_gone ch_goal ch_lastHour ch_unsure ch_seats ch_unsureCount ch_states ch_worth ch_certain ch_ifTold ch_ifGone ch_digits x_11 x_18 ch_outcomes ch_ifTold cA_ch_ifTold f_ch_ifTold ch_ifGone cA_ch_ifGone f_ch_ifGone ch_digits cA_ch_digits f_8)) [0, 1, 2, 3] (by decide) rfl) hS (lv_sub hl [2, 3, 1, 0] rfl)
  exact loop_1 6 p1 (0) ch_certain (0) f_ch_digits (by first | with_reducible assumption | omega) (by decide) b_f_ch_digits _ _ _ (by decide) hP hD hS (lv_sub hl [2, 3, 1, 0] rfl)
set_option maxHeartbeats 4000000 in
set_option maxRecDepth 100000 in
theorem k_X0_isDoubtful (l : Launch) (sa : Nat → Nat) (dC : Nat → ClassId) (dI : Nat → Nat → Nat) (ch : Nat) (p1 : Int32) (p2 : Int32) (tn : Nat) (ch_names : Int32) (ch_gone : Int32) (ch_goal : Int32) (ch_lastHour : Int32) (ch_unsure : Nat) (ch_seats : Nat) (ch_unsureCount : Int32) (ch_states : Int32) (ch_worth : Nat) (ch_certain : Int32) (ch_ifTold : Nat) (ch_ifGone : Nat) (ch_digits : Nat) (ch_open : Int32) (ch_doubtful : Int32) (ch_outcomes : Int32) (cA_ch_ifTold : ClassId) (f_ch_ifTold : Nat → Int32) (cA_ch_ifGone : ClassId) (f_ch_ifGone : Nat → Int32) (cA_ch_digits : ClassId) (f_ch_digits : Nat → Int32) (b_p1 : 0 ≤ p1.toInt ∧ p1.toInt ≤ 3) (b_ch_lastHour : 0 ≤ ch_lastHour.toInt ∧ ch_lastHour.toInt ≤ 48) (b_ch_unsureCount : 0 ≤ ch_unsureCount.toInt ∧ ch_unsureCount.toInt ≤ 4) (b_ch_states : 1 ≤ ch_states.toInt ∧ ch_states.toInt ≤ 81) (b_f_ch_digits : ∀ j : Nat, 0 ≤ (f_ch_digits j).toInt ∧ (f_ch_digits j).toInt ≤ 2) (sz : Nat) : Met l yX0_isDoubtful (.code yX0_isDoubtful cX0_isDoubtful 3 (some .boolean) :: zT) ({ frames := 1, cells := 0, slots := 0, locals := 21 }) (va_Pc [.ref ch, .int p1, .int p2] (zB sa dC dI (zV77 ch tn ch_names ch_gone ch_goal ch_lastHour ch_unsure ch_seats ch_unsureCount ch_states ch_worth ch_certain ch_ifTold ch_ifGone ch_digits ch_open ch_doubtful ch_outcomes ch_ifTold cA_ch_ifTold f_ch_ifTold ch_ifGone cA_ch_ifGone f_ch_ifGone ch_digits cA_ch_digits f_ch_digits) [(cA_ch_ifTold, .int), (cA_ch_ifGone, .int), (cA_ch_digits, .int)] sz)) (va_Qi (fun (r : Int32) (_ : Unit) => (0 ≤ r.toInt ∧ r.toInt ≤ 1)) (fun _ t => zW dC dI (zV77 ch tn ch_names ch_gone ch_goal ch_lastHour ch_unsure ch_seats ch_unsureCount ch_states ch_worth ch_certain ch_ifTold ch_ifGone ch_digits ch_open ch_doubtful ch_outcomes ch_ifTold cA_ch_ifTold f_ch_ifTold ch_ifGone cA_ch_ifGone f_ch_ifGone ch_digits cA_ch_digits f_ch_digits) [] (va_A (zV77 ch tn ch_names ch_gone ch_goal ch_lastHour ch_unsure ch_seats ch_unsureCount ch_states ch_worth ch_certain ch_ifTold ch_ifGone ch_digits ch_open ch_doubtful ch_outcomes ch_ifTold cA_ch_ifTold f_ch_ifTold ch_ifGone cA_ch_ifGone f_ch_ifGone ch_digits cA_ch_digits f_ch_digits) sz) t) (va_A (zV77 ch tn ch_names ch_gone ch_goal ch_lastHour ch_unsure ch_seats ch_unsureCount ch_states ch_worth ch_certain ch_ifTold ch_ifGone ch_digits ch_open ch_doubtful ch_outcomes ch_ifTold cA_ch_ifTold f_ch_ifTold ch_ifGone cA_ch_ifGone f_ch_ifGone ch_digits cA_ch_digits f_ch_digits) sz)) 0 0 (va_A (zV77 ch tn ch_names ch_gone ch_goal ch_lastHour ch_unsure ch_seats ch_unsureCount ch_states ch_worth ch_certain ch_ifTold ch_ifGone ch_digits ch_open ch_doubtful ch_outcomes ch_ifTold cA_ch_ifTold f_ch_ifTold ch_ifGone cA_ch_ifGone f_ch_ifGone ch_digits cA_ch_digits f_ch_digits) sz) := by
  refine z_enter (by decide) (by exact (Nat.le_of_ble_eq_true rfl)) ?_
  intro p e s m args below meth c ls A R Qc hargs hsz hQe hAe hRe hx hb hml hr hts hown hlocks hin hl hP hK hD hN hXs hA hS
  rw [hAe] at hQe
  have hown : s.vm.findClass RX0 = some m.cls := hown
  have hl : lv_has ls 3 [(0, .ref ch), (1, .int p1), (2, .int p2)] := hl
  refine lv_aload_n hx hb dX0_isDoubtful_0 rfl (lv_at hl 0 rfl) ?_
  refine va_get (D := (dC, dI)) (ci := 0) (v := .ref ch_digits) (C := RX0) (T := TX0) (N := 17) hx hb hts zl_X0 hown hK hP 0 rfl rfl 13 (by decide) (hts _ zw_t2_108) (fun _ h9 => h9) rfl dX0_isDoubtful_1 ?_
  refine lv_iload_n hx hb dX0_isDoubtful_4 rfl (lv_at hl 1 rfl) ?_
  refine va_iald hx hb hK hP 3 2 rfl rfl (zi_in rfl (by first | with_reducible assumption | omega)) dX0_isDoubtful_5 ?_
  refine lv_topi (fun x_1 ex_1 => ?_)
  have b_x_1 : 0 ≤ x_1.toInt ∧ x_1.toInt ≤ 2 := by rw [ex_1]; exact b_f_ch_digits _
  refine lv_if_ne (tgt := 33) hx hb dX0_isDoubtful_6 (by decide) (fun c_2 => ?_) (fun c_2 => ?_)
  · have ic_2 := zz_ne rfl (show Int32.toInt 0 = 0 from by decide) c_2
    refine lv_iconst (v := 0) hx hb dX0_isDoubtful_33 (by decide) ?_
    exact W.zret (v := 0) hx hb hr (by decide) (fun t ht hW => by rw [← hQe]; exact ⟨⟨0, (), rfl, (by decide), z_ret hP hK hD ht hW [0, 1, 2, 3] [] rfl (by decide) rfl⟩, hS.F ht⟩) hS.2.2 dX0_isDoubtful_34
  · have ic_2 := zz_nne rfl (show Int32.toInt 0 = 0 from by decide) c_2
    refine lv_aload_n hx hb dX0_isDoubtful_9 rfl (lv_at hl 0 rfl) ?_
    refine va_get (D := (dC, dI)) (ci := 0) (v := .ref ch_ifTold) (C := RX0) (T := TX0) (N := 17) hx hb hts zl_X0 hown hK hP 0 rfl rfl 11 (by decide) (hts _ zw_t2_106) (fun _ h9 => h9) rfl dX0_isDoubtful_10 ?_
    refine lv_iload_n hx hb dX0_isDoubtful_13 rfl (lv_at hl 1 rfl) ?_
    refine va_iald hx hb hK hP 1 0 rfl rfl (zi_in rfl (by first | with_reducible assumption | omega)) dX0_isDoubtful_14 ?_
    refine lv_topi (fun x_3 ex_3 => ?_)
    refine lv_aload_n hx hb dX0_isDoubtful_15 rfl (lv_at hl 0 rfl) ?_
    refine va_get (D := (dC, dI)) (ci := 0) (v := .ref ch_ifGone) (C := RX0) (T := TX0) (N := 17) hx hb hts zl_X0 hown hK hP 0 rfl rfl 12 (by decide) (hts _ zw_t2_107) (fun _ h9 => h9) rfl dX0_isDoubtful_16 ?_
    refine lv_iload_n hx hb dX0_isDoubtful_19 rfl (lv_at hl 1 rfl) ?_
    refine va_iald hx hb hK hP 2 1 rfl rfl (zi_in rfl (by first | with_reducible assumption | omega)) dX0_isDoubtful_20 ?_
    refine lv_topi (fun x_4 ex_4 => ?_)
    refine lv_ixor hx hb dX0_isDoubtful_21 ?_
    refine lv_topi (fun x_5 ex_5 => ?_)
    refine lv_iload_n hx hb dX0_isDoubtful_22 rfl (lv_at hl 2 rfl) ?_
    obtain ⟨hPc, hDc, hFc⟩ := z_cut (wc := []) hP hD hS hA [] rfl (by decide +kernel)
    have hKc := hK.sub (tys' := []) [] rfl
    refine va_calli (va_runSN (As := [.int x_5, .int p2]) (rest := []) ⟨hx, hb, hml, hown, hts⟩ (k_X9_has l sa dC dI x_5 p2 s.heap.size) ⟨va_cnB 2 hts (z_gI zw_t3_124) rfl rfl rfl hN.2.2.2.2.2.1 (hts _ zw_t1_1) (by decide +kernel) (by rw [← hRe]; exact ⟨(Nat.le_of_ble_eq_true rfl), (Nat.le_of_ble_eq_true rfl)⟩), (hts _ zw_t3_123), trivial⟩ (z_preS hPc hKc hDc hN hXs hS hFc) rfl rfl hl.1 rfl (lv_room (Nat.le_of_ble_eq_true rfl)) dX0_isDoubtful_23 (by rw [← hRe]; exact ⟨(Nat.le_of_ble_eq_true rfl), (Nat.le_of_ble_eq_true rfl)⟩)) hS (fun q _ h => hFc q h) hFc (fun r_6 u t H1 locs ht hvm hw hB hz1 hk1 hS => ?_)
    obtain ⟨hP, hD, hK⟩ := z_after3 (wn := (zV77 ch tn ch_names ch_gone ch_goal ch_lastHour ch_unsure ch_seats ch_unsureCount ch_states ch_worth ch_certain ch_ifTold ch_ifGone ch_digits ch_open ch_doubtful ch_outcomes ch_ifTold cA_ch_ifTold f_ch_ifTold ch_ifGone cA_ch_ifGone f_ch_ifGone ch_digits cA_ch_digits f_ch_digits)) hB ht hvm hP hD hK [] [0, 1, 2, 3] rfl 4 rfl (by decide +kernel) rfl (by decide +kernel) hk1 hFc
    generalize H1 = H at hP hS ⊢
    have hK : va_K (dC, dI) vwCl [(cA_ch_ifTold, .int), (cA_ch_ifGone, .int), (cA_ch_digits, .int)] s := hK
    have b_r_6 : 0 ≤ r_6.toInt ∧ r_6.toInt ≤ 1 := hw
    refine lv_if_eq (tgt := 33) hx hb dX0_isDoubtful_26 (by decide) (fun c_7 => ?_) (fun c_7 => ?_)
    · have ic_7 := zz_eq rfl (show Int32.toInt 0 = 0 from by decide) c_7
      refine lv_iconst (v := 0) hx hb dX0_isDoubtful_33 (by decide) ?_
      exact W.zret (v := 0) hx hb hr (by decide) (fun t ht hW => by rw [← hQe]; exact ⟨⟨0, (), rfl, (by decide), z_ret hP hK hD ht hW [0, 1, 2, 3] [] rfl (by decide) rfl⟩, hS.F ht⟩) hS.2.2 dX0_isDoubtful_34
    · have ic_7 := zz_neq rfl (show Int32.toInt 0 = 0 from by decide) c_7
      refine lv_iconst (v := 1) hx hb dX0_isDoubtful_29 (by decide) ?_
      refine lv_goto (tgt := 34) hx hb dX0_isDoubtful_30 (by decide) ?_
      exact W.zret (v := 1) hx hb hr (by decide) (fun t ht hW => by rw [← hQe]; exact ⟨⟨1, (), rfl, (by decide), z_ret hP hK hD ht hW [0, 1, 2, 3] [] rfl (by decide) rfl⟩, hS.F ht⟩) hS.2.2 dX0_isDoubtful_34
set_option maxHeartbeats 4000000 in
set_option maxRecDepth 100000 in
theorem k_X1_pass (l : Launch) (sa : Nat → Nat) (dC : Nat → ClassId) (dI : Nat → Nat → Nat) (dy : Nat) (p1 : Int32) (dy_place : Int32) (dy_court : Int32) (dy_hour : Int32) (dy_refusals : Int32) (b_p1 : 0 ≤ p1.toInt ∧ p1.toInt ≤ 9) (b_dy_court : 0 ≤ dy_court.toInt ∧ dy_court.toInt ≤ 9) (b_dy_hour : 0 ≤ dy_hour.toInt ∧ dy_hour.toInt ≤ 47) (sz : Nat) : Met l yX1_pass (.code yX1_pass cX1_pass 2 none :: zT) ({ frames := 0, cells := 0, slots := 0, locals := 0 }) (va_Pc [.ref dy, .int p1] (zB sa dC dI (zV79 dy dy_place dy_court dy_hour dy_refusals) [] sz)) (va_Qv (fun _ : Unit => True) (fun _ t => ∃ (n_dy_1 : Int32) (n_dy_2 : Int32), (0 ≤ n_dy_1.toInt ∧ n_dy_1.toInt ≤ 9) ∧ (0 ≤ n_dy_2.toInt ∧ n_dy_2.toInt ≤ 48) ∧ zW dC dI (zV79 dy dy_place n_dy_1 n_dy_2 dy_refusals) [] (va_A (zV79 dy dy_place dy_court dy_hour dy_refusals) sz) t) (va_A (zV79 dy dy_place dy_court dy_hour dy_refusals) sz)) 0 0 (va_A (zV79 dy dy_place dy_court dy_hour dy_refusals) sz) := by
  refine z_enter (by decide) (by exact (Nat.le_of_ble_eq_true rfl)) ?_
  intro p e s m args below meth c ls A R Qc hargs hsz hQe hAe hRe hx hb hml hr hts hown hlocks hin hl hP hK hD hN hXs hA hS
  rw [hAe] at hQe
  have hown : s.vm.findClass RX1 = some m.cls := hown
  have hl : lv_has ls 2 [(0, .ref dy), (1, .int p1)] := hl
  refine lv_aload_n hx hb dX1_pass_0 rfl (lv_at hl 0 rfl) ?_
  refine lv_iload_n hx hb dX1_pass_1 rfl (lv_at hl 1 rfl) ?_
  refine va_put (D := (dC, dI)) (ci := 1) (v := .int p1) (ty := .int) (C := RX1) (T := TX1) (N := 4) hx hb hts zl_X1 tyX1 tyX1_ok nmX1 hown hK hP hD hS 0 rfl rfl 1 (by decide) (hts _ zw_t2_155) (fun _ h9 => h9) rfl (by decide +kernel) rfl rfl (Nat.le_of_ble_eq_true rfl) dX1_pass_2 (fun H locs hP hD hS => ?_)
  have hP : va_P (dC, dI) vwCl (zV79 dy dy_place p1 dy_hour dy_refusals) H := hP
  have hD : va_D A (zV79 dy dy_place p1 dy_hour dy_refusals) := hD
  refine lv_aload_n hx hb dX1_pass_5 rfl (lv_at hl 0 rfl) ?_
  refine lv_dup hx hb dX1_pass_6 rfl ?_
  refine va_get (D := (dC, dI)) (ci := 1) (v := .int dy_hour) (C := RX1) (T := TX1) (N := 4) hx hb hts zl_X1 hown hK hP 0 rfl rfl 2 (by decide) (hts _ zw_t2_157) (fun _ h9 => h9) rfl dX1_pass_7 ?_
  refine lv_iconst (v := 1) hx hb dX1_pass_10 (by decide) ?_
  refine lv_iadd hx hb dX1_pass_11 ?_
  refine lv_topi (fun x_1 ex_1 => ?_)
  have b_x_1 : x_1.toInt = dy_hour.toInt + 1 := by rw [ex_1]; exact zi_add rfl (show Int32.toInt 1 = 1 from by decide) (by first | with_reducible assumption | omega)
  refine va_put (D := (dC, dI)) (ci := 1) (v := .int x_1) (ty := .int) (C := RX1) (T := TX1) (N := 4) hx hb hts zl_X1 tyX1 tyX1_ok nmX1 hown hK hP hD hS 0 rfl rfl 2 (by decide) (hts _ zw_t2_157) (fun _ h9 => h9) rfl (by decide +kernel) rfl rfl (Nat.le_of_ble_eq_true rfl) dX1_pass_12 (fun H locs hP hD hS => ?_)
  have hP : va_P (dC, dI) vwCl (zV79 dy dy_place p1 x_1 dy_refusals) H := hP
  have hD : va_D A (zV79 dy dy_place p1 x_1 dy_refusals) := hD
  exact W.vret hx hb hr (fun t ht hW => by rw [← hQe]; exact ⟨⟨(), rfl, trivial, ⟨p1, x_1, (by first | with_reducible assumption | omega), (by first | with_reducible assumption | omega), z_ret hP hK hD ht hW [0] [] rfl (by decide) rfl⟩⟩, hS.F ht⟩) hS.2.2 dX1_pass_15
set_option maxHeartbeats 4000000 in
set_option maxRecDepth 100000 in
theorem k_X1_isDone (l : Launch) (sa : Nat → Nat) (dC : Nat → ClassId) (dI : Nat → Nat → Nat) (dy : Nat) (nw : Nat) (p2 : Int64) (dy_place : Int32) (dy_court : Int32) (dy_hour : Int32) (dy_refusals : Int32) (nw_isKept : Int32) (tn : Nat) (nw_strayed : Int32) (nw_names : Int32) (nw_known : Int32) (nw_gone : Int32) (tn_hours : Int32) (tn_courts : Int32) (tn_gateCount : Int32) (tn_people : Int32) (tn_lines : Int32) (tn_falseHours : Int32) (tn_strayers : Int32) (tn_deep : Int32) (tn_above : Nat) (tn_doors : Nat) (tn_degrees : Nat) (tn_neighbours : Nat) (tn_shows : Nat) (tn_oneEnd : Nat) (tn_otherEnd : Nat) (tn_told : Nat) (tn_strayParts : Nat) (tn_strayCourts : Nat) (cA_tn_above : ClassId) (f_tn_above : Nat → Int32) (cA_tn_shows : ClassId) (f_tn_shows : Nat → Int32) (cA_tn_oneEnd : ClassId) (f_tn_oneEnd : Nat → Int32) (cA_tn_otherEnd : ClassId) (f_tn_otherEnd : Nat → Int32) (cA_tn_told : ClassId) (f_tn_told : Nat → Int32) (cA_tn_strayCourts : ClassId) (f_tn_strayCourts : Nat → Int32) (b_dy_court : 0 ≤ dy_court.toInt ∧ dy_court.toInt ≤ 9) (b_dy_hour : 0 ≤ dy_hour.toInt ∧ dy_hour.toInt ≤ 48) (b_nw_isKept : 0 ≤ nw_isKept.toInt ∧ nw_isKept.toInt ≤ 1) (b_nw_names : 0 ≤ nw_names.toInt ∧ nw_names.toInt ≤ 1023) (b_tn_hours : 0 ≤ tn_hours.toInt ∧ tn_hours.toInt ≤ 48) (b_tn_courts : 0 ≤ tn_courts.toInt ∧ tn_courts.toInt ≤ 10) (b_tn_gateCount : 0 ≤ tn_gateCount.toInt ∧ tn_gateCount.toInt ≤ 16) (b_tn_people : 0 ≤ tn_people.toInt ∧ tn_people.toInt ≤ 10) (b_tn_falseHours : 0 ≤ tn_falseHours.toInt ∧ tn_falseHours.toInt ≤ 9) (b_tn_deep : 0 ≤ tn_deep.toInt ∧ tn_deep.toInt ≤ 1) (b_f_tn_oneEnd : ∀ j : Nat, 0 ≤ (f_tn_oneEnd j).toInt ∧ (f_tn_oneEnd j).toInt ≤ 9) (b_f_tn_otherEnd : ∀ j : Nat, 0 ≤ (f_tn_otherEnd j).toInt ∧ (f_tn_otherEnd j).toInt ≤ 9) (b_f_tn_told : ∀ j : Nat, 0 ≤ (f_tn_told j).toInt ∧ (f_tn_told j).toInt ≤ 9) (b_f_tn_strayCourts : ∀ j : Nat, 0 ≤ (f_tn_strayCourts j).toInt ∧ (f_tn_strayCourts j).toInt ≤ 9) (sz : Nat) : Met l yX1_isDone (.code yX1_isDone cX1_isDone 7 (some .boolean) :: zT) ({ frames := 2, cells := 0, slots := 0, locals := 47 }) (va_Pc [.ref dy, .ref nw, .long p2] (zB sa dC dI (zV80 dy dy_place dy_court dy_hour dy_refusals nw nw_isKept tn nw_strayed nw_names nw_known nw_gone tn tn_hours tn_courts tn_gateCount tn_people tn_lines tn_falseHours tn_strayers tn_deep tn_above tn_doors tn_degrees tn_neighbours tn_shows tn_oneEnd tn_otherEnd tn_told tn_strayParts tn_strayCourts tn_above cA_tn_above f_tn_above tn_shows cA_tn_shows f_tn_shows tn_oneEnd cA_tn_oneEnd f_tn_oneEnd tn_otherEnd cA_tn_otherEnd f_tn_otherEnd tn_told cA_tn_told f_tn_told tn_strayCourts cA_tn_strayCourts f_tn_strayCourts) [(cA_tn_above, .int), (cA_tn_shows, .int), (cA_tn_oneEnd, .int), (cA_tn_otherEnd, .int), (cA_tn_told, .int), (cA_tn_strayCourts, .int)] sz)) (va_Qi (fun (r : Int32) (_ : Unit) => (0 ≤ r.toInt ∧ r.toInt ≤ 1)) (fun _ t => ∃ (n_dy_1 : Int32) (n_dy_2 : Int32) (n_dy_3 : Int32), (0 ≤ n_dy_1.toInt ∧ n_dy_1.toInt ≤ 9) ∧ (0 ≤ n_dy_2.toInt ∧ n_dy_2.toInt ≤ 48) ∧ zW dC dI (zV80 dy dy_place n_dy_1 n_dy_2 n_dy_3 nw nw_isKept tn nw_strayed nw_names nw_known nw_gone tn tn_hours tn_courts tn_gateCount tn_people tn_lines tn_falseHours tn_strayers tn_deep tn_above tn_doors tn_degrees tn_neighbours tn_shows tn_oneEnd tn_otherEnd tn_told tn_strayParts tn_strayCourts tn_above cA_tn_above f_tn_above tn_shows cA_tn_shows f_tn_shows tn_oneEnd cA_tn_oneEnd f_tn_oneEnd tn_otherEnd cA_tn_otherEnd f_tn_otherEnd tn_told cA_tn_told f_tn_told tn_strayCourts cA_tn_strayCourts f_tn_strayCourts) [] (va_A (zV80 dy dy_place dy_court dy_hour dy_refusals nw nw_isKept tn nw_strayed nw_names nw_known nw_gone tn tn_hours tn_courts tn_gateCount tn_people tn_lines tn_falseHours tn_strayers tn_deep tn_above tn_doors tn_degrees tn_neighbours tn_shows tn_oneEnd tn_otherEnd tn_told tn_strayParts tn_strayCourts tn_above cA_tn_above f_tn_above tn_shows cA_tn_shows f_tn_shows tn_oneEnd cA_tn_oneEnd f_tn_oneEnd tn_otherEnd cA_tn_otherEnd f_tn_otherEnd tn_told cA_tn_told f_tn_told tn_strayCourts cA_tn_strayCourts f_tn_strayCourts) sz) t) (va_A (zV80 dy dy_place dy_court dy_hour dy_refusals nw nw_isKept tn nw_strayed nw_names nw_known nw_gone tn tn_hours tn_courts tn_gateCount tn_people tn_lines tn_falseHours tn_strayers tn_deep tn_above tn_doors tn_degrees tn_neighbours tn_shows tn_oneEnd tn_otherEnd tn_told tn_strayParts tn_strayCourts tn_above cA_tn_above f_tn_above tn_shows cA_tn_shows f_tn_shows tn_oneEnd cA_tn_oneEnd f_tn_oneEnd tn_otherEnd cA_tn_otherEnd f_tn_otherEnd tn_told cA_tn_told f_tn_told tn_strayCourts cA_tn_strayCourts f_tn_strayCourts) sz)) 0 0 (va_A (zV80 dy dy_place dy_court dy_hour dy_refusals nw nw_isKept tn nw_strayed nw_names nw_known nw_gone tn tn_hours tn_courts tn_gateCount tn_people tn_lines tn_falseHours tn_strayers tn_deep tn_above tn_doors tn_degrees tn_neighbours tn_shows tn_oneEnd tn_otherEnd tn_told tn_strayParts tn_strayCourts tn_above cA_tn_above f_tn_above tn_shows cA_tn_shows f_tn_shows tn_oneEnd cA_tn_oneEnd f_tn_oneEnd tn_otherEnd cA_tn_otherEnd f_tn_otherEnd tn_told cA_tn_told f_tn_told tn_strayCourts cA_tn_strayCourts f_tn_strayCourts) sz) := by
  refine z_enter (by decide) (by exact (Nat.le_of_ble_eq_true rfl)) ?_
  intro p e s m args below meth c ls A R Qc hargs hsz hQe hAe hRe hx hb hml hr hts hown hlocks hin hl hP hK hD hN hXs hA hS
  rw [hAe] at hQe
  have hown : s.vm.findClass RX1 = some m.cls := hown
  have hl : lv_has ls 7 [(0, .ref dy), (1, .ref nw), (2, .long p2)] := hl
  refine lv_aload_n hx hb dX1_isDone_0 rfl (lv_at hl 1 rfl) ?_
  refine va_get (D := (dC, dI)) (ci := 3) (v := .ref tn) (C := RX3) (T := TX3) (N := 6) hx hb hts zl_X3 hown hK hP 1 rfl rfl 1 (by decide) (hts _ zw_t1_154) (fun _ h9 => h9) rfl dX1_isDone_1 ?_
  refine lv_astore (lv' := [(4, .ref tn), (0, .ref dy), (1, .ref nw), (2, .long p2)]) hx hb dX1_isDone_4 hl (by decide) rfl (fun ls hl => ?_)
  refine lv_aload_n hx hb dX1_isDone_6 rfl (lv_at hl 1 rfl) ?_
  refine va_get (D := (dC, dI)) (ci := 1) (v := .int dy_hour) (C := RX1) (T := TX1) (N := 4) hx hb hts zl_X1 hown hK hP 0 rfl rfl 2 (by decide) (hts _ zw_t2_157) (fun _ h9 => h9) rfl dX1_isDone_7 ?_
  refine lv_aload hx hb dX1_isDone_10 (lv_at hl 0 rfl) ?_
  refine va_get (D := (dC, dI)) (ci := 7) (v := .int tn_hours) (C := RX7) (T := TX7) (N := 18) hx hb hts zl_X7 hown hK hP 2 rfl rfl 0 (by decide) (hts _ zw_t1_43) (fun _ h9 => h9) rfl dX1_isDone_12 ?_
  refine lv_icmp_ge (tgt := 41) hx hb dX1_isDone_15 (by decide) (fun c_1 => ?_) (fun c_1 => ?_)
  · have ic_1 := zz_ge rfl rfl c_1
    refine lv_iconst (v := 0) hx hb dX1_isDone_41 (by decide) ?_
    exact W.zret (v := 0) hx hb hr (by decide) (fun t ht hW => by rw [← hQe]; exact ⟨⟨0, (), rfl, (by decide), ⟨dy_court, dy_hour, dy_refusals, (by first | with_reducible assumption | omega), (by first | with_reducible assumption | omega), z_ret hP hK hD ht hW [0, 1, 2, 3, 4, 5, 6, 7, 8] [] rfl (by decide) rfl⟩⟩, hS.F ht⟩) hS.2.2 dX1_isDone_42
  · have ic_1 := zz_nge rfl rfl c_1
    refine lv_lload_n hx hb dX1_isDone_18 rfl (lv_at hl 3 rfl) ?_
    refine lv_ldc2 (v := (-1)) hx hb hown (hts _ zw_t5_234) dX1_isDone_19 ?_
    refine W.lcmp hx hb dX1_isDone_22 ?_
    refine lv_if_lt (tgt := 41) hx hb dX1_isDone_23 (by decide) (fun c_2 => ?_) (fun c_2 => ?_)
    · have ic_2 := zl_lt rfl (show Int64.toInt (-1) = (-1) from by decide) c_2
      refine lv_iconst (v := 0) hx hb dX1_isDone_41 (by decide) ?_
      exact W.zret (v := 0) hx hb hr (by decide) (fun t ht hW => by rw [← hQe]; exact ⟨⟨0, (), rfl, (by decide), ⟨dy_court, dy_hour, dy_refusals, (by first | with_reducible assumption | omega), (by first | with_reducible assumption | omega), z_ret hP hK hD ht hW [0, 1, 2, 3, 4, 5, 6, 7, 8] [] rfl (by decide) rfl⟩⟩, hS.F ht⟩) hS.2.2 dX1_isDone_42
    · have ic_2 := zl_nlt rfl (show Int64.toInt (-1) = (-1) from by decide) c_2
      refine lv_lload_n hx hb dX1_isDone_26 rfl (lv_at hl 3 rfl) ?_
      refine lv_aload hx hb dX1_isDone_27 (lv_at hl 0 rfl) ?_
      refine va_get (D := (dC, dI)) (ci := 7) (v := .int tn_gateCount) (C := RX7) (T := TX7) (N := 18) hx hb hts zl_X7 hown hK hP 2 rfl rfl 2 (by decide) (hts _ zw_t1_54) (fun _ h9 => h9) rfl dX1_isDone_29 ?_
      refine lv_i2l (v := _) hx hb dX1_isDone_32 rfl ?_
      refine lv_topl (fun x_3 ex_3 => ?_)
      have b_x_3 : x_3.toInt = tn_gateCount.toInt := by rw [ex_3]; exact z_l64 _
      refine lv_ldc2 (v := 100) hx hb hown (hts _ zw_t5_235) dX1_isDone_33 ?_
      refine lv_lmul hx hb dX1_isDone_36 ?_
      refine lv_topl (fun x_4 ex_4 => ?_)
      have b_x_4 : x_4.toInt = x_3.toInt * 100 := by rw [ex_4]; exact zi_mulL rfl (show Int64.toInt 100 = 100 from by decide) (by first | with_reducible assumption | omega)
      refine W.lcmp hx hb dX1_isDone_37 ?_
      refine lv_if_lt (tgt := 43) hx hb dX1_isDone_38 (by decide) (fun c_5 => ?_) (fun c_5 => ?_)
      · have ic_5 := zl_lt rfl rfl c_5
        refine lv_lload_n hx hb dX1_isDone_43 rfl (lv_at hl 3 rfl) ?_
        refine lv_ldc2 (v := (-1)) hx hb hown (hts _ zw_t5_234) dX1_isDone_44 ?_
        refine W.lcmp hx hb dX1_isDone_47 ?_
        refine lv_if_ne (tgt := 63) hx hb dX1_isDone_48 (by decide) (fun c_6 => ?_) (fun c_6 => ?_)
        · have ic_6 := zl_ne rfl (show Int64.toInt (-1) = (-1) from by decide) c_6
          refine lv_lload_n hx hb dX1_isDone_63 rfl (lv_at hl 3 rfl) ?_
          refine lv_l2i (v := _) hx hb dX1_isDone_64 rfl ?_
          refine lv_topi (fun x_7 ex_7 => ?_)
          have b_x_7 : x_7.toInt = p2.toInt := by rw [ex_7]; exact zi_l2i rfl (by first | with_reducible assumption | omega)
          refine lv_bipush (v := 100) hx hb dX1_isDone_65 (by decide) ?_
          refine lv_irem hx hb dX1_isDone_67 (by decide) ?_
          refine lv_topi (fun x_8 ex_8 => ?_)
          have b_x_8 : x_8.toInt = x_7.toInt % 100 := by rw [ex_8]; exact zi_rem rfl (show Int32.toInt 100 = 100 from by decide) (by first | with_reducible assumption | omega) (by decide)
          refine lv_istore (lv' := [(5, .int x_8), (4, .ref tn), (0, .ref dy), (1, .ref nw), (2, .long p2)]) hx hb dX1_isDone_68 hl (by decide) rfl (fun ls hl => ?_)
          refine lv_aload hx hb dX1_isDone_70 (lv_at hl 1 rfl) ?_
          refine lv_lload_n hx hb dX1_isDone_72 rfl (lv_at hl 4 rfl) ?_
          refine lv_l2i (v := _) hx hb dX1_isDone_73 rfl ?_
          refine lv_topi (fun x_9 ex_9 => ?_)
          have b_x_9 : x_9.toInt = p2.toInt := by rw [ex_9]; exact zi_l2i rfl (by first | with_reducible assumption | omega)
          refine lv_bipush (v := 100) hx hb dX1_isDone_74 (by decide) ?_
          refine lv_idiv hx hb dX1_isDone_76 (by decide) ?_
          refine lv_topi (fun x_10 ex_10 => ?_)
          have b_x_10 : x_10.toInt = x_9.toInt / 100 := by rw [ex_10]; exact zi_div rfl (show Int32.toInt 100 = 100 from by decide) (by first | with_reducible assumption | omega) (by decide)
          refine lv_aload_n hx hb dX1_isDone_77 rfl (lv_at hl 2 rfl) ?_
          refine va_get (D := (dC, dI)) (ci := 1) (v := .int dy_court) (C := RX1) (T := TX1) (N := 4) hx hb hts zl_X1 hown hK hP 0 rfl rfl 1 (by decide) (hts _ zw_t2_155) (fun _ h9 => h9) rfl dX1_isDone_78 ?_
          obtain ⟨hPc, hDc, hFc⟩ := z_cut (wc := (zV4 tn tn_hours tn_courts tn_gateCount tn_people tn_lines tn_falseHours tn_strayers tn_deep tn_above tn_doors tn_degrees tn_neighbours tn_shows tn_oneEnd tn_otherEnd tn_told tn_strayParts tn_strayCourts tn_oneEnd cA_tn_oneEnd f_tn_oneEnd tn_otherEnd cA_tn_otherEnd f_tn_otherEnd)) hP hD hS hA [2, 5, 6] rfl (by decide +kernel)
          have hKc := hK.sub (tys' := [(cA_tn_oneEnd, .int), (cA_tn_otherEnd, .int)]) [2, 3] rfl
          refine va_calli (va_runV (As := [.int x_10, .int dy_court]) (rest := []) ⟨hx, hb, hml, hown, hts⟩ (k_X7_beyond l sa dC dI tn x_10 dy_court tn_hours tn_courts tn_gateCount tn_people tn_lines tn_falseHours tn_strayers tn_deep tn_above tn_doors tn_degrees tn_neighbours tn_shows tn_oneEnd tn_otherEnd tn_told tn_strayParts tn_strayCourts cA_tn_oneEnd f_tn_oneEnd cA_tn_otherEnd f_tn_otherEnd (by first | with_reducible assumption | omega) b_tn_hours b_tn_courts b_tn_gateCount b_tn_people b_tn_falseHours b_tn_deep b_f_tn_oneEnd b_f_tn_otherEnd s.heap.size) (cwV 2 hts (z_gV zw_t5_236 zw_t3_238 zw_t3_239 zw_t1_3 zw_t4_0) rfl rfl rfl (by decide +kernel) (by rw [← hRe]; exact ⟨(Nat.le_of_ble_eq_true rfl), (Nat.le_of_ble_eq_true rfl)⟩)) (z_preV hPc hKc hDc hN hXs hS hFc (q := (RX7, TX7, 18)) (ci := 7) (q0 := 0) rfl rfl) rfl rfl hl.1 rfl (lv_room (Nat.le_of_ble_eq_true rfl)) dX1_isDone_81 (by rw [← hRe]; exact ⟨(Nat.le_of_ble_eq_true rfl), (Nat.le_of_ble_eq_true rfl)⟩)) hS (fun q _ h => hFc q h) hFc (fun r_11 u t H1 locs ht hvm hw hB hz1 hk1 hS => ?_)
          obtain ⟨hP, hD, hK⟩ := z_after3 (wn := [(dy, .inr (1, [.int dy_place, .int dy_court, .int dy_hour, .int dy_refusals])), (nw, .inr (3, [.int nw_isKept, .ref tn, .int nw_strayed, .int nw_names, .int nw_known, .int nw_gone])), (tn_above, .inl (cA_tn_above, 10, .inl f_tn_above)), (tn_shows, .inl (cA_tn_shows, 10, .inl f_tn_shows)), (tn_told, .inl (cA_tn_told, 480, .inl f_tn_told)), (tn_strayCourts, .inl (cA_tn_strayCourts, 10, .inl f_tn_strayCourts)), (tn, .inr (7, [.int tn_hours, .int tn_courts, .int tn_gateCount, .int tn_people, .int tn_lines, .int tn_falseHours, .int tn_strayers, .int tn_deep, .ref tn_above, .ref tn_doors, .ref tn_degrees, .ref tn_neighbours, .ref tn_shows, .ref tn_oneEnd, .ref tn_otherEnd, .ref tn_told, .ref tn_strayParts, .ref tn_strayCourts])), (tn_oneEnd, .inl (cA_tn_oneEnd, 16, .inl f_tn_oneEnd)), (tn_otherEnd, .inl (cA_tn_otherEnd, 16, .inl f_tn_otherEnd))]) hB ht hvm hP hD hK [2, 5, 6] [0, 1, 3, 4, 7, 8] rfl 9 rfl (by decide +kernel) rfl (by decide +kernel) hk1 hFc
          generalize H1 = H at hP hS ⊢
          have hK : va_K (dC, dI) vwCl [(cA_tn_above, .int), (cA_tn_shows, .int), (cA_tn_oneEnd, .int), (cA_tn_otherEnd, .int), (cA_tn_told, .int), (cA_tn_strayCourts, .int)] s := hK
          have b_r_11 : (-1) ≤ r_11.toInt ∧ r_11.toInt ≤ 9 := hw
          refine lv_istore (lv' := [(6, .int r_11), (5, .int x_8), (4, .ref tn), (0, .ref dy), (1, .ref nw), (2, .long p2)]) hx hb dX1_isDone_84 hl (by decide) rfl (fun ls hl => ?_)
          refine lv_iload hx hb dX1_isDone_86 (lv_at hl 0 rfl) ?_
          refine lv_iconst (v := (-1)) hx hb dX1_isDone_88 (by decide) ?_
          refine lv_icmp_ne (tgt := 94) hx hb dX1_isDone_89 (by decide) (fun c_12 => ?_) (fun c_12 => ?_)
          · have ic_12 := zz_ne rfl (show Int32.toInt (-1) = (-1) from by decide) c_12
            refine lv_aload hx hb dX1_isDone_94 (lv_at hl 2 rfl) ?_
            refine lv_aload_n hx hb dX1_isDone_96 rfl (lv_at hl 3 rfl) ?_
            refine va_get (D := (dC, dI)) (ci := 1) (v := .int dy_court) (C := RX1) (T := TX1) (N := 4) hx hb hts zl_X1 hown hK hP 0 rfl rfl 1 (by decide) (hts _ zw_t2_155) (fun _ h9 => h9) rfl dX1_isDone_97 ?_
            refine lv_iload hx hb dX1_isDone_100 (lv_at hl 0 rfl) ?_
            obtain ⟨hPc, hDc, hFc⟩ := z_cut (wc := (zV5 tn tn_hours tn_courts tn_gateCount tn_people tn_lines tn_falseHours tn_strayers tn_deep tn_above tn_doors tn_degrees tn_neighbours tn_shows tn_oneEnd tn_otherEnd tn_told tn_strayParts tn_strayCourts tn_above cA_tn_above f_tn_above)) hP hD hS hA [6, 2] rfl (by decide +kernel)
            have hKc := hK.sub (tys' := [(cA_tn_above, .int)]) [0] rfl
            refine va_calli (va_runV (As := [.int dy_court, .int r_11]) (rest := []) ⟨hx, hb, hml, hown, hts⟩ (k_X7_isFree l sa dC dI tn dy_court r_11 tn_hours tn_courts tn_gateCount tn_people tn_lines tn_falseHours tn_strayers tn_deep tn_above tn_doors tn_degrees tn_neighbours tn_shows tn_oneEnd tn_otherEnd tn_told tn_strayParts tn_strayCourts cA_tn_above f_tn_above b_dy_court b_tn_hours b_tn_courts b_tn_gateCount b_tn_people b_tn_falseHours b_tn_deep H.size) (cwV 2 hts (z_gV zw_t5_237 zw_t3_226 zw_t3_227 zw_t1_3 zw_t3_228) rfl rfl rfl (by decide +kernel) (by rw [← hRe]; exact ⟨(Nat.le_of_ble_eq_true rfl), (Nat.le_of_ble_eq_true rfl)⟩)) (z_preV hPc hKc hDc hN hXs hS hFc (q := (RX7, TX7, 18)) (ci := 7) (q0 := 0) rfl rfl) rfl rfl hl.1 rfl (lv_room (Nat.le_of_ble_eq_true rfl)) dX1_isDone_102 (by rw [← hRe]; exact ⟨(Nat.le_of_ble_eq_true rfl), (Nat.le_of_ble_eq_true rfl)⟩)) hS (fun q _ h => hFc q h) hFc (fun r_13 u t H1 locs ht hvm hw hB hz1 hk1 hS => ?_)
            obtain ⟨hP, hD, hK⟩ := z_after3 (wn := [(dy, .inr (1, [.int dy_place, .int dy_court, .int dy_hour, .int dy_refusals])), (nw, .inr (3, [.int nw_isKept, .ref tn, .int nw_strayed, .int nw_names, .int nw_known, .int nw_gone])), (tn_shows, .inl (cA_tn_shows, 10, .inl f_tn_shows)), (tn_told, .inl (cA_tn_told, 480, .inl f_tn_told)), (tn_strayCourts, .inl (cA_tn_strayCourts, 10, .inl f_tn_strayCourts)), (tn_oneEnd, .inl (cA_tn_oneEnd, 16, .inl f_tn_oneEnd)), (tn_otherEnd, .inl (cA_tn_otherEnd, 16, .inl f_tn_otherEnd)), (tn, .inr (7, [.int tn_hours, .int tn_courts, .int tn_gateCount, .int tn_people, .int tn_lines, .int tn_falseHours, .int tn_strayers, .int tn_deep, .ref tn_above, .ref tn_doors, .ref tn_degrees, .ref tn_neighbours, .ref tn_shows, .ref tn_oneEnd, .ref tn_otherEnd, .ref tn_told, .ref tn_strayParts, .ref tn_strayCourts])), (tn_above, .inl (cA_tn_above, 10, .inl f_tn_above))]) hB ht hvm hP hD hK [6, 2] [0, 1, 3, 4, 5, 7, 8] rfl 9 rfl (by decide +kernel) rfl (by decide +kernel) hk1 hFc
            generalize H1 = H at hP hS ⊢
            have hK : va_K (dC, dI) vwCl [(cA_tn_above, .int), (cA_tn_shows, .int), (cA_tn_oneEnd, .int), (cA_tn_otherEnd, .int), (cA_tn_told, .int), (cA_tn_strayCourts, .int)] s := hK
            have b_r_13 : 0 ≤ r_13.toInt ∧ r_13.toInt ≤ 1 := hw
            refine lv_if_eq (tgt := 134) hx hb dX1_isDone_105 (by decide) (fun c_14 => ?_) (fun c_14 => ?_)
            · have ic_14 := zz_eq rfl (show Int32.toInt 0 = 0 from by decide) c_14
              refine lv_aload hx hb dX1_isDone_134 (lv_at hl 2 rfl) ?_
              refine lv_iload hx hb dX1_isDone_136 (lv_at hl 1 rfl) ?_
              obtain ⟨hPc, hDc, hFc⟩ := z_cut (wc := (zV1 tn tn_hours tn_courts tn_gateCount tn_people tn_lines tn_falseHours tn_strayers tn_deep tn_above tn_doors tn_degrees tn_neighbours tn_shows tn_oneEnd tn_otherEnd tn_told tn_strayParts tn_strayCourts)) hP hD hS hA [7] rfl (by decide +kernel)
              have hKc := hK.sub (tys' := []) [] rfl
              refine va_calli (va_runV (As := [.int x_8]) (rest := []) ⟨hx, hb, hml, hown, hts⟩ (k_X7_hasPerson l sa dC dI tn x_8 tn_hours tn_courts tn_gateCount tn_people tn_lines tn_falseHours tn_strayers tn_deep tn_above tn_doors tn_degrees tn_neighbours tn_shows tn_oneEnd tn_otherEnd tn_told tn_strayParts tn_strayCourts b_tn_hours b_tn_courts b_tn_gateCount b_tn_people b_tn_falseHours b_tn_deep H.size) (cwV 1 hts (z_gV zw_t6_2 zw_t3_182 zw_t3_183 zw_t1_3 zw_t3_184) rfl rfl rfl (by decide +kernel) (by rw [← hRe]; exact ⟨(Nat.le_of_ble_eq_true rfl), (Nat.le_of_ble_eq_true rfl)⟩)) (z_preV hPc hKc hDc hN hXs hS hFc (q := (RX7, TX7, 18)) (ci := 7) (q0 := 0) rfl rfl) rfl rfl hl.1 rfl (lv_room (Nat.le_of_ble_eq_true rfl)) dX1_isDone_138 (by rw [← hRe]; exact ⟨(Nat.le_of_ble_eq_true rfl), (Nat.le_of_ble_eq_true rfl)⟩)) hS (fun q _ h => hFc q h) hFc (fun r_15 u t H1 locs ht hvm hw hB hz1 hk1 hS => ?_)
              obtain ⟨hP, hD, hK⟩ := z_after3 (wn := (zV81 dy dy_place dy_court dy_hour dy_refusals nw nw_isKept tn nw_strayed nw_names nw_known nw_gone tn_shows cA_tn_shows f_tn_shows tn_told cA_tn_told f_tn_told tn_strayCourts cA_tn_strayCourts f_tn_strayCourts tn_oneEnd cA_tn_oneEnd f_tn_oneEnd tn_otherEnd cA_tn_otherEnd f_tn_otherEnd tn_above cA_tn_above f_tn_above tn tn_hours tn_courts tn_gateCount tn_people tn_lines tn_falseHours tn_strayers tn_deep tn_above tn_doors tn_degrees tn_neighbours tn_shows tn_oneEnd tn_otherEnd tn_told tn_strayParts tn_strayCourts)) hB ht hvm hP hD hK [7] [0, 1, 2, 3, 4, 5, 6, 8] rfl 9 rfl (by decide +kernel) rfl (by decide +kernel) hk1 hFc
              generalize H1 = H at hP hS ⊢
              have hK : va_K (dC, dI) vwCl [(cA_tn_above, .int), (cA_tn_shows, .int), (cA_tn_oneEnd, .int), (cA_tn_otherEnd, .int), (cA_tn_told, .int), (cA_tn_strayCourts, .int)] s := hK
              have b_r_15 : 0 ≤ r_15.toInt ∧ r_15.toInt ≤ 1 := hw.1
              have s_r_15 := hw.2
              refine lv_if_eq (tgt := 156) hx hb dX1_isDone_141 (by decide) (fun c_16 => ?_) (fun c_16 => ?_)
              · have ic_16 := zz_eq rfl (show Int32.toInt 0 = 0 from by decide) c_16
                refine lv_iconst (v := 0) hx hb dX1_isDone_156 (by decide) ?_
                exact W.zret (v := 0) hx hb hr (by decide) (fun t ht hW => by rw [← hQe]; exact ⟨⟨0, (), rfl, (by decide), ⟨dy_court, dy_hour, dy_refusals, (by first | with_reducible assumption | omega), (by first | with_reducible assumption | omega), z_ret hP hK hD ht hW [0, 1, 8, 7, 2, 5, 6, 3, 4] [] rfl (by decide) rfl⟩⟩, hS.F ht⟩) hS.2.2 dX1_isDone_157
              · have ic_16 := zz_neq rfl (show Int32.toInt 0 = 0 from by decide) c_16
                refine lv_aload_n hx hb dX1_isDone_144 rfl (lv_at hl 4 rfl) ?_
                refine va_get (D := (dC, dI)) (ci := 3) (v := .int nw_names) (C := RX3) (T := TX3) (N := 6) hx hb hts zl_X3 hown hK hP 1 rfl rfl 3 (by decide) (hts _ zw_t1_162) (fun _ h9 => h9) rfl dX1_isDone_145 ?_
                refine lv_iload hx hb dX1_isDone_148 (lv_at hl 1 rfl) ?_
                obtain ⟨hPc, hDc, hFc⟩ := z_cut (wc := []) hP hD hS hA [] rfl (by decide +kernel)
                have hKc := hK.sub (tys' := []) [] rfl
                refine va_calli (va_runSN (As := [.int nw_names, .int x_8]) (rest := []) ⟨hx, hb, hml, hown, hts⟩ (k_X9_has l sa dC dI nw_names x_8 H.size) ⟨va_cnB 2 hts (z_gI zw_t3_124) rfl rfl rfl hN.2.2.2.2.2.2.2 (hts _ zw_t1_1) (by decide +kernel) (by rw [← hRe]; exact ⟨(Nat.le_of_ble_eq_true rfl), (Nat.le_of_ble_eq_true rfl)⟩), (hts _ zw_t3_123), trivial⟩ (z_preS hPc hKc hDc hN hXs hS hFc) rfl rfl hl.1 rfl (lv_room (Nat.le_of_ble_eq_true rfl)) dX1_isDone_150 (by rw [← hRe]; exact ⟨(Nat.le_of_ble_eq_true rfl), (Nat.le_of_ble_eq_true rfl)⟩)) hS (fun q _ h => hFc q h) hFc (fun r_17 u t H1 locs ht hvm hw hB hz1 hk1 hS => ?_)
                obtain ⟨hP, hD, hK⟩ := z_after3 (wn := (zV81 dy dy_place dy_court dy_hour dy_refusals nw nw_isKept tn nw_strayed nw_names nw_known nw_gone tn_shows cA_tn_shows f_tn_shows tn_told cA_tn_told f_tn_told tn_strayCourts cA_tn_strayCourts f_tn_strayCourts tn_oneEnd cA_tn_oneEnd f_tn_oneEnd tn_otherEnd cA_tn_otherEnd f_tn_otherEnd tn_above cA_tn_above f_tn_above tn tn_hours tn_courts tn_gateCount tn_people tn_lines tn_falseHours tn_strayers tn_deep tn_above tn_doors tn_degrees tn_neighbours tn_shows tn_oneEnd tn_otherEnd tn_told tn_strayParts tn_strayCourts)) hB ht hvm hP hD hK [] [0, 1, 2, 3, 4, 5, 6, 7, 8] rfl 9 rfl (by decide +kernel) rfl (by decide +kernel) hk1 hFc
                generalize H1 = H at hP hS ⊢
                have hK : va_K (dC, dI) vwCl [(cA_tn_above, .int), (cA_tn_shows, .int), (cA_tn_oneEnd, .int), (cA_tn_otherEnd, .int), (cA_tn_told, .int), (cA_tn_strayCourts, .int)] s := hK
                have b_r_17 : 0 ≤ r_17.toInt ∧ r_17.toInt ≤ 1 := hw
                refine lv_if_ne (tgt := 158) hx hb dX1_isDone_153 (by decide) (fun c_18 => ?_) (fun c_18 => ?_)
                · have ic_18 := zz_ne rfl (show Int32.toInt 0 = 0 from by decide) c_18
                  refine lv_aload hx hb dX1_isDone_158 (lv_at hl 2 rfl) ?_
                  refine lv_iload hx hb dX1_isDone_160 (lv_at hl 1 rfl) ?_
                  refine lv_aload_n hx hb dX1_isDone_162 rfl (lv_at hl 3 rfl) ?_
                  refine va_get (D := (dC, dI)) (ci := 1) (v := .int dy_hour) (C := RX1) (T := TX1) (N := 4) hx hb hts zl_X1 hown hK hP 0 rfl rfl 2 (by decide) (hts _ zw_t2_157) (fun _ h9 => h9) rfl dX1_isDone_163 ?_
                  refine lv_aload_n hx hb dX1_isDone_166 rfl (lv_at hl 4 rfl) ?_
                  refine va_get (D := (dC, dI)) (ci := 3) (v := .int nw_strayed) (C := RX3) (T := TX3) (N := 6) hx hb hts zl_X3 hown hK hP 1 rfl rfl 2 (by decide) (hts _ zw_t1_158) (fun _ h9 => h9) rfl dX1_isDone_167 ?_
                  obtain ⟨hPc, hDc, hFc⟩ := z_cut (wc := (zV3 tn tn_hours tn_courts tn_gateCount tn_people tn_lines tn_falseHours tn_strayers tn_deep tn_above tn_doors tn_degrees tn_neighbours tn_shows tn_oneEnd tn_otherEnd tn_told tn_strayParts tn_strayCourts tn_shows cA_tn_shows f_tn_shows tn_told cA_tn_told f_tn_told tn_strayCourts cA_tn_strayCourts f_tn_strayCourts)) hP hD hS hA [8, 2, 3, 4] rfl (by decide +kernel)
                  have hKc := hK.sub (tys' := [(cA_tn_shows, .int), (cA_tn_told, .int), (cA_tn_strayCourts, .int)]) [1, 4, 5] rfl
                  refine va_calli (va_runV (As := [.int x_8, .int dy_hour, .int nw_strayed]) (rest := []) ⟨hx, hb, hml, hown, hts⟩ (k_X7_showsOf l sa dC dI tn x_8 dy_hour nw_strayed tn_hours tn_courts tn_gateCount tn_people tn_lines tn_falseHours tn_strayers tn_deep tn_above tn_doors tn_degrees tn_neighbours tn_shows tn_oneEnd tn_otherEnd tn_told tn_strayParts tn_strayCourts cA_tn_shows f_tn_shows cA_tn_told f_tn_told cA_tn_strayCourts f_tn_strayCourts (by first | with_reducible assumption | omega) (by first | with_reducible assumption | omega) b_tn_hours b_tn_courts b_tn_gateCount b_tn_people b_tn_falseHours b_tn_deep b_f_tn_told b_f_tn_strayCourts H.size) (cwV 3 hts (z_gV zw_t6_4 zw_t3_206 zw_t3_207 zw_t1_3 zw_t3_208) rfl rfl rfl (by decide +kernel) (by rw [← hRe]; exact ⟨(Nat.le_of_ble_eq_true rfl), (Nat.le_of_ble_eq_true rfl)⟩)) (z_preV hPc hKc hDc hN hXs hS hFc (q := (RX7, TX7, 18)) (ci := 7) (q0 := 0) rfl rfl) rfl rfl hl.1 rfl (lv_room (Nat.le_of_ble_eq_true rfl)) dX1_isDone_170 (by rw [← hRe]; exact ⟨(Nat.le_of_ble_eq_true rfl), (Nat.le_of_ble_eq_true rfl)⟩)) hS (fun q _ h => hFc q h) hFc (fun r_19 u t H1 locs ht hvm hw hB hz1 hk1 hS => ?_)
                  obtain ⟨hP, hD, hK⟩ := z_after3 (wn := (zV82 dy dy_place dy_court dy_hour dy_refusals nw nw_isKept tn nw_strayed nw_names nw_known nw_gone tn_oneEnd cA_tn_oneEnd f_tn_oneEnd tn_otherEnd cA_tn_otherEnd f_tn_otherEnd tn_above cA_tn_above f_tn_above tn tn_hours tn_courts tn_gateCount tn_people tn_lines tn_falseHours tn_strayers tn_deep tn_above tn_doors tn_degrees tn_neighbours tn_shows tn_oneEnd tn_otherEnd tn_told tn_strayParts tn_strayCourts tn_shows cA_tn_shows f_tn_shows tn_told cA_tn_told f_tn_told tn_strayCourts cA_tn_strayCourts f_tn_strayCourts)) hB ht hvm hP hD hK [8, 2, 3, 4] [0, 1, 5, 6, 7] rfl 9 rfl (by decide +kernel) rfl (by decide +kernel) hk1 hFc
                  generalize H1 = H at hP hS ⊢
                  have hK : va_K (dC, dI) vwCl [(cA_tn_above, .int), (cA_tn_shows, .int), (cA_tn_oneEnd, .int), (cA_tn_otherEnd, .int), (cA_tn_told, .int), (cA_tn_strayCourts, .int)] s := hK
                  refine lv_iload hx hb dX1_isDone_173 (lv_at hl 0 rfl) ?_
                  obtain ⟨hPc, hDc, hFc⟩ := z_cut (wc := []) hP hD hS hA [] rfl (by decide +kernel)
                  have hKc := hK.sub (tys' := []) [] rfl
                  refine va_calli (va_runSN (As := [.int r_19, .int r_11]) (rest := []) ⟨hx, hb, hml, hown, hts⟩ (k_X9_has l sa dC dI r_19 r_11 H.size) ⟨va_cnB 2 hts (z_gI zw_t3_124) rfl rfl rfl hN.2.2.2.2.2.2.2 (hts _ zw_t1_1) (by decide +kernel) (by rw [← hRe]; exact ⟨(Nat.le_of_ble_eq_true rfl), (Nat.le_of_ble_eq_true rfl)⟩), (hts _ zw_t3_123), trivial⟩ (z_preS hPc hKc hDc hN hXs hS hFc) rfl rfl hl.1 rfl (lv_room (Nat.le_of_ble_eq_true rfl)) dX1_isDone_175 (by rw [← hRe]; exact ⟨(Nat.le_of_ble_eq_true rfl), (Nat.le_of_ble_eq_true rfl)⟩)) hS (fun q _ h => hFc q h) hFc (fun r_20 u t H1 locs ht hvm hw hB hz1 hk1 hS => ?_)
                  obtain ⟨hP, hD, hK⟩ := z_after3 (wn := (zV82 dy dy_place dy_court dy_hour dy_refusals nw nw_isKept tn nw_strayed nw_names nw_known nw_gone tn_oneEnd cA_tn_oneEnd f_tn_oneEnd tn_otherEnd cA_tn_otherEnd f_tn_otherEnd tn_above cA_tn_above f_tn_above tn tn_hours tn_courts tn_gateCount tn_people tn_lines tn_falseHours tn_strayers tn_deep tn_above tn_doors tn_degrees tn_neighbours tn_shows tn_oneEnd tn_otherEnd tn_told tn_strayParts tn_strayCourts tn_shows cA_tn_shows f_tn_shows tn_told cA_tn_told f_tn_told tn_strayCourts cA_tn_strayCourts f_tn_strayCourts)) hB ht hvm hP hD hK [] [0, 1, 2, 3, 4, 5, 6, 7, 8] rfl 9 rfl (by decide +kernel) rfl (by decide +kernel) hk1 hFc
                  generalize H1 = H at hP hS ⊢
                  have hK : va_K (dC, dI) vwCl [(cA_tn_above, .int), (cA_tn_shows, .int), (cA_tn_oneEnd, .int), (cA_tn_otherEnd, .int), (cA_tn_told, .int), (cA_tn_strayCourts, .int)] s := hK
                  have b_r_20 : 0 ≤ r_20.toInt ∧ r_20.toInt ≤ 1 := hw
                  refine lv_if_eq (tgt := 190) hx hb dX1_isDone_178 (by decide) (fun c_21 => ?_) (fun c_21 => ?_)
                  · have ic_21 := zz_eq rfl (show Int32.toInt 0 = 0 from by decide) c_21
                    refine lv_aload_n hx hb dX1_isDone_190 rfl (lv_at hl 3 rfl) ?_
                    refine lv_dup hx hb dX1_isDone_191 rfl ?_
                    refine va_get (D := (dC, dI)) (ci := 1) (v := .int dy_refusals) (C := RX1) (T := TX1) (N := 4) hx hb hts zl_X1 hown hK hP 0 rfl rfl 3 (by decide) (hts _ zw_t2_159) (fun _ h9 => h9) rfl dX1_isDone_192 ?_
                    refine lv_iconst (v := 1) hx hb dX1_isDone_195 (by decide) ?_
                    refine lv_iadd hx hb dX1_isDone_196 ?_
                    refine lv_topi (fun x_22 ex_22 => ?_)
                    refine va_put (D := (dC, dI)) (ci := 1) (v := .int x_22) (ty := .int) (C := RX1) (T := TX1) (N := 4) hx hb hts zl_X1 tyX1 tyX1_ok nmX1 hown hK hP hD hS 0 rfl rfl 3 (by decide) (hts _ zw_t2_159) (fun _ h9 => h9) rfl (by decide +kernel) rfl rfl (Nat.le_of_ble_eq_true rfl) dX1_isDone_197 (fun H locs hP hD hS => ?_)
                    have hP : va_P (dC, dI) vwCl (zV82 dy dy_place dy_court dy_hour x_22 nw nw_isKept tn nw_strayed nw_names nw_known nw_gone tn_oneEnd cA_tn_oneEnd f_tn_oneEnd tn_otherEnd cA_tn_otherEnd f_tn_otherEnd tn_above cA_tn_above f_tn_above tn tn_hours tn_courts tn_gateCount tn_people tn_lines tn_falseHours tn_strayers tn_deep tn_above tn_doors tn_degrees tn_neighbours tn_shows tn_oneEnd tn_otherEnd tn_told tn_strayParts tn_strayCourts tn_shows cA_tn_shows f_tn_shows tn_told cA_tn_told f_tn_told tn_strayCourts cA_tn_strayCourts f_tn_strayCourts) H := hP
                    have hD : va_D A (zV82 dy dy_place dy_court dy_hour x_22 nw nw_isKept tn nw_strayed nw_names nw_known nw_gone tn_oneEnd cA_tn_oneEnd f_tn_oneEnd tn_otherEnd cA_tn_otherEnd f_tn_otherEnd tn_above cA_tn_above f_tn_above tn tn_hours tn_courts tn_gateCount tn_people tn_lines tn_falseHours tn_strayers tn_deep tn_above tn_doors tn_degrees tn_neighbours tn_shows tn_oneEnd tn_otherEnd tn_told tn_strayParts tn_strayCourts tn_shows cA_tn_shows f_tn_shows tn_told cA_tn_told f_tn_told tn_strayCourts cA_tn_strayCourts f_tn_strayCourts) := hD
                    refine lv_aload_n hx hb dX1_isDone_200 rfl (lv_at hl 3 rfl) ?_
                    refine lv_aload_n hx hb dX1_isDone_201 rfl (lv_at hl 3 rfl) ?_
                    refine va_get (D := (dC, dI)) (ci := 1) (v := .int dy_hour) (C := RX1) (T := TX1) (N := 4) hx hb hts zl_X1 hown hK hP 0 rfl rfl 2 (by decide) (hts _ zw_t2_157) (fun _ h9 => h9) rfl dX1_isDone_202 ?_
                    refine lv_iconst (v := 1) hx hb dX1_isDone_205 (by decide) ?_
                    refine lv_iadd hx hb dX1_isDone_206 ?_
                    refine lv_topi (fun x_23 ex_23 => ?_)
                    have b_x_23 : x_23.toInt = dy_hour.toInt + 1 := by rw [ex_23]; exact zi_add rfl (show Int32.toInt 1 = 1 from by decide) (by first | with_reducible assumption | omega)
                    refine lv_aload hx hb dX1_isDone_207 (lv_at hl 2 rfl) ?_
                    refine va_get (D := (dC, dI)) (ci := 7) (v := .int tn_falseHours) (C := RX7) (T := TX7) (N := 18) hx hb hts zl_X7 hown hK hP 5 rfl rfl 5 (by decide) (hts _ zw_t1_68) (fun _ h9 => h9) rfl dX1_isDone_209 ?_
                    refine lv_iadd hx hb dX1_isDone_212 ?_
                    refine lv_topi (fun x_24 ex_24 => ?_)
                    have b_x_24 : x_24.toInt = x_23.toInt + tn_falseHours.toInt := by rw [ex_24]; exact zi_add rfl rfl (by first | with_reducible assumption | omega)
                    refine lv_aload hx hb dX1_isDone_213 (lv_at hl 2 rfl) ?_
                    refine va_get (D := (dC, dI)) (ci := 7) (v := .int tn_hours) (C := RX7) (T := TX7) (N := 18) hx hb hts zl_X7 hown hK hP 5 rfl rfl 0 (by decide) (hts _ zw_t1_43) (fun _ h9 => h9) rfl dX1_isDone_215 ?_
                    refine va_mmin hx hb (by rw [hml]; exact hl.1.symm) hown (hts _ zw_t6_5) (hts _ zw_t3_10) (hts _ zw_t1_12) (hts _ zw_t3_11) (by rw [← hRe]; exact (Nat.le_of_ble_eq_true rfl)) (by rw [← hRe]; exact (Nat.le_of_ble_eq_true rfl)) (Nat.zero_le _) (Nat.zero_le _) dX1_isDone_218 ?_
                    refine lv_topi (fun x_25 ex_25 => ?_)
                    have b_x_25 : x_25.toInt = min (x_24.toInt) (tn_hours.toInt) := by rw [ex_25]; exact zi_min rfl rfl
                    refine va_put (D := (dC, dI)) (ci := 1) (v := .int x_25) (ty := .int) (C := RX1) (T := TX1) (N := 4) hx hb hts zl_X1 tyX1 tyX1_ok nmX1 hown hK hP hD hS 0 rfl rfl 2 (by decide) (hts _ zw_t2_157) (fun _ h9 => h9) rfl (by decide +kernel) rfl rfl (Nat.le_of_ble_eq_true rfl) dX1_isDone_221 (fun H locs hP hD hS => ?_)
                    have hP : va_P (dC, dI) vwCl (zV82 dy dy_place dy_court x_25 x_22 nw nw_isKept tn nw_strayed nw_names nw_known nw_gone tn_oneEnd cA_tn_oneEnd f_tn_oneEnd tn_otherEnd cA_tn_otherEnd f_tn_otherEnd tn_above cA_tn_above f_tn_above tn tn_hours tn_courts tn_gateCount tn_people tn_lines tn_falseHours tn_strayers tn_deep tn_above tn_doors tn_degrees tn_neighbours tn_shows tn_oneEnd tn_otherEnd tn_told tn_strayParts tn_strayCourts tn_shows cA_tn_shows f_tn_shows tn_told cA_tn_told f_tn_told tn_strayCourts cA_tn_strayCourts f_tn_strayCourts) H := hP
                    have hD : va_D A (zV82 dy dy_place dy_court x_25 x_22 nw nw_isKept tn nw_strayed nw_names nw_known nw_gone tn_oneEnd cA_tn_oneEnd f_tn_oneEnd tn_otherEnd cA_tn_otherEnd f_tn_otherEnd tn_above cA_tn_above f_tn_above tn tn_hours tn_courts tn_gateCount tn_people tn_lines tn_falseHours tn_strayers tn_deep tn_above tn_doors tn_degrees tn_neighbours tn_shows tn_oneEnd tn_otherEnd tn_told tn_strayParts tn_strayCourts tn_shows cA_tn_shows f_tn_shows tn_told cA_tn_told f_tn_told tn_strayCourts cA_tn_strayCourts f_tn_strayCourts) := hD
                    refine lv_iconst (v := 1) hx hb dX1_isDone_224 (by decide) ?_
                    exact W.zret (v := 1) hx hb hr (by decide) (fun t ht hW => by rw [← hQe]; exact ⟨⟨1, (), rfl, (by decide), ⟨dy_court, x_25, x_22, (by first | with_reducible assumption | omega), (by first | with_reducible assumption | omega), z_ret hP hK hD ht hW [0, 1, 5, 4, 6, 2, 3, 7, 8] [] rfl (by decide) rfl⟩⟩, hS.F ht⟩) hS.2.2 dX1_isDone_225
                  · have ic_21 := zz_neq rfl (show Int32.toInt 0 = 0 from by decide) c_21
                    refine lv_aload_n hx hb dX1_isDone_181 rfl (lv_at hl 3 rfl) ?_
                    refine lv_iload hx hb dX1_isDone_182 (lv_at hl 0 rfl) ?_
                    obtain ⟨hPc, hDc, hFc⟩ := z_cut (wc := (zV79 dy dy_place dy_court dy_hour dy_refusals)) hP hD hS hA [0] rfl (by decide +kernel)
                    have hKc := hK.sub (tys' := []) [] rfl
                    refine va_callv (va_runV (As := [.int r_11]) (rest := []) ⟨hx, hb, hml, hown, hts⟩ (k_X1_pass l sa dC dI dy r_11 dy_place dy_court dy_hour dy_refusals (by first | with_reducible assumption | omega) b_dy_court (by first | with_reducible assumption | omega) H.size) (cwV 1 hts (z_gV zw_t5_238 zw_t6_0 zw_s4_2 zw_t1_9 zw_t6_1) rfl rfl rfl (by decide +kernel) (by rw [← hRe]; exact ⟨(Nat.le_of_ble_eq_true rfl), (Nat.le_of_ble_eq_true rfl)⟩)) (z_preV hPc hKc hDc hN hXs hS hFc (q := (RX1, TX1, 4)) (ci := 1) (q0 := 0) rfl rfl) rfl rfl hl.1 rfl (lv_room (Nat.le_of_ble_eq_true rfl)) dX1_isDone_184 (by rw [← hRe]; exact ⟨(Nat.le_of_ble_eq_true rfl), (Nat.le_of_ble_eq_true rfl)⟩)) hS (fun q _ h => hFc q h) hFc (fun u t H1 locs ht hvm hw hB hz1 hk1 hS => ?_)
                    obtain ⟨n_dy_27, n_dy_28, b_n_dy_27, b_n_dy_28, hB⟩ := hB
                    obtain ⟨hP, hD, hK⟩ := z_after3 (wn := [(nw, .inr (3, [.int nw_isKept, .ref tn, .int nw_strayed, .int nw_names, .int nw_known, .int nw_gone])), (tn_oneEnd, .inl (cA_tn_oneEnd, 16, .inl f_tn_oneEnd)), (tn_otherEnd, .inl (cA_tn_otherEnd, 16, .inl f_tn_otherEnd)), (tn_above, .inl (cA_tn_above, 10, .inl f_tn_above)), (tn, .inr (7, [.int tn_hours, .int tn_courts, .int tn_gateCount, .int tn_people, .int tn_lines, .int tn_falseHours, .int tn_strayers, .int tn_deep, .ref tn_above, .ref tn_doors, .ref tn_degrees, .ref tn_neighbours, .ref tn_shows, .ref tn_oneEnd, .ref tn_otherEnd, .ref tn_told, .ref tn_strayParts, .ref tn_strayCourts])), (tn_shows, .inl (cA_tn_shows, 10, .inl f_tn_shows)), (tn_told, .inl (cA_tn_told, 480, .inl f_tn_told)), (tn_strayCourts, .inl (cA_tn_strayCourts, 10, .inl f_tn_strayCourts)), (dy, .inr (1, [.int dy_place, .int n_dy_27, .int n_dy_28, .int dy_refusals]))]) hB ht hvm hP hD hK [0] [1, 2, 3, 4, 5, 6, 7, 8] rfl 9 rfl (by decide +kernel) rfl (by decide +kernel) hk1 hFc
                    generalize H1 = H at hP hS ⊢
                    have hK : va_K (dC, dI) vwCl [(cA_tn_above, .int), (cA_tn_shows, .int), (cA_tn_oneEnd, .int), (cA_tn_otherEnd, .int), (cA_tn_told, .int), (cA_tn_strayCourts, .int)] s := hK
                    refine lv_goto (tgt := 224) hx hb dX1_isDone_187 (by decide) ?_
                    refine lv_iconst (v := 1) hx hb dX1_isDone_224 (by decide) ?_
                    exact W.zret (v := 1) hx hb hr (by decide) (fun t ht hW => by rw [← hQe]; exact ⟨⟨1, (), rfl, (by decide), ⟨n_dy_27, n_dy_28, dy_refusals, (by first | with_reducible assumption | omega), (by first | with_reducible assumption | omega), z_ret hP hK hD ht hW [8, 0, 4, 3, 5, 1, 2, 6, 7] [] rfl (by decide) rfl⟩⟩, hS.F ht⟩) hS.2.2 dX1_isDone_225
                · have ic_18 := zz_nne rfl (show Int32.toInt 0 = 0 from by decide) c_18
                  refine lv_iconst (v := 0) hx hb dX1_isDone_156 (by decide) ?_
                  exact W.zret (v := 0) hx hb hr (by decide) (fun t ht hW => by rw [← hQe]; exact ⟨⟨0, (), rfl, (by decide), ⟨dy_court, dy_hour, dy_refusals, (by first | with_reducible assumption | omega), (by first | with_reducible assumption | omega), z_ret hP hK hD ht hW [0, 1, 8, 7, 2, 5, 6, 3, 4] [] rfl (by decide) rfl⟩⟩, hS.F ht⟩) hS.2.2 dX1_isDone_157
            · have ic_14 := zz_neq rfl (show Int32.toInt 0 = 0 from by decide) c_14
              refine lv_iload hx hb dX1_isDone_108 (lv_at hl 1 rfl) ?_
              refine lv_bipush (v := 99) hx hb dX1_isDone_110 (by decide) ?_
              refine lv_icmp_ne (tgt := 121) hx hb dX1_isDone_112 (by decide) (fun c_29 => ?_) (fun c_29 => ?_)
              · have ic_29 := zz_ne rfl (show Int32.toInt 99 = 99 from by decide) c_29
                refine lv_iload hx hb dX1_isDone_121 (lv_at hl 1 rfl) ?_
                refine lv_bipush (v := 99) hx hb dX1_isDone_123 (by decide) ?_
                refine lv_icmp_ne (tgt := 132) hx hb dX1_isDone_125 (by decide) (fun c_30 => ?_) (fun q => absurd (zz_nne rfl (show Int32.toInt 99 = 99 from by decide) q) (by first | with_reducible assumption | omega))
                have ic_30 := zz_ne rfl (show Int32.toInt 99 = 99 from by decide) c_30
                refine lv_iconst (v := 0) hx hb dX1_isDone_132 (by decide) ?_
                exact W.zret (v := 0) hx hb hr (by decide) (fun t ht hW => by rw [← hQe]; exact ⟨⟨0, (), rfl, (by decide), ⟨dy_court, dy_hour, dy_refusals, (by first | with_reducible assumption | omega), (by first | with_reducible assumption | omega), z_ret hP hK hD ht hW [0, 1, 7, 8, 2, 5, 6, 3, 4] [] rfl (by decide) rfl⟩⟩, hS.F ht⟩) hS.2.2 dX1_isDone_133
              · have ic_29 := zz_nne rfl (show Int32.toInt 99 = 99 from by decide) c_29
                refine lv_aload_n hx hb dX1_isDone_115 rfl (lv_at hl 3 rfl) ?_
                refine lv_iload hx hb dX1_isDone_116 (lv_at hl 0 rfl) ?_
                obtain ⟨hPc, hDc, hFc⟩ := z_cut (wc := (zV79 dy dy_place dy_court dy_hour dy_refusals)) hP hD hS hA [0] rfl (by decide +kernel)
                have hKc := hK.sub (tys' := []) [] rfl
                refine va_callv (va_runV (As := [.int r_11]) (rest := []) ⟨hx, hb, hml, hown, hts⟩ (k_X1_pass l sa dC dI dy r_11 dy_place dy_court dy_hour dy_refusals (by first | with_reducible assumption | omega) b_dy_court (by first | with_reducible assumption | omega) H.size) (cwV 1 hts (z_gV zw_t5_238 zw_t6_0 zw_s4_2 zw_t1_9 zw_t6_1) rfl rfl rfl (by decide +kernel) (by rw [← hRe]; exact ⟨(Nat.le_of_ble_eq_true rfl), (Nat.le_of_ble_eq_true rfl)⟩)) (z_preV hPc hKc hDc hN hXs hS hFc (q := (RX1, TX1, 4)) (ci := 1) (q0 := 0) rfl rfl) rfl rfl hl.1 rfl (lv_room (Nat.le_of_ble_eq_true rfl)) dX1_isDone_118 (by rw [← hRe]; exact ⟨(Nat.le_of_ble_eq_true rfl), (Nat.le_of_ble_eq_true rfl)⟩)) hS (fun q _ h => hFc q h) hFc (fun u t H1 locs ht hvm hw hB hz1 hk1 hS => ?_)
                obtain ⟨n_dy_32, n_dy_33, b_n_dy_32, b_n_dy_33, hB⟩ := hB
                obtain ⟨hP, hD, hK⟩ := z_after3 (wn := [(nw, .inr (3, [.int nw_isKept, .ref tn, .int nw_strayed, .int nw_names, .int nw_known, .int nw_gone])), (tn_shows, .inl (cA_tn_shows, 10, .inl f_tn_shows)), (tn_told, .inl (cA_tn_told, 480, .inl f_tn_told)), (tn_strayCourts, .inl (cA_tn_strayCourts, 10, .inl f_tn_strayCourts)), (tn_oneEnd, .inl (cA_tn_oneEnd, 16, .inl f_tn_oneEnd)), (tn_otherEnd, .inl (cA_tn_otherEnd, 16, .inl f_tn_otherEnd)), (tn, .inr (7, [.int tn_hours, .int tn_courts, .int tn_gateCount, .int tn_people, .int tn_lines, .int tn_falseHours, .int tn_strayers, .int tn_deep, .ref tn_above, .ref tn_doors, .ref tn_degrees, .ref tn_neighbours, .ref tn_shows, .ref tn_oneEnd, .ref tn_otherEnd, .ref tn_told, .ref tn_strayParts, .ref tn_strayCourts])), (tn_above, .inl (cA_tn_above, 10, .inl f_tn_above)), (dy, .inr (1, [.int dy_place, .int n_dy_32, .int n_dy_33, .int dy_refusals]))]) hB ht hvm hP hD hK [0] [1, 2, 3, 4, 5, 6, 7, 8] rfl 9 rfl (by decide +kernel) rfl (by decide +kernel) hk1 hFc
                generalize H1 = H at hP hS ⊢
                have hK : va_K (dC, dI) vwCl [(cA_tn_above, .int), (cA_tn_shows, .int), (cA_tn_oneEnd, .int), (cA_tn_otherEnd, .int), (cA_tn_told, .int), (cA_tn_strayCourts, .int)] s := hK
                refine lv_iload hx hb dX1_isDone_121 (lv_at hl 1 rfl) ?_
                refine lv_bipush (v := 99) hx hb dX1_isDone_123 (by decide) ?_
                refine lv_icmp_ne (tgt := 132) hx hb dX1_isDone_125 (by decide) (fun q => absurd (zz_ne rfl (show Int32.toInt 99 = 99 from by decide) q) (by first | with_reducible assumption | omega)) (fun c_34 => ?_)
                have ic_34 := zz_nne rfl (show Int32.toInt 99 = 99 from by decide) c_34
                refine lv_iconst (v := 1) hx hb dX1_isDone_128 (by decide) ?_
                refine lv_goto (tgt := 133) hx hb dX1_isDone_129 (by decide) ?_
                exact W.zret (v := 1) hx hb hr (by decide) (fun t ht hW => by rw [← hQe]; exact ⟨⟨1, (), rfl, (by decide), ⟨n_dy_32, n_dy_33, dy_refusals, (by first | with_reducible assumption | omega), (by first | with_reducible assumption | omega), z_ret hP hK hD ht hW [8, 0, 6, 7, 1, 4, 5, 2, 3] [] rfl (by decide) rfl⟩⟩, hS.F ht⟩) hS.2.2 dX1_isDone_133
          · have ic_12 := zz_nne rfl (show Int32.toInt (-1) = (-1) from by decide) c_12
            refine lv_iconst (v := 0) hx hb dX1_isDone_92 (by decide) ?_
            exact W.zret (v := 0) hx hb hr (by decide) (fun t ht hW => by rw [← hQe]; exact ⟨⟨0, (), rfl, (by decide), ⟨dy_court, dy_hour, dy_refusals, (by first | with_reducible assumption | omega), (by first | with_reducible assumption | omega), z_ret hP hK hD ht hW [0, 1, 6, 2, 3, 7, 8, 4, 5] [] rfl (by decide) rfl⟩⟩, hS.F ht⟩) hS.2.2 dX1_isDone_93
        · have ic_6 := zl_nne rfl (show Int64.toInt (-1) = (-1) from by decide) c_6
          refine lv_aload_n hx hb dX1_isDone_51 rfl (lv_at hl 1 rfl) ?_
          refine lv_dup hx hb dX1_isDone_52 rfl ?_
          refine va_get (D := (dC, dI)) (ci := 1) (v := .int dy_hour) (C := RX1) (T := TX1) (N := 4) hx hb hts zl_X1 hown hK hP 0 rfl rfl 2 (by decide) (hts _ zw_t2_157) (fun _ h9 => h9) rfl dX1_isDone_53 ?_
          refine lv_iconst (v := 1) hx hb dX1_isDone_56 (by decide) ?_
          refine lv_iadd hx hb dX1_isDone_57 ?_
          refine lv_topi (fun x_35 ex_35 => ?_)
          have b_x_35 : x_35.toInt = dy_hour.toInt + 1 := by rw [ex_35]; exact zi_add rfl (show Int32.toInt 1 = 1 from by decide) (by first | with_reducible assumption | omega)
          refine va_put (D := (dC, dI)) (ci := 1) (v := .int x_35) (ty := .int) (C := RX1) (T := TX1) (N := 4) hx hb hts zl_X1 tyX1 tyX1_ok nmX1 hown hK hP hD hS 0 rfl rfl 2 (by decide) (hts _ zw_t2_157) (fun _ h9 => h9) rfl (by decide +kernel) rfl rfl (Nat.le_of_ble_eq_true rfl) dX1_isDone_58 (fun H locs hP hD hS => ?_)
          have hP : va_P (dC, dI) vwCl (zV80 dy dy_place dy_court x_35 dy_refusals nw nw_isKept tn nw_strayed nw_names nw_known nw_gone tn tn_hours tn_courts tn_gateCount tn_people tn_lines tn_falseHours tn_strayers tn_deep tn_above tn_doors tn_degrees tn_neighbours tn_shows tn_oneEnd tn_otherEnd tn_told tn_strayParts tn_strayCourts tn_above cA_tn_above f_tn_above tn_shows cA_tn_shows f_tn_shows tn_oneEnd cA_tn_oneEnd f_tn_oneEnd tn_otherEnd cA_tn_otherEnd f_tn_otherEnd tn_told cA_tn_told f_tn_told tn_strayCourts cA_tn_strayCourts f_tn_strayCourts) H := hP
          have hD : va_D A (zV80 dy dy_place dy_court x_35 dy_refusals nw nw_isKept tn nw_strayed nw_names nw_known nw_gone tn tn_hours tn_courts tn_gateCount tn_people tn_lines tn_falseHours tn_strayers tn_deep tn_above tn_doors tn_degrees tn_neighbours tn_shows tn_oneEnd tn_otherEnd tn_told tn_strayParts tn_strayCourts tn_above cA_tn_above f_tn_above tn_shows cA_tn_shows f_tn_shows tn_oneEnd cA_tn_oneEnd f_tn_oneEnd tn_otherEnd cA_tn_otherEnd f_tn_otherEnd tn_told cA_tn_told f_tn_told tn_strayCourts cA_tn_strayCourts f_tn_strayCourts) := hD
          refine lv_iconst (v := 1) hx hb dX1_isDone_61 (by decide) ?_
          exact W.zret (v := 1) hx hb hr (by decide) (fun t ht hW => by rw [← hQe]; exact ⟨⟨1, (), rfl, (by decide), ⟨dy_court, x_35, dy_refusals, (by first | with_reducible assumption | omega), (by first | with_reducible assumption | omega), z_ret hP hK hD ht hW [0, 1, 2, 3, 4, 5, 6, 7, 8] [] rfl (by decide) rfl⟩⟩, hS.F ht⟩) hS.2.2 dX1_isDone_62
      · have ic_5 := zl_nlt rfl rfl c_5
        refine lv_iconst (v := 0) hx hb dX1_isDone_41 (by decide) ?_
        exact W.zret (v := 0) hx hb hr (by decide) (fun t ht hW => by rw [← hQe]; exact ⟨⟨0, (), rfl, (by decide), ⟨dy_court, dy_hour, dy_refusals, (by first | with_reducible assumption | omega), (by first | with_reducible assumption | omega), z_ret hP hK hD ht hW [0, 1, 2, 3, 4, 5, 6, 7, 8] [] rfl (by decide) rfl⟩⟩, hS.F ht⟩) hS.2.2 dX1_isDone_42
set_option maxHeartbeats 4000000 in
set_option maxRecDepth 100000 in
theorem k_X1_live (l : Launch) (sa : Nat → Nat) (dC : Nat → ClassId) (dI : Nat → Nat → Nat) (dy : Nat) (nw : Nat) (rw : Nat) (dy_place : Int32) (dy_court : Int32) (dy_hour : Int32) (dy_refusals : Int32) (nw_isKept : Int32) (tn : Nat) (nw_strayed : Int32) (nw_names : Int32) (nw_known : Int32) (nw_gone : Int32) (tn_hours : Int32) (tn_courts : Int32) (tn_gateCount : Int32) (tn_people : Int32) (tn_lines : Int32) (tn_falseHours : Int32) (tn_strayers : Int32) (tn_deep : Int32) (tn_above : Nat) (tn_doors : Nat) (tn_degrees : Nat) (tn_neighbours : Nat) (tn_shows : Nat) (tn_oneEnd : Nat) (tn_otherEnd : Nat) (tn_told : Nat) (tn_strayParts : Nat) (tn_strayCourts : Nat) (cA_tn_above : ClassId) (f_tn_above : Nat → Int32) (cA_tn_shows : ClassId) (f_tn_shows : Nat → Int32) (cA_tn_oneEnd : ClassId) (f_tn_oneEnd : Nat → Int32) (cA_tn_otherEnd : ClassId) (f_tn_otherEnd : Nat → Int32) (cA_tn_told : ClassId) (f_tn_told : Nat → Int32) (cA_tn_strayCourts : ClassId) (f_tn_strayCourts : Nat → Int32) (rw_width : Int32) (rw_size : Int32) (rw_numbers : Nat) (cA_rw_numbers : ClassId) (f_rw_numbers : Nat → Int64) (b_dy_court : 0 ≤ dy_court.toInt ∧ dy_court.toInt ≤ 9) (b_dy_hour : 0 ≤ dy_hour.toInt ∧ dy_hour.toInt ≤ 48) (b_nw_isKept : 0 ≤ nw_isKept.toInt ∧ nw_isKept.toInt ≤ 1) (b_nw_names : 0 ≤ nw_names.toInt ∧ nw_names.toInt ≤ 1023) (b_tn_hours : 0 ≤ tn_hours.toInt ∧ tn_hours.toInt ≤ 48) (b_tn_courts : 0 ≤ tn_courts.toInt ∧ tn_courts.toInt ≤ 10) (b_tn_gateCount : 0 ≤ tn_gateCount.toInt ∧ tn_gateCount.toInt ≤ 16) (b_tn_people : 0 ≤ tn_people.toInt ∧ tn_people.toInt ≤ 10) (b_tn_falseHours : 0 ≤ tn_falseHours.toInt ∧ tn_falseHours.toInt ≤ 9) (b_tn_deep : 0 ≤ tn_deep.toInt ∧ tn_deep.toInt ≤ 1) (b_f_tn_oneEnd : ∀ j : Nat, 0 ≤ (f_tn_oneEnd j).toInt ∧ (f_tn_oneEnd j).toInt ≤ 9) (b_f_tn_otherEnd : ∀ j : Nat, 0 ≤ (f_tn_otherEnd j).toInt ∧ (f_tn_otherEnd j).toInt ≤ 9) (b_f_tn_told : ∀ j : Nat, 0 ≤ (f_tn_told j).toInt ∧ (f_tn_told j).toInt ≤ 9) (b_f_tn_strayCourts : ∀ j : Nat, 0 ≤ (f_tn_strayCourts j).toInt ∧ (f_tn_strayCourts j).toInt ≤ 9) (b_rw_size : 0 ≤ rw_size.toInt ∧ rw_size.toInt ≤ 60) (sz : Nat) : Met l yX1_live (.code yX1_live cX1_live 4 none :: zT) ({ frames := 3, cells := 0, slots := 0, locals := 73 }) (va_Pc [.ref dy, .ref nw, .ref rw] (zB sa dC dI (zV83 dy dy_place dy_court dy_hour dy_refusals nw nw_isKept tn nw_strayed nw_names nw_known nw_gone tn tn_hours tn_courts tn_gateCount tn_people tn_lines tn_falseHours tn_strayers tn_deep tn_above tn_doors tn_degrees tn_neighbours tn_shows tn_oneEnd tn_otherEnd tn_told tn_strayParts tn_strayCourts tn_above cA_tn_above f_tn_above tn_shows cA_tn_shows f_tn_shows tn_oneEnd cA_tn_oneEnd f_tn_oneEnd tn_otherEnd cA_tn_otherEnd f_tn_otherEnd tn_told cA_tn_told f_tn_told tn_strayCourts cA_tn_strayCourts f_tn_strayCourts rw rw_width rw_size rw_numbers rw_numbers cA_rw_numbers f_rw_numbers) [(cA_tn_above, .int), (cA_tn_shows, .int), (cA_tn_oneEnd, .int), (cA_tn_otherEnd, .int), (cA_tn_told, .int), (cA_tn_strayCourts, .int), (cA_rw_numbers, .long)] sz)) (va_Qv (fun _ : Unit => True) (fun _ t => ∃ (n_dy_0 : Int32) (n_dy_1 : Int32) (n_dy_2 : Int32) (n_dy_3 : Int32), (0 ≤ n_dy_1.toInt ∧ n_dy_1.toInt ≤ 9) ∧ (0 ≤ n_dy_2.toInt ∧ n_dy_2.toInt ≤ 48) ∧ zW dC dI (zV83 dy n_dy_0 n_dy_1 n_dy_2 n_dy_3 nw nw_isKept tn nw_strayed nw_names nw_known nw_gone tn tn_hours tn_courts tn_gateCount tn_people tn_lines tn_falseHours tn_strayers tn_deep tn_above tn_doors tn_degrees tn_neighbours tn_shows tn_oneEnd tn_otherEnd tn_told tn_strayParts tn_strayCourts tn_above cA_tn_above f_tn_above tn_shows cA_tn_shows f_tn_shows tn_oneEnd cA_tn_oneEnd f_tn_oneEnd tn_otherEnd cA_tn_otherEnd f_tn_otherEnd tn_told cA_tn_told f_tn_told tn_strayCourts cA_tn_strayCourts f_tn_strayCourts rw rw_width rw_size rw_numbers rw_numbers cA_rw_numbers f_rw_numbers) [] (va_A (zV83 dy dy_place dy_court dy_hour dy_refusals nw nw_isKept tn nw_strayed nw_names nw_known nw_gone tn tn_hours tn_courts tn_gateCount tn_people tn_lines tn_falseHours tn_strayers tn_deep tn_above tn_doors tn_degrees tn_neighbours tn_shows tn_oneEnd tn_otherEnd tn_told tn_strayParts tn_strayCourts tn_above cA_tn_above f_tn_above tn_shows cA_tn_shows f_tn_shows tn_oneEnd cA_tn_oneEnd f_tn_oneEnd tn_otherEnd cA_tn_otherEnd f_tn_otherEnd tn_told cA_tn_told f_tn_told tn_strayCourts cA_tn_strayCourts f_tn_strayCourts rw rw_width rw_size rw_numbers rw_numbers cA_rw_numbers f_rw_numbers) sz) t) (va_A (zV83 dy dy_place dy_court dy_hour dy_refusals nw nw_isKept tn nw_strayed nw_names nw_known nw_gone tn tn_hours tn_courts tn_gateCount tn_people tn_lines tn_falseHours tn_strayers tn_deep tn_above tn_doors tn_degrees tn_neighbours tn_shows tn_oneEnd tn_otherEnd tn_told tn_strayParts tn_strayCourts tn_above cA_tn_above f_tn_above tn_shows cA_tn_shows f_tn_shows tn_oneEnd cA_tn_oneEnd f_tn_oneEnd tn_otherEnd cA_tn_otherEnd f_tn_otherEnd tn_told cA_tn_told f_tn_told tn_strayCourts cA_tn_strayCourts f_tn_strayCourts rw rw_width rw_size rw_numbers rw_numbers cA_rw_numbers f_rw_numbers) sz)) 0 0 (va_A (zV83 dy dy_place dy_court dy_hour dy_refusals nw nw_isKept tn nw_strayed nw_names nw_known nw_gone tn tn_hours tn_courts tn_gateCount tn_people tn_lines tn_falseHours tn_strayers tn_deep tn_above tn_doors tn_degrees tn_neighbours tn_shows tn_oneEnd tn_otherEnd tn_told tn_strayParts tn_strayCourts tn_above cA_tn_above f_tn_above tn_shows cA_tn_shows f_tn_shows tn_oneEnd cA_tn_oneEnd f_tn_oneEnd tn_otherEnd cA_tn_otherEnd f_tn_otherEnd tn_told cA_tn_told f_tn_told tn_strayCourts cA_tn_strayCourts f_tn_strayCourts rw rw_width rw_size rw_numbers rw_numbers cA_rw_numbers f_rw_numbers) sz) := by
  refine z_enter (by decide) (by exact (Nat.le_of_ble_eq_true rfl)) ?_
  intro p e s m args below meth c ls A R Qc hargs hsz hQe hAe hRe hx hb hml hr hts hown hlocks hin hl hP hK hD hN hXs hA hS
  rw [hAe] at hQe
  have hown : s.vm.findClass RX1 = some m.cls := hown
  have hl : lv_has ls 4 [(0, .ref dy), (1, .ref nw), (2, .ref rw)] := hl
  refine lv_aload_n hx hb dX1_live_0 rfl (lv_at hl 0 rfl) ?_
  refine lv_iconst (v := 0) hx hb dX1_live_1 (by decide) ?_
  refine va_put (D := (dC, dI)) (ci := 1) (v := .int 0) (ty := .int) (C := RX1) (T := TX1) (N := 4) hx hb hts zl_X1 tyX1 tyX1_ok nmX1 hown hK hP hD hS 0 rfl rfl 0 (by decide) (hts _ zw_t2_153) (fun _ h9 => h9) rfl (by decide +kernel) rfl rfl (Nat.le_of_ble_eq_true rfl) dX1_live_2 (fun H locs hP hD hS => ?_)
  have hP : va_P (dC, dI) vwCl (zV84 dy dy_court dy_hour dy_refusals nw nw_isKept tn nw_strayed nw_names nw_known nw_gone tn tn_hours tn_courts tn_gateCount tn_people tn_lines tn_falseHours tn_strayers tn_deep tn_above tn_doors tn_degrees tn_neighbours tn_shows tn_oneEnd tn_otherEnd tn_told tn_strayParts tn_strayCourts tn_above cA_tn_above f_tn_above tn_shows cA_tn_shows f_tn_shows tn_oneEnd cA_tn_oneEnd f_tn_oneEnd tn_otherEnd cA_tn_otherEnd f_tn_otherEnd tn_told cA_tn_told f_tn_told tn_strayCourts cA_tn_strayCourts f_tn_strayCourts rw rw_width rw_size rw_numbers rw_numbers cA_rw_numbers f_rw_numbers) H := hP
  have hD : va_D A (zV84 dy dy_court dy_hour dy_refusals nw nw_isKept tn nw_strayed nw_names nw_known nw_gone tn tn_hours tn_courts tn_gateCount tn_people tn_lines tn_falseHours tn_strayers tn_deep tn_above tn_doors tn_degrees tn_neighbours tn_shows tn_oneEnd tn_otherEnd tn_told tn_strayParts tn_strayCourts tn_above cA_tn_above f_tn_above tn_shows cA_tn_shows f_tn_shows tn_oneEnd cA_tn_oneEnd f_tn_oneEnd tn_otherEnd cA_tn_otherEnd f_tn_otherEnd tn_told cA_tn_told f_tn_told tn_strayCourts cA_tn_strayCourts f_tn_strayCourts rw rw_width rw_size rw_numbers rw_numbers cA_rw_numbers f_rw_numbers) := hD
  refine lv_aload_n hx hb dX1_live_5 rfl (lv_at hl 0 rfl) ?_
  refine lv_iconst (v := 0) hx hb dX1_live_6 (by decide) ?_
  refine va_put (D := (dC, dI)) (ci := 1) (v := .int 0) (ty := .int) (C := RX1) (T := TX1) (N := 4) hx hb hts zl_X1 tyX1 tyX1_ok nmX1 hown hK hP hD hS 0 rfl rfl 1 (by decide) (hts _ zw_t2_155) (fun _ h9 => h9) rfl (by decide +kernel) rfl rfl (Nat.le_of_ble_eq_true rfl) dX1_live_7 (fun H locs hP hD hS => ?_)
  have hP : va_P (dC, dI) vwCl (zV85 dy dy_hour dy_refusals nw nw_isKept tn nw_strayed nw_names nw_known nw_gone tn tn_hours tn_courts tn_gateCount tn_people tn_lines tn_falseHours tn_strayers tn_deep tn_above tn_doors tn_degrees tn_neighbours tn_shows tn_oneEnd tn_otherEnd tn_told tn_strayParts tn_strayCourts tn_above cA_tn_above f_tn_above tn_shows cA_tn_shows f_tn_shows tn_oneEnd cA_tn_oneEnd f_tn_oneEnd tn_otherEnd cA_tn_otherEnd f_tn_otherEnd tn_told cA_tn_told f_tn_told tn_strayCourts cA_tn_strayCourts f_tn_strayCourts rw rw_width rw_size rw_numbers rw_numbers cA_rw_numbers f_rw_numbers) H := hP
  have hD : va_D A (zV85 dy dy_hour dy_refusals nw nw_isKept tn nw_strayed nw_names nw_known nw_gone tn tn_hours tn_courts tn_gateCount tn_people tn_lines tn_falseHours tn_strayers tn_deep tn_above tn_doors tn_degrees tn_neighbours tn_shows tn_oneEnd tn_otherEnd tn_told tn_strayParts tn_strayCourts tn_above cA_tn_above f_tn_above tn_shows cA_tn_shows f_tn_shows tn_oneEnd cA_tn_oneEnd f_tn_oneEnd tn_otherEnd cA_tn_otherEnd f_tn_otherEnd tn_told cA_tn_told f_tn_told tn_strayCourts cA_tn_strayCourts f_tn_strayCourts rw rw_width rw_size rw_numbers rw_numbers cA_rw_numbers f_rw_numbers) := hD
  refine lv_aload_n hx hb dX1_live_10 rfl (lv_at hl 0 rfl) ?_
  refine lv_iconst (v := 0) hx hb dX1_live_11 (by decide) ?_
  refine va_put (D := (dC, dI)) (ci := 1) (v := .int 0) (ty := .int) (C := RX1) (T := TX1) (N := 4) hx hb hts zl_X1 tyX1 tyX1_ok nmX1 hown hK hP hD hS 0 rfl rfl 2 (by decide) (hts _ zw_t2_157) (fun _ h9 => h9) rfl (by decide +kernel) rfl rfl (Nat.le_of_ble_eq_true rfl) dX1_live_12 (fun H locs hP hD hS => ?_)
  have hP : va_P (dC, dI) vwCl (zV86 dy dy_refusals nw nw_isKept tn nw_strayed nw_names nw_known nw_gone tn tn_hours tn_courts tn_gateCount tn_people tn_lines tn_falseHours tn_strayers tn_deep tn_above tn_doors tn_degrees tn_neighbours tn_shows tn_oneEnd tn_otherEnd tn_told tn_strayParts tn_strayCourts tn_above cA_tn_above f_tn_above tn_shows cA_tn_shows f_tn_shows tn_oneEnd cA_tn_oneEnd f_tn_oneEnd tn_otherEnd cA_tn_otherEnd f_tn_otherEnd tn_told cA_tn_told f_tn_told tn_strayCourts cA_tn_strayCourts f_tn_strayCourts rw rw_width rw_size rw_numbers rw_numbers cA_rw_numbers f_rw_numbers) H := hP
  have hD : va_D A (zV86 dy dy_refusals nw nw_isKept tn nw_strayed nw_names nw_known nw_gone tn tn_hours tn_courts tn_gateCount tn_people tn_lines tn_falseHours tn_strayers tn_deep tn_above tn_doors tn_degrees tn_neighbours tn_shows tn_oneEnd tn_otherEnd tn_told tn_strayParts tn_strayCourts tn_above cA_tn_above f_tn_above tn_shows cA_tn_shows f_tn_shows tn_oneEnd cA_tn_oneEnd f_tn_oneEnd tn_otherEnd cA_tn_otherEnd f_tn_otherEnd tn_told cA_tn_told f_tn_told tn_strayCourts cA_tn_strayCourts f_tn_strayCourts rw rw_width rw_size rw_numbers rw_numbers cA_rw_numbers f_rw_numbers) := hD
  refine lv_aload_n hx hb dX1_live_15 rfl (lv_at hl 0 rfl) ?_
  refine lv_iconst (v := 0) hx hb dX1_live_16 (by decide) ?_
  refine va_put (D := (dC, dI)) (ci := 1) (v := .int 0) (ty := .int) (C := RX1) (T := TX1) (N := 4) hx hb hts zl_X1 tyX1 tyX1_ok nmX1 hown hK hP hD hS 0 rfl rfl 3 (by decide) (hts _ zw_t2_159) (fun _ h9 => h9) rfl (by decide +kernel) rfl rfl (Nat.le_of_ble_eq_true rfl) dX1_live_17 (fun H locs hP hD hS => ?_)
  have hP : va_P (dC, dI) vwCl (zV87 dy nw nw_isKept tn nw_strayed nw_names nw_known nw_gone tn tn_hours tn_courts tn_gateCount tn_people tn_lines tn_falseHours tn_strayers tn_deep tn_above tn_doors tn_degrees tn_neighbours tn_shows tn_oneEnd tn_otherEnd tn_told tn_strayParts tn_strayCourts tn_above cA_tn_above f_tn_above tn_shows cA_tn_shows f_tn_shows tn_oneEnd cA_tn_oneEnd f_tn_oneEnd tn_otherEnd cA_tn_otherEnd f_tn_otherEnd tn_told cA_tn_told f_tn_told tn_strayCourts cA_tn_strayCourts f_tn_strayCourts rw rw_width rw_size rw_numbers rw_numbers cA_rw_numbers f_rw_numbers) H := hP
  have hD : va_D A (zV87 dy nw nw_isKept tn nw_strayed nw_names nw_known nw_gone tn tn_hours tn_courts tn_gateCount tn_people tn_lines tn_falseHours tn_strayers tn_deep tn_above tn_doors tn_degrees tn_neighbours tn_shows tn_oneEnd tn_otherEnd tn_told tn_strayParts tn_strayCourts tn_above cA_tn_above f_tn_above tn_shows cA_tn_shows f_tn_shows tn_oneEnd cA_tn_oneEnd f_tn_oneEnd tn_otherEnd cA_tn_otherEnd f_tn_otherEnd tn_told cA_tn_told f_tn_told tn_strayCourts cA_tn_strayCourts f_tn_strayCourts rw rw_width rw_size rw_numbers rw_numbers cA_rw_numbers f_rw_numbers) := hD
  refine lv_iconst (v := 0) hx hb dX1_live_20 (by decide) ?_
  refine lv_istore_n (lv' := [(3, .int 0), (0, .ref dy), (1, .ref nw), (2, .ref rw)]) hx hb dX1_live_21 rfl hl (by decide) rfl (fun ls hl => ?_)
  have loop_1 : ∀ (t : Nat) (v3_1 : Int32) (w_dy_0_2 : Int32) (w_dy_1_3 : Int32) (w_dy_2_4 : Int32) (w_dy_3_5 : Int32) (b_v3_1 : 0 ≤ v3_1.toInt ∧ v3_1.toInt ≤ 60) (b_w_dy_1_3 : 0 ≤ w_dy_1_3.toInt ∧ w_dy_1_3.toInt ≤ 9) (b_w_dy_2_4 : 0 ≤ w_dy_2_4.toInt ∧ w_dy_2_4.toInt ≤ 48) (H : Heap) (locs : List Loc) (ls : Array Slot), 60 - v3_1.toInt < (t : Int) → va_P (dC, dI) vwCl (zV83 dy w_dy_0_2 w_dy_1_3 w_dy_2_4 w_dy_3_5 nw nw_isKept tn nw_strayed nw_names nw_known nw_gone tn tn_hours tn_courts tn_gateCount tn_people tn_lines tn_falseHours tn_strayers tn_deep tn_above tn_doors tn_degrees tn_neighbours tn_shows tn_oneEnd tn_otherEnd tn_told tn_strayParts tn_strayCourts tn_above cA_tn_above f_tn_above tn_shows cA_tn_shows f_tn_shows tn_oneEnd cA_tn_oneEnd f_tn_oneEnd tn_otherEnd cA_tn_otherEnd f_tn_otherEnd tn_told cA_tn_told f_tn_told tn_strayCourts cA_tn_strayCourts f_tn_strayCourts rw rw_width rw_size rw_numbers rw_numbers cA_rw_numbers f_rw_numbers) H → va_D A (zV83 dy w_dy_0_2 w_dy_1_3 w_dy_2_4 w_dy_3_5 nw nw_isKept tn nw_strayed nw_names nw_known nw_gone tn tn_hours tn_courts tn_gateCount tn_people tn_lines tn_falseHours tn_strayers tn_deep tn_above tn_doors tn_degrees tn_neighbours tn_shows tn_oneEnd tn_otherEnd tn_told tn_strayParts tn_strayCourts tn_above cA_tn_above f_tn_above tn_shows cA_tn_shows f_tn_shows tn_oneEnd cA_tn_oneEnd f_tn_oneEnd tn_otherEnd cA_tn_otherEnd f_tn_otherEnd tn_told cA_tn_told f_tn_told tn_strayCourts cA_tn_strayCourts f_tn_strayCourts rw rw_width rw_size rw_numbers rw_numbers cA_rw_numbers f_rw_numbers) → va_S A s.heap H locs → lv_has ls 4 [(0, .ref dy), (1, .ref nw), (2, .ref rw), (3, .int v3_1)] → W p l e R s m args below meth c H locs 0 0 (MQ below Qc args s 0 0 A) (F0 m 22 ls []) := by
    intro t
    induction t with
    | zero => intro v3_1 w_dy_0_2 w_dy_1_3 w_dy_2_4 w_dy_3_5 b_v3_1 b_w_dy_1_3 b_w_dy_2_4 H locs ls hmu _ _ _ _; exact absurd hmu (by first | with_reducible assumption | omega)
    | succ t ih_1 =>
      intro v3_1 w_dy_0_2 w_dy_1_3 w_dy_2_4 w_dy_3_5 b_v3_1 b_w_dy_1_3 b_w_dy_2_4 H locs ls hmu hP hD hS hl
      refine lv_iload_n hx hb dX1_live_22 rfl (lv_at hl 3 rfl) ?_
      refine lv_aload_n hx hb dX1_live_23 rfl (lv_at hl 2 rfl) ?_
      refine va_get (D := (dC, dI)) (ci := 6) (v := .int rw_size) (C := RX6) (T := TX6) (N := 3) hx hb hts zl_X6 hown hK hP 9 rfl rfl 1 (by decide) (hts _ zw_t2_177) (fun _ h9 => h9) rfl dX1_live_24 ?_
      refine lv_icmp_ge (tgt := 60) hx hb dX1_live_27 (by decide) (fun c_6 => ?_) (fun c_6 => ?_)
      · have ic_6 := zz_ge rfl rfl c_6
        exact W.vret hx hb hr (fun t ht hW => by rw [← hQe]; exact ⟨⟨(), rfl, trivial, ⟨w_dy_0_2, w_dy_1_3, w_dy_2_4, w_dy_3_5, (by first | with_reducible assumption | omega), (by first | with_reducible assumption | omega), z_ret hP hK hD ht hW [0, 1, 2, 3, 4, 5, 6, 7, 8, 9, 10] [] rfl (by decide) rfl⟩⟩, hS.F ht⟩) hS.2.2 dX1_live_60
      · have ic_6 := zz_nge rfl rfl c_6
        refine lv_aload_n hx hb dX1_live_30 rfl (lv_at hl 0 rfl) ?_
        refine lv_aload_n hx hb dX1_live_31 rfl (lv_at hl 1 rfl) ?_
        refine lv_aload_n hx hb dX1_live_32 rfl (lv_at hl 2 rfl) ?_
        refine va_get (D := (dC, dI)) (ci := 6) (v := .ref rw_numbers) (C := RX6) (T := TX6) (N := 3) hx hb hts zl_X6 hown hK hP 9 rfl rfl 2 (by decide) (hts _ zw_t2_180) (fun _ h9 => h9) rfl dX1_live_33 ?_
        refine lv_iload_n hx hb dX1_live_36 rfl (lv_at hl 3 rfl) ?_
        refine va_lald hx hb hK hP 10 6 rfl rfl (zi_in rfl (by first | with_reducible assumption | omega)) dX1_live_37 ?_
        refine lv_topl (fun x_7 ex_7 => ?_)
        obtain ⟨hPc, hDc, hFc⟩ := z_cut (wc := (zV80 dy w_dy_0_2 w_dy_1_3 w_dy_2_4 w_dy_3_5 nw nw_isKept tn nw_strayed nw_names nw_known nw_gone tn tn_hours tn_courts tn_gateCount tn_people tn_lines tn_falseHours tn_strayers tn_deep tn_above tn_doors tn_degrees tn_neighbours tn_shows tn_oneEnd tn_otherEnd tn_told tn_strayParts tn_strayCourts tn_above cA_tn_above f_tn_above tn_shows cA_tn_shows f_tn_shows tn_oneEnd cA_tn_oneEnd f_tn_oneEnd tn_otherEnd cA_tn_otherEnd f_tn_otherEnd tn_told cA_tn_told f_tn_told tn_strayCourts cA_tn_strayCourts f_tn_strayCourts)) hP hD hS hA [0, 1, 2, 3, 4, 5, 6, 7, 8] rfl (by decide +kernel)
        have hKc := hK.sub (tys' := [(cA_tn_above, .int), (cA_tn_shows, .int), (cA_tn_oneEnd, .int), (cA_tn_otherEnd, .int), (cA_tn_told, .int), (cA_tn_strayCourts, .int)]) [0, 1, 2, 3, 4, 5] rfl
        refine va_calli (va_runV (As := [.ref nw, .long x_7]) (rest := []) ⟨hx, hb, hml, hown, hts⟩ (k_X1_isDone l sa dC dI dy nw x_7 w_dy_0_2 w_dy_1_3 w_dy_2_4 w_dy_3_5 nw_isKept tn nw_strayed nw_names nw_known nw_gone tn_hours tn_courts tn_gateCount tn_people tn_lines tn_falseHours tn_strayers tn_deep tn_above tn_doors tn_degrees tn_neighbours tn_shows tn_oneEnd tn_otherEnd tn_told tn_strayParts tn_strayCourts cA_tn_above f_tn_above cA_tn_shows f_tn_shows cA_tn_oneEnd f_tn_oneEnd cA_tn_otherEnd f_tn_otherEnd cA_tn_told f_tn_told cA_tn_strayCourts f_tn_strayCourts b_w_dy_1_3 b_w_dy_2_4 b_nw_isKept b_nw_names b_tn_hours b_tn_courts b_tn_gateCount b_tn_people b_tn_falseHours b_tn_deep b_f_tn_oneEnd b_f_tn_otherEnd b_f_tn_told b_f_tn_strayCourts H.size) (cwV 2 hts (z_gV zw_t5_230 zw_t5_232 zw_s4_1 zw_t1_9 zw_t5_233) rfl rfl rfl (by decide +kernel) (by rw [← hRe]; exact ⟨(Nat.le_of_ble_eq_true rfl), (Nat.le_of_ble_eq_true rfl)⟩)) (z_preV hPc hKc hDc hN hXs hS hFc (q := (RX1, TX1, 4)) (ci := 1) (q0 := 0) rfl rfl) rfl rfl hl.1 rfl (lv_room (Nat.le_of_ble_eq_true rfl)) dX1_live_38 (by rw [← hRe]; exact ⟨(Nat.le_of_ble_eq_true rfl), (Nat.le_of_ble_eq_true rfl)⟩)) hS (fun q _ h => hFc q h) hFc (fun r_8 u t H1 locs ht hvm hw hB hz1 hk1 hS => ?_)
        obtain ⟨n_dy_9, n_dy_10, n_dy_11, b_n_dy_9, b_n_dy_10, hB⟩ := hB
        obtain ⟨hP, hD, hK⟩ := z_after3 (wn := (zV88 rw rw_width rw_size rw_numbers rw_numbers cA_rw_numbers f_rw_numbers dy w_dy_0_2 n_dy_9 n_dy_10 n_dy_11 nw nw_isKept tn nw_strayed nw_names nw_known nw_gone tn tn_hours tn_courts tn_gateCount tn_people tn_lines tn_falseHours tn_strayers tn_deep tn_above tn_doors tn_degrees tn_neighbours tn_shows tn_oneEnd tn_otherEnd tn_told tn_strayParts tn_strayCourts tn_above cA_tn_above f_tn_above tn_shows cA_tn_shows f_tn_shows tn_oneEnd cA_tn_oneEnd f_tn_oneEnd tn_otherEnd cA_tn_otherEnd f_tn_otherEnd tn_told cA_tn_told f_tn_told tn_strayCourts cA_tn_strayCourts f_tn_strayCourts)) hB ht hvm hP hD hK [0, 1, 2, 3, 4, 5, 6, 7, 8] [9, 10] rfl 11 rfl (by decide +kernel) rfl (by decide +kernel) hk1 hFc
        generalize H1 = H at hP hS ⊢
        have hK : va_K (dC, dI) vwCl [(cA_tn_above, .int), (cA_tn_shows, .int), (cA_tn_oneEnd, .int), (cA_tn_otherEnd, .int), (cA_tn_told, .int), (cA_tn_strayCourts, .int), (cA_rw_numbers, .long)] s := hK
        have b_r_8 : 0 ≤ r_8.toInt ∧ r_8.toInt ≤ 1 := hw
        refine lv_if_eq (tgt := 60) hx hb dX1_live_41 (by decide) (fun c_12 => ?_) (fun c_12 => ?_)
        · have ic_12 := zz_eq rfl (show Int32.toInt 0 = 0 from by decide) c_12
          exact W.vret hx hb hr (fun t ht hW => by rw [← hQe]; exact ⟨⟨(), rfl, trivial, ⟨w_dy_0_2, n_dy_9, n_dy_10, n_dy_11, (by first | with_reducible assumption | omega), (by first | with_reducible assumption | omega), z_ret hP hK hD ht hW [2, 3, 4, 5, 6, 7, 8, 9, 10, 0, 1] [] rfl (by decide) rfl⟩⟩, hS.F ht⟩) hS.2.2 dX1_live_60
        · have ic_12 := zz_neq rfl (show Int32.toInt 0 = 0 from by decide) c_12
          refine lv_aload_n hx hb dX1_live_44 rfl (lv_at hl 0 rfl) ?_
          refine lv_dup hx hb dX1_live_45 rfl ?_
          refine va_get (D := (dC, dI)) (ci := 1) (v := .int w_dy_0_2) (C := RX1) (T := TX1) (N := 4) hx hb hts zl_X1 hown hK hP 2 rfl rfl 0 (by decide) (hts _ zw_t2_153) (fun _ h9 => h9) rfl dX1_live_46 ?_
          refine lv_iconst (v := 1) hx hb dX1_live_49 (by decide) ?_
          refine lv_iadd hx hb dX1_live_50 ?_
          refine lv_topi (fun x_13 ex_13 => ?_)
          refine va_put (D := (dC, dI)) (ci := 1) (v := .int x_13) (ty := .int) (C := RX1) (T := TX1) (N := 4) hx hb hts zl_X1 tyX1 tyX1_ok nmX1 hown hK hP hD hS 2 rfl rfl 0 (by decide) (hts _ zw_t2_153) (fun _ h9 => h9) rfl (by decide +kernel) rfl rfl (Nat.le_of_ble_eq_true rfl) dX1_live_51 (fun H locs hP hD hS => ?_)
          have hP : va_P (dC, dI) vwCl (zV88 rw rw_width rw_size rw_numbers rw_numbers cA_rw_numbers f_rw_numbers dy x_13 n_dy_9 n_dy_10 n_dy_11 nw nw_isKept tn nw_strayed nw_names nw_known nw_gone tn tn_hours tn_courts tn_gateCount tn_people tn_lines tn_falseHours tn_strayers tn_deep tn_above tn_doors tn_degrees tn_neighbours tn_shows tn_oneEnd tn_otherEnd tn_told tn_strayParts tn_strayCourts tn_above cA_tn_above f_tn_above tn_shows cA_tn_shows f_tn_shows tn_oneEnd cA_tn_oneEnd f_tn_oneEnd tn_otherEnd cA_tn_otherEnd f_tn_otherEnd tn_told cA_tn_told f_tn_told tn_strayCourts cA_tn_strayCourts f_tn_strayCourts) H := hP
          have hD : va_D A (zV88 rw rw_width rw_size rw_numbers rw_numbers cA_rw_numbers f_rw_numbers dy x_13 n_dy_9 n_dy_10 n_dy_11 nw nw_isKept tn nw_strayed nw_names nw_known nw_gone tn tn_hours tn_courts tn_gateCount tn_people tn_lines tn_falseHours tn_strayers tn_deep tn_above tn_doors tn_degrees tn_neighbours tn_shows tn_oneEnd tn_otherEnd tn_told tn_strayParts tn_strayCourts tn_above cA_tn_above f_tn_above tn_shows cA_tn_shows f_tn_shows tn_oneEnd cA_tn_oneEnd f_tn_oneEnd tn_otherEnd cA_tn_otherEnd f_tn_otherEnd tn_told cA_tn_told f_tn_told tn_strayCourts cA_tn_strayCourts f_tn_strayCourts) := hD
          obtain ⟨x_14, ex_14⟩ : ∃ z : Int32, z = v3_1 + Int32.ofInt 1 := ⟨_, rfl⟩
          have b_x_14 : x_14.toInt = v3_1.toInt + 1 := by rw [ex_14]; exact zi_add rfl (show (Int32.ofInt 1).toInt = 1 from by decide) (by first | with_reducible assumption | omega)
          refine lv_iinc (v := x_14) (lv' := [(3, .int x_14), (0, .ref dy), (1, .ref nw), (2, .ref rw)]) hx hb dX1_live_54 hl (k := 3) rfl ex_14.symm (by decide) rfl (fun ls hl => ?_)
          refine lv_goto (tgt := 22) hx hb dX1_live_57 (by decide) ?_
          exact ih_1 x_14 x_13 n_dy_9 n_dy_10 n_dy_11 (by first | with_reducible assumption | omega) (by first | with_reducible assumption | omega) (by first | with_reducible assumption | omega) _ _ _ (by first | with_reducible assumption | omega) (hP.sub (ws' := (zV83 dy x_13 n_dy_9 n_dy_10 n_dy_11 nw nw_isKept tn nw_strayed nw_names nw_known nw_gone tn tn_hours tn_courts tn_gateCount tn_people tn_lines tn_falseHours tn_strayers tn_deep tn_above tn_doors tn_degrees tn_neighbours tn_shows tn_oneEnd tn_otherEnd tn_told tn_strayParts tn_strayCourts tn_above cA_tn_above f_tn_above tn_shows cA_tn_shows f_tn_shows tn_oneEnd cA_tn_oneEnd f_tn_oneEnd tn_otherEnd cA_tn_otherEnd f_tn_otherEnd tn_told cA_tn_told f_tn_told tn_strayCourts cA_tn_strayCourts f_tn_strayCourts rw rw_width rw_size rw_numbers rw_numbers cA_rw_numbers f_rw_numbers)) [2, 3, 4, 5, 6, 7, 8, 9, 10, 0, 1] rfl) (hD.sub (ws' := (zV83 dy x_13 n_dy_9 n_dy_10 n_dy_11 nw nw_isKept tn nw_strayed nw_names nw_known nw_gone tn tn_hours tn_courts tn_gateCount tn_people tn_lines tn_falseHours tn_strayers tn_deep tn_above tn_doors tn_degrees tn_neighbours tn_shows tn_oneEnd tn_otherEnd tn_told tn_strayParts tn_strayCourts tn_above cA_tn_above f_tn_above tn_shows cA_tn_shows f_tn_shows tn_oneEnd cA_tn_oneEnd f_tn_oneEnd tn_otherEnd cA_tn_otherEnd f_tn_otherEnd tn_told cA_tn_told f_tn_told tn_strayCourts cA_tn_strayCourts f_tn_strayCourts rw rw_width rw_size rw_numbers rw_numbers cA_rw_numbers f_rw_numbers)) [2, 3, 4, 5, 6, 7, 8, 9, 10, 0, 1] (by decide) rfl) hS (lv_sub hl [1, 2, 3, 0] rfl)
  exact loop_1 62 (0) (0) (0) (0) (0) (by decide) (by decide) (by decide) _ _ _ (by decide) hP hD hS (lv_sub hl [1, 2, 3, 0] rfl)
