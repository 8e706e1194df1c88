set_option linter.all false
theorem zw_t1_1 : Cond.initialized RX9 ∈ zT := zt_1 (List.mem_of_getElem? (i := 1) (by decide +kernel)) (by decide +kernel)
theorem zw_t1_102 : Cond.fieldLink RX7 30 "NameGate$Town" "otherEnd" "[I" ∈ zT := zt_1 (List.mem_of_getElem? (i := 102) (by decide +kernel)) (by decide +kernel)
theorem zw_t1_105 : Cond.fieldLink RX7 33 "NameGate$Town" "told" "[I" ∈ zT := zt_1 (List.mem_of_getElem? (i := 105) (by decide +kernel)) (by decide +kernel)
theorem zw_t1_107 : Cond.fieldLink RX7 36 "NameGate$Town" "strayParts" "[I" ∈ zT := zt_1 (List.mem_of_getElem? (i := 107) (by decide +kernel)) (by decide +kernel)
theorem zw_t1_111 : Cond.fieldLink RX7 39 "NameGate$Town" "strayCourts" "[I" ∈ zT := zt_1 (List.mem_of_getElem? (i := 111) (by decide +kernel)) (by decide +kernel)
theorem zw_t1_3 : Cond.initialized RX7 ∈ zT := zt_1 (List.mem_of_getElem? (i := 3) (by decide +kernel)) (by decide +kernel)
theorem zw_t1_42 : Cond.fieldLink RX7 46 "NameGate$Town" "hours" "I" ∈ zT := zt_1 (List.mem_of_getElem? (i := 42) (by decide +kernel)) (by decide +kernel)
theorem zw_t1_47 : Cond.fieldLink RX7 42 "NameGate$Town" "courts" "I" ∈ zT := zt_1 (List.mem_of_getElem? (i := 47) (by decide +kernel)) (by decide +kernel)
theorem zw_t1_55 : Cond.fieldLink RX7 49 "NameGate$Town" "gateCount" "I" ∈ zT := zt_1 (List.mem_of_getElem? (i := 55) (by decide +kernel)) (by decide +kernel)
theorem zw_t1_62 : Cond.fieldLink RX7 52 "NameGate$Town" "people" "I" ∈ zT := zt_1 (List.mem_of_getElem? (i := 62) (by decide +kernel)) (by decide +kernel)
theorem zw_t1_75 : Cond.fieldLink RX7 84 "NameGate$Town" "strayers" "I" ∈ zT := zt_1 (List.mem_of_getElem? (i := 75) (by decide +kernel)) (by decide +kernel)
theorem zw_t1_79 : Cond.fieldLink RX7 9 "NameGate$Town" "above" "[I" ∈ zT := zt_1 (List.mem_of_getElem? (i := 79) (by decide +kernel)) (by decide +kernel)
theorem zw_t1_95 : Cond.fieldLink RX7 24 "NameGate$Town" "shows" "[I" ∈ zT := zt_1 (List.mem_of_getElem? (i := 95) (by decide +kernel)) (by decide +kernel)
theorem zw_t1_99 : Cond.fieldLink RX7 27 "NameGate$Town" "oneEnd" "[I" ∈ zT := zt_1 (List.mem_of_getElem? (i := 99) (by decide +kernel)) (by decide +kernel)
theorem zw_t3_123 : Cond.static yX9_has ∈ zT := zt_3 (List.mem_of_getElem? (i := 123) (by decide +kernel)) (by decide +kernel)
theorem zw_t3_124 : Cond.code yX9_has cX9_has 2 (some .boolean) ∈ zT := zt_3 (List.mem_of_getElem? (i := 124) (by decide +kernel)) (by decide +kernel)
theorem zw_t3_186 : Cond.instanceMethod yX7_hasHour ∈ zT := zt_3 (List.mem_of_getElem? (i := 186) (by decide +kernel)) (by decide +kernel)
theorem zw_t3_187 : Cond.selects RX7 yX7_hasHour yX7_hasHour ∈ zT := zt_3 (List.mem_of_getElem? (i := 187) (by decide +kernel)) (by decide +kernel)
theorem zw_t3_188 : Cond.code yX7_hasHour cX7_hasHour 2 (some .boolean) ∈ zT := zt_3 (List.mem_of_getElem? (i := 188) (by decide +kernel)) (by decide +kernel)
theorem zw_t3_190 : Cond.instanceMethod yX7_courtOf ∈ zT := zt_3 (List.mem_of_getElem? (i := 190) (by decide +kernel)) (by decide +kernel)
theorem zw_t3_191 : Cond.selects RX7 yX7_courtOf yX7_courtOf ∈ zT := zt_3 (List.mem_of_getElem? (i := 191) (by decide +kernel)) (by decide +kernel)
theorem zw_t3_192 : Cond.code yX7_courtOf cX7_courtOf 5 (some .int) ∈ zT := zt_3 (List.mem_of_getElem? (i := 192) (by decide +kernel)) (by decide +kernel)
theorem zw_t3_198 : Cond.instanceMethod yX7_hasCourt ∈ zT := zt_3 (List.mem_of_getElem? (i := 198) (by decide +kernel)) (by decide +kernel)
theorem zw_t3_199 : Cond.selects RX7 yX7_hasCourt yX7_hasCourt ∈ zT := zt_3 (List.mem_of_getElem? (i := 199) (by decide +kernel)) (by decide +kernel)
theorem zw_t3_200 : Cond.code yX7_hasCourt cX7_hasCourt 2 (some .boolean) ∈ zT := zt_3 (List.mem_of_getElem? (i := 200) (by decide +kernel)) (by decide +kernel)
theorem zw_t3_205 : Cond.methodLink RX7 73 yX7_showsOf ∈ zT := zt_3 (List.mem_of_getElem? (i := 205) (by decide +kernel)) (by decide +kernel)
theorem zw_t3_206 : Cond.instanceMethod yX7_showsOf ∈ zT := zt_3 (List.mem_of_getElem? (i := 206) (by decide +kernel)) (by decide +kernel)
theorem zw_t3_207 : Cond.selects RX7 yX7_showsOf yX7_showsOf ∈ zT := zt_3 (List.mem_of_getElem? (i := 207) (by decide +kernel)) (by decide +kernel)
theorem zw_t3_208 : Cond.code yX7_showsOf cX7_showsOf 4 (some .int) ∈ zT := zt_3 (List.mem_of_getElem? (i := 208) (by decide +kernel)) (by decide +kernel)
theorem zw_t3_209 : Cond.methodLink RX7 69 yX7_courtOf ∈ zT := zt_3 (List.mem_of_getElem? (i := 209) (by decide +kernel)) (by decide +kernel)
theorem zw_t3_234 : Cond.instanceMethod yX7_hasGate ∈ zT := zt_3 (List.mem_of_getElem? (i := 234) (by decide +kernel)) (by decide +kernel)
theorem zw_t3_235 : Cond.selects RX7 yX7_hasGate yX7_hasGate ∈ zT := zt_3 (List.mem_of_getElem? (i := 235) (by decide +kernel)) (by decide +kernel)
theorem zw_t3_236 : Cond.code yX7_hasGate cX7_hasGate 2 (some .boolean) ∈ zT := zt_3 (List.mem_of_getElem? (i := 236) (by decide +kernel)) (by decide +kernel)
theorem zw_t4_10 : Cond.methodLink RX7 59 yX7_hasCourt ∈ zT := zt_4 (List.mem_of_getElem? (i := 10) (by decide +kernel)) (by decide +kernel)
theorem zw_t4_11 : Cond.methodLink RX7 62 yX7_hasHour ∈ zT := zt_4 (List.mem_of_getElem? (i := 11) (by decide +kernel)) (by decide +kernel)
theorem zw_t4_119 : Cond.methodLink RX7 65 yX7_hasTrip ∈ zT := zt_4 (List.mem_of_getElem? (i := 119) (by decide +kernel)) (by decide +kernel)
theorem zw_t4_22 : Cond.instanceMethod yX7_hasTrip ∈ zT := zt_4 (List.mem_of_getElem? (i := 22) (by decide +kernel)) (by decide +kernel)
theorem zw_t4_23 : Cond.selects RX7 yX7_hasTrip yX7_hasTrip ∈ zT := zt_4 (List.mem_of_getElem? (i := 23) (by decide +kernel)) (by decide +kernel)
theorem zw_t4_24 : Cond.code yX7_hasTrip cX7_hasTrip 4 (some .boolean) ∈ zT := zt_4 (List.mem_of_getElem? (i := 24) (by decide +kernel)) (by decide +kernel)
theorem zw_t4_9 : Cond.methodLink RX7 55 yX7_hasGate ∈ zT := zt_4 (List.mem_of_getElem? (i := 9) (by decide +kernel)) (by decide +kernel)
theorem zw_t5_200 : Cond.constantLong RX7 80 (1000000000) ∈ zT := zt_5 (List.mem_of_getElem? (i := 200) (by decide +kernel)) (by decide +kernel)
theorem zw_t5_201 : Cond.constantLong RX7 82 (100) ∈ zT := zt_5 (List.mem_of_getElem? (i := 201) (by decide +kernel)) (by decide +kernel)
theorem zw_t6_19 : Cond.constantLong RX7 87 (1103515245) ∈ zT := zt_6 (List.mem_of_getElem? (i := 19) (by decide +kernel)) (by decide +kernel)
theorem zw_t6_20 : Cond.constantLong RX7 89 (12345) ∈ zT := zt_6 (List.mem_of_getElem? (i := 20) (by decide +kernel)) (by decide +kernel)
theorem zw_t6_21 : Cond.constantLong RX7 91 (2147483648) ∈ zT := zt_6 (List.mem_of_getElem? (i := 21) (by decide +kernel)) (by decide +kernel)
theorem zw_t6_22 : Cond.constantLong RX7 93 (65536) ∈ zT := zt_6 (List.mem_of_getElem? (i := 22) (by decide +kernel)) (by decide +kernel)
def bcX7_beyond_0 : List Nat := [42, 180, 0, 27, 27, 46, 28, 160, 0, 10, 42, 180, 0, 30, 27, 46, 172, 42, 180, 0, 30, 27, 46, 28, 160, 0, 12, 42, 180, 0, 27, 27, 46, 167, 0, 4, 2, 172]
theorem bcX7_beyond_0_ok : z_bys cX7_beyond 0 bcX7_beyond_0 = true := by decide +kernel
theorem dX7_beyond_0 : decode cX7_beyond 0 = .ok (.aload_n 0, 1) := zo_42 (z_byk bcX7_beyond_0 0 0 _ bcX7_beyond_0_ok rfl)
theorem dX7_beyond_1 : decode cX7_beyond 1 = .ok (.getfield 27, 3) := zo_180 (z_byk bcX7_beyond_0 0 1 _ bcX7_beyond_0_ok rfl) (z_byk bcX7_beyond_0 0 2 _ bcX7_beyond_0_ok rfl) (z_byk bcX7_beyond_0 0 3 _ bcX7_beyond_0_ok rfl) rfl
theorem dX7_beyond_10 : decode cX7_beyond 10 = .ok (.aload_n 0, 1) := zo_42 (z_byk bcX7_beyond_0 0 10 _ bcX7_beyond_0_ok rfl)
theorem dX7_beyond_11 : decode cX7_beyond 11 = .ok (.getfield 30, 3) := zo_180 (z_byk bcX7_beyond_0 0 11 _ bcX7_beyond_0_ok rfl) (z_byk bcX7_beyond_0 0 12 _ bcX7_beyond_0_ok rfl) (z_byk bcX7_beyond_0 0 13 _ bcX7_beyond_0_ok rfl) rfl
theorem dX7_beyond_14 : decode cX7_beyond 14 = .ok (.iload_n 1, 1) := zo_27 (z_byk bcX7_beyond_0 0 14 _ bcX7_beyond_0_ok rfl)
theorem dX7_beyond_15 : decode cX7_beyond 15 = .ok (.iaload, 1) := zo_46 (z_byk bcX7_beyond_0 0 15 _ bcX7_beyond_0_ok rfl)
theorem dX7_beyond_16 : decode cX7_beyond 16 = .ok (.ireturn, 1) := zo_172 (z_byk bcX7_beyond_0 0 16 _ bcX7_beyond_0_ok rfl)
theorem dX7_beyond_17 : decode cX7_beyond 17 = .ok (.aload_n 0, 1) := zo_42 (z_byk bcX7_beyond_0 0 17 _ bcX7_beyond_0_ok rfl)
theorem dX7_beyond_18 : decode cX7_beyond 18 = .ok (.getfield 30, 3) := zo_180 (z_byk bcX7_beyond_0 0 18 _ bcX7_beyond_0_ok rfl) (z_byk bcX7_beyond_0 0 19 _ bcX7_beyond_0_ok rfl) (z_byk bcX7_beyond_0 0 20 _ bcX7_beyond_0_ok rfl) rfl
theorem dX7_beyond_21 : decode cX7_beyond 21 = .ok (.iload_n 1, 1) := zo_27 (z_byk bcX7_beyond_0 0 21 _ bcX7_beyond_0_ok rfl)
theorem dX7_beyond_22 : decode cX7_beyond 22 = .ok (.iaload, 1) := zo_46 (z_byk bcX7_beyond_0 0 22 _ bcX7_beyond_0_ok rfl)
theorem dX7_beyond_23 : decode cX7_beyond 23 = .ok (.iload_n 2, 1) := zo_28 (z_byk bcX7_beyond_0 0 23 _ bcX7_beyond_0_ok rfl)
theorem dX7_beyond_24 : decode cX7_beyond 24 = .ok (.if_icmp .ne 12, 3) := zo_160 (z_byk bcX7_beyond_0 0 24 _ bcX7_beyond_0_ok rfl) (z_byk bcX7_beyond_0 0 25 _ bcX7_beyond_0_ok rfl) (z_byk bcX7_beyond_0 0 26 _ bcX7_beyond_0_ok rfl) rfl
theorem dX7_beyond_27 : decode cX7_beyond 27 = .ok (.aload_n 0, 1) := zo_42 (z_byk bcX7_beyond_0 0 27 _ bcX7_beyond_0_ok rfl)
theorem dX7_beyond_28 : decode cX7_beyond 28 = .ok (.getfield 27, 3) := zo_180 (z_byk bcX7_beyond_0 0 28 _ bcX7_beyond_0_ok rfl) (z_byk bcX7_beyond_0 0 29 _ bcX7_beyond_0_ok rfl) (z_byk bcX7_beyond_0 0 30 _ bcX7_beyond_0_ok rfl) rfl
theorem dX7_beyond_31 : decode cX7_beyond 31 = .ok (.iload_n 1, 1) := zo_27 (z_byk bcX7_beyond_0 0 31 _ bcX7_beyond_0_ok rfl)
theorem dX7_beyond_32 : decode cX7_beyond 32 = .ok (.iaload, 1) := zo_46 (z_byk bcX7_beyond_0 0 32 _ bcX7_beyond_0_ok rfl)
theorem dX7_beyond_33 : decode cX7_beyond 33 = .ok (.goto 4, 3) := zo_167 (z_byk bcX7_beyond_0 0 33 _ bcX7_beyond_0_ok rfl) (z_byk bcX7_beyond_0 0 34 _ bcX7_beyond_0_ok rfl) (z_byk bcX7_beyond_0 0 35 _ bcX7_beyond_0_ok rfl) rfl
theorem dX7_beyond_36 : decode cX7_beyond 36 = .ok (.iconst (-1), 1) := zo_2 (z_byk bcX7_beyond_0 0 36 _ bcX7_beyond_0_ok rfl)
theorem dX7_beyond_37 : decode cX7_beyond 37 = .ok (.ireturn, 1) := zo_172 (z_byk bcX7_beyond_0 0 37 _ bcX7_beyond_0_ok rfl)
theorem dX7_beyond_4 : decode cX7_beyond 4 = .ok (.iload_n 1, 1) := zo_27 (z_byk bcX7_beyond_0 0 4 _ bcX7_beyond_0_ok rfl)
theorem dX7_beyond_5 : decode cX7_beyond 5 = .ok (.iaload, 1) := zo_46 (z_byk bcX7_beyond_0 0 5 _ bcX7_beyond_0_ok rfl)
theorem dX7_beyond_6 : decode cX7_beyond 6 = .ok (.iload_n 2, 1) := zo_28 (z_byk bcX7_beyond_0 0 6 _ bcX7_beyond_0_ok rfl)
theorem dX7_beyond_7 : decode cX7_beyond 7 = .ok (.if_icmp .ne 10, 3) := zo_160 (z_byk bcX7_beyond_0 0 7 _ bcX7_beyond_0_ok rfl) (z_byk bcX7_beyond_0 0 8 _ bcX7_beyond_0_ok rfl) (z_byk bcX7_beyond_0 0 9 _ bcX7_beyond_0_ok rfl) rfl
def bcX7_chanceOf_0 : List Nat := [20, 0, 80, 66, 3, 54, 5, 21, 5, 42, 180, 0, 52, 162, 0, 59, 27, 21, 5, 184, 0, 76, 153, 0, 44, 28, 21, 5, 184, 0, 76, 153, 0, 13, 42, 180, 0, 36, 21, 5, 46, 167, 0, 13, 16, 100, 42, 180, 0, 36, 21, 5, 46, 100, 54, 6, 33, 21, 6, 133]
theorem bcX7_chanceOf_0_ok : z_bys cX7_chanceOf 0 bcX7_chanceOf_0 = true := by decide +kernel
def bcX7_chanceOf_60 : List Nat := [105, 20, 0, 82, 109, 66, 132, 5, 1, 167, 255, 194, 33, 173]
theorem bcX7_chanceOf_60_ok : z_bys cX7_chanceOf 60 bcX7_chanceOf_60 = true := by decide +kernel
theorem dX7_chanceOf_0 : decode cX7_chanceOf 0 = .ok (.ldc2_w 80, 3) := zo_20 (z_byk bcX7_chanceOf_0 0 0 _ bcX7_chanceOf_0_ok rfl) (z_byk bcX7_chanceOf_0 0 1 _ bcX7_chanceOf_0_ok rfl) (z_byk bcX7_chanceOf_0 0 2 _ bcX7_chanceOf_0_ok rfl) rfl
theorem dX7_chanceOf_10 : decode cX7_chanceOf 10 = .ok (.getfield 52, 3) := zo_180 (z_byk bcX7_chanceOf_0 0 10 _ bcX7_chanceOf_0_ok rfl) (z_byk bcX7_chanceOf_0 0 11 _ bcX7_chanceOf_0_ok rfl) (z_byk bcX7_chanceOf_0 0 12 _ bcX7_chanceOf_0_ok rfl) rfl
theorem dX7_chanceOf_13 : decode cX7_chanceOf 13 = .ok (.if_icmp .ge 59, 3) := zo_162 (z_byk bcX7_chanceOf_0 0 13 _ bcX7_chanceOf_0_ok rfl) (z_byk bcX7_chanceOf_0 0 14 _ bcX7_chanceOf_0_ok rfl) (z_byk bcX7_chanceOf_0 0 15 _ bcX7_chanceOf_0_ok rfl) rfl
theorem dX7_chanceOf_16 : decode cX7_chanceOf 16 = .ok (.iload_n 1, 1) := zo_27 (z_byk bcX7_chanceOf_0 0 16 _ bcX7_chanceOf_0_ok rfl)
theorem dX7_chanceOf_17 : decode cX7_chanceOf 17 = .ok (.iload 5, 2) := zo_21 (z_byk bcX7_chanceOf_0 0 17 _ bcX7_chanceOf_0_ok rfl) (z_byk bcX7_chanceOf_0 0 18 _ bcX7_chanceOf_0_ok rfl)
theorem dX7_chanceOf_19 : decode cX7_chanceOf 19 = .ok (.invokestatic 76, 3) := zo_184 (z_byk bcX7_chanceOf_0 0 19 _ bcX7_chanceOf_0_ok rfl) (z_byk bcX7_chanceOf_0 0 20 _ bcX7_chanceOf_0_ok rfl) (z_byk bcX7_chanceOf_0 0 21 _ bcX7_chanceOf_0_ok rfl) rfl
theorem dX7_chanceOf_22 : decode cX7_chanceOf 22 = .ok (.ifCond .eq 44, 3) := zo_153 (z_byk bcX7_chanceOf_0 0 22 _ bcX7_chanceOf_0_ok rfl) (z_byk bcX7_chanceOf_0 0 23 _ bcX7_chanceOf_0_ok rfl) (z_byk bcX7_chanceOf_0 0 24 _ bcX7_chanceOf_0_ok rfl) rfl
theorem dX7_chanceOf_25 : decode cX7_chanceOf 25 = .ok (.iload_n 2, 1) := zo_28 (z_byk bcX7_chanceOf_0 0 25 _ bcX7_chanceOf_0_ok rfl)
theorem dX7_chanceOf_26 : decode cX7_chanceOf 26 = .ok (.iload 5, 2) := zo_21 (z_byk bcX7_chanceOf_0 0 26 _ bcX7_chanceOf_0_ok rfl) (z_byk bcX7_chanceOf_0 0 27 _ bcX7_chanceOf_0_ok rfl)
theorem dX7_chanceOf_28 : decode cX7_chanceOf 28 = .ok (.invokestatic 76, 3) := zo_184 (z_byk bcX7_chanceOf_0 0 28 _ bcX7_chanceOf_0_ok rfl) (z_byk bcX7_chanceOf_0 0 29 _ bcX7_chanceOf_0_ok rfl) (z_byk bcX7_chanceOf_0 0 30 _ bcX7_chanceOf_0_ok rfl) rfl
theorem dX7_chanceOf_3 : decode cX7_chanceOf 3 = .ok (.lstore_n 3, 1) := zo_66 (z_byk bcX7_chanceOf_0 0 3 _ bcX7_chanceOf_0_ok rfl)
theorem dX7_chanceOf_31 : decode cX7_chanceOf 31 = .ok (.ifCond .eq 13, 3) := zo_153 (z_byk bcX7_chanceOf_0 0 31 _ bcX7_chanceOf_0_ok rfl) (z_byk bcX7_chanceOf_0 0 32 _ bcX7_chanceOf_0_ok rfl) (z_byk bcX7_chanceOf_0 0 33 _ bcX7_chanceOf_0_ok rfl) rfl
theorem dX7_chanceOf_34 : decode cX7_chanceOf 34 = .ok (.aload_n 0, 1) := zo_42 (z_byk bcX7_chanceOf_0 0 34 _ bcX7_chanceOf_0_ok rfl)
theorem dX7_chanceOf_35 : decode cX7_chanceOf 35 = .ok (.getfield 36, 3) := zo_180 (z_byk bcX7_chanceOf_0 0 35 _ bcX7_chanceOf_0_ok rfl) (z_byk bcX7_chanceOf_0 0 36 _ bcX7_chanceOf_0_ok rfl) (z_byk bcX7_chanceOf_0 0 37 _ bcX7_chanceOf_0_ok rfl) rfl
theorem dX7_chanceOf_38 : decode cX7_chanceOf 38 = .ok (.iload 5, 2) := zo_21 (z_byk bcX7_chanceOf_0 0 38 _ bcX7_chanceOf_0_ok rfl) (z_byk bcX7_chanceOf_0 0 39 _ bcX7_chanceOf_0_ok rfl)
theorem dX7_chanceOf_4 : decode cX7_chanceOf 4 = .ok (.iconst 0, 1) := zo_3 (z_byk bcX7_chanceOf_0 0 4 _ bcX7_chanceOf_0_ok rfl)
theorem dX7_chanceOf_40 : decode cX7_chanceOf 40 = .ok (.iaload, 1) := zo_46 (z_byk bcX7_chanceOf_0 0 40 _ bcX7_chanceOf_0_ok rfl)
theorem dX7_chanceOf_41 : decode cX7_chanceOf 41 = .ok (.goto 13, 3) := zo_167 (z_byk bcX7_chanceOf_0 0 41 _ bcX7_chanceOf_0_ok rfl) (z_byk bcX7_chanceOf_0 0 42 _ bcX7_chanceOf_0_ok rfl) (z_byk bcX7_chanceOf_0 0 43 _ bcX7_chanceOf_0_ok rfl) rfl
theorem dX7_chanceOf_44 : decode cX7_chanceOf 44 = .ok (.bipush 100, 2) := zo_16 (z_byk bcX7_chanceOf_0 0 44 _ bcX7_chanceOf_0_ok rfl) (z_byk bcX7_chanceOf_0 0 45 _ bcX7_chanceOf_0_ok rfl) rfl
theorem dX7_chanceOf_46 : decode cX7_chanceOf 46 = .ok (.aload_n 0, 1) := zo_42 (z_byk bcX7_chanceOf_0 0 46 _ bcX7_chanceOf_0_ok rfl)
theorem dX7_chanceOf_47 : decode cX7_chanceOf 47 = .ok (.getfield 36, 3) := zo_180 (z_byk bcX7_chanceOf_0 0 47 _ bcX7_chanceOf_0_ok rfl) (z_byk bcX7_chanceOf_0 0 48 _ bcX7_chanceOf_0_ok rfl) (z_byk bcX7_chanceOf_0 0 49 _ bcX7_chanceOf_0_ok rfl) rfl
theorem dX7_chanceOf_5 : decode cX7_chanceOf 5 = .ok (.istore 5, 2) := zo_54 (z_byk bcX7_chanceOf_0 0 5 _ bcX7_chanceOf_0_ok rfl) (z_byk bcX7_chanceOf_0 0 6 _ bcX7_chanceOf_0_ok rfl)
theorem dX7_chanceOf_50 : decode cX7_chanceOf 50 = .ok (.iload 5, 2) := zo_21 (z_byk bcX7_chanceOf_0 0 50 _ bcX7_chanceOf_0_ok rfl) (z_byk bcX7_chanceOf_0 0 51 _ bcX7_chanceOf_0_ok rfl)
theorem dX7_chanceOf_52 : decode cX7_chanceOf 52 = .ok (.iaload, 1) := zo_46 (z_byk bcX7_chanceOf_0 0 52 _ bcX7_chanceOf_0_ok rfl)
theorem dX7_chanceOf_53 : decode cX7_chanceOf 53 = .ok (.isub, 1) := zo_100 (z_byk bcX7_chanceOf_0 0 53 _ bcX7_chanceOf_0_ok rfl)
theorem dX7_chanceOf_54 : decode cX7_chanceOf 54 = .ok (.istore 6, 2) := zo_54 (z_byk bcX7_chanceOf_0 0 54 _ bcX7_chanceOf_0_ok rfl) (z_byk bcX7_chanceOf_0 0 55 _ bcX7_chanceOf_0_ok rfl)
theorem dX7_chanceOf_56 : decode cX7_chanceOf 56 = .ok (.lload_n 3, 1) := zo_33 (z_byk bcX7_chanceOf_0 0 56 _ bcX7_chanceOf_0_ok rfl)
theorem dX7_chanceOf_57 : decode cX7_chanceOf 57 = .ok (.iload 6, 2) := zo_21 (z_byk bcX7_chanceOf_0 0 57 _ bcX7_chanceOf_0_ok rfl) (z_byk bcX7_chanceOf_0 0 58 _ bcX7_chanceOf_0_ok rfl)
theorem dX7_chanceOf_59 : decode cX7_chanceOf 59 = .ok (.i2l, 1) := zo_133 (z_byk bcX7_chanceOf_0 0 59 _ bcX7_chanceOf_0_ok rfl)
theorem dX7_chanceOf_60 : decode cX7_chanceOf 60 = .ok (.lmul, 1) := zo_105 (z_byk bcX7_chanceOf_60 60 0 _ bcX7_chanceOf_60_ok rfl)
theorem dX7_chanceOf_61 : decode cX7_chanceOf 61 = .ok (.ldc2_w 82, 3) := zo_20 (z_byk bcX7_chanceOf_60 60 1 _ bcX7_chanceOf_60_ok rfl) (z_byk bcX7_chanceOf_60 60 2 _ bcX7_chanceOf_60_ok rfl) (z_byk bcX7_chanceOf_60 60 3 _ bcX7_chanceOf_60_ok rfl) rfl
theorem dX7_chanceOf_64 : decode cX7_chanceOf 64 = .ok (.ldiv, 1) := zo_109 (z_byk bcX7_chanceOf_60 60 4 _ bcX7_chanceOf_60_ok rfl)
theorem dX7_chanceOf_65 : decode cX7_chanceOf 65 = .ok (.lstore_n 3, 1) := zo_66 (z_byk bcX7_chanceOf_60 60 5 _ bcX7_chanceOf_60_ok rfl)
theorem dX7_chanceOf_66 : decode cX7_chanceOf 66 = .ok (.iinc 5 1, 3) := zo_132 (z_byk bcX7_chanceOf_60 60 6 _ bcX7_chanceOf_60_ok rfl) (z_byk bcX7_chanceOf_60 60 7 _ bcX7_chanceOf_60_ok rfl) (z_byk bcX7_chanceOf_60 60 8 _ bcX7_chanceOf_60_ok rfl) rfl
theorem dX7_chanceOf_69 : decode cX7_chanceOf 69 = .ok (.goto (-62), 3) := zo_167 (z_byk bcX7_chanceOf_60 60 9 _ bcX7_chanceOf_60_ok rfl) (z_byk bcX7_chanceOf_60 60 10 _ bcX7_chanceOf_60_ok rfl) (z_byk bcX7_chanceOf_60 60 11 _ bcX7_chanceOf_60_ok rfl) rfl
theorem dX7_chanceOf_7 : decode cX7_chanceOf 7 = .ok (.iload 5, 2) := zo_21 (z_byk bcX7_chanceOf_0 0 7 _ bcX7_chanceOf_0_ok rfl) (z_byk bcX7_chanceOf_0 0 8 _ bcX7_chanceOf_0_ok rfl)
theorem dX7_chanceOf_72 : decode cX7_chanceOf 72 = .ok (.lload_n 3, 1) := zo_33 (z_byk bcX7_chanceOf_60 60 12 _ bcX7_chanceOf_60_ok rfl)
theorem dX7_chanceOf_73 : decode cX7_chanceOf 73 = .ok (.lreturn, 1) := zo_173 (z_byk bcX7_chanceOf_60 60 13 _ bcX7_chanceOf_60_ok rfl)
theorem dX7_chanceOf_9 : decode cX7_chanceOf 9 = .ok (.aload_n 0, 1) := zo_42 (z_byk bcX7_chanceOf_0 0 9 _ bcX7_chanceOf_0_ok rfl)
def bcX7_courtOf_0 : List Nat := [29, 27, 122, 4, 126, 153, 0, 7, 4, 167, 0, 4, 3, 54, 4, 21, 4, 153, 0, 12, 42, 180, 0, 39, 27, 46, 167, 0, 14, 42, 180, 0, 33, 27, 16, 48, 104, 28, 96, 46, 172]
theorem bcX7_courtOf_0_ok : z_bys cX7_courtOf 0 bcX7_courtOf_0 = true := by decide +kernel
theorem dX7_courtOf_0 : decode cX7_courtOf 0 = .ok (.iload_n 3, 1) := zo_29 (z_byk bcX7_courtOf_0 0 0 _ bcX7_courtOf_0_ok rfl)
theorem dX7_courtOf_1 : decode cX7_courtOf 1 = .ok (.iload_n 1, 1) := zo_27 (z_byk bcX7_courtOf_0 0 1 _ bcX7_courtOf_0_ok rfl)
theorem dX7_courtOf_12 : decode cX7_courtOf 12 = .ok (.iconst 0, 1) := zo_3 (z_byk bcX7_courtOf_0 0 12 _ bcX7_courtOf_0_ok rfl)
theorem dX7_courtOf_13 : decode cX7_courtOf 13 = .ok (.istore 4, 2) := zo_54 (z_byk bcX7_courtOf_0 0 13 _ bcX7_courtOf_0_ok rfl) (z_byk bcX7_courtOf_0 0 14 _ bcX7_courtOf_0_ok rfl)
theorem dX7_courtOf_15 : decode cX7_courtOf 15 = .ok (.iload 4, 2) := zo_21 (z_byk bcX7_courtOf_0 0 15 _ bcX7_courtOf_0_ok rfl) (z_byk bcX7_courtOf_0 0 16 _ bcX7_courtOf_0_ok rfl)
theorem dX7_courtOf_17 : decode cX7_courtOf 17 = .ok (.ifCond .eq 12, 3) := zo_153 (z_byk bcX7_courtOf_0 0 17 _ bcX7_courtOf_0_ok rfl) (z_byk bcX7_courtOf_0 0 18 _ bcX7_courtOf_0_ok rfl) (z_byk bcX7_courtOf_0 0 19 _ bcX7_courtOf_0_ok rfl) rfl
theorem dX7_courtOf_2 : decode cX7_courtOf 2 = .ok (.ishr, 1) := zo_122 (z_byk bcX7_courtOf_0 0 2 _ bcX7_courtOf_0_ok rfl)
theorem dX7_courtOf_20 : decode cX7_courtOf 20 = .ok (.aload_n 0, 1) := zo_42 (z_byk bcX7_courtOf_0 0 20 _ bcX7_courtOf_0_ok rfl)
theorem dX7_courtOf_21 : decode cX7_courtOf 21 = .ok (.getfield 39, 3) := zo_180 (z_byk bcX7_courtOf_0 0 21 _ bcX7_courtOf_0_ok rfl) (z_byk bcX7_courtOf_0 0 22 _ bcX7_courtOf_0_ok rfl) (z_byk bcX7_courtOf_0 0 23 _ bcX7_courtOf_0_ok rfl) rfl
theorem dX7_courtOf_24 : decode cX7_courtOf 24 = .ok (.iload_n 1, 1) := zo_27 (z_byk bcX7_courtOf_0 0 24 _ bcX7_courtOf_0_ok rfl)
theorem dX7_courtOf_25 : decode cX7_courtOf 25 = .ok (.iaload, 1) := zo_46 (z_byk bcX7_courtOf_0 0 25 _ bcX7_courtOf_0_ok rfl)
theorem dX7_courtOf_26 : decode cX7_courtOf 26 = .ok (.goto 14, 3) := zo_167 (z_byk bcX7_courtOf_0 0 26 _ bcX7_courtOf_0_ok rfl) (z_byk bcX7_courtOf_0 0 27 _ bcX7_courtOf_0_ok rfl) (z_byk bcX7_courtOf_0 0 28 _ bcX7_courtOf_0_ok rfl) rfl
theorem dX7_courtOf_29 : decode cX7_courtOf 29 = .ok (.aload_n 0, 1) := zo_42 (z_byk bcX7_courtOf_0 0 29 _ bcX7_courtOf_0_ok rfl)
theorem dX7_courtOf_3 : decode cX7_courtOf 3 = .ok (.iconst 1, 1) := zo_4 (z_byk bcX7_courtOf_0 0 3 _ bcX7_courtOf_0_ok rfl)
theorem dX7_courtOf_30 : decode cX7_courtOf 30 = .ok (.getfield 33, 3) := zo_180 (z_byk bcX7_courtOf_0 0 30 _ bcX7_courtOf_0_ok rfl) (z_byk bcX7_courtOf_0 0 31 _ bcX7_courtOf_0_ok rfl) (z_byk bcX7_courtOf_0 0 32 _ bcX7_courtOf_0_ok rfl) rfl
theorem dX7_courtOf_33 : decode cX7_courtOf 33 = .ok (.iload_n 1, 1) := zo_27 (z_byk bcX7_courtOf_0 0 33 _ bcX7_courtOf_0_ok rfl)
theorem dX7_courtOf_34 : decode cX7_courtOf 34 = .ok (.bipush 48, 2) := zo_16 (z_byk bcX7_courtOf_0 0 34 _ bcX7_courtOf_0_ok rfl) (z_byk bcX7_courtOf_0 0 35 _ bcX7_courtOf_0_ok rfl) rfl
theorem dX7_courtOf_36 : decode cX7_courtOf 36 = .ok (.imul, 1) := zo_104 (z_byk bcX7_courtOf_0 0 36 _ bcX7_courtOf_0_ok rfl)
theorem dX7_courtOf_37 : decode cX7_courtOf 37 = .ok (.iload_n 2, 1) := zo_28 (z_byk bcX7_courtOf_0 0 37 _ bcX7_courtOf_0_ok rfl)
theorem dX7_courtOf_38 : decode cX7_courtOf 38 = .ok (.iadd, 1) := zo_96 (z_byk bcX7_courtOf_0 0 38 _ bcX7_courtOf_0_ok rfl)
theorem dX7_courtOf_39 : decode cX7_courtOf 39 = .ok (.iaload, 1) := zo_46 (z_byk bcX7_courtOf_0 0 39 _ bcX7_courtOf_0_ok rfl)
theorem dX7_courtOf_4 : decode cX7_courtOf 4 = .ok (.iand, 1) := zo_126 (z_byk bcX7_courtOf_0 0 4 _ bcX7_courtOf_0_ok rfl)
theorem dX7_courtOf_40 : decode cX7_courtOf 40 = .ok (.ireturn, 1) := zo_172 (z_byk bcX7_courtOf_0 0 40 _ bcX7_courtOf_0_ok rfl)
theorem dX7_courtOf_5 : decode cX7_courtOf 5 = .ok (.ifCond .eq 7, 3) := zo_153 (z_byk bcX7_courtOf_0 0 5 _ bcX7_courtOf_0_ok rfl) (z_byk bcX7_courtOf_0 0 6 _ bcX7_courtOf_0_ok rfl) (z_byk bcX7_courtOf_0 0 7 _ bcX7_courtOf_0_ok rfl) rfl
theorem dX7_courtOf_8 : decode cX7_courtOf 8 = .ok (.iconst 1, 1) := zo_4 (z_byk bcX7_courtOf_0 0 8 _ bcX7_courtOf_0_ok rfl)
theorem dX7_courtOf_9 : decode cX7_courtOf 9 = .ok (.goto 4, 3) := zo_167 (z_byk bcX7_courtOf_0 0 9 _ bcX7_courtOf_0_ok rfl) (z_byk bcX7_courtOf_0 0 10 _ bcX7_courtOf_0_ok rfl) (z_byk bcX7_courtOf_0 0 11 _ bcX7_courtOf_0_ok rfl) rfl
def bcX7_drawn_0 : List Nat := [31, 66, 3, 54, 5, 3, 54, 6, 21, 6, 42, 180, 0, 52, 162, 0, 65, 42, 180, 0, 84, 21, 6, 184, 0, 76, 153, 0, 47, 20, 0, 87, 33, 105, 20, 0, 89, 97, 20, 0, 91, 113, 66, 33, 20, 0, 93, 109, 20, 0, 82, 113, 42, 180, 0, 36, 21, 6, 46, 133]
theorem bcX7_drawn_0_ok : z_bys cX7_drawn 0 bcX7_drawn_0 = true := by decide +kernel
def bcX7_drawn_60 : List Nat := [148, 156, 0, 12, 21, 5, 4, 21, 6, 120, 128, 54, 5, 132, 6, 1, 167, 255, 188, 21, 5, 172]
theorem bcX7_drawn_60_ok : z_bys cX7_drawn 60 bcX7_drawn_60 = true := by decide +kernel
theorem dX7_drawn_0 : decode cX7_drawn 0 = .ok (.lload_n 1, 1) := zo_31 (z_byk bcX7_drawn_0 0 0 _ bcX7_drawn_0_ok rfl)
theorem dX7_drawn_1 : decode cX7_drawn 1 = .ok (.lstore_n 3, 1) := zo_66 (z_byk bcX7_drawn_0 0 1 _ bcX7_drawn_0_ok rfl)
theorem dX7_drawn_10 : decode cX7_drawn 10 = .ok (.aload_n 0, 1) := zo_42 (z_byk bcX7_drawn_0 0 10 _ bcX7_drawn_0_ok rfl)
theorem dX7_drawn_11 : decode cX7_drawn 11 = .ok (.getfield 52, 3) := zo_180 (z_byk bcX7_drawn_0 0 11 _ bcX7_drawn_0_ok rfl) (z_byk bcX7_drawn_0 0 12 _ bcX7_drawn_0_ok rfl) (z_byk bcX7_drawn_0 0 13 _ bcX7_drawn_0_ok rfl) rfl
theorem dX7_drawn_14 : decode cX7_drawn 14 = .ok (.if_icmp .ge 65, 3) := zo_162 (z_byk bcX7_drawn_0 0 14 _ bcX7_drawn_0_ok rfl) (z_byk bcX7_drawn_0 0 15 _ bcX7_drawn_0_ok rfl) (z_byk bcX7_drawn_0 0 16 _ bcX7_drawn_0_ok rfl) rfl
theorem dX7_drawn_17 : decode cX7_drawn 17 = .ok (.aload_n 0, 1) := zo_42 (z_byk bcX7_drawn_0 0 17 _ bcX7_drawn_0_ok rfl)
theorem dX7_drawn_18 : decode cX7_drawn 18 = .ok (.getfield 84, 3) := zo_180 (z_byk bcX7_drawn_0 0 18 _ bcX7_drawn_0_ok rfl) (z_byk bcX7_drawn_0 0 19 _ bcX7_drawn_0_ok rfl) (z_byk bcX7_drawn_0 0 20 _ bcX7_drawn_0_ok rfl) rfl
theorem dX7_drawn_2 : decode cX7_drawn 2 = .ok (.iconst 0, 1) := zo_3 (z_byk bcX7_drawn_0 0 2 _ bcX7_drawn_0_ok rfl)
theorem dX7_drawn_21 : decode cX7_drawn 21 = .ok (.iload 6, 2) := zo_21 (z_byk bcX7_drawn_0 0 21 _ bcX7_drawn_0_ok rfl) (z_byk bcX7_drawn_0 0 22 _ bcX7_drawn_0_ok rfl)
theorem dX7_drawn_23 : decode cX7_drawn 23 = .ok (.invokestatic 76, 3) := zo_184 (z_byk bcX7_drawn_0 0 23 _ bcX7_drawn_0_ok rfl) (z_byk bcX7_drawn_0 0 24 _ bcX7_drawn_0_ok rfl) (z_byk bcX7_drawn_0 0 25 _ bcX7_drawn_0_ok rfl) rfl
theorem dX7_drawn_26 : decode cX7_drawn 26 = .ok (.ifCond .eq 47, 3) := zo_153 (z_byk bcX7_drawn_0 0 26 _ bcX7_drawn_0_ok rfl) (z_byk bcX7_drawn_0 0 27 _ bcX7_drawn_0_ok rfl) (z_byk bcX7_drawn_0 0 28 _ bcX7_drawn_0_ok rfl) rfl
theorem dX7_drawn_29 : decode cX7_drawn 29 = .ok (.ldc2_w 87, 3) := zo_20 (z_byk bcX7_drawn_0 0 29 _ bcX7_drawn_0_ok rfl) (z_byk bcX7_drawn_0 0 30 _ bcX7_drawn_0_ok rfl) (z_byk bcX7_drawn_0 0 31 _ bcX7_drawn_0_ok rfl) rfl
theorem dX7_drawn_3 : decode cX7_drawn 3 = .ok (.istore 5, 2) := zo_54 (z_byk bcX7_drawn_0 0 3 _ bcX7_drawn_0_ok rfl) (z_byk bcX7_drawn_0 0 4 _ bcX7_drawn_0_ok rfl)
theorem dX7_drawn_32 : decode cX7_drawn 32 = .ok (.lload_n 3, 1) := zo_33 (z_byk bcX7_drawn_0 0 32 _ bcX7_drawn_0_ok rfl)
theorem dX7_drawn_33 : decode cX7_drawn 33 = .ok (.lmul, 1) := zo_105 (z_byk bcX7_drawn_0 0 33 _ bcX7_drawn_0_ok rfl)
theorem dX7_drawn_34 : decode cX7_drawn 34 = .ok (.ldc2_w 89, 3) := zo_20 (z_byk bcX7_drawn_0 0 34 _ bcX7_drawn_0_ok rfl) (z_byk bcX7_drawn_0 0 35 _ bcX7_drawn_0_ok rfl) (z_byk bcX7_drawn_0 0 36 _ bcX7_drawn_0_ok rfl) rfl
theorem dX7_drawn_37 : decode cX7_drawn 37 = .ok (.ladd, 1) := zo_97 (z_byk bcX7_drawn_0 0 37 _ bcX7_drawn_0_ok rfl)
theorem dX7_drawn_38 : decode cX7_drawn 38 = .ok (.ldc2_w 91, 3) := zo_20 (z_byk bcX7_drawn_0 0 38 _ bcX7_drawn_0_ok rfl) (z_byk bcX7_drawn_0 0 39 _ bcX7_drawn_0_ok rfl) (z_byk bcX7_drawn_0 0 40 _ bcX7_drawn_0_ok rfl) rfl
theorem dX7_drawn_41 : decode cX7_drawn 41 = .ok (.lrem, 1) := zo_113 (z_byk bcX7_drawn_0 0 41 _ bcX7_drawn_0_ok rfl)
theorem dX7_drawn_42 : decode cX7_drawn 42 = .ok (.lstore_n 3, 1) := zo_66 (z_byk bcX7_drawn_0 0 42 _ bcX7_drawn_0_ok rfl)
theorem dX7_drawn_43 : decode cX7_drawn 43 = .ok (.lload_n 3, 1) := zo_33 (z_byk bcX7_drawn_0 0 43 _ bcX7_drawn_0_ok rfl)
theorem dX7_drawn_44 : decode cX7_drawn 44 = .ok (.ldc2_w 93, 3) := zo_20 (z_byk bcX7_drawn_0 0 44 _ bcX7_drawn_0_ok rfl) (z_byk bcX7_drawn_0 0 45 _ bcX7_drawn_0_ok rfl) (z_byk bcX7_drawn_0 0 46 _ bcX7_drawn_0_ok rfl) rfl
theorem dX7_drawn_47 : decode cX7_drawn 47 = .ok (.ldiv, 1) := zo_109 (z_byk bcX7_drawn_0 0 47 _ bcX7_drawn_0_ok rfl)
theorem dX7_drawn_48 : decode cX7_drawn 48 = .ok (.ldc2_w 82, 3) := zo_20 (z_byk bcX7_drawn_0 0 48 _ bcX7_drawn_0_ok rfl) (z_byk bcX7_drawn_0 0 49 _ bcX7_drawn_0_ok rfl) (z_byk bcX7_drawn_0 0 50 _ bcX7_drawn_0_ok rfl) rfl
theorem dX7_drawn_5 : decode cX7_drawn 5 = .ok (.iconst 0, 1) := zo_3 (z_byk bcX7_drawn_0 0 5 _ bcX7_drawn_0_ok rfl)
theorem dX7_drawn_51 : decode cX7_drawn 51 = .ok (.lrem, 1) := zo_113 (z_byk bcX7_drawn_0 0 51 _ bcX7_drawn_0_ok rfl)
theorem dX7_drawn_52 : decode cX7_drawn 52 = .ok (.aload_n 0, 1) := zo_42 (z_byk bcX7_drawn_0 0 52 _ bcX7_drawn_0_ok rfl)
theorem dX7_drawn_53 : decode cX7_drawn 53 = .ok (.getfield 36, 3) := zo_180 (z_byk bcX7_drawn_0 0 53 _ bcX7_drawn_0_ok rfl) (z_byk bcX7_drawn_0 0 54 _ bcX7_drawn_0_ok rfl) (z_byk bcX7_drawn_0 0 55 _ bcX7_drawn_0_ok rfl) rfl
theorem dX7_drawn_56 : decode cX7_drawn 56 = .ok (.iload 6, 2) := zo_21 (z_byk bcX7_drawn_0 0 56 _ bcX7_drawn_0_ok rfl) (z_byk bcX7_drawn_0 0 57 _ bcX7_drawn_0_ok rfl)
theorem dX7_drawn_58 : decode cX7_drawn 58 = .ok (.iaload, 1) := zo_46 (z_byk bcX7_drawn_0 0 58 _ bcX7_drawn_0_ok rfl)
theorem dX7_drawn_59 : decode cX7_drawn 59 = .ok (.i2l, 1) := zo_133 (z_byk bcX7_drawn_0 0 59 _ bcX7_drawn_0_ok rfl)
theorem dX7_drawn_6 : decode cX7_drawn 6 = .ok (.istore 6, 2) := zo_54 (z_byk bcX7_drawn_0 0 6 _ bcX7_drawn_0_ok rfl) (z_byk bcX7_drawn_0 0 7 _ bcX7_drawn_0_ok rfl)
theorem dX7_drawn_60 : decode cX7_drawn 60 = .ok (.lcmp, 1) := zo_148 (z_byk bcX7_drawn_60 60 0 _ bcX7_drawn_60_ok rfl)
theorem dX7_drawn_61 : decode cX7_drawn 61 = .ok (.ifCond .ge 12, 3) := zo_156 (z_byk bcX7_drawn_60 60 1 _ bcX7_drawn_60_ok rfl) (z_byk bcX7_drawn_60 60 2 _ bcX7_drawn_60_ok rfl) (z_byk bcX7_drawn_60 60 3 _ bcX7_drawn_60_ok rfl) rfl
theorem dX7_drawn_64 : decode cX7_drawn 64 = .ok (.iload 5, 2) := zo_21 (z_byk bcX7_drawn_60 60 4 _ bcX7_drawn_60_ok rfl) (z_byk bcX7_drawn_60 60 5 _ bcX7_drawn_60_ok rfl)
theorem dX7_drawn_66 : decode cX7_drawn 66 = .ok (.iconst 1, 1) := zo_4 (z_byk bcX7_drawn_60 60 6 _ bcX7_drawn_60_ok rfl)
theorem dX7_drawn_67 : decode cX7_drawn 67 = .ok (.iload 6, 2) := zo_21 (z_byk bcX7_drawn_60 60 7 _ bcX7_drawn_60_ok rfl) (z_byk bcX7_drawn_60 60 8 _ bcX7_drawn_60_ok rfl)
theorem dX7_drawn_69 : decode cX7_drawn 69 = .ok (.ishl, 1) := zo_120 (z_byk bcX7_drawn_60 60 9 _ bcX7_drawn_60_ok rfl)
theorem dX7_drawn_70 : decode cX7_drawn 70 = .ok (.ior, 1) := zo_128 (z_byk bcX7_drawn_60 60 10 _ bcX7_drawn_60_ok rfl)
theorem dX7_drawn_71 : decode cX7_drawn 71 = .ok (.istore 5, 2) := zo_54 (z_byk bcX7_drawn_60 60 11 _ bcX7_drawn_60_ok rfl) (z_byk bcX7_drawn_60 60 12 _ bcX7_drawn_60_ok rfl)
theorem dX7_drawn_73 : decode cX7_drawn 73 = .ok (.iinc 6 1, 3) := zo_132 (z_byk bcX7_drawn_60 60 13 _ bcX7_drawn_60_ok rfl) (z_byk bcX7_drawn_60 60 14 _ bcX7_drawn_60_ok rfl) (z_byk bcX7_drawn_60 60 15 _ bcX7_drawn_60_ok rfl) rfl
theorem dX7_drawn_76 : decode cX7_drawn 76 = .ok (.goto (-68), 3) := zo_167 (z_byk bcX7_drawn_60 60 16 _ bcX7_drawn_60_ok rfl) (z_byk bcX7_drawn_60 60 17 _ bcX7_drawn_60_ok rfl) (z_byk bcX7_drawn_60 60 18 _ bcX7_drawn_60_ok rfl) rfl
theorem dX7_drawn_79 : decode cX7_drawn 79 = .ok (.iload 5, 2) := zo_21 (z_byk bcX7_drawn_60 60 19 _ bcX7_drawn_60_ok rfl) (z_byk bcX7_drawn_60 60 20 _ bcX7_drawn_60_ok rfl)
theorem dX7_drawn_8 : decode cX7_drawn 8 = .ok (.iload 6, 2) := zo_21 (z_byk bcX7_drawn_0 0 8 _ bcX7_drawn_0_ok rfl) (z_byk bcX7_drawn_0 0 9 _ bcX7_drawn_0_ok rfl)
theorem dX7_drawn_81 : decode cX7_drawn 81 = .ok (.ireturn, 1) := zo_172 (z_byk bcX7_drawn_60 60 21 _ bcX7_drawn_60_ok rfl)
def bcX7_hasAll_0 : List Nat := [27, 155, 0, 17, 27, 4, 42, 180, 0, 52, 120, 162, 0, 7, 4, 167, 0, 4, 3, 172]
theorem bcX7_hasAll_0_ok : z_bys cX7_hasAll 0 bcX7_hasAll_0 = true := by decide +kernel
theorem dX7_hasAll_0 : decode cX7_hasAll 0 = .ok (.iload_n 1, 1) := zo_27 (z_byk bcX7_hasAll_0 0 0 _ bcX7_hasAll_0_ok rfl)
theorem dX7_hasAll_1 : decode cX7_hasAll 1 = .ok (.ifCond .lt 17, 3) := zo_155 (z_byk bcX7_hasAll_0 0 1 _ bcX7_hasAll_0_ok rfl) (z_byk bcX7_hasAll_0 0 2 _ bcX7_hasAll_0_ok rfl) (z_byk bcX7_hasAll_0 0 3 _ bcX7_hasAll_0_ok rfl) rfl
theorem dX7_hasAll_10 : decode cX7_hasAll 10 = .ok (.ishl, 1) := zo_120 (z_byk bcX7_hasAll_0 0 10 _ bcX7_hasAll_0_ok rfl)
theorem dX7_hasAll_11 : decode cX7_hasAll 11 = .ok (.if_icmp .ge 7, 3) := zo_162 (z_byk bcX7_hasAll_0 0 11 _ bcX7_hasAll_0_ok rfl) (z_byk bcX7_hasAll_0 0 12 _ bcX7_hasAll_0_ok rfl) (z_byk bcX7_hasAll_0 0 13 _ bcX7_hasAll_0_ok rfl) rfl
theorem dX7_hasAll_14 : decode cX7_hasAll 14 = .ok (.iconst 1, 1) := zo_4 (z_byk bcX7_hasAll_0 0 14 _ bcX7_hasAll_0_ok rfl)
theorem dX7_hasAll_15 : decode cX7_hasAll 15 = .ok (.goto 4, 3) := zo_167 (z_byk bcX7_hasAll_0 0 15 _ bcX7_hasAll_0_ok rfl) (z_byk bcX7_hasAll_0 0 16 _ bcX7_hasAll_0_ok rfl) (z_byk bcX7_hasAll_0 0 17 _ bcX7_hasAll_0_ok rfl) rfl
theorem dX7_hasAll_18 : decode cX7_hasAll 18 = .ok (.iconst 0, 1) := zo_3 (z_byk bcX7_hasAll_0 0 18 _ bcX7_hasAll_0_ok rfl)
theorem dX7_hasAll_19 : decode cX7_hasAll 19 = .ok (.ireturn, 1) := zo_172 (z_byk bcX7_hasAll_0 0 19 _ bcX7_hasAll_0_ok rfl)
theorem dX7_hasAll_4 : decode cX7_hasAll 4 = .ok (.iload_n 1, 1) := zo_27 (z_byk bcX7_hasAll_0 0 4 _ bcX7_hasAll_0_ok rfl)
theorem dX7_hasAll_5 : decode cX7_hasAll 5 = .ok (.iconst 1, 1) := zo_4 (z_byk bcX7_hasAll_0 0 5 _ bcX7_hasAll_0_ok rfl)
theorem dX7_hasAll_6 : decode cX7_hasAll 6 = .ok (.aload_n 0, 1) := zo_42 (z_byk bcX7_hasAll_0 0 6 _ bcX7_hasAll_0_ok rfl)
theorem dX7_hasAll_7 : decode cX7_hasAll 7 = .ok (.getfield 52, 3) := zo_180 (z_byk bcX7_hasAll_0 0 7 _ bcX7_hasAll_0_ok rfl) (z_byk bcX7_hasAll_0 0 8 _ bcX7_hasAll_0_ok rfl) (z_byk bcX7_hasAll_0 0 9 _ bcX7_hasAll_0_ok rfl) rfl
def bcX7_hasCourt_0 : List Nat := [27, 155, 0, 15, 27, 42, 180, 0, 42, 162, 0, 7, 4, 167, 0, 4, 3, 172]
theorem bcX7_hasCourt_0_ok : z_bys cX7_hasCourt 0 bcX7_hasCourt_0 = true := by decide +kernel
theorem dX7_hasCourt_0 : decode cX7_hasCourt 0 = .ok (.iload_n 1, 1) := zo_27 (z_byk bcX7_hasCourt_0 0 0 _ bcX7_hasCourt_0_ok rfl)
theorem dX7_hasCourt_1 : decode cX7_hasCourt 1 = .ok (.ifCond .lt 15, 3) := zo_155 (z_byk bcX7_hasCourt_0 0 1 _ bcX7_hasCourt_0_ok rfl) (z_byk bcX7_hasCourt_0 0 2 _ bcX7_hasCourt_0_ok rfl) (z_byk bcX7_hasCourt_0 0 3 _ bcX7_hasCourt_0_ok rfl) rfl
theorem dX7_hasCourt_12 : decode cX7_hasCourt 12 = .ok (.iconst 1, 1) := zo_4 (z_byk bcX7_hasCourt_0 0 12 _ bcX7_hasCourt_0_ok rfl)
theorem dX7_hasCourt_13 : decode cX7_hasCourt 13 = .ok (.goto 4, 3) := zo_167 (z_byk bcX7_hasCourt_0 0 13 _ bcX7_hasCourt_0_ok rfl) (z_byk bcX7_hasCourt_0 0 14 _ bcX7_hasCourt_0_ok rfl) (z_byk bcX7_hasCourt_0 0 15 _ bcX7_hasCourt_0_ok rfl) rfl
theorem dX7_hasCourt_16 : decode cX7_hasCourt 16 = .ok (.iconst 0, 1) := zo_3 (z_byk bcX7_hasCourt_0 0 16 _ bcX7_hasCourt_0_ok rfl)
theorem dX7_hasCourt_17 : decode cX7_hasCourt 17 = .ok (.ireturn, 1) := zo_172 (z_byk bcX7_hasCourt_0 0 17 _ bcX7_hasCourt_0_ok rfl)
theorem dX7_hasCourt_4 : decode cX7_hasCourt 4 = .ok (.iload_n 1, 1) := zo_27 (z_byk bcX7_hasCourt_0 0 4 _ bcX7_hasCourt_0_ok rfl)
theorem dX7_hasCourt_5 : decode cX7_hasCourt 5 = .ok (.aload_n 0, 1) := zo_42 (z_byk bcX7_hasCourt_0 0 5 _ bcX7_hasCourt_0_ok rfl)
theorem dX7_hasCourt_6 : decode cX7_hasCourt 6 = .ok (.getfield 42, 3) := zo_180 (z_byk bcX7_hasCourt_0 0 6 _ bcX7_hasCourt_0_ok rfl) (z_byk bcX7_hasCourt_0 0 7 _ bcX7_hasCourt_0_ok rfl) (z_byk bcX7_hasCourt_0 0 8 _ bcX7_hasCourt_0_ok rfl) rfl
theorem dX7_hasCourt_9 : decode cX7_hasCourt 9 = .ok (.if_icmp .ge 7, 3) := zo_162 (z_byk bcX7_hasCourt_0 0 9 _ bcX7_hasCourt_0_ok rfl) (z_byk bcX7_hasCourt_0 0 10 _ bcX7_hasCourt_0_ok rfl) (z_byk bcX7_hasCourt_0 0 11 _ bcX7_hasCourt_0_ok rfl) rfl
def bcX7_hasGate_0 : List Nat := [27, 155, 0, 15, 27, 42, 180, 0, 49, 162, 0, 7, 4, 167, 0, 4, 3, 172]
theorem bcX7_hasGate_0_ok : z_bys cX7_hasGate 0 bcX7_hasGate_0 = true := by decide +kernel
theorem dX7_hasGate_0 : decode cX7_hasGate 0 = .ok (.iload_n 1, 1) := zo_27 (z_byk bcX7_hasGate_0 0 0 _ bcX7_hasGate_0_ok rfl)
theorem dX7_hasGate_1 : decode cX7_hasGate 1 = .ok (.ifCond .lt 15, 3) := zo_155 (z_byk bcX7_hasGate_0 0 1 _ bcX7_hasGate_0_ok rfl) (z_byk bcX7_hasGate_0 0 2 _ bcX7_hasGate_0_ok rfl) (z_byk bcX7_hasGate_0 0 3 _ bcX7_hasGate_0_ok rfl) rfl
theorem dX7_hasGate_12 : decode cX7_hasGate 12 = .ok (.iconst 1, 1) := zo_4 (z_byk bcX7_hasGate_0 0 12 _ bcX7_hasGate_0_ok rfl)
theorem dX7_hasGate_13 : decode cX7_hasGate 13 = .ok (.goto 4, 3) := zo_167 (z_byk bcX7_hasGate_0 0 13 _ bcX7_hasGate_0_ok rfl) (z_byk bcX7_hasGate_0 0 14 _ bcX7_hasGate_0_ok rfl) (z_byk bcX7_hasGate_0 0 15 _ bcX7_hasGate_0_ok rfl) rfl
theorem dX7_hasGate_16 : decode cX7_hasGate 16 = .ok (.iconst 0, 1) := zo_3 (z_byk bcX7_hasGate_0 0 16 _ bcX7_hasGate_0_ok rfl)
theorem dX7_hasGate_17 : decode cX7_hasGate 17 = .ok (.ireturn, 1) := zo_172 (z_byk bcX7_hasGate_0 0 17 _ bcX7_hasGate_0_ok rfl)
theorem dX7_hasGate_4 : decode cX7_hasGate 4 = .ok (.iload_n 1, 1) := zo_27 (z_byk bcX7_hasGate_0 0 4 _ bcX7_hasGate_0_ok rfl)
theorem dX7_hasGate_5 : decode cX7_hasGate 5 = .ok (.aload_n 0, 1) := zo_42 (z_byk bcX7_hasGate_0 0 5 _ bcX7_hasGate_0_ok rfl)
theorem dX7_hasGate_6 : decode cX7_hasGate 6 = .ok (.getfield 49, 3) := zo_180 (z_byk bcX7_hasGate_0 0 6 _ bcX7_hasGate_0_ok rfl) (z_byk bcX7_hasGate_0 0 7 _ bcX7_hasGate_0_ok rfl) (z_byk bcX7_hasGate_0 0 8 _ bcX7_hasGate_0_ok rfl) rfl
theorem dX7_hasGate_9 : decode cX7_hasGate 9 = .ok (.if_icmp .ge 7, 3) := zo_162 (z_byk bcX7_hasGate_0 0 9 _ bcX7_hasGate_0_ok rfl) (z_byk bcX7_hasGate_0 0 10 _ bcX7_hasGate_0_ok rfl) (z_byk bcX7_hasGate_0 0 11 _ bcX7_hasGate_0_ok rfl) rfl
def bcX7_hasHour_0 : List Nat := [27, 155, 0, 15, 27, 42, 180, 0, 46, 162, 0, 7, 4, 167, 0, 4, 3, 172]
theorem bcX7_hasHour_0_ok : z_bys cX7_hasHour 0 bcX7_hasHour_0 = true := by decide +kernel
theorem dX7_hasHour_0 : decode cX7_hasHour 0 = .ok (.iload_n 1, 1) := zo_27 (z_byk bcX7_hasHour_0 0 0 _ bcX7_hasHour_0_ok rfl)
theorem dX7_hasHour_1 : decode cX7_hasHour 1 = .ok (.ifCond .lt 15, 3) := zo_155 (z_byk bcX7_hasHour_0 0 1 _ bcX7_hasHour_0_ok rfl) (z_byk bcX7_hasHour_0 0 2 _ bcX7_hasHour_0_ok rfl) (z_byk bcX7_hasHour_0 0 3 _ bcX7_hasHour_0_ok rfl) rfl
theorem dX7_hasHour_12 : decode cX7_hasHour 12 = .ok (.iconst 1, 1) := zo_4 (z_byk bcX7_hasHour_0 0 12 _ bcX7_hasHour_0_ok rfl)
theorem dX7_hasHour_13 : decode cX7_hasHour 13 = .ok (.goto 4, 3) := zo_167 (z_byk bcX7_hasHour_0 0 13 _ bcX7_hasHour_0_ok rfl) (z_byk bcX7_hasHour_0 0 14 _ bcX7_hasHour_0_ok rfl) (z_byk bcX7_hasHour_0 0 15 _ bcX7_hasHour_0_ok rfl) rfl
theorem dX7_hasHour_16 : decode cX7_hasHour 16 = .ok (.iconst 0, 1) := zo_3 (z_byk bcX7_hasHour_0 0 16 _ bcX7_hasHour_0_ok rfl)
theorem dX7_hasHour_17 : decode cX7_hasHour 17 = .ok (.ireturn, 1) := zo_172 (z_byk bcX7_hasHour_0 0 17 _ bcX7_hasHour_0_ok rfl)
theorem dX7_hasHour_4 : decode cX7_hasHour 4 = .ok (.iload_n 1, 1) := zo_27 (z_byk bcX7_hasHour_0 0 4 _ bcX7_hasHour_0_ok rfl)
theorem dX7_hasHour_5 : decode cX7_hasHour 5 = .ok (.aload_n 0, 1) := zo_42 (z_byk bcX7_hasHour_0 0 5 _ bcX7_hasHour_0_ok rfl)
theorem dX7_hasHour_6 : decode cX7_hasHour 6 = .ok (.getfield 46, 3) := zo_180 (z_byk bcX7_hasHour_0 0 6 _ bcX7_hasHour_0_ok rfl) (z_byk bcX7_hasHour_0 0 7 _ bcX7_hasHour_0_ok rfl) (z_byk bcX7_hasHour_0 0 8 _ bcX7_hasHour_0_ok rfl) rfl
theorem dX7_hasHour_9 : decode cX7_hasHour 9 = .ok (.if_icmp .ge 7, 3) := zo_162 (z_byk bcX7_hasHour_0 0 9 _ bcX7_hasHour_0_ok rfl) (z_byk bcX7_hasHour_0 0 10 _ bcX7_hasHour_0_ok rfl) (z_byk bcX7_hasHour_0 0 11 _ bcX7_hasHour_0_ok rfl) rfl
def bcX7_hasPassage_0 : List Nat := [42, 27, 182, 0, 55, 153, 0, 23, 42, 28, 182, 0, 59, 153, 0, 15, 42, 29, 182, 0, 62, 153, 0, 7, 4, 167, 0, 4, 3, 172]
theorem bcX7_hasPassage_0_ok : z_bys cX7_hasPassage 0 bcX7_hasPassage_0 = true := by decide +kernel
theorem dX7_hasPassage_0 : decode cX7_hasPassage 0 = .ok (.aload_n 0, 1) := zo_42 (z_byk bcX7_hasPassage_0 0 0 _ bcX7_hasPassage_0_ok rfl)
theorem dX7_hasPassage_1 : decode cX7_hasPassage 1 = .ok (.iload_n 1, 1) := zo_27 (z_byk bcX7_hasPassage_0 0 1 _ bcX7_hasPassage_0_ok rfl)
theorem dX7_hasPassage_10 : decode cX7_hasPassage 10 = .ok (.invokevirtual 59, 3) := zo_182 (z_byk bcX7_hasPassage_0 0 10 _ bcX7_hasPassage_0_ok rfl) (z_byk bcX7_hasPassage_0 0 11 _ bcX7_hasPassage_0_ok rfl) (z_byk bcX7_hasPassage_0 0 12 _ bcX7_hasPassage_0_ok rfl) rfl
theorem dX7_hasPassage_13 : decode cX7_hasPassage 13 = .ok (.ifCond .eq 15, 3) := zo_153 (z_byk bcX7_hasPassage_0 0 13 _ bcX7_hasPassage_0_ok rfl) (z_byk bcX7_hasPassage_0 0 14 _ bcX7_hasPassage_0_ok rfl) (z_byk bcX7_hasPassage_0 0 15 _ bcX7_hasPassage_0_ok rfl) rfl
theorem dX7_hasPassage_16 : decode cX7_hasPassage 16 = .ok (.aload_n 0, 1) := zo_42 (z_byk bcX7_hasPassage_0 0 16 _ bcX7_hasPassage_0_ok rfl)
theorem dX7_hasPassage_17 : decode cX7_hasPassage 17 = .ok (.iload_n 3, 1) := zo_29 (z_byk bcX7_hasPassage_0 0 17 _ bcX7_hasPassage_0_ok rfl)
theorem dX7_hasPassage_18 : decode cX7_hasPassage 18 = .ok (.invokevirtual 62, 3) := zo_182 (z_byk bcX7_hasPassage_0 0 18 _ bcX7_hasPassage_0_ok rfl) (z_byk bcX7_hasPassage_0 0 19 _ bcX7_hasPassage_0_ok rfl) (z_byk bcX7_hasPassage_0 0 20 _ bcX7_hasPassage_0_ok rfl) rfl
theorem dX7_hasPassage_2 : decode cX7_hasPassage 2 = .ok (.invokevirtual 55, 3) := zo_182 (z_byk bcX7_hasPassage_0 0 2 _ bcX7_hasPassage_0_ok rfl) (z_byk bcX7_hasPassage_0 0 3 _ bcX7_hasPassage_0_ok rfl) (z_byk bcX7_hasPassage_0 0 4 _ bcX7_hasPassage_0_ok rfl) rfl
theorem dX7_hasPassage_21 : decode cX7_hasPassage 21 = .ok (.ifCond .eq 7, 3) := zo_153 (z_byk bcX7_hasPassage_0 0 21 _ bcX7_hasPassage_0_ok rfl) (z_byk bcX7_hasPassage_0 0 22 _ bcX7_hasPassage_0_ok rfl) (z_byk bcX7_hasPassage_0 0 23 _ bcX7_hasPassage_0_ok rfl) rfl
theorem dX7_hasPassage_24 : decode cX7_hasPassage 24 = .ok (.iconst 1, 1) := zo_4 (z_byk bcX7_hasPassage_0 0 24 _ bcX7_hasPassage_0_ok rfl)
theorem dX7_hasPassage_25 : decode cX7_hasPassage 25 = .ok (.goto 4, 3) := zo_167 (z_byk bcX7_hasPassage_0 0 25 _ bcX7_hasPassage_0_ok rfl) (z_byk bcX7_hasPassage_0 0 26 _ bcX7_hasPassage_0_ok rfl) (z_byk bcX7_hasPassage_0 0 27 _ bcX7_hasPassage_0_ok rfl) rfl
theorem dX7_hasPassage_28 : decode cX7_hasPassage 28 = .ok (.iconst 0, 1) := zo_3 (z_byk bcX7_hasPassage_0 0 28 _ bcX7_hasPassage_0_ok rfl)
theorem dX7_hasPassage_29 : decode cX7_hasPassage 29 = .ok (.ireturn, 1) := zo_172 (z_byk bcX7_hasPassage_0 0 29 _ bcX7_hasPassage_0_ok rfl)
theorem dX7_hasPassage_5 : decode cX7_hasPassage 5 = .ok (.ifCond .eq 23, 3) := zo_153 (z_byk bcX7_hasPassage_0 0 5 _ bcX7_hasPassage_0_ok rfl) (z_byk bcX7_hasPassage_0 0 6 _ bcX7_hasPassage_0_ok rfl) (z_byk bcX7_hasPassage_0 0 7 _ bcX7_hasPassage_0_ok rfl) rfl
theorem dX7_hasPassage_8 : decode cX7_hasPassage 8 = .ok (.aload_n 0, 1) := zo_42 (z_byk bcX7_hasPassage_0 0 8 _ bcX7_hasPassage_0_ok rfl)
theorem dX7_hasPassage_9 : decode cX7_hasPassage 9 = .ok (.iload_n 2, 1) := zo_28 (z_byk bcX7_hasPassage_0 0 9 _ bcX7_hasPassage_0_ok rfl)
def bcX7_hasPerson_0 : List Nat := [27, 155, 0, 15, 27, 42, 180, 0, 52, 162, 0, 7, 4, 167, 0, 4, 3, 172]
theorem bcX7_hasPerson_0_ok : z_bys cX7_hasPerson 0 bcX7_hasPerson_0 = true := by decide +kernel
theorem dX7_hasPerson_0 : decode cX7_hasPerson 0 = .ok (.iload_n 1, 1) := zo_27 (z_byk bcX7_hasPerson_0 0 0 _ bcX7_hasPerson_0_ok rfl)
theorem dX7_hasPerson_1 : decode cX7_hasPerson 1 = .ok (.ifCond .lt 15, 3) := zo_155 (z_byk bcX7_hasPerson_0 0 1 _ bcX7_hasPerson_0_ok rfl) (z_byk bcX7_hasPerson_0 0 2 _ bcX7_hasPerson_0_ok rfl) (z_byk bcX7_hasPerson_0 0 3 _ bcX7_hasPerson_0_ok rfl) rfl
theorem dX7_hasPerson_12 : decode cX7_hasPerson 12 = .ok (.iconst 1, 1) := zo_4 (z_byk bcX7_hasPerson_0 0 12 _ bcX7_hasPerson_0_ok rfl)
theorem dX7_hasPerson_13 : decode cX7_hasPerson 13 = .ok (.goto 4, 3) := zo_167 (z_byk bcX7_hasPerson_0 0 13 _ bcX7_hasPerson_0_ok rfl) (z_byk bcX7_hasPerson_0 0 14 _ bcX7_hasPerson_0_ok rfl) (z_byk bcX7_hasPerson_0 0 15 _ bcX7_hasPerson_0_ok rfl) rfl
theorem dX7_hasPerson_16 : decode cX7_hasPerson 16 = .ok (.iconst 0, 1) := zo_3 (z_byk bcX7_hasPerson_0 0 16 _ bcX7_hasPerson_0_ok rfl)
theorem dX7_hasPerson_17 : decode cX7_hasPerson 17 = .ok (.ireturn, 1) := zo_172 (z_byk bcX7_hasPerson_0 0 17 _ bcX7_hasPerson_0_ok rfl)
theorem dX7_hasPerson_4 : decode cX7_hasPerson 4 = .ok (.iload_n 1, 1) := zo_27 (z_byk bcX7_hasPerson_0 0 4 _ bcX7_hasPerson_0_ok rfl)
theorem dX7_hasPerson_5 : decode cX7_hasPerson 5 = .ok (.aload_n 0, 1) := zo_42 (z_byk bcX7_hasPerson_0 0 5 _ bcX7_hasPerson_0_ok rfl)
theorem dX7_hasPerson_6 : decode cX7_hasPerson 6 = .ok (.getfield 52, 3) := zo_180 (z_byk bcX7_hasPerson_0 0 6 _ bcX7_hasPerson_0_ok rfl) (z_byk bcX7_hasPerson_0 0 7 _ bcX7_hasPerson_0_ok rfl) (z_byk bcX7_hasPerson_0 0 8 _ bcX7_hasPerson_0_ok rfl) rfl
theorem dX7_hasPerson_9 : decode cX7_hasPerson 9 = .ok (.if_icmp .ge 7, 3) := zo_162 (z_byk bcX7_hasPerson_0 0 9 _ bcX7_hasPerson_0_ok rfl) (z_byk bcX7_hasPerson_0 0 10 _ bcX7_hasPerson_0_ok rfl) (z_byk bcX7_hasPerson_0 0 11 _ bcX7_hasPerson_0_ok rfl) rfl
def bcX7_hasTripBy_0 : List Nat := [42, 27, 28, 29, 182, 0, 65, 153, 0, 22, 21, 4, 28, 161, 0, 16, 21, 4, 42, 180, 0, 46, 163, 0, 7, 4, 167, 0, 4, 3, 172]
theorem bcX7_hasTripBy_0_ok : z_bys cX7_hasTripBy 0 bcX7_hasTripBy_0 = true := by decide +kernel
theorem dX7_hasTripBy_0 : decode cX7_hasTripBy 0 = .ok (.aload_n 0, 1) := zo_42 (z_byk bcX7_hasTripBy_0 0 0 _ bcX7_hasTripBy_0_ok rfl)
theorem dX7_hasTripBy_1 : decode cX7_hasTripBy 1 = .ok (.iload_n 1, 1) := zo_27 (z_byk bcX7_hasTripBy_0 0 1 _ bcX7_hasTripBy_0_ok rfl)
theorem dX7_hasTripBy_10 : decode cX7_hasTripBy 10 = .ok (.iload 4, 2) := zo_21 (z_byk bcX7_hasTripBy_0 0 10 _ bcX7_hasTripBy_0_ok rfl) (z_byk bcX7_hasTripBy_0 0 11 _ bcX7_hasTripBy_0_ok rfl)
theorem dX7_hasTripBy_12 : decode cX7_hasTripBy 12 = .ok (.iload_n 2, 1) := zo_28 (z_byk bcX7_hasTripBy_0 0 12 _ bcX7_hasTripBy_0_ok rfl)
theorem dX7_hasTripBy_13 : decode cX7_hasTripBy 13 = .ok (.if_icmp .lt 16, 3) := zo_161 (z_byk bcX7_hasTripBy_0 0 13 _ bcX7_hasTripBy_0_ok rfl) (z_byk bcX7_hasTripBy_0 0 14 _ bcX7_hasTripBy_0_ok rfl) (z_byk bcX7_hasTripBy_0 0 15 _ bcX7_hasTripBy_0_ok rfl) rfl
theorem dX7_hasTripBy_16 : decode cX7_hasTripBy 16 = .ok (.iload 4, 2) := zo_21 (z_byk bcX7_hasTripBy_0 0 16 _ bcX7_hasTripBy_0_ok rfl) (z_byk bcX7_hasTripBy_0 0 17 _ bcX7_hasTripBy_0_ok rfl)
theorem dX7_hasTripBy_18 : decode cX7_hasTripBy 18 = .ok (.aload_n 0, 1) := zo_42 (z_byk bcX7_hasTripBy_0 0 18 _ bcX7_hasTripBy_0_ok rfl)
theorem dX7_hasTripBy_19 : decode cX7_hasTripBy 19 = .ok (.getfield 46, 3) := zo_180 (z_byk bcX7_hasTripBy_0 0 19 _ bcX7_hasTripBy_0_ok rfl) (z_byk bcX7_hasTripBy_0 0 20 _ bcX7_hasTripBy_0_ok rfl) (z_byk bcX7_hasTripBy_0 0 21 _ bcX7_hasTripBy_0_ok rfl) rfl
theorem dX7_hasTripBy_2 : decode cX7_hasTripBy 2 = .ok (.iload_n 2, 1) := zo_28 (z_byk bcX7_hasTripBy_0 0 2 _ bcX7_hasTripBy_0_ok rfl)
theorem dX7_hasTripBy_22 : decode cX7_hasTripBy 22 = .ok (.if_icmp .gt 7, 3) := zo_163 (z_byk bcX7_hasTripBy_0 0 22 _ bcX7_hasTripBy_0_ok rfl) (z_byk bcX7_hasTripBy_0 0 23 _ bcX7_hasTripBy_0_ok rfl) (z_byk bcX7_hasTripBy_0 0 24 _ bcX7_hasTripBy_0_ok rfl) rfl
theorem dX7_hasTripBy_25 : decode cX7_hasTripBy 25 = .ok (.iconst 1, 1) := zo_4 (z_byk bcX7_hasTripBy_0 0 25 _ bcX7_hasTripBy_0_ok rfl)
theorem dX7_hasTripBy_26 : decode cX7_hasTripBy 26 = .ok (.goto 4, 3) := zo_167 (z_byk bcX7_hasTripBy_0 0 26 _ bcX7_hasTripBy_0_ok rfl) (z_byk bcX7_hasTripBy_0 0 27 _ bcX7_hasTripBy_0_ok rfl) (z_byk bcX7_hasTripBy_0 0 28 _ bcX7_hasTripBy_0_ok rfl) rfl
theorem dX7_hasTripBy_29 : decode cX7_hasTripBy 29 = .ok (.iconst 0, 1) := zo_3 (z_byk bcX7_hasTripBy_0 0 29 _ bcX7_hasTripBy_0_ok rfl)
theorem dX7_hasTripBy_3 : decode cX7_hasTripBy 3 = .ok (.iload_n 3, 1) := zo_29 (z_byk bcX7_hasTripBy_0 0 3 _ bcX7_hasTripBy_0_ok rfl)
theorem dX7_hasTripBy_30 : decode cX7_hasTripBy 30 = .ok (.ireturn, 1) := zo_172 (z_byk bcX7_hasTripBy_0 0 30 _ bcX7_hasTripBy_0_ok rfl)
theorem dX7_hasTripBy_4 : decode cX7_hasTripBy 4 = .ok (.invokevirtual 65, 3) := zo_182 (z_byk bcX7_hasTripBy_0 0 4 _ bcX7_hasTripBy_0_ok rfl) (z_byk bcX7_hasTripBy_0 0 5 _ bcX7_hasTripBy_0_ok rfl) (z_byk bcX7_hasTripBy_0 0 6 _ bcX7_hasTripBy_0_ok rfl) rfl
theorem dX7_hasTripBy_7 : decode cX7_hasTripBy 7 = .ok (.ifCond .eq 22, 3) := zo_153 (z_byk bcX7_hasTripBy_0 0 7 _ bcX7_hasTripBy_0_ok rfl) (z_byk bcX7_hasTripBy_0 0 8 _ bcX7_hasTripBy_0_ok rfl) (z_byk bcX7_hasTripBy_0 0 9 _ bcX7_hasTripBy_0_ok rfl) rfl
def bcX7_hasTrip_0 : List Nat := [42, 27, 182, 0, 59, 153, 0, 23, 42, 28, 182, 0, 62, 153, 0, 15, 42, 29, 182, 0, 59, 153, 0, 7, 4, 167, 0, 4, 3, 172]
theorem bcX7_hasTrip_0_ok : z_bys cX7_hasTrip 0 bcX7_hasTrip_0 = true := by decide +kernel
theorem dX7_hasTrip_0 : decode cX7_hasTrip 0 = .ok (.aload_n 0, 1) := zo_42 (z_byk bcX7_hasTrip_0 0 0 _ bcX7_hasTrip_0_ok rfl)
theorem dX7_hasTrip_1 : decode cX7_hasTrip 1 = .ok (.iload_n 1, 1) := zo_27 (z_byk bcX7_hasTrip_0 0 1 _ bcX7_hasTrip_0_ok rfl)
theorem dX7_hasTrip_10 : decode cX7_hasTrip 10 = .ok (.invokevirtual 62, 3) := zo_182 (z_byk bcX7_hasTrip_0 0 10 _ bcX7_hasTrip_0_ok rfl) (z_byk bcX7_hasTrip_0 0 11 _ bcX7_hasTrip_0_ok rfl) (z_byk bcX7_hasTrip_0 0 12 _ bcX7_hasTrip_0_ok rfl) rfl
theorem dX7_hasTrip_13 : decode cX7_hasTrip 13 = .ok (.ifCond .eq 15, 3) := zo_153 (z_byk bcX7_hasTrip_0 0 13 _ bcX7_hasTrip_0_ok rfl) (z_byk bcX7_hasTrip_0 0 14 _ bcX7_hasTrip_0_ok rfl) (z_byk bcX7_hasTrip_0 0 15 _ bcX7_hasTrip_0_ok rfl) rfl
theorem dX7_hasTrip_16 : decode cX7_hasTrip 16 = .ok (.aload_n 0, 1) := zo_42 (z_byk bcX7_hasTrip_0 0 16 _ bcX7_hasTrip_0_ok rfl)
theorem dX7_hasTrip_17 : decode cX7_hasTrip 17 = .ok (.iload_n 3, 1) := zo_29 (z_byk bcX7_hasTrip_0 0 17 _ bcX7_hasTrip_0_ok rfl)
theorem dX7_hasTrip_18 : decode cX7_hasTrip 18 = .ok (.invokevirtual 59, 3) := zo_182 (z_byk bcX7_hasTrip_0 0 18 _ bcX7_hasTrip_0_ok rfl) (z_byk bcX7_hasTrip_0 0 19 _ bcX7_hasTrip_0_ok rfl) (z_byk bcX7_hasTrip_0 0 20 _ bcX7_hasTrip_0_ok rfl) rfl
theorem dX7_hasTrip_2 : decode cX7_hasTrip 2 = .ok (.invokevirtual 59, 3) := zo_182 (z_byk bcX7_hasTrip_0 0 2 _ bcX7_hasTrip_0_ok rfl) (z_byk bcX7_hasTrip_0 0 3 _ bcX7_hasTrip_0_ok rfl) (z_byk bcX7_hasTrip_0 0 4 _ bcX7_hasTrip_0_ok rfl) rfl
theorem dX7_hasTrip_21 : decode cX7_hasTrip 21 = .ok (.ifCond .eq 7, 3) := zo_153 (z_byk bcX7_hasTrip_0 0 21 _ bcX7_hasTrip_0_ok rfl) (z_byk bcX7_hasTrip_0 0 22 _ bcX7_hasTrip_0_ok rfl) (z_byk bcX7_hasTrip_0 0 23 _ bcX7_hasTrip_0_ok rfl) rfl
theorem dX7_hasTrip_24 : decode cX7_hasTrip 24 = .ok (.iconst 1, 1) := zo_4 (z_byk bcX7_hasTrip_0 0 24 _ bcX7_hasTrip_0_ok rfl)
theorem dX7_hasTrip_25 : decode cX7_hasTrip 25 = .ok (.goto 4, 3) := zo_167 (z_byk bcX7_hasTrip_0 0 25 _ bcX7_hasTrip_0_ok rfl) (z_byk bcX7_hasTrip_0 0 26 _ bcX7_hasTrip_0_ok rfl) (z_byk bcX7_hasTrip_0 0 27 _ bcX7_hasTrip_0_ok rfl) rfl
theorem dX7_hasTrip_28 : decode cX7_hasTrip 28 = .ok (.iconst 0, 1) := zo_3 (z_byk bcX7_hasTrip_0 0 28 _ bcX7_hasTrip_0_ok rfl)
theorem dX7_hasTrip_29 : decode cX7_hasTrip 29 = .ok (.ireturn, 1) := zo_172 (z_byk bcX7_hasTrip_0 0 29 _ bcX7_hasTrip_0_ok rfl)
theorem dX7_hasTrip_5 : decode cX7_hasTrip 5 = .ok (.ifCond .eq 23, 3) := zo_153 (z_byk bcX7_hasTrip_0 0 5 _ bcX7_hasTrip_0_ok rfl) (z_byk bcX7_hasTrip_0 0 6 _ bcX7_hasTrip_0_ok rfl) (z_byk bcX7_hasTrip_0 0 7 _ bcX7_hasTrip_0_ok rfl) rfl
theorem dX7_hasTrip_8 : decode cX7_hasTrip 8 = .ok (.aload_n 0, 1) := zo_42 (z_byk bcX7_hasTrip_0 0 8 _ bcX7_hasTrip_0_ok rfl)
theorem dX7_hasTrip_9 : decode cX7_hasTrip 9 = .ok (.iload_n 2, 1) := zo_28 (z_byk bcX7_hasTrip_0 0 9 _ bcX7_hasTrip_0_ok rfl)
def bcX7_inside_0 : List Nat := [3, 54, 4, 3, 54, 5, 21, 5, 42, 180, 0, 52, 162, 0, 33, 42, 21, 5, 28, 29, 182, 0, 73, 27, 184, 0, 76, 153, 0, 12, 21, 4, 4, 21, 5, 120, 128, 54, 4, 132, 5, 1, 167, 255, 220, 21, 4, 172]
theorem bcX7_inside_0_ok : z_bys cX7_inside 0 bcX7_inside_0 = true := by decide +kernel
theorem dX7_inside_0 : decode cX7_inside 0 = .ok (.iconst 0, 1) := zo_3 (z_byk bcX7_inside_0 0 0 _ bcX7_inside_0_ok rfl)
theorem dX7_inside_1 : decode cX7_inside 1 = .ok (.istore 4, 2) := zo_54 (z_byk bcX7_inside_0 0 1 _ bcX7_inside_0_ok rfl) (z_byk bcX7_inside_0 0 2 _ bcX7_inside_0_ok rfl)
theorem dX7_inside_12 : decode cX7_inside 12 = .ok (.if_icmp .ge 33, 3) := zo_162 (z_byk bcX7_inside_0 0 12 _ bcX7_inside_0_ok rfl) (z_byk bcX7_inside_0 0 13 _ bcX7_inside_0_ok rfl) (z_byk bcX7_inside_0 0 14 _ bcX7_inside_0_ok rfl) rfl
theorem dX7_inside_15 : decode cX7_inside 15 = .ok (.aload_n 0, 1) := zo_42 (z_byk bcX7_inside_0 0 15 _ bcX7_inside_0_ok rfl)
theorem dX7_inside_16 : decode cX7_inside 16 = .ok (.iload 5, 2) := zo_21 (z_byk bcX7_inside_0 0 16 _ bcX7_inside_0_ok rfl) (z_byk bcX7_inside_0 0 17 _ bcX7_inside_0_ok rfl)
theorem dX7_inside_18 : decode cX7_inside 18 = .ok (.iload_n 2, 1) := zo_28 (z_byk bcX7_inside_0 0 18 _ bcX7_inside_0_ok rfl)
theorem dX7_inside_19 : decode cX7_inside 19 = .ok (.iload_n 3, 1) := zo_29 (z_byk bcX7_inside_0 0 19 _ bcX7_inside_0_ok rfl)
theorem dX7_inside_20 : decode cX7_inside 20 = .ok (.invokevirtual 73, 3) := zo_182 (z_byk bcX7_inside_0 0 20 _ bcX7_inside_0_ok rfl) (z_byk bcX7_inside_0 0 21 _ bcX7_inside_0_ok rfl) (z_byk bcX7_inside_0 0 22 _ bcX7_inside_0_ok rfl) rfl
theorem dX7_inside_23 : decode cX7_inside 23 = .ok (.iload_n 1, 1) := zo_27 (z_byk bcX7_inside_0 0 23 _ bcX7_inside_0_ok rfl)
theorem dX7_inside_24 : decode cX7_inside 24 = .ok (.invokestatic 76, 3) := zo_184 (z_byk bcX7_inside_0 0 24 _ bcX7_inside_0_ok rfl) (z_byk bcX7_inside_0 0 25 _ bcX7_inside_0_ok rfl) (z_byk bcX7_inside_0 0 26 _ bcX7_inside_0_ok rfl) rfl
theorem dX7_inside_27 : decode cX7_inside 27 = .ok (.ifCond .eq 12, 3) := zo_153 (z_byk bcX7_inside_0 0 27 _ bcX7_inside_0_ok rfl) (z_byk bcX7_inside_0 0 28 _ bcX7_inside_0_ok rfl) (z_byk bcX7_inside_0 0 29 _ bcX7_inside_0_ok rfl) rfl
theorem dX7_inside_3 : decode cX7_inside 3 = .ok (.iconst 0, 1) := zo_3 (z_byk bcX7_inside_0 0 3 _ bcX7_inside_0_ok rfl)
theorem dX7_inside_30 : decode cX7_inside 30 = .ok (.iload 4, 2) := zo_21 (z_byk bcX7_inside_0 0 30 _ bcX7_inside_0_ok rfl) (z_byk bcX7_inside_0 0 31 _ bcX7_inside_0_ok rfl)
theorem dX7_inside_32 : decode cX7_inside 32 = .ok (.iconst 1, 1) := zo_4 (z_byk bcX7_inside_0 0 32 _ bcX7_inside_0_ok rfl)
theorem dX7_inside_33 : decode cX7_inside 33 = .ok (.iload 5, 2) := zo_21 (z_byk bcX7_inside_0 0 33 _ bcX7_inside_0_ok rfl) (z_byk bcX7_inside_0 0 34 _ bcX7_inside_0_ok rfl)
theorem dX7_inside_35 : decode cX7_inside 35 = .ok (.ishl, 1) := zo_120 (z_byk bcX7_inside_0 0 35 _ bcX7_inside_0_ok rfl)
theorem dX7_inside_36 : decode cX7_inside 36 = .ok (.ior, 1) := zo_128 (z_byk bcX7_inside_0 0 36 _ bcX7_inside_0_ok rfl)
theorem dX7_inside_37 : decode cX7_inside 37 = .ok (.istore 4, 2) := zo_54 (z_byk bcX7_inside_0 0 37 _ bcX7_inside_0_ok rfl) (z_byk bcX7_inside_0 0 38 _ bcX7_inside_0_ok rfl)
theorem dX7_inside_39 : decode cX7_inside 39 = .ok (.iinc 5 1, 3) := zo_132 (z_byk bcX7_inside_0 0 39 _ bcX7_inside_0_ok rfl) (z_byk bcX7_inside_0 0 40 _ bcX7_inside_0_ok rfl) (z_byk bcX7_inside_0 0 41 _ bcX7_inside_0_ok rfl) rfl
theorem dX7_inside_4 : decode cX7_inside 4 = .ok (.istore 5, 2) := zo_54 (z_byk bcX7_inside_0 0 4 _ bcX7_inside_0_ok rfl) (z_byk bcX7_inside_0 0 5 _ bcX7_inside_0_ok rfl)
theorem dX7_inside_42 : decode cX7_inside 42 = .ok (.goto (-36), 3) := zo_167 (z_byk bcX7_inside_0 0 42 _ bcX7_inside_0_ok rfl) (z_byk bcX7_inside_0 0 43 _ bcX7_inside_0_ok rfl) (z_byk bcX7_inside_0 0 44 _ bcX7_inside_0_ok rfl) rfl
theorem dX7_inside_45 : decode cX7_inside 45 = .ok (.iload 4, 2) := zo_21 (z_byk bcX7_inside_0 0 45 _ bcX7_inside_0_ok rfl) (z_byk bcX7_inside_0 0 46 _ bcX7_inside_0_ok rfl)
theorem dX7_inside_47 : decode cX7_inside 47 = .ok (.ireturn, 1) := zo_172 (z_byk bcX7_inside_0 0 47 _ bcX7_inside_0_ok rfl)
theorem dX7_inside_6 : decode cX7_inside 6 = .ok (.iload 5, 2) := zo_21 (z_byk bcX7_inside_0 0 6 _ bcX7_inside_0_ok rfl) (z_byk bcX7_inside_0 0 7 _ bcX7_inside_0_ok rfl)
theorem dX7_inside_8 : decode cX7_inside 8 = .ok (.aload_n 0, 1) := zo_42 (z_byk bcX7_inside_0 0 8 _ bcX7_inside_0_ok rfl)
theorem dX7_inside_9 : decode cX7_inside 9 = .ok (.getfield 52, 3) := zo_180 (z_byk bcX7_inside_0 0 9 _ bcX7_inside_0_ok rfl) (z_byk bcX7_inside_0 0 10 _ bcX7_inside_0_ok rfl) (z_byk bcX7_inside_0 0 11 _ bcX7_inside_0_ok rfl) rfl
def bcX7_isFree_0 : List Nat := [42, 180, 0, 9, 27, 46, 28, 184, 0, 76, 172]
theorem bcX7_isFree_0_ok : z_bys cX7_isFree 0 bcX7_isFree_0 = true := by decide +kernel
theorem dX7_isFree_0 : decode cX7_isFree 0 = .ok (.aload_n 0, 1) := zo_42 (z_byk bcX7_isFree_0 0 0 _ bcX7_isFree_0_ok rfl)
theorem dX7_isFree_1 : decode cX7_isFree 1 = .ok (.getfield 9, 3) := zo_180 (z_byk bcX7_isFree_0 0 1 _ bcX7_isFree_0_ok rfl) (z_byk bcX7_isFree_0 0 2 _ bcX7_isFree_0_ok rfl) (z_byk bcX7_isFree_0 0 3 _ bcX7_isFree_0_ok rfl) rfl
theorem dX7_isFree_10 : decode cX7_isFree 10 = .ok (.ireturn, 1) := zo_172 (z_byk bcX7_isFree_0 0 10 _ bcX7_isFree_0_ok rfl)
theorem dX7_isFree_4 : decode cX7_isFree 4 = .ok (.iload_n 1, 1) := zo_27 (z_byk bcX7_isFree_0 0 4 _ bcX7_isFree_0_ok rfl)
theorem dX7_isFree_5 : decode cX7_isFree 5 = .ok (.iaload, 1) := zo_46 (z_byk bcX7_isFree_0 0 5 _ bcX7_isFree_0_ok rfl)
theorem dX7_isFree_6 : decode cX7_isFree 6 = .ok (.iload_n 2, 1) := zo_28 (z_byk bcX7_isFree_0 0 6 _ bcX7_isFree_0_ok rfl)
theorem dX7_isFree_7 : decode cX7_isFree 7 = .ok (.invokestatic 76, 3) := zo_184 (z_byk bcX7_isFree_0 0 7 _ bcX7_isFree_0_ok rfl) (z_byk bcX7_isFree_0 0 8 _ bcX7_isFree_0_ok rfl) (z_byk bcX7_isFree_0 0 9 _ bcX7_isFree_0_ok rfl) rfl
def bcX7_openBy_0 : List Nat := [3, 54, 4, 3, 54, 5, 21, 5, 42, 180, 0, 52, 162, 0, 31, 27, 21, 5, 184, 0, 76, 153, 0, 16, 21, 4, 42, 21, 5, 28, 29, 182, 0, 73, 128, 54, 4, 132, 5, 1, 167, 255, 222, 21, 4, 172]
theorem bcX7_openBy_0_ok : z_bys cX7_openBy 0 bcX7_openBy_0 = true := by decide +kernel
theorem dX7_openBy_0 : decode cX7_openBy 0 = .ok (.iconst 0, 1) := zo_3 (z_byk bcX7_openBy_0 0 0 _ bcX7_openBy_0_ok rfl)
theorem dX7_openBy_1 : decode cX7_openBy 1 = .ok (.istore 4, 2) := zo_54 (z_byk bcX7_openBy_0 0 1 _ bcX7_openBy_0_ok rfl) (z_byk bcX7_openBy_0 0 2 _ bcX7_openBy_0_ok rfl)
theorem dX7_openBy_12 : decode cX7_openBy 12 = .ok (.if_icmp .ge 31, 3) := zo_162 (z_byk bcX7_openBy_0 0 12 _ bcX7_openBy_0_ok rfl) (z_byk bcX7_openBy_0 0 13 _ bcX7_openBy_0_ok rfl) (z_byk bcX7_openBy_0 0 14 _ bcX7_openBy_0_ok rfl) rfl
theorem dX7_openBy_15 : decode cX7_openBy 15 = .ok (.iload_n 1, 1) := zo_27 (z_byk bcX7_openBy_0 0 15 _ bcX7_openBy_0_ok rfl)
theorem dX7_openBy_16 : decode cX7_openBy 16 = .ok (.iload 5, 2) := zo_21 (z_byk bcX7_openBy_0 0 16 _ bcX7_openBy_0_ok rfl) (z_byk bcX7_openBy_0 0 17 _ bcX7_openBy_0_ok rfl)
theorem dX7_openBy_18 : decode cX7_openBy 18 = .ok (.invokestatic 76, 3) := zo_184 (z_byk bcX7_openBy_0 0 18 _ bcX7_openBy_0_ok rfl) (z_byk bcX7_openBy_0 0 19 _ bcX7_openBy_0_ok rfl) (z_byk bcX7_openBy_0 0 20 _ bcX7_openBy_0_ok rfl) rfl
theorem dX7_openBy_21 : decode cX7_openBy 21 = .ok (.ifCond .eq 16, 3) := zo_153 (z_byk bcX7_openBy_0 0 21 _ bcX7_openBy_0_ok rfl) (z_byk bcX7_openBy_0 0 22 _ bcX7_openBy_0_ok rfl) (z_byk bcX7_openBy_0 0 23 _ bcX7_openBy_0_ok rfl) rfl
theorem dX7_openBy_24 : decode cX7_openBy 24 = .ok (.iload 4, 2) := zo_21 (z_byk bcX7_openBy_0 0 24 _ bcX7_openBy_0_ok rfl) (z_byk bcX7_openBy_0 0 25 _ bcX7_openBy_0_ok rfl)
theorem dX7_openBy_26 : decode cX7_openBy 26 = .ok (.aload_n 0, 1) := zo_42 (z_byk bcX7_openBy_0 0 26 _ bcX7_openBy_0_ok rfl)
theorem dX7_openBy_27 : decode cX7_openBy 27 = .ok (.iload 5, 2) := zo_21 (z_byk bcX7_openBy_0 0 27 _ bcX7_openBy_0_ok rfl) (z_byk bcX7_openBy_0 0 28 _ bcX7_openBy_0_ok rfl)
theorem dX7_openBy_29 : decode cX7_openBy 29 = .ok (.iload_n 2, 1) := zo_28 (z_byk bcX7_openBy_0 0 29 _ bcX7_openBy_0_ok rfl)
theorem dX7_openBy_3 : decode cX7_openBy 3 = .ok (.iconst 0, 1) := zo_3 (z_byk bcX7_openBy_0 0 3 _ bcX7_openBy_0_ok rfl)
theorem dX7_openBy_30 : decode cX7_openBy 30 = .ok (.iload_n 3, 1) := zo_29 (z_byk bcX7_openBy_0 0 30 _ bcX7_openBy_0_ok rfl)
theorem dX7_openBy_31 : decode cX7_openBy 31 = .ok (.invokevirtual 73, 3) := zo_182 (z_byk bcX7_openBy_0 0 31 _ bcX7_openBy_0_ok rfl) (z_byk bcX7_openBy_0 0 32 _ bcX7_openBy_0_ok rfl) (z_byk bcX7_openBy_0 0 33 _ bcX7_openBy_0_ok rfl) rfl
theorem dX7_openBy_34 : decode cX7_openBy 34 = .ok (.ior, 1) := zo_128 (z_byk bcX7_openBy_0 0 34 _ bcX7_openBy_0_ok rfl)
theorem dX7_openBy_35 : decode cX7_openBy 35 = .ok (.istore 4, 2) := zo_54 (z_byk bcX7_openBy_0 0 35 _ bcX7_openBy_0_ok rfl) (z_byk bcX7_openBy_0 0 36 _ bcX7_openBy_0_ok rfl)
theorem dX7_openBy_37 : decode cX7_openBy 37 = .ok (.iinc 5 1, 3) := zo_132 (z_byk bcX7_openBy_0 0 37 _ bcX7_openBy_0_ok rfl) (z_byk bcX7_openBy_0 0 38 _ bcX7_openBy_0_ok rfl) (z_byk bcX7_openBy_0 0 39 _ bcX7_openBy_0_ok rfl) rfl
theorem dX7_openBy_4 : decode cX7_openBy 4 = .ok (.istore 5, 2) := zo_54 (z_byk bcX7_openBy_0 0 4 _ bcX7_openBy_0_ok rfl) (z_byk bcX7_openBy_0 0 5 _ bcX7_openBy_0_ok rfl)
theorem dX7_openBy_40 : decode cX7_openBy 40 = .ok (.goto (-34), 3) := zo_167 (z_byk bcX7_openBy_0 0 40 _ bcX7_openBy_0_ok rfl) (z_byk bcX7_openBy_0 0 41 _ bcX7_openBy_0_ok rfl) (z_byk bcX7_openBy_0 0 42 _ bcX7_openBy_0_ok rfl) rfl
theorem dX7_openBy_43 : decode cX7_openBy 43 = .ok (.iload 4, 2) := zo_21 (z_byk bcX7_openBy_0 0 43 _ bcX7_openBy_0_ok rfl) (z_byk bcX7_openBy_0 0 44 _ bcX7_openBy_0_ok rfl)
theorem dX7_openBy_45 : decode cX7_openBy 45 = .ok (.ireturn, 1) := zo_172 (z_byk bcX7_openBy_0 0 45 _ bcX7_openBy_0_ok rfl)
theorem dX7_openBy_6 : decode cX7_openBy 6 = .ok (.iload 5, 2) := zo_21 (z_byk bcX7_openBy_0 0 6 _ bcX7_openBy_0_ok rfl) (z_byk bcX7_openBy_0 0 7 _ bcX7_openBy_0_ok rfl)
theorem dX7_openBy_8 : decode cX7_openBy 8 = .ok (.aload_n 0, 1) := zo_42 (z_byk bcX7_openBy_0 0 8 _ bcX7_openBy_0_ok rfl)
theorem dX7_openBy_9 : decode cX7_openBy 9 = .ok (.getfield 52, 3) := zo_180 (z_byk bcX7_openBy_0 0 9 _ bcX7_openBy_0_ok rfl) (z_byk bcX7_openBy_0 0 10 _ bcX7_openBy_0_ok rfl) (z_byk bcX7_openBy_0 0 11 _ bcX7_openBy_0_ok rfl) rfl
def bcX7_showsOf_0 : List Nat := [42, 180, 0, 24, 42, 27, 28, 29, 182, 0, 69, 46, 172]
theorem bcX7_showsOf_0_ok : z_bys cX7_showsOf 0 bcX7_showsOf_0 = true := by decide +kernel
theorem dX7_showsOf_0 : decode cX7_showsOf 0 = .ok (.aload_n 0, 1) := zo_42 (z_byk bcX7_showsOf_0 0 0 _ bcX7_showsOf_0_ok rfl)
theorem dX7_showsOf_1 : decode cX7_showsOf 1 = .ok (.getfield 24, 3) := zo_180 (z_byk bcX7_showsOf_0 0 1 _ bcX7_showsOf_0_ok rfl) (z_byk bcX7_showsOf_0 0 2 _ bcX7_showsOf_0_ok rfl) (z_byk bcX7_showsOf_0 0 3 _ bcX7_showsOf_0_ok rfl) rfl
theorem dX7_showsOf_11 : decode cX7_showsOf 11 = .ok (.iaload, 1) := zo_46 (z_byk bcX7_showsOf_0 0 11 _ bcX7_showsOf_0_ok rfl)
theorem dX7_showsOf_12 : decode cX7_showsOf 12 = .ok (.ireturn, 1) := zo_172 (z_byk bcX7_showsOf_0 0 12 _ bcX7_showsOf_0_ok rfl)
theorem dX7_showsOf_4 : decode cX7_showsOf 4 = .ok (.aload_n 0, 1) := zo_42 (z_byk bcX7_showsOf_0 0 4 _ bcX7_showsOf_0_ok rfl)
theorem dX7_showsOf_5 : decode cX7_showsOf 5 = .ok (.iload_n 1, 1) := zo_27 (z_byk bcX7_showsOf_0 0 5 _ bcX7_showsOf_0_ok rfl)
theorem dX7_showsOf_6 : decode cX7_showsOf 6 = .ok (.iload_n 2, 1) := zo_28 (z_byk bcX7_showsOf_0 0 6 _ bcX7_showsOf_0_ok rfl)
theorem dX7_showsOf_7 : decode cX7_showsOf 7 = .ok (.iload_n 3, 1) := zo_29 (z_byk bcX7_showsOf_0 0 7 _ bcX7_showsOf_0_ok rfl)
theorem dX7_showsOf_8 : decode cX7_showsOf 8 = .ok (.invokevirtual 69, 3) := zo_182 (z_byk bcX7_showsOf_0 0 8 _ bcX7_showsOf_0_ok rfl) (z_byk bcX7_showsOf_0 0 9 _ bcX7_showsOf_0_ok rfl) (z_byk bcX7_showsOf_0 0 10 _ bcX7_showsOf_0_ok rfl) rfl
def bcX9_has_0 : List Nat := [26, 27, 122, 4, 126, 153, 0, 7, 4, 167, 0, 4, 3, 172]
theorem bcX9_has_0_ok : z_bys cX9_has 0 bcX9_has_0 = true := by decide +kernel
theorem dX9_has_0 : decode cX9_has 0 = .ok (.iload_n 0, 1) := zo_26 (z_byk bcX9_has_0 0 0 _ bcX9_has_0_ok rfl)
theorem dX9_has_1 : decode cX9_has 1 = .ok (.iload_n 1, 1) := zo_27 (z_byk bcX9_has_0 0 1 _ bcX9_has_0_ok rfl)
theorem dX9_has_12 : decode cX9_has 12 = .ok (.iconst 0, 1) := zo_3 (z_byk bcX9_has_0 0 12 _ bcX9_has_0_ok rfl)
theorem dX9_has_13 : decode cX9_has 13 = .ok (.ireturn, 1) := zo_172 (z_byk bcX9_has_0 0 13 _ bcX9_has_0_ok rfl)
theorem dX9_has_2 : decode cX9_has 2 = .ok (.ishr, 1) := zo_122 (z_byk bcX9_has_0 0 2 _ bcX9_has_0_ok rfl)
theorem dX9_has_3 : decode cX9_has 3 = .ok (.iconst 1, 1) := zo_4 (z_byk bcX9_has_0 0 3 _ bcX9_has_0_ok rfl)
theorem dX9_has_4 : decode cX9_has 4 = .ok (.iand, 1) := zo_126 (z_byk bcX9_has_0 0 4 _ bcX9_has_0_ok rfl)
theorem dX9_has_5 : decode cX9_has 5 = .ok (.ifCond .eq 7, 3) := zo_153 (z_byk bcX9_has_0 0 5 _ bcX9_has_0_ok rfl) (z_byk bcX9_has_0 0 6 _ bcX9_has_0_ok rfl) (z_byk bcX9_has_0 0 7 _ bcX9_has_0_ok rfl) rfl
theorem dX9_has_8 : decode cX9_has 8 = .ok (.iconst 1, 1) := zo_4 (z_byk bcX9_has_0 0 8 _ bcX9_has_0_ok rfl)
theorem dX9_has_9 : decode cX9_has 9 = .ok (.goto 4, 3) := zo_167 (z_byk bcX9_has_0 0 9 _ bcX9_has_0_ok rfl) (z_byk bcX9_has_0 0 10 _ bcX9_has_0_ok rfl) (z_byk bcX9_has_0 0 11 _ bcX9_has_0_ok rfl) rfl
set_option maxHeartbeats 4000000 in
set_option maxRecDepth 100000 in
theorem k_X9_has (l : Launch) (sa : Nat → Nat) (dC : Nat → ClassId) (dI : Nat → Nat → Nat) (p1 : Int32) (p2 : Int32)  (sz : Nat) : Met l yX9_has (.code yX9_has cX9_has 2 (some .boolean) :: zT) ({ frames := 0, cells := 0, slots := 0, locals := 0 }) (va_Pc [.int p1, .int p2] (zB sa dC dI [] [] sz)) (va_Qi (fun (r : Int32) (_ : Unit) => (0 ≤ r.toInt ∧ r.toInt ≤ 1)) (fun _ t => zW dC dI [] [] (va_A [] sz) t) (va_A [] sz)) 0 0 (va_A [] sz) := by
  refine z_enter (by decide) (by exact (Nat.le_of_ble_eq_true rfl)) ?_
  intro p e s m args below meth c ls A R Qc hargs hsz hQe hAe hRe hx hb hml hr hts hown hlocks hin hl hP hK hD hN hXs hA hS
  rw [hAe] at hQe
  have hown : s.vm.findClass RX9 = some m.cls := hown
  have hl : lv_has ls 2 [(0, .int p1), (1, .int p2)] := hl
  refine lv_iload_n hx hb dX9_has_0 rfl (lv_at hl 0 rfl) ?_
  refine lv_iload_n hx hb dX9_has_1 rfl (lv_at hl 1 rfl) ?_
  refine lv_ishr hx hb dX9_has_2 ?_
  refine lv_topi (fun x_1 ex_1 => ?_)
  refine lv_iconst (v := 1) hx hb dX9_has_3 (by decide) ?_
  refine lv_iand hx hb dX9_has_4 ?_
  refine lv_topi (fun x_2 ex_2 => ?_)
  have b_x_2 : 0 ≤ x_2.toInt ∧ x_2.toInt ≤ 1 := by rw [ex_2]; exact zi_andR (show Int32.toInt 1 = 1 from by decide) (by first | with_reducible assumption | omega) (by first | with_reducible assumption | omega)
  refine lv_if_eq (tgt := 12) hx hb dX9_has_5 (by decide) (fun c_3 => ?_) (fun c_3 => ?_)
  · have ic_3 := zz_eq rfl (show Int32.toInt 0 = 0 from by decide) c_3
    refine lv_iconst (v := 0) hx hb dX9_has_12 (by decide) ?_
    exact W.zret (v := 0) hx hb hr (by decide) (fun t ht hW => by rw [← hQe]; exact ⟨⟨0, (), rfl, (by decide), z_ret hP hK hD ht hW [] [] rfl (by decide) rfl⟩, hS.F ht⟩) hS.2.2 dX9_has_13
  · have ic_3 := zz_neq rfl (show Int32.toInt 0 = 0 from by decide) c_3
    refine lv_iconst (v := 1) hx hb dX9_has_8 (by decide) ?_
    refine lv_goto (tgt := 13) hx hb dX9_has_9 (by decide) ?_
    exact W.zret (v := 1) hx hb hr (by decide) (fun t ht hW => by rw [← hQe]; exact ⟨⟨1, (), rfl, (by decide), z_ret hP hK hD ht hW [] [] rfl (by decide) rfl⟩, hS.F ht⟩) hS.2.2 dX9_has_13
set_option maxHeartbeats 4000000 in
set_option maxRecDepth 100000 in
theorem k_X7_hasCourt (l : Launch) (sa : Nat → Nat) (dC : Nat → ClassId) (dI : Nat → Nat → Nat) (tn : Nat) (p1 : Int32) (tn_hours : Int32) (tn_courts : Int32) (tn_gateCount : Int32) (tn_people : Int32) (tn_lines : Int32) (tn_falseHours : Int32) (tn_strayers : Int32) (tn_deep : Int32) (tn_above : Nat) (tn_doors : Nat) (tn_degrees : Nat) (tn_neighbours : Nat) (tn_shows : Nat) (tn_oneEnd : Nat) (tn_otherEnd : Nat) (tn_told : Nat) (tn_strayParts : Nat) (tn_strayCourts : Nat) (b_tn_hours : 0 ≤ tn_hours.toInt ∧ tn_hours.toInt ≤ 48) (b_tn_courts : 0 ≤ tn_courts.toInt ∧ tn_courts.toInt ≤ 10) (b_tn_gateCount : 0 ≤ tn_gateCount.toInt ∧ tn_gateCount.toInt ≤ 16) (b_tn_people : 0 ≤ tn_people.toInt ∧ tn_people.toInt ≤ 10) (b_tn_falseHours : 0 ≤ tn_falseHours.toInt ∧ tn_falseHours.toInt ≤ 9) (b_tn_deep : 0 ≤ tn_deep.toInt ∧ tn_deep.toInt ≤ 1) (sz : Nat) : Met l yX7_hasCourt (.code yX7_hasCourt cX7_hasCourt 2 (some .boolean) :: zT) ({ frames := 0, cells := 0, slots := 0, locals := 0 }) (va_Pc [.ref tn, .int p1] (zB sa dC dI (zV1 tn tn_hours tn_courts tn_gateCount tn_people tn_lines tn_falseHours tn_strayers tn_deep tn_above tn_doors tn_degrees tn_neighbours tn_shows tn_oneEnd tn_otherEnd tn_told tn_strayParts tn_strayCourts) [] sz)) (va_Qi (fun (r : Int32) (_ : Unit) => (0 ≤ r.toInt ∧ r.toInt ≤ 1) ∧ (r.toInt = 0 ∨ (0 ≤ p1.toInt ∧ p1.toInt ≤ 9))) (fun _ t => zW dC dI (zV1 tn tn_hours tn_courts tn_gateCount tn_people tn_lines tn_falseHours tn_strayers tn_deep tn_above tn_doors tn_degrees tn_neighbours tn_shows tn_oneEnd tn_otherEnd tn_told tn_strayParts tn_strayCourts) [] (va_A (zV1 tn tn_hours tn_courts tn_gateCount tn_people tn_lines tn_falseHours tn_strayers tn_deep tn_above tn_doors tn_degrees tn_neighbours tn_shows tn_oneEnd tn_otherEnd tn_told tn_strayParts tn_strayCourts) sz) t) (va_A (zV1 tn tn_hours tn_courts tn_gateCount tn_people tn_lines tn_falseHours tn_strayers tn_deep tn_above tn_doors tn_degrees tn_neighbours tn_shows tn_oneEnd tn_otherEnd tn_told tn_strayParts tn_strayCourts) sz)) 0 0 (va_A (zV1 tn tn_hours tn_courts tn_gateCount tn_people tn_lines tn_falseHours tn_strayers tn_deep tn_above tn_doors tn_degrees tn_neighbours tn_shows tn_oneEnd tn_otherEnd tn_told tn_strayParts tn_strayCourts) sz) := by
  refine z_enter (by decide) (by exact (Nat.le_of_ble_eq_true rfl)) ?_
  intro p e s m args below meth c ls A R Qc hargs hsz hQe hAe hRe hx hb hml hr hts hown hlocks hin hl hP hK hD hN hXs hA hS
  rw [hAe] at hQe
  have hown : s.vm.findClass RX7 = some m.cls := hown
  have hl : lv_has ls 2 [(0, .ref tn), (1, .int p1)] := hl
  refine lv_iload_n hx hb dX7_hasCourt_0 rfl (lv_at hl 1 rfl) ?_
  have nb_p1 := zi_nb p1
  refine lv_if_lt (tgt := 16) hx hb dX7_hasCourt_1 (by decide) (fun c_1 => ?_) (fun c_1 => ?_)
  · have ic_1 := zz_lt rfl (show Int32.toInt 0 = 0 from by decide) c_1
    refine lv_iconst (v := 0) hx hb dX7_hasCourt_16 (by decide) ?_
    have zc : Int32.toInt 0 = 0 := by decide
    exact W.zret (v := 0) hx hb hr (by decide) (fun t ht hW => by rw [← hQe]; exact ⟨⟨0, (), rfl, (by first | decide | omega), z_ret hP hK hD ht hW [0] [] rfl (by decide) rfl⟩, hS.F ht⟩) hS.2.2 dX7_hasCourt_17
  · have ic_1 := zz_nlt rfl (show Int32.toInt 0 = 0 from by decide) c_1
    refine lv_iload_n hx hb dX7_hasCourt_4 rfl (lv_at hl 1 rfl) ?_
    refine lv_aload_n hx hb dX7_hasCourt_5 rfl (lv_at hl 0 rfl) ?_
    refine va_get (D := (dC, dI)) (ci := 7) (v := .int tn_courts) (C := RX7) (T := TX7) (N := 18) hx hb hts zl_X7 hown hK hP 0 rfl rfl 1 (by decide) (hts _ zw_t1_47) (fun _ h9 => h9) rfl dX7_hasCourt_6 ?_
    refine lv_icmp_ge (tgt := 16) hx hb dX7_hasCourt_9 (by decide) (fun c_2 => ?_) (fun c_2 => ?_)
    · have ic_2 := zz_ge rfl rfl c_2
      refine lv_iconst (v := 0) hx hb dX7_hasCourt_16 (by decide) ?_
      have zc : Int32.toInt 0 = 0 := by decide
      exact W.zret (v := 0) hx hb hr (by decide) (fun t ht hW => by rw [← hQe]; exact ⟨⟨0, (), rfl, (by first | decide | omega), z_ret hP hK hD ht hW [0] [] rfl (by decide) rfl⟩, hS.F ht⟩) hS.2.2 dX7_hasCourt_17
    · have ic_2 := zz_nge rfl rfl c_2
      refine lv_iconst (v := 1) hx hb dX7_hasCourt_12 (by decide) ?_
      refine lv_goto (tgt := 17) hx hb dX7_hasCourt_13 (by decide) ?_
      have zc : Int32.toInt 1 = 1 := by decide
      exact W.zret (v := 1) hx hb hr (by decide) (fun t ht hW => by rw [← hQe]; exact ⟨⟨1, (), rfl, (by first | decide | omega), z_ret hP hK hD ht hW [0] [] rfl (by decide) rfl⟩, hS.F ht⟩) hS.2.2 dX7_hasCourt_17
set_option maxHeartbeats 4000000 in
set_option maxRecDepth 100000 in
theorem k_X7_hasHour (l : Launch) (sa : Nat → Nat) (dC : Nat → ClassId) (dI : Nat → Nat → Nat) (tn : Nat) (p1 : Int32) (tn_hours : Int32) (tn_courts : Int32) (tn_gateCount : Int32) (tn_people : Int32) (tn_lines : Int32) (tn_falseHours : Int32) (tn_strayers : Int32) (tn_deep : Int32) (tn_above : Nat) (tn_doors : Nat) (tn_degrees : Nat) (tn_neighbours : Nat) (tn_shows : Nat) (tn_oneEnd : Nat) (tn_otherEnd : Nat) (tn_told : Nat) (tn_strayParts : Nat) (tn_strayCourts : Nat) (b_tn_hours : 0 ≤ tn_hours.toInt ∧ tn_hours.toInt ≤ 48) (b_tn_courts : 0 ≤ tn_courts.toInt ∧ tn_courts.toInt ≤ 10) (b_tn_gateCount : 0 ≤ tn_gateCount.toInt ∧ tn_gateCount.toInt ≤ 16) (b_tn_people : 0 ≤ tn_people.toInt ∧ tn_people.toInt ≤ 10) (b_tn_falseHours : 0 ≤ tn_falseHours.toInt ∧ tn_falseHours.toInt ≤ 9) (b_tn_deep : 0 ≤ tn_deep.toInt ∧ tn_deep.toInt ≤ 1) (sz : Nat) : Met l yX7_hasHour (.code yX7_hasHour cX7_hasHour 2 (some .boolean) :: zT) ({ frames := 0, cells := 0, slots := 0, locals := 0 }) (va_Pc [.ref tn, .int p1] (zB sa dC dI (zV1 tn tn_hours tn_courts tn_gateCount tn_people tn_lines tn_falseHours tn_strayers tn_deep tn_above tn_doors tn_degrees tn_neighbours tn_shows tn_oneEnd tn_otherEnd tn_told tn_strayParts tn_strayCourts) [] sz)) (va_Qi (fun (r : Int32) (_ : Unit) => (0 ≤ r.toInt ∧ r.toInt ≤ 1) ∧ (r.toInt = 0 ∨ (0 ≤ p1.toInt ∧ p1.toInt ≤ 47))) (fun _ t => zW dC dI (zV1 tn tn_hours tn_courts tn_gateCount tn_people tn_lines tn_falseHours tn_strayers tn_deep tn_above tn_doors tn_degrees tn_neighbours tn_shows tn_oneEnd tn_otherEnd tn_told tn_strayParts tn_strayCourts) [] (va_A (zV1 tn tn_hours tn_courts tn_gateCount tn_people tn_lines tn_falseHours tn_strayers tn_deep tn_above tn_doors tn_degrees tn_neighbours tn_shows tn_oneEnd tn_otherEnd tn_told tn_strayParts tn_strayCourts) sz) t) (va_A (zV1 tn tn_hours tn_courts tn_gateCount tn_people tn_lines tn_falseHours tn_strayers tn_deep tn_above tn_doors tn_degrees tn_neighbours tn_shows tn_oneEnd tn_otherEnd tn_told tn_strayParts tn_strayCourts) sz)) 0 0 (va_A (zV1 tn tn_hours tn_courts tn_gateCount tn_people tn_lines tn_falseHours tn_strayers tn_deep tn_above tn_doors tn_degrees tn_neighbours tn_shows tn_oneEnd tn_otherEnd tn_told tn_strayParts tn_strayCourts) sz) := by
  refine z_enter (by decide) (by exact (Nat.le_of_ble_eq_true rfl)) ?_
  intro p e s m args below meth c ls A R Qc hargs hsz hQe hAe hRe hx hb hml hr hts hown hlocks hin hl hP hK hD hN hXs hA hS
  rw [hAe] at hQe
  have hown : s.vm.findClass RX7 = some m.cls := hown
  have hl : lv_has ls 2 [(0, .ref tn), (1, .int p1)] := hl
  refine lv_iload_n hx hb dX7_hasHour_0 rfl (lv_at hl 1 rfl) ?_
  have nb_p1 := zi_nb p1
  refine lv_if_lt (tgt := 16) hx hb dX7_hasHour_1 (by decide) (fun c_1 => ?_) (fun c_1 => ?_)
  · have ic_1 := zz_lt rfl (show Int32.toInt 0 = 0 from by decide) c_1
    refine lv_iconst (v := 0) hx hb dX7_hasHour_16 (by decide) ?_
    have zc : Int32.toInt 0 = 0 := by decide
    exact W.zret (v := 0) hx hb hr (by decide) (fun t ht hW => by rw [← hQe]; exact ⟨⟨0, (), rfl, (by first | decide | omega), z_ret hP hK hD ht hW [0] [] rfl (by decide) rfl⟩, hS.F ht⟩) hS.2.2 dX7_hasHour_17
  · have ic_1 := zz_nlt rfl (show Int32.toInt 0 = 0 from by decide) c_1
    refine lv_iload_n hx hb dX7_hasHour_4 rfl (lv_at hl 1 rfl) ?_
    refine lv_aload_n hx hb dX7_hasHour_5 rfl (lv_at hl 0 rfl) ?_
    refine va_get (D := (dC, dI)) (ci := 7) (v := .int tn_hours) (C := RX7) (T := TX7) (N := 18) hx hb hts zl_X7 hown hK hP 0 rfl rfl 0 (by decide) (hts _ zw_t1_42) (fun _ h9 => h9) rfl dX7_hasHour_6 ?_
    refine lv_icmp_ge (tgt := 16) hx hb dX7_hasHour_9 (by decide) (fun c_2 => ?_) (fun c_2 => ?_)
    · have ic_2 := zz_ge rfl rfl c_2
      refine lv_iconst (v := 0) hx hb dX7_hasHour_16 (by decide) ?_
      have zc : Int32.toInt 0 = 0 := by decide
      exact W.zret (v := 0) hx hb hr (by decide) (fun t ht hW => by rw [← hQe]; exact ⟨⟨0, (), rfl, (by first | decide | omega), z_ret hP hK hD ht hW [0] [] rfl (by decide) rfl⟩, hS.F ht⟩) hS.2.2 dX7_hasHour_17
    · have ic_2 := zz_nge rfl rfl c_2
      refine lv_iconst (v := 1) hx hb dX7_hasHour_12 (by decide) ?_
      refine lv_goto (tgt := 17) hx hb dX7_hasHour_13 (by decide) ?_
      have zc : Int32.toInt 1 = 1 := by decide
      exact W.zret (v := 1) hx hb hr (by decide) (fun t ht hW => by rw [← hQe]; exact ⟨⟨1, (), rfl, (by first | decide | omega), z_ret hP hK hD ht hW [0] [] rfl (by decide) rfl⟩, hS.F ht⟩) hS.2.2 dX7_hasHour_17
set_option maxHeartbeats 4000000 in
set_option maxRecDepth 100000 in
theorem k_X7_hasGate (l : Launch) (sa : Nat → Nat) (dC : Nat → ClassId) (dI : Nat → Nat → Nat) (tn : Nat) (p1 : Int32) (tn_hours : Int32) (tn_courts : Int32) (tn_gateCount : Int32) (tn_people : Int32) (tn_lines : Int32) (tn_falseHours : Int32) (tn_strayers : Int32) (tn_deep : Int32) (tn_above : Nat) (tn_doors : Nat) (tn_degrees : Nat) (tn_neighbours : Nat) (tn_shows : Nat) (tn_oneEnd : Nat) (tn_otherEnd : Nat) (tn_told : Nat) (tn_strayParts : Nat) (tn_strayCourts : Nat) (b_tn_hours : 0 ≤ tn_hours.toInt ∧ tn_hours.toInt ≤ 48) (b_tn_courts : 0 ≤ tn_courts.toInt ∧ tn_courts.toInt ≤ 10) (b_tn_gateCount : 0 ≤ tn_gateCount.toInt ∧ tn_gateCount.toInt ≤ 16) (b_tn_people : 0 ≤ tn_people.toInt ∧ tn_people.toInt ≤ 10) (b_tn_falseHours : 0 ≤ tn_falseHours.toInt ∧ tn_falseHours.toInt ≤ 9) (b_tn_deep : 0 ≤ tn_deep.toInt ∧ tn_deep.toInt ≤ 1) (sz : Nat) : Met l yX7_hasGate (.code yX7_hasGate cX7_hasGate 2 (some .boolean) :: zT) ({ frames := 0, cells := 0, slots := 0, locals := 0 }) (va_Pc [.ref tn, .int p1] (zB sa dC dI (zV1 tn tn_hours tn_courts tn_gateCount tn_people tn_lines tn_falseHours tn_strayers tn_deep tn_above tn_doors tn_degrees tn_neighbours tn_shows tn_oneEnd tn_otherEnd tn_told tn_strayParts tn_strayCourts) [] sz)) (va_Qi (fun (r : Int32) (_ : Unit) => (0 ≤ r.toInt ∧ r.toInt ≤ 1) ∧ (r.toInt = 0 ∨ (0 ≤ p1.toInt ∧ p1.toInt ≤ 15))) (fun _ t => zW dC dI (zV1 tn tn_hours tn_courts tn_gateCount tn_people tn_lines tn_falseHours tn_strayers tn_deep tn_above tn_doors tn_degrees tn_neighbours tn_shows tn_oneEnd tn_otherEnd tn_told tn_strayParts tn_strayCourts) [] (va_A (zV1 tn tn_hours tn_courts tn_gateCount tn_people tn_lines tn_falseHours tn_strayers tn_deep tn_above tn_doors tn_degrees tn_neighbours tn_shows tn_oneEnd tn_otherEnd tn_told tn_strayParts tn_strayCourts) sz) t) (va_A (zV1 tn tn_hours tn_courts tn_gateCount tn_people tn_lines tn_falseHours tn_strayers tn_deep tn_above tn_doors tn_degrees tn_neighbours tn_shows tn_oneEnd tn_otherEnd tn_told tn_strayParts tn_strayCourts) sz)) 0 0 (va_A (zV1 tn tn_hours tn_courts tn_gateCount tn_people tn_lines tn_falseHours tn_strayers tn_deep tn_above tn_doors tn_degrees tn_neighbours tn_shows tn_oneEnd tn_otherEnd tn_told tn_strayParts tn_strayCourts) sz) := by
  refine z_enter (by decide) (by exact (Nat.le_of_ble_eq_true rfl)) ?_
  intro p e s m args below meth c ls A R Qc hargs hsz hQe hAe hRe hx hb hml hr hts hown hlocks hin hl hP hK hD hN hXs hA hS
  rw [hAe] at hQe
  have hown : s.vm.findClass RX7 = some m.cls := hown
  have hl : lv_has ls 2 [(0, .ref tn), (1, .int p1)] := hl
  refine lv_iload_n hx hb dX7_hasGate_0 rfl (lv_at hl 1 rfl) ?_
  have nb_p1 := zi_nb p1
  refine lv_if_lt (tgt := 16) hx hb dX7_hasGate_1 (by decide) (fun c_1 => ?_) (fun c_1 => ?_)
  · have ic_1 := zz_lt rfl (show Int32.toInt 0 = 0 from by decide) c_1
    refine lv_iconst (v := 0) hx hb dX7_hasGate_16 (by decide) ?_
    have zc : Int32.toInt 0 = 0 := by decide
    exact W.zret (v := 0) hx hb hr (by decide) (fun t ht hW => by rw [← hQe]; exact ⟨⟨0, (), rfl, (by first | decide | omega), z_ret hP hK hD ht hW [0] [] rfl (by decide) rfl⟩, hS.F ht⟩) hS.2.2 dX7_hasGate_17
  · have ic_1 := zz_nlt rfl (show Int32.toInt 0 = 0 from by decide) c_1
    refine lv_iload_n hx hb dX7_hasGate_4 rfl (lv_at hl 1 rfl) ?_
    refine lv_aload_n hx hb dX7_hasGate_5 rfl (lv_at hl 0 rfl) ?_
    refine va_get (D := (dC, dI)) (ci := 7) (v := .int tn_gateCount) (C := RX7) (T := TX7) (N := 18) hx hb hts zl_X7 hown hK hP 0 rfl rfl 2 (by decide) (hts _ zw_t1_55) (fun _ h9 => h9) rfl dX7_hasGate_6 ?_
    refine lv_icmp_ge (tgt := 16) hx hb dX7_hasGate_9 (by decide) (fun c_2 => ?_) (fun c_2 => ?_)
    · have ic_2 := zz_ge rfl rfl c_2
      refine lv_iconst (v := 0) hx hb dX7_hasGate_16 (by decide) ?_
      have zc : Int32.toInt 0 = 0 := by decide
      exact W.zret (v := 0) hx hb hr (by decide) (fun t ht hW => by rw [← hQe]; exact ⟨⟨0, (), rfl, (by first | decide | omega), z_ret hP hK hD ht hW [0] [] rfl (by decide) rfl⟩, hS.F ht⟩) hS.2.2 dX7_hasGate_17
    · have ic_2 := zz_nge rfl rfl c_2
      refine lv_iconst (v := 1) hx hb dX7_hasGate_12 (by decide) ?_
      refine lv_goto (tgt := 17) hx hb dX7_hasGate_13 (by decide) ?_
      have zc : Int32.toInt 1 = 1 := by decide
      exact W.zret (v := 1) hx hb hr (by decide) (fun t ht hW => by rw [← hQe]; exact ⟨⟨1, (), rfl, (by first | decide | omega), z_ret hP hK hD ht hW [0] [] rfl (by decide) rfl⟩, hS.F ht⟩) hS.2.2 dX7_hasGate_17
set_option maxHeartbeats 4000000 in
set_option maxRecDepth 100000 in
theorem k_X7_hasPerson (l : Launch) (sa : Nat → Nat) (dC : Nat → ClassId) (dI : Nat → Nat → Nat) (tn : Nat) (p1 : Int32) (tn_hours : Int32) (tn_courts : Int32) (tn_gateCount : Int32) (tn_people : Int32) (tn_lines : Int32) (tn_falseHours : Int32) (tn_strayers : Int32) (tn_deep : Int32) (tn_above : Nat) (tn_doors : Nat) (tn_degrees : Nat) (tn_neighbours : Nat) (tn_shows : Nat) (tn_oneEnd : Nat) (tn_otherEnd : Nat) (tn_told : Nat) (tn_strayParts : Nat) (tn_strayCourts : Nat) (b_tn_hours : 0 ≤ tn_hours.toInt ∧ tn_hours.toInt ≤ 48) (b_tn_courts : 0 ≤ tn_courts.toInt ∧ tn_courts.toInt ≤ 10) (b_tn_gateCount : 0 ≤ tn_gateCount.toInt ∧ tn_gateCount.toInt ≤ 16) (b_tn_people : 0 ≤ tn_people.toInt ∧ tn_people.toInt ≤ 10) (b_tn_falseHours : 0 ≤ tn_falseHours.toInt ∧ tn_falseHours.toInt ≤ 9) (b_tn_deep : 0 ≤ tn_deep.toInt ∧ tn_deep.toInt ≤ 1) (sz : Nat) : Met l yX7_hasPerson (.code yX7_hasPerson cX7_hasPerson 2 (some .boolean) :: zT) ({ frames := 0, cells := 0, slots := 0, locals := 0 }) (va_Pc [.ref tn, .int p1] (zB sa dC dI (zV1 tn tn_hours tn_courts tn_gateCount tn_people tn_lines tn_falseHours tn_strayers tn_deep tn_above tn_doors tn_degrees tn_neighbours tn_shows tn_oneEnd tn_otherEnd tn_told tn_strayParts tn_strayCourts) [] sz)) (va_Qi (fun (r : Int32) (_ : Unit) => (0 ≤ r.toInt ∧ r.toInt ≤ 1) ∧ (r.toInt = 0 ∨ (0 ≤ p1.toInt ∧ p1.toInt ≤ 9))) (fun _ t => zW dC dI (zV1 tn tn_hours tn_courts tn_gateCount tn_people tn_lines tn_falseHours tn_strayers tn_deep tn_above tn_doors tn_degrees tn_neighbours tn_shows tn_oneEnd tn_otherEnd tn_told tn_strayParts tn_strayCourts) [] (va_A (zV1 tn tn_hours tn_courts tn_gateCount tn_people tn_lines tn_falseHours tn_strayers tn_deep tn_above tn_doors tn_degrees tn_neighbours tn_shows tn_oneEnd tn_otherEnd tn_told tn_strayParts tn_strayCourts) sz) t) (va_A (zV1 tn tn_hours tn_courts tn_gateCount tn_people tn_lines tn_falseHours tn_strayers tn_deep tn_above tn_doors tn_degrees tn_neighbours tn_shows tn_oneEnd tn_otherEnd tn_told tn_strayParts tn_strayCourts) sz)) 0 0 (va_A (zV1 tn tn_hours tn_courts tn_gateCount tn_people tn_lines tn_falseHours tn_strayers tn_deep tn_above tn_doors tn_degrees tn_neighbours tn_shows tn_oneEnd tn_otherEnd tn_told tn_strayParts tn_strayCourts) sz) := by
  refine z_enter (by decide) (by exact (Nat.le_of_ble_eq_true rfl)) ?_
  intro p e s m args below meth c ls A R Qc hargs hsz hQe hAe hRe hx hb hml hr hts hown hlocks hin hl hP hK hD hN hXs hA hS
  rw [hAe] at hQe
  have hown : s.vm.findClass RX7 = some m.cls := hown
  have hl : lv_has ls 2 [(0, .ref tn), (1, .int p1)] := hl
  refine lv_iload_n hx hb dX7_hasPerson_0 rfl (lv_at hl 1 rfl) ?_
  have nb_p1 := zi_nb p1
  refine lv_if_lt (tgt := 16) hx hb dX7_hasPerson_1 (by decide) (fun c_1 => ?_) (fun c_1 => ?_)
  · have ic_1 := zz_lt rfl (show Int32.toInt 0 = 0 from by decide) c_1
    refine lv_iconst (v := 0) hx hb dX7_hasPerson_16 (by decide) ?_
    have zc : Int32.toInt 0 = 0 := by decide
    exact W.zret (v := 0) hx hb hr (by decide) (fun t ht hW => by rw [← hQe]; exact ⟨⟨0, (), rfl, (by first | decide | omega), z_ret hP hK hD ht hW [0] [] rfl (by decide) rfl⟩, hS.F ht⟩) hS.2.2 dX7_hasPerson_17
  · have ic_1 := zz_nlt rfl (show Int32.toInt 0 = 0 from by decide) c_1
    refine lv_iload_n hx hb dX7_hasPerson_4 rfl (lv_at hl 1 rfl) ?_
    refine lv_aload_n hx hb dX7_hasPerson_5 rfl (lv_at hl 0 rfl) ?_
    refine va_get (D := (dC, dI)) (ci := 7) (v := .int tn_people) (C := RX7) (T := TX7) (N := 18) hx hb hts zl_X7 hown hK hP 0 rfl rfl 3 (by decide) (hts _ zw_t1_62) (fun _ h9 => h9) rfl dX7_hasPerson_6 ?_
    refine lv_icmp_ge (tgt := 16) hx hb dX7_hasPerson_9 (by decide) (fun c_2 => ?_) (fun c_2 => ?_)
    · have ic_2 := zz_ge rfl rfl c_2
      refine lv_iconst (v := 0) hx hb dX7_hasPerson_16 (by decide) ?_
      have zc : Int32.toInt 0 = 0 := by decide
      exact W.zret (v := 0) hx hb hr (by decide) (fun t ht hW => by rw [← hQe]; exact ⟨⟨0, (), rfl, (by first | decide | omega), z_ret hP hK hD ht hW [0] [] rfl (by decide) rfl⟩, hS.F ht⟩) hS.2.2 dX7_hasPerson_17
    · have ic_2 := zz_nge rfl rfl c_2
      refine lv_iconst (v := 1) hx hb dX7_hasPerson_12 (by decide) ?_
      refine lv_goto (tgt := 17) hx hb dX7_hasPerson_13 (by decide) ?_
      have zc : Int32.toInt 1 = 1 := by decide
      exact W.zret (v := 1) hx hb hr (by decide) (fun t ht hW => by rw [← hQe]; exact ⟨⟨1, (), rfl, (by first | decide | omega), z_ret hP hK hD ht hW [0] [] rfl (by decide) rfl⟩, hS.F ht⟩) hS.2.2 dX7_hasPerson_17
set_option maxHeartbeats 4000000 in
set_option maxRecDepth 100000 in
theorem k_X7_hasAll (l : Launch) (sa : Nat → Nat) (dC : Nat → ClassId) (dI : Nat → Nat → Nat) (tn : Nat) (p1 : Int32) (tn_hours : Int32) (tn_courts : Int32) (tn_gateCount : Int32) (tn_people : Int32) (tn_lines : Int32) (tn_falseHours : Int32) (tn_strayers : Int32) (tn_deep : Int32) (tn_above : Nat) (tn_doors : Nat) (tn_degrees : Nat) (tn_neighbours : Nat) (tn_shows : Nat) (tn_oneEnd : Nat) (tn_otherEnd : Nat) (tn_told : Nat) (tn_strayParts : Nat) (tn_strayCourts : Nat) (b_tn_hours : 0 ≤ tn_hours.toInt ∧ tn_hours.toInt ≤ 48) (b_tn_courts : 0 ≤ tn_courts.toInt ∧ tn_courts.toInt ≤ 10) (b_tn_gateCount : 0 ≤ tn_gateCount.toInt ∧ tn_gateCount.toInt ≤ 16) (b_tn_people : 0 ≤ tn_people.toInt ∧ tn_people.toInt ≤ 10) (b_tn_falseHours : 0 ≤ tn_falseHours.toInt ∧ tn_falseHours.toInt ≤ 9) (b_tn_deep : 0 ≤ tn_deep.toInt ∧ tn_deep.toInt ≤ 1) (sz : Nat) : Met l yX7_hasAll (.code yX7_hasAll cX7_hasAll 2 (some .boolean) :: zT) ({ frames := 0, cells := 0, slots := 0, locals := 0 }) (va_Pc [.ref tn, .int p1] (zB sa dC dI (zV1 tn tn_hours tn_courts tn_gateCount tn_people tn_lines tn_falseHours tn_strayers tn_deep tn_above tn_doors tn_degrees tn_neighbours tn_shows tn_oneEnd tn_otherEnd tn_told tn_strayParts tn_strayCourts) [] sz)) (va_Qi (fun (r : Int32) (_ : Unit) => (0 ≤ r.toInt ∧ r.toInt ≤ 1) ∧ (r.toInt = 0 ∨ (0 ≤ p1.toInt ∧ p1.toInt ≤ 1023))) (fun _ t => zW dC dI (zV1 tn tn_hours tn_courts tn_gateCount tn_people tn_lines tn_falseHours tn_strayers tn_deep tn_above tn_doors tn_degrees tn_neighbours tn_shows tn_oneEnd tn_otherEnd tn_told tn_strayParts tn_strayCourts) [] (va_A (zV1 tn tn_hours tn_courts tn_gateCount tn_people tn_lines tn_falseHours tn_strayers tn_deep tn_above tn_doors tn_degrees tn_neighbours tn_shows tn_oneEnd tn_otherEnd tn_told tn_strayParts tn_strayCourts) sz) t) (va_A (zV1 tn tn_hours tn_courts tn_gateCount tn_people tn_lines tn_falseHours tn_strayers tn_deep tn_above tn_doors tn_degrees tn_neighbours tn_shows tn_oneEnd tn_otherEnd tn_told tn_strayParts tn_strayCourts) sz)) 0 0 (va_A (zV1 tn tn_hours tn_courts tn_gateCount tn_people tn_lines tn_falseHours tn_strayers tn_deep tn_above tn_doors tn_degrees tn_neighbours tn_shows tn_oneEnd tn_otherEnd tn_told tn_strayParts tn_strayCourts) sz) := by
  refine z_enter (by decide) (by exact (Nat.le_of_ble_eq_true rfl)) ?_
  intro p e s m args below meth c ls A R Qc hargs hsz hQe hAe hRe hx hb hml hr hts hown hlocks hin hl hP hK hD hN hXs hA hS
  rw [hAe] at hQe
  have hown : s.vm.findClass RX7 = some m.cls := hown
  have hl : lv_has ls 2 [(0, .ref tn), (1, .int p1)] := hl
  refine lv_iload_n hx hb dX7_hasAll_0 rfl (lv_at hl 1 rfl) ?_
  have nb_p1 := zi_nb p1
  refine lv_if_lt (tgt := 18) hx hb dX7_hasAll_1 (by decide) (fun c_1 => ?_) (fun c_1 => ?_)
  · have ic_1 := zz_lt rfl (show Int32.toInt 0 = 0 from by decide) c_1
    refine lv_iconst (v := 0) hx hb dX7_hasAll_18 (by decide) ?_
    have zc : Int32.toInt 0 = 0 := by decide
    exact W.zret (v := 0) hx hb hr (by decide) (fun t ht hW => by rw [← hQe]; exact ⟨⟨0, (), rfl, (by first | decide | omega), z_ret hP hK hD ht hW [0] [] rfl (by decide) rfl⟩, hS.F ht⟩) hS.2.2 dX7_hasAll_19
  · have ic_1 := zz_nlt rfl (show Int32.toInt 0 = 0 from by decide) c_1
    refine lv_iload_n hx hb dX7_hasAll_4 rfl (lv_at hl 1 rfl) ?_
    refine lv_iconst (v := 1) hx hb dX7_hasAll_5 (by decide) ?_
    refine lv_aload_n hx hb dX7_hasAll_6 rfl (lv_at hl 0 rfl) ?_
    refine va_get (D := (dC, dI)) (ci := 7) (v := .int tn_people) (C := RX7) (T := TX7) (N := 18) hx hb hts zl_X7 hown hK hP 0 rfl rfl 3 (by decide) (hts _ zw_t1_62) (fun _ h9 => h9) rfl dX7_hasAll_7 ?_
    refine lv_ishl hx hb dX7_hasAll_10 ?_
    refine lv_topi (fun x_2 ex_2 => ?_)
    have b_x_2 : 1 ≤ x_2.toInt ∧ x_2.toInt ≤ 1024 := by rw [ex_2]; exact zi_shl1 rfl (by first | with_reducible assumption | omega)
    refine lv_icmp_ge (tgt := 18) hx hb dX7_hasAll_11 (by decide) (fun c_3 => ?_) (fun c_3 => ?_)
    · have ic_3 := zz_ge rfl rfl c_3
      refine lv_iconst (v := 0) hx hb dX7_hasAll_18 (by decide) ?_
      have zc : Int32.toInt 0 = 0 := by decide
      exact W.zret (v := 0) hx hb hr (by decide) (fun t ht hW => by rw [← hQe]; exact ⟨⟨0, (), rfl, (by first | decide | omega), z_ret hP hK hD ht hW [0] [] rfl (by decide) rfl⟩, hS.F ht⟩) hS.2.2 dX7_hasAll_19
    · have ic_3 := zz_nge rfl rfl c_3
      refine lv_iconst (v := 1) hx hb dX7_hasAll_14 (by decide) ?_
      refine lv_goto (tgt := 19) hx hb dX7_hasAll_15 (by decide) ?_
      have zc : Int32.toInt 1 = 1 := by decide
      exact W.zret (v := 1) hx hb hr (by decide) (fun t ht hW => by rw [← hQe]; exact ⟨⟨1, (), rfl, (by first | decide | omega), z_ret hP hK hD ht hW [0] [] rfl (by decide) rfl⟩, hS.F ht⟩) hS.2.2 dX7_hasAll_19
set_option maxHeartbeats 4000000 in
set_option maxRecDepth 100000 in
theorem k_X7_hasPassage (l : Launch) (sa : Nat → Nat) (dC : Nat → ClassId) (dI : Nat → Nat → Nat) (tn : Nat) (p1 : Int32) (p2 : Int32) (p3 : Int32) (tn_hours : Int32) (tn_courts : Int32) (tn_gateCount : Int32) (tn_people : Int32) (tn_lines : Int32) (tn_falseHours : Int32) (tn_strayers : Int32) (tn_deep : Int32) (tn_above : Nat) (tn_doors : Nat) (tn_degrees : Nat) (tn_neighbours : Nat) (tn_shows : Nat) (tn_oneEnd : Nat) (tn_otherEnd : Nat) (tn_told : Nat) (tn_strayParts : Nat) (tn_strayCourts : Nat) (b_tn_hours : 0 ≤ tn_hours.toInt ∧ tn_hours.toInt ≤ 48) (b_tn_courts : 0 ≤ tn_courts.toInt ∧ tn_courts.toInt ≤ 10) (b_tn_gateCount : 0 ≤ tn_gateCount.toInt ∧ tn_gateCount.toInt ≤ 16) (b_tn_people : 0 ≤ tn_people.toInt ∧ tn_people.toInt ≤ 10) (b_tn_falseHours : 0 ≤ tn_falseHours.toInt ∧ tn_falseHours.toInt ≤ 9) (b_tn_deep : 0 ≤ tn_deep.toInt ∧ tn_deep.toInt ≤ 1) (sz : Nat) : Met l yX7_hasPassage (.code yX7_hasPassage cX7_hasPassage 4 (some .boolean) :: zT) ({ frames := 1, cells := 0, slots := 0, locals := 21 }) (va_Pc [.ref tn, .int p1, .int p2, .int p3] (zB sa dC dI (zV1 tn tn_hours tn_courts tn_gateCount tn_people tn_lines tn_falseHours tn_strayers tn_deep tn_above tn_doors tn_degrees tn_neighbours tn_shows tn_oneEnd tn_otherEnd tn_told tn_strayParts tn_strayCourts) [] sz)) (va_Qi (fun (r : Int32) (_ : Unit) => (0 ≤ r.toInt ∧ r.toInt ≤ 1) ∧ (r.toInt = 0 ∨ (0 ≤ p1.toInt ∧ p1.toInt ≤ 15 ∧ 0 ≤ p2.toInt ∧ p2.toInt ≤ 9 ∧ 0 ≤ p3.toInt ∧ p3.toInt ≤ 47))) (fun _ t => zW dC dI (zV1 tn tn_hours tn_courts tn_gateCount tn_people tn_lines tn_falseHours tn_strayers tn_deep tn_above tn_doors tn_degrees tn_neighbours tn_shows tn_oneEnd tn_otherEnd tn_told tn_strayParts tn_strayCourts) [] (va_A (zV1 tn tn_hours tn_courts tn_gateCount tn_people tn_lines tn_falseHours tn_strayers tn_deep tn_above tn_doors tn_degrees tn_neighbours tn_shows tn_oneEnd tn_otherEnd tn_told tn_strayParts tn_strayCourts) sz) t) (va_A (zV1 tn tn_hours tn_courts tn_gateCount tn_people tn_lines tn_falseHours tn_strayers tn_deep tn_above tn_doors tn_degrees tn_neighbours tn_shows tn_oneEnd tn_otherEnd tn_told tn_strayParts tn_strayCourts) sz)) 0 0 (va_A (zV1 tn tn_hours tn_courts tn_gateCount tn_people tn_lines tn_falseHours tn_strayers tn_deep tn_above tn_doors tn_degrees tn_neighbours tn_shows tn_oneEnd tn_otherEnd tn_told tn_strayParts tn_strayCourts) sz) := by
  refine z_enter (by decide) (by exact (Nat.le_of_ble_eq_true rfl)) ?_
  intro p e s m args below meth c ls A R Qc hargs hsz hQe hAe hRe hx hb hml hr hts hown hlocks hin hl hP hK hD hN hXs hA hS
  rw [hAe] at hQe
  have hown : s.vm.findClass RX7 = some m.cls := hown
  have hl : lv_has ls 4 [(0, .ref tn), (1, .int p1), (2, .int p2), (3, .int p3)] := hl
  refine lv_aload_n hx hb dX7_hasPassage_0 rfl (lv_at hl 0 rfl) ?_
  refine lv_iload_n hx hb dX7_hasPassage_1 rfl (lv_at hl 1 rfl) ?_
  obtain ⟨hPc, hDc, hFc⟩ := z_cut (wc := (zV1 tn tn_hours tn_courts tn_gateCount tn_people tn_lines tn_falseHours tn_strayers tn_deep tn_above tn_doors tn_degrees tn_neighbours tn_shows tn_oneEnd tn_otherEnd tn_told tn_strayParts tn_strayCourts)) hP hD hS hA [0] rfl (by decide +kernel)
  have hKc := hK.sub (tys' := []) [] rfl
  refine va_calli (va_runV (As := [.int p1]) (rest := []) ⟨hx, hb, hml, hown, hts⟩ (k_X7_hasGate l sa dC dI tn p1 tn_hours tn_courts tn_gateCount tn_people tn_lines tn_falseHours tn_strayers tn_deep tn_above tn_doors tn_degrees tn_neighbours tn_shows tn_oneEnd tn_otherEnd tn_told tn_strayParts tn_strayCourts b_tn_hours b_tn_courts b_tn_gateCount b_tn_people b_tn_falseHours b_tn_deep s.heap.size) (cwV 1 hts (z_gV zw_t4_9 zw_t3_234 zw_t3_235 zw_t1_3 zw_t3_236) rfl rfl rfl (by decide +kernel) (by rw [← hRe]; exact ⟨(Nat.le_of_ble_eq_true rfl), (Nat.le_of_ble_eq_true rfl)⟩)) (z_preV hPc hKc hDc hN hXs hS hFc (q := (RX7, TX7, 18)) (ci := 7) (q0 := 0) rfl rfl) rfl rfl hl.1 rfl (lv_room (Nat.le_of_ble_eq_true rfl)) dX7_hasPassage_2 (by rw [← hRe]; exact ⟨(Nat.le_of_ble_eq_true rfl), (Nat.le_of_ble_eq_true rfl)⟩)) hS (fun q _ h => hFc q h) hFc (fun r_1 u t H1 locs ht hvm hw hB hz1 hk1 hS => ?_)
  obtain ⟨hP, hD, hK⟩ := z_after3 (wn := (zV1 tn tn_hours tn_courts tn_gateCount tn_people tn_lines tn_falseHours tn_strayers tn_deep tn_above tn_doors tn_degrees tn_neighbours tn_shows tn_oneEnd tn_otherEnd tn_told tn_strayParts tn_strayCourts)) hB ht hvm hP hD hK [0] [] rfl 1 rfl (by decide +kernel) rfl (by decide +kernel) hk1 hFc
  generalize H1 = H at hP hS ⊢
  have hK : va_K (dC, dI) vwCl [] s := hK
  have b_r_1 : 0 ≤ r_1.toInt ∧ r_1.toInt ≤ 1 := hw.1
  have s_r_1 := hw.2
  refine lv_if_eq (tgt := 28) hx hb dX7_hasPassage_5 (by decide) (fun c_2 => ?_) (fun c_2 => ?_)
  · have ic_2 := zz_eq rfl (show Int32.toInt 0 = 0 from by decide) c_2
    refine lv_iconst (v := 0) hx hb dX7_hasPassage_28 (by decide) ?_
    have zc : Int32.toInt 0 = 0 := by decide
    exact W.zret (v := 0) hx hb hr (by decide) (fun t ht hW => by rw [← hQe]; exact ⟨⟨0, (), rfl, (by first | decide | omega), z_ret hP hK hD ht hW [0] [] rfl (by decide) rfl⟩, hS.F ht⟩) hS.2.2 dX7_hasPassage_29
  · have ic_2 := zz_neq rfl (show Int32.toInt 0 = 0 from by decide) c_2
    refine lv_aload_n hx hb dX7_hasPassage_8 rfl (lv_at hl 0 rfl) ?_
    refine lv_iload_n hx hb dX7_hasPassage_9 rfl (lv_at hl 2 rfl) ?_
    obtain ⟨hPc, hDc, hFc⟩ := z_cut (wc := (zV1 tn tn_hours tn_courts tn_gateCount tn_people tn_lines tn_falseHours tn_strayers tn_deep tn_above tn_doors tn_degrees tn_neighbours tn_shows tn_oneEnd tn_otherEnd tn_told tn_strayParts tn_strayCourts)) hP hD hS hA [0] rfl (by decide +kernel)
    have hKc := hK.sub (tys' := []) [] rfl
    refine va_calli (va_runV (As := [.int p2]) (rest := []) ⟨hx, hb, hml, hown, hts⟩ (k_X7_hasCourt l sa dC dI tn p2 tn_hours tn_courts tn_gateCount tn_people tn_lines tn_falseHours tn_strayers tn_deep tn_above tn_doors tn_degrees tn_neighbours tn_shows tn_oneEnd tn_otherEnd tn_told tn_strayParts tn_strayCourts b_tn_hours b_tn_courts b_tn_gateCount b_tn_people b_tn_falseHours b_tn_deep H.size) (cwV 1 hts (z_gV zw_t4_10 zw_t3_198 zw_t3_199 zw_t1_3 zw_t3_200) rfl rfl rfl (by decide +kernel) (by rw [← hRe]; exact ⟨(Nat.le_of_ble_eq_true rfl), (Nat.le_of_ble_eq_true rfl)⟩)) (z_preV hPc hKc hDc hN hXs hS hFc (q := (RX7, TX7, 18)) (ci := 7) (q0 := 0) rfl rfl) rfl rfl hl.1 rfl (lv_room (Nat.le_of_ble_eq_true rfl)) dX7_hasPassage_10 (by rw [← hRe]; exact ⟨(Nat.le_of_ble_eq_true rfl), (Nat.le_of_ble_eq_true rfl)⟩)) hS (fun q _ h => hFc q h) hFc (fun r_3 u t H1 locs ht hvm hw hB hz1 hk1 hS => ?_)
    obtain ⟨hP, hD, hK⟩ := z_after3 (wn := (zV1 tn tn_hours tn_courts tn_gateCount tn_people tn_lines tn_falseHours tn_strayers tn_deep tn_above tn_doors tn_degrees tn_neighbours tn_shows tn_oneEnd tn_otherEnd tn_told tn_strayParts tn_strayCourts)) hB ht hvm hP hD hK [0] [] rfl 1 rfl (by decide +kernel) rfl (by decide +kernel) hk1 hFc
    generalize H1 = H at hP hS ⊢
    have hK : va_K (dC, dI) vwCl [] s := hK
    have b_r_3 : 0 ≤ r_3.toInt ∧ r_3.toInt ≤ 1 := hw.1
    have s_r_3 := hw.2
    refine lv_if_eq (tgt := 28) hx hb dX7_hasPassage_13 (by decide) (fun c_4 => ?_) (fun c_4 => ?_)
    · have ic_4 := zz_eq rfl (show Int32.toInt 0 = 0 from by decide) c_4
      refine lv_iconst (v := 0) hx hb dX7_hasPassage_28 (by decide) ?_
      have zc : Int32.toInt 0 = 0 := by decide
      exact W.zret (v := 0) hx hb hr (by decide) (fun t ht hW => by rw [← hQe]; exact ⟨⟨0, (), rfl, (by first | decide | omega), z_ret hP hK hD ht hW [0] [] rfl (by decide) rfl⟩, hS.F ht⟩) hS.2.2 dX7_hasPassage_29
    · have ic_4 := zz_neq rfl (show Int32.toInt 0 = 0 from by decide) c_4
      refine lv_aload_n hx hb dX7_hasPassage_16 rfl (lv_at hl 0 rfl) ?_
      refine lv_iload_n hx hb dX7_hasPassage_17 rfl (lv_at hl 3 rfl) ?_
      obtain ⟨hPc, hDc, hFc⟩ := z_cut (wc := (zV1 tn tn_hours tn_courts tn_gateCount tn_people tn_lines tn_falseHours tn_strayers tn_deep tn_above tn_doors tn_degrees tn_neighbours tn_shows tn_oneEnd tn_otherEnd tn_told tn_strayParts tn_strayCourts)) hP hD hS hA [0] rfl (by decide +kernel)
      have hKc := hK.sub (tys' := []) [] rfl
      refine va_calli (va_runV (As := [.int p3]) (rest := []) ⟨hx, hb, hml, hown, hts⟩ (k_X7_hasHour l sa dC dI tn p3 tn_hours tn_courts tn_gateCount tn_people tn_lines tn_falseHours tn_strayers tn_deep tn_above tn_doors tn_degrees tn_neighbours tn_shows tn_oneEnd tn_otherEnd tn_told tn_strayParts tn_strayCourts b_tn_hours b_tn_courts b_tn_gateCount b_tn_people b_tn_falseHours b_tn_deep H.size) (cwV 1 hts (z_gV zw_t4_11 zw_t3_186 zw_t3_187 zw_t1_3 zw_t3_188) rfl rfl rfl (by decide +kernel) (by rw [← hRe]; exact ⟨(Nat.le_of_ble_eq_true rfl), (Nat.le_of_ble_eq_true rfl)⟩)) (z_preV hPc hKc hDc hN hXs hS hFc (q := (RX7, TX7, 18)) (ci := 7) (q0 := 0) rfl rfl) rfl rfl hl.1 rfl (lv_room (Nat.le_of_ble_eq_true rfl)) dX7_hasPassage_18 (by rw [← hRe]; exact ⟨(Nat.le_of_ble_eq_true rfl), (Nat.le_of_ble_eq_true rfl)⟩)) hS (fun q _ h => hFc q h) hFc (fun r_5 u t H1 locs ht hvm hw hB hz1 hk1 hS => ?_)
      obtain ⟨hP, hD, hK⟩ := z_after3 (wn := (zV1 tn tn_hours tn_courts tn_gateCount tn_people tn_lines tn_falseHours tn_strayers tn_deep tn_above tn_doors tn_degrees tn_neighbours tn_shows tn_oneEnd tn_otherEnd tn_told tn_strayParts tn_strayCourts)) hB ht hvm hP hD hK [0] [] rfl 1 rfl (by decide +kernel) rfl (by decide +kernel) hk1 hFc
      generalize H1 = H at hP hS ⊢
      have hK : va_K (dC, dI) vwCl [] s := hK
      have b_r_5 : 0 ≤ r_5.toInt ∧ r_5.toInt ≤ 1 := hw.1
      have s_r_5 := hw.2
      refine lv_if_eq (tgt := 28) hx hb dX7_hasPassage_21 (by decide) (fun c_6 => ?_) (fun c_6 => ?_)
      · have ic_6 := zz_eq rfl (show Int32.toInt 0 = 0 from by decide) c_6
        refine lv_iconst (v := 0) hx hb dX7_hasPassage_28 (by decide) ?_
        have zc : Int32.toInt 0 = 0 := by decide
        exact W.zret (v := 0) hx hb hr (by decide) (fun t ht hW => by rw [← hQe]; exact ⟨⟨0, (), rfl, (by first | decide | omega), z_ret hP hK hD ht hW [0] [] rfl (by decide) rfl⟩, hS.F ht⟩) hS.2.2 dX7_hasPassage_29
      · have ic_6 := zz_neq rfl (show Int32.toInt 0 = 0 from by decide) c_6
        refine lv_iconst (v := 1) hx hb dX7_hasPassage_24 (by decide) ?_
        refine lv_goto (tgt := 29) hx hb dX7_hasPassage_25 (by decide) ?_
        have zc : Int32.toInt 1 = 1 := by decide
        exact W.zret (v := 1) hx hb hr (by decide) (fun t ht hW => by rw [← hQe]; exact ⟨⟨1, (), rfl, (by first | decide | omega), z_ret hP hK hD ht hW [0] [] rfl (by decide) rfl⟩, hS.F ht⟩) hS.2.2 dX7_hasPassage_29
set_option maxHeartbeats 4000000 in
set_option maxRecDepth 100000 in
theorem k_X7_hasTrip (l : Launch) (sa : Nat → Nat) (dC : Nat → ClassId) (dI : Nat → Nat → Nat) (tn : Nat) (p1 : Int32) (p2 : Int32) (p3 : Int32) (tn_hours : Int32) (tn_courts : Int32) (tn_gateCount : Int32) (tn_people : Int32) (tn_lines : Int32) (tn_falseHours : Int32) (tn_strayers : Int32) (tn_deep : Int32) (tn_above : Nat) (tn_doors : Nat) (tn_degrees : Nat) (tn_neighbours : Nat) (tn_shows : Nat) (tn_oneEnd : Nat) (tn_otherEnd : Nat) (tn_told : Nat) (tn_strayParts : Nat) (tn_strayCourts : Nat) (b_tn_hours : 0 ≤ tn_hours.toInt ∧ tn_hours.toInt ≤ 48) (b_tn_courts : 0 ≤ tn_courts.toInt ∧ tn_courts.toInt ≤ 10) (b_tn_gateCount : 0 ≤ tn_gateCount.toInt ∧ tn_gateCount.toInt ≤ 16) (b_tn_people : 0 ≤ tn_people.toInt ∧ tn_people.toInt ≤ 10) (b_tn_falseHours : 0 ≤ tn_falseHours.toInt ∧ tn_falseHours.toInt ≤ 9) (b_tn_deep : 0 ≤ tn_deep.toInt ∧ tn_deep.toInt ≤ 1) (sz : Nat) : Met l yX7_hasTrip (.code yX7_hasTrip cX7_hasTrip 4 (some .boolean) :: zT) ({ frames := 1, cells := 0, slots := 0, locals := 21 }) (va_Pc [.ref tn, .int p1, .int p2, .int p3] (zB sa dC dI (zV1 tn tn_hours tn_courts tn_gateCount tn_people tn_lines tn_falseHours tn_strayers tn_deep tn_above tn_doors tn_degrees tn_neighbours tn_shows tn_oneEnd tn_otherEnd tn_told tn_strayParts tn_strayCourts) [] sz)) (va_Qi (fun (r : Int32) (_ : Unit) => (0 ≤ r.toInt ∧ r.toInt ≤ 1) ∧ (r.toInt = 0 ∨ (0 ≤ p1.toInt ∧ p1.toInt ≤ 9 ∧ 0 ≤ p2.toInt ∧ p2.toInt ≤ 47 ∧ 0 ≤ p3.toInt ∧ p3.toInt ≤ 9))) (fun _ t => zW dC dI (zV1 tn tn_hours tn_courts tn_gateCount tn_people tn_lines tn_falseHours tn_strayers tn_deep tn_above tn_doors tn_degrees tn_neighbours tn_shows tn_oneEnd tn_otherEnd tn_told tn_strayParts tn_strayCourts) [] (va_A (zV1 tn tn_hours tn_courts tn_gateCount tn_people tn_lines tn_falseHours tn_strayers tn_deep tn_above tn_doors tn_degrees tn_neighbours tn_shows tn_oneEnd tn_otherEnd tn_told tn_strayParts tn_strayCourts) sz) t) (va_A (zV1 tn tn_hours tn_courts tn_gateCount tn_people tn_lines tn_falseHours tn_strayers tn_deep tn_above tn_doors tn_degrees tn_neighbours tn_shows tn_oneEnd tn_otherEnd tn_told tn_strayParts tn_strayCourts) sz)) 0 0 (va_A (zV1 tn tn_hours tn_courts tn_gateCount tn_people tn_lines tn_falseHours tn_strayers tn_deep tn_above tn_doors tn_degrees tn_neighbours tn_shows tn_oneEnd tn_otherEnd tn_told tn_strayParts tn_strayCourts) sz) := by
  refine z_enter (by decide) (by exact (Nat.le_of_ble_eq_true rfl)) ?_
  intro p e s m args below meth c ls A R Qc hargs hsz hQe hAe hRe hx hb hml hr hts hown hlocks hin hl hP hK hD hN hXs hA hS
  rw [hAe] at hQe
  have hown : s.vm.findClass RX7 = some m.cls := hown
  have hl : lv_has ls 4 [(0, .ref tn), (1, .int p1), (2, .int p2), (3, .int p3)] := hl
  refine lv_aload_n hx hb dX7_hasTrip_0 rfl (lv_at hl 0 rfl) ?_
  refine lv_iload_n hx hb dX7_hasTrip_1 rfl (lv_at hl 1 rfl) ?_
  obtain ⟨hPc, hDc, hFc⟩ := z_cut (wc := (zV1 tn tn_hours tn_courts tn_gateCount tn_people tn_lines tn_falseHours tn_strayers tn_deep tn_above tn_doors tn_degrees tn_neighbours tn_shows tn_oneEnd tn_otherEnd tn_told tn_strayParts tn_strayCourts)) hP hD hS hA [0] rfl (by decide +kernel)
  have hKc := hK.sub (tys' := []) [] rfl
  refine va_calli (va_runV (As := [.int p1]) (rest := []) ⟨hx, hb, hml, hown, hts⟩ (k_X7_hasCourt l sa dC dI tn p1 tn_hours tn_courts tn_gateCount tn_people tn_lines tn_falseHours tn_strayers tn_deep tn_above tn_doors tn_degrees tn_neighbours tn_shows tn_oneEnd tn_otherEnd tn_told tn_strayParts tn_strayCourts b_tn_hours b_tn_courts b_tn_gateCount b_tn_people b_tn_falseHours b_tn_deep s.heap.size) (cwV 1 hts (z_gV zw_t4_10 zw_t3_198 zw_t3_199 zw_t1_3 zw_t3_200) rfl rfl rfl (by decide +kernel) (by rw [← hRe]; exact ⟨(Nat.le_of_ble_eq_true rfl), (Nat.le_of_ble_eq_true rfl)⟩)) (z_preV hPc hKc hDc hN hXs hS hFc (q := (RX7, TX7, 18)) (ci := 7) (q0 := 0) rfl rfl) rfl rfl hl.1 rfl (lv_room (Nat.le_of_ble_eq_true rfl)) dX7_hasTrip_2 (by rw [← hRe]; exact ⟨(Nat.le_of_ble_eq_true rfl), (Nat.le_of_ble_eq_true rfl)⟩)) hS (fun q _ h => hFc q h) hFc (fun r_1 u t H1 locs ht hvm hw hB hz1 hk1 hS => ?_)
  obtain ⟨hP, hD, hK⟩ := z_after3 (wn := (zV1 tn tn_hours tn_courts tn_gateCount tn_people tn_lines tn_falseHours tn_strayers tn_deep tn_above tn_doors tn_degrees tn_neighbours tn_shows tn_oneEnd tn_otherEnd tn_told tn_strayParts tn_strayCourts)) hB ht hvm hP hD hK [0] [] rfl 1 rfl (by decide +kernel) rfl (by decide +kernel) hk1 hFc
  generalize H1 = H at hP hS ⊢
  have hK : va_K (dC, dI) vwCl [] s := hK
  have b_r_1 : 0 ≤ r_1.toInt ∧ r_1.toInt ≤ 1 := hw.1
  have s_r_1 := hw.2
  refine lv_if_eq (tgt := 28) hx hb dX7_hasTrip_5 (by decide) (fun c_2 => ?_) (fun c_2 => ?_)
  · have ic_2 := zz_eq rfl (show Int32.toInt 0 = 0 from by decide) c_2
    refine lv_iconst (v := 0) hx hb dX7_hasTrip_28 (by decide) ?_
    have zc : Int32.toInt 0 = 0 := by decide
    exact W.zret (v := 0) hx hb hr (by decide) (fun t ht hW => by rw [← hQe]; exact ⟨⟨0, (), rfl, (by first | decide | omega), z_ret hP hK hD ht hW [0] [] rfl (by decide) rfl⟩, hS.F ht⟩) hS.2.2 dX7_hasTrip_29
  · have ic_2 := zz_neq rfl (show Int32.toInt 0 = 0 from by decide) c_2
    refine lv_aload_n hx hb dX7_hasTrip_8 rfl (lv_at hl 0 rfl) ?_
    refine lv_iload_n hx hb dX7_hasTrip_9 rfl (lv_at hl 2 rfl) ?_
    obtain ⟨hPc, hDc, hFc⟩ := z_cut (wc := (zV1 tn tn_hours tn_courts tn_gateCount tn_people tn_lines tn_falseHours tn_strayers tn_deep tn_above tn_doors tn_degrees tn_neighbours tn_shows tn_oneEnd tn_otherEnd tn_told tn_strayParts tn_strayCourts)) hP hD hS hA [0] rfl (by decide +kernel)
    have hKc := hK.sub (tys' := []) [] rfl
    refine va_calli (va_runV (As := [.int p2]) (rest := []) ⟨hx, hb, hml, hown, hts⟩ (k_X7_hasHour l sa dC dI tn p2 tn_hours tn_courts tn_gateCount tn_people tn_lines tn_falseHours tn_strayers tn_deep tn_above tn_doors tn_degrees tn_neighbours tn_shows tn_oneEnd tn_otherEnd tn_told tn_strayParts tn_strayCourts b_tn_hours b_tn_courts b_tn_gateCount b_tn_people b_tn_falseHours b_tn_deep H.size) (cwV 1 hts (z_gV zw_t4_11 zw_t3_186 zw_t3_187 zw_t1_3 zw_t3_188) rfl rfl rfl (by decide +kernel) (by rw [← hRe]; exact ⟨(Nat.le_of_ble_eq_true rfl), (Nat.le_of_ble_eq_true rfl)⟩)) (z_preV hPc hKc hDc hN hXs hS hFc (q := (RX7, TX7, 18)) (ci := 7) (q0 := 0) rfl rfl) rfl rfl hl.1 rfl (lv_room (Nat.le_of_ble_eq_true rfl)) dX7_hasTrip_10 (by rw [← hRe]; exact ⟨(Nat.le_of_ble_eq_true rfl), (Nat.le_of_ble_eq_true rfl)⟩)) hS (fun q _ h => hFc q h) hFc (fun r_3 u t H1 locs ht hvm hw hB hz1 hk1 hS => ?_)
    obtain ⟨hP, hD, hK⟩ := z_after3 (wn := (zV1 tn tn_hours tn_courts tn_gateCount tn_people tn_lines tn_falseHours tn_strayers tn_deep tn_above tn_doors tn_degrees tn_neighbours tn_shows tn_oneEnd tn_otherEnd tn_told tn_strayParts tn_strayCourts)) hB ht hvm hP hD hK [0] [] rfl 1 rfl (by decide +kernel) rfl (by decide +kernel) hk1 hFc
    generalize H1 = H at hP hS ⊢
    have hK : va_K (dC, dI) vwCl [] s := hK
    have b_r_3 : 0 ≤ r_3.toInt ∧ r_3.toInt ≤ 1 := hw.1
    have s_r_3 := hw.2
    refine lv_if_eq (tgt := 28) hx hb dX7_hasTrip_13 (by decide) (fun c_4 => ?_) (fun c_4 => ?_)
    · have ic_4 := zz_eq rfl (show Int32.toInt 0 = 0 from by decide) c_4
      refine lv_iconst (v := 0) hx hb dX7_hasTrip_28 (by decide) ?_
      have zc : Int32.toInt 0 = 0 := by decide
      exact W.zret (v := 0) hx hb hr (by decide) (fun t ht hW => by rw [← hQe]; exact ⟨⟨0, (), rfl, (by first | decide | omega), z_ret hP hK hD ht hW [0] [] rfl (by decide) rfl⟩, hS.F ht⟩) hS.2.2 dX7_hasTrip_29
    · have ic_4 := zz_neq rfl (show Int32.toInt 0 = 0 from by decide) c_4
      refine lv_aload_n hx hb dX7_hasTrip_16 rfl (lv_at hl 0 rfl) ?_
      refine lv_iload_n hx hb dX7_hasTrip_17 rfl (lv_at hl 3 rfl) ?_
      obtain ⟨hPc, hDc, hFc⟩ := z_cut (wc := (zV1 tn tn_hours tn_courts tn_gateCount tn_people tn_lines tn_falseHours tn_strayers tn_deep tn_above tn_doors tn_degrees tn_neighbours tn_shows tn_oneEnd tn_otherEnd tn_told tn_strayParts tn_strayCourts)) hP hD hS hA [0] rfl (by decide +kernel)
      have hKc := hK.sub (tys' := []) [] rfl
      refine va_calli (va_runV (As := [.int p3]) (rest := []) ⟨hx, hb, hml, hown, hts⟩ (k_X7_hasCourt l sa dC dI tn p3 tn_hours tn_courts tn_gateCount tn_people tn_lines tn_falseHours tn_strayers tn_deep tn_above tn_doors tn_degrees tn_neighbours tn_shows tn_oneEnd tn_otherEnd tn_told tn_strayParts tn_strayCourts b_tn_hours b_tn_courts b_tn_gateCount b_tn_people b_tn_falseHours b_tn_deep H.size) (cwV 1 hts (z_gV zw_t4_10 zw_t3_198 zw_t3_199 zw_t1_3 zw_t3_200) rfl rfl rfl (by decide +kernel) (by rw [← hRe]; exact ⟨(Nat.le_of_ble_eq_true rfl), (Nat.le_of_ble_eq_true rfl)⟩)) (z_preV hPc hKc hDc hN hXs hS hFc (q := (RX7, TX7, 18)) (ci := 7) (q0 := 0) rfl rfl) rfl rfl hl.1 rfl (lv_room (Nat.le_of_ble_eq_true rfl)) dX7_hasTrip_18 (by rw [← hRe]; exact ⟨(Nat.le_of_ble_eq_true rfl), (Nat.le_of_ble_eq_true rfl)⟩)) hS (fun q _ h => hFc q h) hFc (fun r_5 u t H1 locs ht hvm hw hB hz1 hk1 hS => ?_)
      obtain ⟨hP, hD, hK⟩ := z_after3 (wn := (zV1 tn tn_hours tn_courts tn_gateCount tn_people tn_lines tn_falseHours tn_strayers tn_deep tn_above tn_doors tn_degrees tn_neighbours tn_shows tn_oneEnd tn_otherEnd tn_told tn_strayParts tn_strayCourts)) hB ht hvm hP hD hK [0] [] rfl 1 rfl (by decide +kernel) rfl (by decide +kernel) hk1 hFc
      generalize H1 = H at hP hS ⊢
      have hK : va_K (dC, dI) vwCl [] s := hK
      have b_r_5 : 0 ≤ r_5.toInt ∧ r_5.toInt ≤ 1 := hw.1
      have s_r_5 := hw.2
      refine lv_if_eq (tgt := 28) hx hb dX7_hasTrip_21 (by decide) (fun c_6 => ?_) (fun c_6 => ?_)
      · have ic_6 := zz_eq rfl (show Int32.toInt 0 = 0 from by decide) c_6
        refine lv_iconst (v := 0) hx hb dX7_hasTrip_28 (by decide) ?_
        have zc : Int32.toInt 0 = 0 := by decide
        exact W.zret (v := 0) hx hb hr (by decide) (fun t ht hW => by rw [← hQe]; exact ⟨⟨0, (), rfl, (by first | decide | omega), z_ret hP hK hD ht hW [0] [] rfl (by decide) rfl⟩, hS.F ht⟩) hS.2.2 dX7_hasTrip_29
      · have ic_6 := zz_neq rfl (show Int32.toInt 0 = 0 from by decide) c_6
        refine lv_iconst (v := 1) hx hb dX7_hasTrip_24 (by decide) ?_
        refine lv_goto (tgt := 29) hx hb dX7_hasTrip_25 (by decide) ?_
        have zc : Int32.toInt 1 = 1 := by decide
        exact W.zret (v := 1) hx hb hr (by decide) (fun t ht hW => by rw [← hQe]; exact ⟨⟨1, (), rfl, (by first | decide | omega), z_ret hP hK hD ht hW [0] [] rfl (by decide) rfl⟩, hS.F ht⟩) hS.2.2 dX7_hasTrip_29
set_option maxHeartbeats 4000000 in
set_option maxRecDepth 100000 in
theorem k_X7_hasTripBy (l : Launch) (sa : Nat → Nat) (dC : Nat → ClassId) (dI : Nat → Nat → Nat) (tn : Nat) (p1 : Int32) (p2 : Int32) (p3 : Int32) (p4 : Int32) (tn_hours : Int32) (tn_courts : Int32) (tn_gateCount : Int32) (tn_people : Int32) (tn_lines : Int32) (tn_falseHours : Int32) (tn_strayers : Int32) (tn_deep : Int32) (tn_above : Nat) (tn_doors : Nat) (tn_degrees : Nat) (tn_neighbours : Nat) (tn_shows : Nat) (tn_oneEnd : Nat) (tn_otherEnd : Nat) (tn_told : Nat) (tn_strayParts : Nat) (tn_strayCourts : Nat) (b_tn_hours : 0 ≤ tn_hours.toInt ∧ tn_hours.toInt ≤ 48) (b_tn_courts : 0 ≤ tn_courts.toInt ∧ tn_courts.toInt ≤ 10) (b_tn_gateCount : 0 ≤ tn_gateCount.toInt ∧ tn_gateCount.toInt ≤ 16) (b_tn_people : 0 ≤ tn_people.toInt ∧ tn_people.toInt ≤ 10) (b_tn_falseHours : 0 ≤ tn_falseHours.toInt ∧ tn_falseHours.toInt ≤ 9) (b_tn_deep : 0 ≤ tn_deep.toInt ∧ tn_deep.toInt ≤ 1) (sz : Nat) : Met l yX7_hasTripBy (.code yX7_hasTripBy cX7_hasTripBy 5 (some .boolean) :: zT) ({ frames := 2, cells := 0, slots := 0, locals := 44 }) (va_Pc [.ref tn, .int p1, .int p2, .int p3, .int p4] (zB sa dC dI (zV1 tn tn_hours tn_courts tn_gateCount tn_people tn_lines tn_falseHours tn_strayers tn_deep tn_above tn_doors tn_degrees tn_neighbours tn_shows tn_oneEnd tn_otherEnd tn_told tn_strayParts tn_strayCourts) [] sz)) (va_Qi (fun (r : Int32) (_ : Unit) => (0 ≤ r.toInt ∧ r.toInt ≤ 1) ∧ (r.toInt = 0 ∨ (0 ≤ p1.toInt ∧ p1.toInt ≤ 9 ∧ 0 ≤ p2.toInt ∧ p2.toInt ≤ 47 ∧ 0 ≤ p3.toInt ∧ p3.toInt ≤ 9 ∧ 0 ≤ p4.toInt ∧ p4.toInt ≤ 48))) (fun _ t => zW dC dI (zV1 tn tn_hours tn_courts tn_gateCount tn_people tn_lines tn_falseHours tn_strayers tn_deep tn_above tn_doors tn_degrees tn_neighbours tn_shows tn_oneEnd tn_otherEnd tn_told tn_strayParts tn_strayCourts) [] (va_A (zV1 tn tn_hours tn_courts tn_gateCount tn_people tn_lines tn_falseHours tn_strayers tn_deep tn_above tn_doors tn_degrees tn_neighbours tn_shows tn_oneEnd tn_otherEnd tn_told tn_strayParts tn_strayCourts) sz) t) (va_A (zV1 tn tn_hours tn_courts tn_gateCount tn_people tn_lines tn_falseHours tn_strayers tn_deep tn_above tn_doors tn_degrees tn_neighbours tn_shows tn_oneEnd tn_otherEnd tn_told tn_strayParts tn_strayCourts) sz)) 0 0 (va_A (zV1 tn tn_hours tn_courts tn_gateCount tn_people tn_lines tn_falseHours tn_strayers tn_deep tn_above tn_doors tn_degrees tn_neighbours tn_shows tn_oneEnd tn_otherEnd tn_told tn_strayParts tn_strayCourts) sz) := by
  refine z_enter (by decide) (by exact (Nat.le_of_ble_eq_true rfl)) ?_
  intro p e s m args below meth c ls A R Qc hargs hsz hQe hAe hRe hx hb hml hr hts hown hlocks hin hl hP hK hD hN hXs hA hS
  rw [hAe] at hQe
  have hown : s.vm.findClass RX7 = some m.cls := hown
  have hl : lv_has ls 5 [(0, .ref tn), (1, .int p1), (2, .int p2), (3, .int p3), (4, .int p4)] := hl
  refine lv_aload_n hx hb dX7_hasTripBy_0 rfl (lv_at hl 0 rfl) ?_
  refine lv_iload_n hx hb dX7_hasTripBy_1 rfl (lv_at hl 1 rfl) ?_
  refine lv_iload_n hx hb dX7_hasTripBy_2 rfl (lv_at hl 2 rfl) ?_
  refine lv_iload_n hx hb dX7_hasTripBy_3 rfl (lv_at hl 3 rfl) ?_
  obtain ⟨hPc, hDc, hFc⟩ := z_cut (wc := (zV1 tn tn_hours tn_courts tn_gateCount tn_people tn_lines tn_falseHours tn_strayers tn_deep tn_above tn_doors tn_degrees tn_neighbours tn_shows tn_oneEnd tn_otherEnd tn_told tn_strayParts tn_strayCourts)) hP hD hS hA [0] rfl (by decide +kernel)
  have hKc := hK.sub (tys' := []) [] rfl
  refine va_calli (va_runV (As := [.int p1, .int p2, .int p3]) (rest := []) ⟨hx, hb, hml, hown, hts⟩ (k_X7_hasTrip l sa dC dI tn p1 p2 p3 tn_hours tn_courts tn_gateCount tn_people tn_lines tn_falseHours tn_strayers tn_deep tn_above tn_doors tn_degrees tn_neighbours tn_shows tn_oneEnd tn_otherEnd tn_told tn_strayParts tn_strayCourts b_tn_hours b_tn_courts b_tn_gateCount b_tn_people b_tn_falseHours b_tn_deep s.heap.size) (cwV 3 hts (z_gV zw_t4_119 zw_t4_22 zw_t4_23 zw_t1_3 zw_t4_24) rfl rfl rfl (by decide +kernel) (by rw [← hRe]; exact ⟨(Nat.le_of_ble_eq_true rfl), (Nat.le_of_ble_eq_true rfl)⟩)) (z_preV hPc hKc hDc hN hXs hS hFc (q := (RX7, TX7, 18)) (ci := 7) (q0 := 0) rfl rfl) rfl rfl hl.1 rfl (lv_room (Nat.le_of_ble_eq_true rfl)) dX7_hasTripBy_4 (by rw [← hRe]; exact ⟨(Nat.le_of_ble_eq_true rfl), (Nat.le_of_ble_eq_true rfl)⟩)) hS (fun q _ h => hFc q h) hFc (fun r_1 u t H1 locs ht hvm hw hB hz1 hk1 hS => ?_)
  obtain ⟨hP, hD, hK⟩ := z_after3 (wn := (zV1 tn tn_hours tn_courts tn_gateCount tn_people tn_lines tn_falseHours tn_strayers tn_deep tn_above tn_doors tn_degrees tn_neighbours tn_shows tn_oneEnd tn_otherEnd tn_told tn_strayParts tn_strayCourts)) hB ht hvm hP hD hK [0] [] rfl 1 rfl (by decide +kernel) rfl (by decide +kernel) hk1 hFc
  generalize H1 = H at hP hS ⊢
  have hK : va_K (dC, dI) vwCl [] s := hK
  have b_r_1 : 0 ≤ r_1.toInt ∧ r_1.toInt ≤ 1 := hw.1
  have s_r_1 := hw.2
  refine lv_if_eq (tgt := 29) hx hb dX7_hasTripBy_7 (by decide) (fun c_2 => ?_) (fun c_2 => ?_)
  · have ic_2 := zz_eq rfl (show Int32.toInt 0 = 0 from by decide) c_2
    refine lv_iconst (v := 0) hx hb dX7_hasTripBy_29 (by decide) ?_
    have zc : Int32.toInt 0 = 0 := by decide
    exact W.zret (v := 0) hx hb hr (by decide) (fun t ht hW => by rw [← hQe]; exact ⟨⟨0, (), rfl, (by first | decide | omega), z_ret hP hK hD ht hW [0] [] rfl (by decide) rfl⟩, hS.F ht⟩) hS.2.2 dX7_hasTripBy_30
  · have ic_2 := zz_neq rfl (show Int32.toInt 0 = 0 from by decide) c_2
    refine lv_iload hx hb dX7_hasTripBy_10 (lv_at hl 4 rfl) ?_
    refine lv_iload_n hx hb dX7_hasTripBy_12 rfl (lv_at hl 2 rfl) ?_
    have nb_p4 := zi_nb p4
    refine lv_icmp_lt (tgt := 29) hx hb dX7_hasTripBy_13 (by decide) (fun c_3 => ?_) (fun c_3 => ?_)
    · have ic_3 := zz_lt rfl rfl c_3
      refine lv_iconst (v := 0) hx hb dX7_hasTripBy_29 (by decide) ?_
      have zc : Int32.toInt 0 = 0 := by decide
      exact W.zret (v := 0) hx hb hr (by decide) (fun t ht hW => by rw [← hQe]; exact ⟨⟨0, (), rfl, (by first | decide | omega), z_ret hP hK hD ht hW [0] [] rfl (by decide) rfl⟩, hS.F ht⟩) hS.2.2 dX7_hasTripBy_30
    · have ic_3 := zz_nlt rfl rfl c_3
      refine lv_iload hx hb dX7_hasTripBy_16 (lv_at hl 4 rfl) ?_
      refine lv_aload_n hx hb dX7_hasTripBy_18 rfl (lv_at hl 0 rfl) ?_
      refine va_get (D := (dC, dI)) (ci := 7) (v := .int tn_hours) (C := RX7) (T := TX7) (N := 18) hx hb hts zl_X7 hown hK hP 0 rfl rfl 0 (by decide) (hts _ zw_t1_42) (fun _ h9 => h9) rfl dX7_hasTripBy_19 ?_
      refine lv_icmp_gt (tgt := 29) hx hb dX7_hasTripBy_22 (by decide) (fun c_4 => ?_) (fun c_4 => ?_)
      · have ic_4 := zz_gt rfl rfl c_4
        refine lv_iconst (v := 0) hx hb dX7_hasTripBy_29 (by decide) ?_
        have zc : Int32.toInt 0 = 0 := by decide
        exact W.zret (v := 0) hx hb hr (by decide) (fun t ht hW => by rw [← hQe]; exact ⟨⟨0, (), rfl, (by first | decide | omega), z_ret hP hK hD ht hW [0] [] rfl (by decide) rfl⟩, hS.F ht⟩) hS.2.2 dX7_hasTripBy_30
      · have ic_4 := zz_ngt rfl rfl c_4
        refine lv_iconst (v := 1) hx hb dX7_hasTripBy_25 (by decide) ?_
        refine lv_goto (tgt := 30) hx hb dX7_hasTripBy_26 (by decide) ?_
        have zc : Int32.toInt 1 = 1 := by decide
        exact W.zret (v := 1) hx hb hr (by decide) (fun t ht hW => by rw [← hQe]; exact ⟨⟨1, (), rfl, (by first | decide | omega), z_ret hP hK hD ht hW [0] [] rfl (by decide) rfl⟩, hS.F ht⟩) hS.2.2 dX7_hasTripBy_30
set_option maxHeartbeats 4000000 in
set_option maxRecDepth 100000 in
theorem k_X7_courtOf (l : Launch) (sa : Nat → Nat) (dC : Nat → ClassId) (dI : Nat → Nat → Nat) (tn : Nat) (p1 : Int32) (p2 : Int32) (p3 : Int32) (tn_hours : Int32) (tn_courts : Int32) (tn_gateCount : Int32) (tn_people : Int32) (tn_lines : Int32) (tn_falseHours : Int32) (tn_strayers : Int32) (tn_deep : Int32) (tn_above : Nat) (tn_doors : Nat) (tn_degrees : Nat) (tn_neighbours : Nat) (tn_shows : Nat) (tn_oneEnd : Nat) (tn_otherEnd : Nat) (tn_told : Nat) (tn_strayParts : Nat) (tn_strayCourts : Nat) (cA_tn_told : ClassId) (f_tn_told : Nat → Int32) (cA_tn_strayCourts : ClassId) (f_tn_strayCourts : Nat → Int32) (b_p1 : 0 ≤ p1.toInt ∧ p1.toInt ≤ 9) (b_p2 : 0 ≤ p2.toInt ∧ p2.toInt ≤ 47) (b_tn_hours : 0 ≤ tn_hours.toInt ∧ tn_hours.toInt ≤ 48) (b_tn_courts : 0 ≤ tn_courts.toInt ∧ tn_courts.toInt ≤ 10) (b_tn_gateCount : 0 ≤ tn_gateCount.toInt ∧ tn_gateCount.toInt ≤ 16) (b_tn_people : 0 ≤ tn_people.toInt ∧ tn_people.toInt ≤ 10) (b_tn_falseHours : 0 ≤ tn_falseHours.toInt ∧ tn_falseHours.toInt ≤ 9) (b_tn_deep : 0 ≤ tn_deep.toInt ∧ tn_deep.toInt ≤ 1) (b_f_tn_told : ∀ j : Nat, 0 ≤ (f_tn_told j).toInt ∧ (f_tn_told j).toInt ≤ 9) (b_f_tn_strayCourts : ∀ j : Nat, 0 ≤ (f_tn_strayCourts j).toInt ∧ (f_tn_strayCourts j).toInt ≤ 9) (sz : Nat) : Met l yX7_courtOf (.code yX7_courtOf cX7_courtOf 5 (some .int) :: zT) ({ frames := 0, cells := 0, slots := 0, locals := 0 }) (va_Pc [.ref tn, .int p1, .int p2, .int p3] (zB sa dC dI (zV2 tn tn_hours tn_courts tn_gateCount tn_people tn_lines tn_falseHours tn_strayers tn_deep tn_above tn_doors tn_degrees tn_neighbours tn_shows tn_oneEnd tn_otherEnd tn_told tn_strayParts tn_strayCourts tn_told cA_tn_told f_tn_told tn_strayCourts cA_tn_strayCourts f_tn_strayCourts) [(cA_tn_told, .int), (cA_tn_strayCourts, .int)] sz)) (va_Qi (fun (r : Int32) (_ : Unit) => (0 ≤ r.toInt ∧ r.toInt ≤ 9)) (fun _ t => zW dC dI (zV2 tn tn_hours tn_courts tn_gateCount tn_people tn_lines tn_falseHours tn_strayers tn_deep tn_above tn_doors tn_degrees tn_neighbours tn_shows tn_oneEnd tn_otherEnd tn_told tn_strayParts tn_strayCourts tn_told cA_tn_told f_tn_told tn_strayCourts cA_tn_strayCourts f_tn_strayCourts) [] (va_A (zV2 tn tn_hours tn_courts tn_gateCount tn_people tn_lines tn_falseHours tn_strayers tn_deep tn_above tn_doors tn_degrees tn_neighbours tn_shows tn_oneEnd tn_otherEnd tn_told tn_strayParts tn_strayCourts tn_told cA_tn_told f_tn_told tn_strayCourts cA_tn_strayCourts f_tn_strayCourts) sz) t) (va_A (zV2 tn tn_hours tn_courts tn_gateCount tn_people tn_lines tn_falseHours tn_strayers tn_deep tn_above tn_doors tn_degrees tn_neighbours tn_shows tn_oneEnd tn_otherEnd tn_told tn_strayParts tn_strayCourts tn_told cA_tn_told f_tn_told tn_strayCourts cA_tn_strayCourts f_tn_strayCourts) sz)) 0 0 (va_A (zV2 tn tn_hours tn_courts tn_gateCount tn_people tn_lines tn_falseHours tn_strayers tn_deep tn_above tn_doors tn_degrees tn_neighbours tn_shows tn_oneEnd tn_otherEnd tn_told tn_strayParts tn_strayCourts tn_told cA_tn_told f_tn_told tn_strayCourts cA_tn_strayCourts f_tn_strayCourts) sz) := by
  refine z_enter (by decide) (by exact (Nat.le_of_ble_eq_true rfl)) ?_
  intro p e s m args below meth c ls A R Qc hargs hsz hQe hAe hRe hx hb hml hr hts hown hlocks hin hl hP hK hD hN hXs hA hS
  rw [hAe] at hQe
  have hown : s.vm.findClass RX7 = some m.cls := hown
  have hl : lv_has ls 5 [(0, .ref tn), (1, .int p1), (2, .int p2), (3, .int p3)] := hl
  refine lv_iload_n hx hb dX7_courtOf_0 rfl (lv_at hl 3 rfl) ?_
  refine lv_iload_n hx hb dX7_courtOf_1 rfl (lv_at hl 1 rfl) ?_
  refine lv_ishr hx hb dX7_courtOf_2 ?_
  refine lv_topi (fun x_1 ex_1 => ?_)
  refine lv_iconst (v := 1) hx hb dX7_courtOf_3 (by decide) ?_
  refine lv_iand hx hb dX7_courtOf_4 ?_
  refine lv_topi (fun x_2 ex_2 => ?_)
  have b_x_2 : 0 ≤ x_2.toInt ∧ x_2.toInt ≤ 1 := by rw [ex_2]; exact zi_andR (show Int32.toInt 1 = 1 from by decide) (by first | with_reducible assumption | omega) (by first | with_reducible assumption | omega)
  refine lv_if_eq (tgt := 12) hx hb dX7_courtOf_5 (by decide) (fun c_3 => ?_) (fun c_3 => ?_)
  · have ic_3 := zz_eq rfl (show Int32.toInt 0 = 0 from by decide) c_3
    refine lv_iconst (v := 0) hx hb dX7_courtOf_12 (by decide) ?_
    refine lv_istore (lv' := [(4, .int 0), (0, .ref tn), (1, .int p1), (2, .int p2), (3, .int p3)]) hx hb dX7_courtOf_13 hl (by decide) rfl (fun ls hl => ?_)
    refine lv_iload hx hb dX7_courtOf_15 (lv_at hl 0 rfl) ?_
    refine lv_if_eq (tgt := 29) hx hb dX7_courtOf_17 (by decide) (fun _ => ?_) (fun q => absurd q (by decide))
    refine lv_aload_n hx hb dX7_courtOf_29 rfl (lv_at hl 1 rfl) ?_
    refine va_get (D := (dC, dI)) (ci := 7) (v := .ref tn_told) (C := RX7) (T := TX7) (N := 18) hx hb hts zl_X7 hown hK hP 0 rfl rfl 15 (by decide) (hts _ zw_t1_105) (fun _ h9 => h9) rfl dX7_courtOf_30 ?_
    refine lv_iload_n hx hb dX7_courtOf_33 rfl (lv_at hl 2 rfl) ?_
    refine lv_bipush (v := 48) hx hb dX7_courtOf_34 (by decide) ?_
    refine lv_imul hx hb dX7_courtOf_36 ?_
    refine lv_topi (fun x_4 ex_4 => ?_)
    have b_x_4 : x_4.toInt = p1.toInt * 48 := by rw [ex_4]; exact zi_mul rfl (show Int32.toInt 48 = 48 from by decide) (z_rcm b_p1 (by decide))
    refine lv_iload_n hx hb dX7_courtOf_37 rfl (lv_at hl 3 rfl) ?_
    refine lv_iadd hx hb dX7_courtOf_38 ?_
    refine lv_topi (fun x_5 ex_5 => ?_)
    have b_x_5 : x_5.toInt = x_4.toInt + p2.toInt := by rw [ex_5]; exact zi_add rfl rfl (z_raa (z_ecm (c := 48) b_x_4 b_p1) b_p2 (by decide))
    refine va_iald hx hb hK hP 1 0 rfl rfl (zi_in rfl (by first | exact z_rin (z_ead b_x_5 (z_ecm (c := 48) b_x_4 b_p1) b_p2) (by decide) | omega)) dX7_courtOf_39 ?_
    refine lv_topi (fun x_6 ex_6 => ?_)
    have b_x_6 : 0 ≤ x_6.toInt ∧ x_6.toInt ≤ 9 := by rw [ex_6]; exact b_f_tn_told _
    exact W.iret (v := x_6) hx hb hr (fun t ht hW => by rw [← hQe]; exact ⟨⟨x_6, (), rfl, (by first | with_reducible assumption | exact z_rle b_x_6 (by decide) | omega), z_ret hP hK hD ht hW [0, 1, 2] [] rfl (by decide) rfl⟩, hS.F ht⟩) hS.2.2 dX7_courtOf_40
  · have ic_3 := zz_neq rfl (show Int32.toInt 0 = 0 from by decide) c_3
    refine lv_iconst (v := 1) hx hb dX7_courtOf_8 (by decide) ?_
    refine lv_goto (tgt := 13) hx hb dX7_courtOf_9 (by decide) ?_
    refine lv_istore (lv' := [(4, .int 1), (0, .ref tn), (1, .int p1), (2, .int p2), (3, .int p3)]) hx hb dX7_courtOf_13 hl (by decide) rfl (fun ls hl => ?_)
    refine lv_iload hx hb dX7_courtOf_15 (lv_at hl 0 rfl) ?_
    refine lv_if_eq (tgt := 29) hx hb dX7_courtOf_17 (by decide) (fun q => absurd q (by decide)) (fun _ => ?_)
    refine lv_aload_n hx hb dX7_courtOf_20 rfl (lv_at hl 1 rfl) ?_
    refine va_get (D := (dC, dI)) (ci := 7) (v := .ref tn_strayCourts) (C := RX7) (T := TX7) (N := 18) hx hb hts zl_X7 hown hK hP 0 rfl rfl 17 (by decide) (hts _ zw_t1_111) (fun _ h9 => h9) rfl dX7_courtOf_21 ?_
    refine lv_iload_n hx hb dX7_courtOf_24 rfl (lv_at hl 2 rfl) ?_
    refine va_iald hx hb hK hP 2 1 rfl rfl (zi_in rfl (by first | exact z_rin b_p1 (by decide) | omega)) dX7_courtOf_25 ?_
    refine lv_topi (fun x_7 ex_7 => ?_)
    have b_x_7 : 0 ≤ x_7.toInt ∧ x_7.toInt ≤ 9 := by rw [ex_7]; exact b_f_tn_strayCourts _
    refine lv_goto (tgt := 40) hx hb dX7_courtOf_26 (by decide) ?_
    exact W.iret (v := x_7) hx hb hr (fun t ht hW => by rw [← hQe]; exact ⟨⟨x_7, (), rfl, (by first | with_reducible assumption | exact z_rle b_x_7 (by decide) | omega), z_ret hP hK hD ht hW [0, 1, 2] [] rfl (by decide) rfl⟩, hS.F ht⟩) hS.2.2 dX7_courtOf_40
set_option maxHeartbeats 4000000 in
set_option maxRecDepth 100000 in
theorem k_X7_showsOf (l : Launch) (sa : Nat → Nat) (dC : Nat → ClassId) (dI : Nat → Nat → Nat) (tn : Nat) (p1 : Int32) (p2 : Int32) (p3 : Int32) (tn_hours : Int32) (tn_courts : Int32) (tn_gateCount : Int32) (tn_people : Int32) (tn_lines : Int32) (tn_falseHours : Int32) (tn_strayers : Int32) (tn_deep : Int32) (tn_above : Nat) (tn_doors : Nat) (tn_degrees : Nat) (tn_neighbours : Nat) (tn_shows : Nat) (tn_oneEnd : Nat) (tn_otherEnd : Nat) (tn_told : Nat) (tn_strayParts : Nat) (tn_strayCourts : Nat) (cA_tn_shows : ClassId) (f_tn_shows : Nat → Int32) (cA_tn_told : ClassId) (f_tn_told : Nat → Int32) (cA_tn_strayCourts : ClassId) (f_tn_strayCourts : Nat → Int32) (b_p1 : 0 ≤ p1.toInt ∧ p1.toInt ≤ 9) (b_p2 : 0 ≤ p2.toInt ∧ p2.toInt ≤ 47) (b_tn_hours : 0 ≤ tn_hours.toInt ∧ tn_hours.toInt ≤ 48) (b_tn_courts : 0 ≤ tn_courts.toInt ∧ tn_courts.toInt ≤ 10) (b_tn_gateCount : 0 ≤ tn_gateCount.toInt ∧ tn_gateCount.toInt ≤ 16) (b_tn_people : 0 ≤ tn_people.toInt ∧ tn_people.toInt ≤ 10) (b_tn_falseHours : 0 ≤ tn_falseHours.toInt ∧ tn_falseHours.toInt ≤ 9) (b_tn_deep : 0 ≤ tn_deep.toInt ∧ tn_deep.toInt ≤ 1) (b_f_tn_told : ∀ j : Nat, 0 ≤ (f_tn_told j).toInt ∧ (f_tn_told j).toInt ≤ 9) (b_f_tn_strayCourts : ∀ j : Nat, 0 ≤ (f_tn_strayCourts j).toInt ∧ (f_tn_strayCourts j).toInt ≤ 9) (sz : Nat) : Met l yX7_showsOf (.code yX7_showsOf cX7_showsOf 4 (some .int) :: zT) ({ frames := 1, cells := 0, slots := 0, locals := 24 }) (va_Pc [.ref tn, .int p1, .int p2, .int p3] (zB sa dC dI (zV3 tn tn_hours tn_courts tn_gateCount tn_people tn_lines tn_falseHours tn_strayers tn_deep tn_above tn_doors tn_degrees tn_neighbours tn_shows tn_oneEnd tn_otherEnd tn_told tn_strayParts tn_strayCourts tn_shows cA_tn_shows f_tn_shows tn_told cA_tn_told f_tn_told tn_strayCourts cA_tn_strayCourts f_tn_strayCourts) [(cA_tn_shows, .int), (cA_tn_told, .int), (cA_tn_strayCourts, .int)] sz)) (va_Qi (fun (r : Int32) (_ : Unit) => True) (fun _ t => zW dC dI (zV3 tn tn_hours tn_courts tn_gateCount tn_people tn_lines tn_falseHours tn_strayers tn_deep tn_above tn_doors tn_degrees tn_neighbours tn_shows tn_oneEnd tn_otherEnd tn_told tn_strayParts tn_strayCourts tn_shows cA_tn_shows f_tn_shows tn_told cA_tn_told f_tn_told tn_strayCourts cA_tn_strayCourts f_tn_strayCourts) [] (va_A (zV3 tn tn_hours tn_courts tn_gateCount tn_people tn_lines tn_falseHours tn_strayers tn_deep tn_above tn_doors tn_degrees tn_neighbours tn_shows tn_oneEnd tn_otherEnd tn_told tn_strayParts tn_strayCourts tn_shows cA_tn_shows f_tn_shows tn_told cA_tn_told f_tn_told tn_strayCourts cA_tn_strayCourts f_tn_strayCourts) sz) t) (va_A (zV3 tn tn_hours tn_courts tn_gateCount tn_people tn_lines tn_falseHours tn_strayers tn_deep tn_above tn_doors tn_degrees tn_neighbours tn_shows tn_oneEnd tn_otherEnd tn_told tn_strayParts tn_strayCourts tn_shows cA_tn_shows f_tn_shows tn_told cA_tn_told f_tn_told tn_strayCourts cA_tn_strayCourts f_tn_strayCourts) sz)) 0 0 (va_A (zV3 tn tn_hours tn_courts tn_gateCount tn_people tn_lines tn_falseHours tn_strayers tn_deep tn_above tn_doors tn_degrees tn_neighbours tn_shows tn_oneEnd tn_otherEnd tn_told tn_strayParts tn_strayCourts tn_shows cA_tn_shows f_tn_shows tn_told cA_tn_told f_tn_told tn_strayCourts cA_tn_strayCourts f_tn_strayCourts) sz) := by
  refine z_enter (by decide) (by exact (Nat.le_of_ble_eq_true rfl)) ?_
  intro p e s m args below meth c ls A R Qc hargs hsz hQe hAe hRe hx hb hml hr hts hown hlocks hin hl hP hK hD hN hXs hA hS
  rw [hAe] at hQe
  have hown : s.vm.findClass RX7 = some m.cls := hown
  have hl : lv_has ls 4 [(0, .ref tn), (1, .int p1), (2, .int p2), (3, .int p3)] := hl
  refine lv_aload_n hx hb dX7_showsOf_0 rfl (lv_at hl 0 rfl) ?_
  refine va_get (D := (dC, dI)) (ci := 7) (v := .ref tn_shows) (C := RX7) (T := TX7) (N := 18) hx hb hts zl_X7 hown hK hP 0 rfl rfl 12 (by decide) (hts _ zw_t1_95) (fun _ h9 => h9) rfl dX7_showsOf_1 ?_
  refine lv_aload_n hx hb dX7_showsOf_4 rfl (lv_at hl 0 rfl) ?_
  refine lv_iload_n hx hb dX7_showsOf_5 rfl (lv_at hl 1 rfl) ?_
  refine lv_iload_n hx hb dX7_showsOf_6 rfl (lv_at hl 2 rfl) ?_
  refine lv_iload_n hx hb dX7_showsOf_7 rfl (lv_at hl 3 rfl) ?_
  obtain ⟨hPc, hDc, hFc⟩ := z_cut (wc := (zV2 tn tn_hours tn_courts tn_gateCount tn_people tn_lines tn_falseHours tn_strayers tn_deep tn_above tn_doors tn_degrees tn_neighbours tn_shows tn_oneEnd tn_otherEnd tn_told tn_strayParts tn_strayCourts tn_told cA_tn_told f_tn_told tn_strayCourts cA_tn_strayCourts f_tn_strayCourts)) hP hD hS hA [0, 2, 3] rfl (by decide +kernel)
  have hKc := hK.sub (tys' := [(cA_tn_told, .int), (cA_tn_strayCourts, .int)]) [1, 2] rfl
  refine va_calli (va_runV (As := [.int p1, .int p2, .int p3]) (rest := [.ref tn_shows]) ⟨hx, hb, hml, hown, hts⟩ (k_X7_courtOf l sa dC dI tn p1 p2 p3 tn_hours tn_courts tn_gateCount tn_people tn_lines tn_falseHours tn_strayers tn_deep tn_above tn_doors tn_degrees tn_neighbours tn_shows tn_oneEnd tn_otherEnd tn_told tn_strayParts tn_strayCourts cA_tn_told f_tn_told cA_tn_strayCourts f_tn_strayCourts b_p1 b_p2 b_tn_hours b_tn_courts b_tn_gateCount b_tn_people b_tn_falseHours b_tn_deep b_f_tn_told b_f_tn_strayCourts s.heap.size) (cwV 3 hts (z_gV zw_t3_209 zw_t3_190 zw_t3_191 zw_t1_3 zw_t3_192) rfl rfl rfl (by decide +kernel) (by rw [← hRe]; exact ⟨(Nat.le_of_ble_eq_true rfl), (Nat.le_of_ble_eq_true rfl)⟩)) (z_preV hPc hKc hDc hN hXs hS hFc (q := (RX7, TX7, 18)) (ci := 7) (q0 := 0) rfl rfl) rfl rfl hl.1 rfl (lv_room (Nat.le_of_ble_eq_true rfl)) dX7_showsOf_8 (by rw [← hRe]; exact ⟨(Nat.le_of_ble_eq_true rfl), (Nat.le_of_ble_eq_true rfl)⟩)) hS (fun q _ h => hFc q h) hFc (fun r_1 u t H1 locs ht hvm hw hB hz1 hk1 hS => ?_)
  obtain ⟨hP, hD, hK⟩ := z_after3 (wn := [(tn_shows, .inl (cA_tn_shows, 10, .inl f_tn_shows)), (tn, .inr (7, [.int tn_hours, .int tn_courts, .int tn_gateCount, .int tn_people, .int tn_lines, .int tn_falseHours, .int tn_strayers, .int tn_deep, .ref tn_above, .ref tn_doors, .ref tn_degrees, .ref tn_neighbours, .ref tn_shows, .ref tn_oneEnd, .ref tn_otherEnd, .ref tn_told, .ref tn_strayParts, .ref tn_strayCourts])), (tn_told, .inl (cA_tn_told, 480, .inl f_tn_told)), (tn_strayCourts, .inl (cA_tn_strayCourts, 10, .inl f_tn_strayCourts))]) hB ht hvm hP hD hK [0, 2, 3] [1] rfl 4 rfl (by decide +kernel) rfl (by decide +kernel) hk1 hFc
  generalize H1 = H at hP hS ⊢
  have hK : va_K (dC, dI) vwCl [(cA_tn_shows, .int), (cA_tn_told, .int), (cA_tn_strayCourts, .int)] s := hK
  have b_r_1 : 0 ≤ r_1.toInt ∧ r_1.toInt ≤ 9 := hw
  refine va_iald hx hb hK hP 0 0 rfl rfl (zi_in rfl (by first | with_reducible assumption | omega)) dX7_showsOf_11 ?_
  refine lv_topi (fun x_2 ex_2 => ?_)
  exact W.iret (v := x_2) hx hb hr (fun t ht hW => by rw [← hQe]; exact ⟨⟨x_2, (), rfl, trivial, z_ret hP hK hD ht hW [1, 0, 2, 3] [] rfl (by decide) rfl⟩, hS.F ht⟩) hS.2.2 dX7_showsOf_12
set_option maxHeartbeats 4000000 in
set_option maxRecDepth 100000 in
theorem k_X7_inside (l : Launch) (sa : Nat → Nat) (dC : Nat → ClassId) (dI : Nat → Nat → Nat) (tn : Nat) (p1 : Int32) (p2 : Int32) (p3 : Int32) (tn_hours : Int32) (tn_courts : Int32) (tn_gateCount : Int32) (tn_people : Int32) (tn_lines : Int32) (tn_falseHours : Int32) (tn_strayers : Int32) (tn_deep : Int32) (tn_above : Nat) (tn_doors : Nat) (tn_degrees : Nat) (tn_neighbours : Nat) (tn_shows : Nat) (tn_oneEnd : Nat) (tn_otherEnd : Nat) (tn_told : Nat) (tn_strayParts : Nat) (tn_strayCourts : Nat) (cA_tn_shows : ClassId) (f_tn_shows : Nat → Int32) (cA_tn_told : ClassId) (f_tn_told : Nat → Int32) (cA_tn_strayCourts : ClassId) (f_tn_strayCourts : Nat → Int32) (b_p2 : 0 ≤ p2.toInt ∧ p2.toInt ≤ 47) (b_tn_hours : 0 ≤ tn_hours.toInt ∧ tn_hours.toInt ≤ 48) (b_tn_courts : 0 ≤ tn_courts.toInt ∧ tn_courts.toInt ≤ 10) (b_tn_gateCount : 0 ≤ tn_gateCount.toInt ∧ tn_gateCount.toInt ≤ 16) (b_tn_people : 0 ≤ tn_people.toInt ∧ tn_people.toInt ≤ 10) (b_tn_falseHours : 0 ≤ tn_falseHours.toInt ∧ tn_falseHours.toInt ≤ 9) (b_tn_deep : 0 ≤ tn_deep.toInt ∧ tn_deep.toInt ≤ 1) (b_f_tn_told : ∀ j : Nat, 0 ≤ (f_tn_told j).toInt ∧ (f_tn_told j).toInt ≤ 9) (b_f_tn_strayCourts : ∀ j : Nat, 0 ≤ (f_tn_strayCourts j).toInt ∧ (f_tn_strayCourts j).toInt ≤ 9) (sz : Nat) : Met l yX7_inside (.code yX7_inside cX7_inside 6 (some .int) :: zT) ({ frames := 2, cells := 0, slots := 0, locals := 47 }) (va_Pc [.ref tn, .int p1, .int p2, .int p3] (zB sa dC dI (zV3 tn tn_hours tn_courts tn_gateCount tn_people tn_lines tn_falseHours tn_strayers tn_deep tn_above tn_doors tn_degrees tn_neighbours tn_shows tn_oneEnd tn_otherEnd tn_told tn_strayParts tn_strayCourts tn_shows cA_tn_shows f_tn_shows tn_told cA_tn_told f_tn_told tn_strayCourts cA_tn_strayCourts f_tn_strayCourts) [(cA_tn_shows, .int), (cA_tn_told, .int), (cA_tn_strayCourts, .int)] sz)) (va_Qi (fun (r : Int32) (_ : Unit) => True) (fun _ t => zW dC dI (zV3 tn tn_hours tn_courts tn_gateCount tn_people tn_lines tn_falseHours tn_strayers tn_deep tn_above tn_doors tn_degrees tn_neighbours tn_shows tn_oneEnd tn_otherEnd tn_told tn_strayParts tn_strayCourts tn_shows cA_tn_shows f_tn_shows tn_told cA_tn_told f_tn_told tn_strayCourts cA_tn_strayCourts f_tn_strayCourts) [] (va_A (zV3 tn tn_hours tn_courts tn_gateCount tn_people tn_lines tn_falseHours tn_strayers tn_deep tn_above tn_doors tn_degrees tn_neighbours tn_shows tn_oneEnd tn_otherEnd tn_told tn_strayParts tn_strayCourts tn_shows cA_tn_shows f_tn_shows tn_told cA_tn_told f_tn_told tn_strayCourts cA_tn_strayCourts f_tn_strayCourts) sz) t) (va_A (zV3 tn tn_hours tn_courts tn_gateCount tn_people tn_lines tn_falseHours tn_strayers tn_deep tn_above tn_doors tn_degrees tn_neighbours tn_shows tn_oneEnd tn_otherEnd tn_told tn_strayParts tn_strayCourts tn_shows cA_tn_shows f_tn_shows tn_told cA_tn_told f_tn_told tn_strayCourts cA_tn_strayCourts f_tn_strayCourts) sz)) 0 0 (va_A (zV3 tn tn_hours tn_courts tn_gateCount tn_people tn_lines tn_falseHours tn_strayers tn_deep tn_above tn_doors tn_degrees tn_neighbours tn_shows tn_oneEnd tn_otherEnd tn_told tn_strayParts tn_strayCourts tn_shows cA_tn_shows f_tn_shows tn_told cA_tn_told f_tn_told tn_strayCourts cA_tn_strayCourts f_tn_strayCourts) sz) := by
  refine z_enter (by decide) (by exact (Nat.le_of_ble_eq_true rfl)) ?_
  intro p e s m args below meth c ls A R Qc hargs hsz hQe hAe hRe hx hb hml hr hts hown hlocks hin hl hP hK hD hN hXs hA hS
  rw [hAe] at hQe
  have hown : s.vm.findClass RX7 = some m.cls := hown
  have hl : lv_has ls 6 [(0, .ref tn), (1, .int p1), (2, .int p2), (3, .int p3)] := hl
  refine lv_iconst (v := 0) hx hb dX7_inside_0 (by decide) ?_
  refine lv_istore (lv' := [(4, .int 0), (0, .ref tn), (1, .int p1), (2, .int p2), (3, .int p3)]) hx hb dX7_inside_1 hl (by decide) rfl (fun ls hl => ?_)
  refine lv_iconst (v := 0) hx hb dX7_inside_3 (by decide) ?_
  refine lv_istore (lv' := [(5, .int 0), (4, .int 0), (0, .ref tn), (1, .int p1), (2, .int p2), (3, .int p3)]) hx hb dX7_inside_4 hl (by decide) rfl (fun ls hl => ?_)
  have loop_1 : ∀ (t : Nat) (v4_2 : Int32) (v5_1 : Int32) (b_v5_1 : 0 ≤ v5_1.toInt ∧ v5_1.toInt ≤ 10) (H : Heap) (locs : List Loc) (ls : Array Slot), 10 - v5_1.toInt < (t : Int) → va_P (dC, dI) vwCl (zV3 tn tn_hours tn_courts tn_gateCount tn_people tn_lines tn_falseHours tn_strayers tn_deep tn_above tn_doors tn_degrees tn_neighbours tn_shows tn_oneEnd tn_otherEnd tn_told tn_strayParts tn_strayCourts tn_shows cA_tn_shows f_tn_shows tn_told cA_tn_told f_tn_told tn_strayCourts cA_tn_strayCourts f_tn_strayCourts) H → va_D A (zV3 tn tn_hours tn_courts tn_gateCount tn_people tn_lines tn_falseHours tn_strayers tn_deep tn_above tn_doors tn_degrees tn_neighbours tn_shows tn_oneEnd tn_otherEnd tn_told tn_strayParts tn_strayCourts tn_shows cA_tn_shows f_tn_shows tn_told cA_tn_told f_tn_told tn_strayCourts cA_tn_strayCourts f_tn_strayCourts) → va_S A s.heap H locs → lv_has ls 6 [(0, .ref tn), (1, .int p1), (2, .int p2), (3, .int p3), (4, .int v4_2), (5, .int v5_1)] → W p l e R s m args below meth c H locs 0 0 (MQ below Qc args s 0 0 A) (F0 m 6 ls []) := by
    intro t
    induction t with
    | zero => intro v4_2 v5_1 b_v5_1 H locs ls hmu _ _ _ _; exact absurd hmu (by first | with_reducible assumption | omega)
    | succ t ih_1 =>
      intro v4_2 v5_1 b_v5_1 H locs ls hmu hP hD hS hl
      refine lv_iload hx hb dX7_inside_6 (lv_at hl 5 rfl) ?_
      refine lv_aload_n hx hb dX7_inside_8 rfl (lv_at hl 0 rfl) ?_
      refine va_get (D := (dC, dI)) (ci := 7) (v := .int tn_people) (C := RX7) (T := TX7) (N := 18) hx hb hts zl_X7 hown hK hP 0 rfl rfl 3 (by decide) (hts _ zw_t1_62) (fun _ h9 => h9) rfl dX7_inside_9 ?_
      refine lv_icmp_ge (tgt := 45) hx hb dX7_inside_12 (by decide) (fun c_3 => ?_) (fun c_3 => ?_)
      · have ic_3 := zz_ge rfl rfl c_3
        refine lv_iload hx hb dX7_inside_45 (lv_at hl 4 rfl) ?_
        exact W.iret (v := v4_2) hx hb hr (fun t ht hW => by rw [← hQe]; exact ⟨⟨v4_2, (), rfl, trivial, z_ret hP hK hD ht hW [0, 1, 2, 3] [] rfl (by decide) rfl⟩, hS.F ht⟩) hS.2.2 dX7_inside_47
      · have ic_3 := zz_nge rfl rfl c_3
        refine lv_aload_n hx hb dX7_inside_15 rfl (lv_at hl 0 rfl) ?_
        refine lv_iload hx hb dX7_inside_16 (lv_at hl 5 rfl) ?_
        refine lv_iload_n hx hb dX7_inside_18 rfl (lv_at hl 2 rfl) ?_
        refine lv_iload_n hx hb dX7_inside_19 rfl (lv_at hl 3 rfl) ?_
        obtain ⟨hPc, hDc, hFc⟩ := z_cut (wc := (zV3 tn tn_hours tn_courts tn_gateCount tn_people tn_lines tn_falseHours tn_strayers tn_deep tn_above tn_doors tn_degrees tn_neighbours tn_shows tn_oneEnd tn_otherEnd tn_told tn_strayParts tn_strayCourts tn_shows cA_tn_shows f_tn_shows tn_told cA_tn_told f_tn_told tn_strayCourts cA_tn_strayCourts f_tn_strayCourts)) hP hD hS hA [0, 1, 2, 3] rfl (by decide +kernel)
        have hKc := hK.sub (tys' := [(cA_tn_shows, .int), (cA_tn_told, .int), (cA_tn_strayCourts, .int)]) [0, 1, 2] rfl
        refine va_calli (va_runV (As := [.int v5_1, .int p2, .int p3]) (rest := []) ⟨hx, hb, hml, hown, hts⟩ (k_X7_showsOf l sa dC dI tn v5_1 p2 p3 tn_hours tn_courts tn_gateCount tn_people tn_lines tn_falseHours tn_strayers tn_deep tn_above tn_doors tn_degrees tn_neighbours tn_shows tn_oneEnd tn_otherEnd tn_told tn_strayParts tn_strayCourts cA_tn_shows f_tn_shows cA_tn_told f_tn_told cA_tn_strayCourts f_tn_strayCourts (by first | with_reducible assumption | omega) b_p2 b_tn_hours b_tn_courts b_tn_gateCount b_tn_people b_tn_falseHours b_tn_deep b_f_tn_told b_f_tn_strayCourts H.size) (cwV 3 hts (z_gV zw_t3_205 zw_t3_206 zw_t3_207 zw_t1_3 zw_t3_208) rfl rfl rfl (by decide +kernel) (by rw [← hRe]; exact ⟨(Nat.le_of_ble_eq_true rfl), (Nat.le_of_ble_eq_true rfl)⟩)) (z_preV hPc hKc hDc hN hXs hS hFc (q := (RX7, TX7, 18)) (ci := 7) (q0 := 0) rfl rfl) rfl rfl hl.1 rfl (lv_room (Nat.le_of_ble_eq_true rfl)) dX7_inside_20 (by rw [← hRe]; exact ⟨(Nat.le_of_ble_eq_true rfl), (Nat.le_of_ble_eq_true rfl)⟩)) hS (fun q _ h => hFc q h) hFc (fun r_4 u t H1 locs ht hvm hw hB hz1 hk1 hS => ?_)
        obtain ⟨hP, hD, hK⟩ := z_after3 (wn := (zV3 tn tn_hours tn_courts tn_gateCount tn_people tn_lines tn_falseHours tn_strayers tn_deep tn_above tn_doors tn_degrees tn_neighbours tn_shows tn_oneEnd tn_otherEnd tn_told tn_strayParts tn_strayCourts tn_shows cA_tn_shows f_tn_shows tn_told cA_tn_told f_tn_told tn_strayCourts cA_tn_strayCourts f_tn_strayCourts)) hB ht hvm hP hD hK [0, 1, 2, 3] [] rfl 4 rfl (by decide +kernel) rfl (by decide +kernel) hk1 hFc
        generalize H1 = H at hP hS ⊢
        have hK : va_K (dC, dI) vwCl [(cA_tn_shows, .int), (cA_tn_told, .int), (cA_tn_strayCourts, .int)] s := hK
        refine lv_iload_n hx hb dX7_inside_23 rfl (lv_at hl 1 rfl) ?_
        obtain ⟨hPc, hDc, hFc⟩ := z_cut (wc := []) hP hD hS hA [] rfl (by decide +kernel)
        have hKc := hK.sub (tys' := []) [] rfl
        refine va_calli (va_runSN (As := [.int r_4, .int p1]) (rest := []) ⟨hx, hb, hml, hown, hts⟩ (k_X9_has l sa dC dI r_4 p1 H.size) ⟨va_cnB 2 hts (z_gI zw_t3_124) rfl rfl rfl hN.2.1 (hts _ zw_t1_1) (by decide +kernel) (by rw [← hRe]; exact ⟨(Nat.le_of_ble_eq_true rfl), (Nat.le_of_ble_eq_true rfl)⟩), (hts _ zw_t3_123), trivial⟩ (z_preS hPc hKc hDc hN hXs hS hFc) rfl rfl hl.1 rfl (lv_room (Nat.le_of_ble_eq_true rfl)) dX7_inside_24 (by rw [← hRe]; exact ⟨(Nat.le_of_ble_eq_true rfl), (Nat.le_of_ble_eq_true rfl)⟩)) hS (fun q _ h => hFc q h) hFc (fun r_5 u t H1 locs ht hvm hw hB hz1 hk1 hS => ?_)
        obtain ⟨hP, hD, hK⟩ := z_after3 (wn := (zV3 tn tn_hours tn_courts tn_gateCount tn_people tn_lines tn_falseHours tn_strayers tn_deep tn_above tn_doors tn_degrees tn_neighbours tn_shows tn_oneEnd tn_otherEnd tn_told tn_strayParts tn_strayCourts tn_shows cA_tn_shows f_tn_shows tn_told cA_tn_told f_tn_told tn_strayCourts cA_tn_strayCourts f_tn_strayCourts)) hB ht hvm hP hD hK [] [0, 1, 2, 3] rfl 4 rfl (by decide +kernel) rfl (by decide +kernel) hk1 hFc
        generalize H1 = H at hP hS ⊢
        have hK : va_K (dC, dI) vwCl [(cA_tn_shows, .int), (cA_tn_told, .int), (cA_tn_strayCourts, .int)] s := hK
        have b_r_5 : 0 ≤ r_5.toInt ∧ r_5.toInt ≤ 1 := hw
        refine lv_if_eq (tgt := 39) hx hb dX7_inside_27 (by decide) (fun c_6 => ?_) (fun c_6 => ?_)
        · have ic_6 := zz_eq rfl (show Int32.toInt 0 = 0 from by decide) c_6
          obtain ⟨x_7, ex_7⟩ : ∃ z : Int32, z = v5_1 + Int32.ofInt 1 := ⟨_, rfl⟩
          have b_x_7 : x_7.toInt = v5_1.toInt + 1 := by rw [ex_7]; exact zi_add rfl (show (Int32.ofInt 1).toInt = 1 from by decide) (z_rac b_v5_1 (by decide))
          refine lv_iinc (v := x_7) (lv' := [(5, .int x_7), (0, .ref tn), (1, .int p1), (2, .int p2), (3, .int p3), (4, .int v4_2)]) hx hb dX7_inside_39 hl (k := 5) rfl ex_7.symm (by decide) rfl (fun ls hl => ?_)
          refine lv_goto (tgt := 6) hx hb dX7_inside_42 (by decide) ?_
          exact ih_1 v4_2 x_7 (by first | with_reducible assumption | omega) _ _ _ (by first | with_reducible assumption | omega) (hP.sub (ws' := (zV3 tn tn_hours tn_courts tn_gateCount tn_people tn_lines tn_falseHours tn_strayers tn_deep tn_above tn_doors tn_degrees tn_neighbours tn_shows tn_oneEnd tn_otherEnd tn_told tn_strayParts tn_strayCourts tn_shows cA_tn_shows f_tn_shows tn_told cA_tn_told f_tn_told tn_strayCourts cA_tn_strayCourts f_tn_strayCourts)) [0, 1, 2, 3] rfl) (hD.sub (ws' := (zV3 tn tn_hours tn_courts tn_gateCount tn_people tn_lines tn_falseHours tn_strayers tn_deep tn_above tn_doors tn_degrees tn_neighbours tn_shows tn_oneEnd tn_otherEnd tn_told tn_strayParts tn_strayCourts tn_shows cA_tn_shows f_tn_shows tn_told cA_tn_told f_tn_told tn_strayCourts cA_tn_strayCourts f_tn_strayCourts)) [0, 1, 2, 3] (by decide) rfl) hS (lv_sub hl [1, 2, 3, 4, 5, 0] rfl)
        · have ic_6 := zz_neq rfl (show Int32.toInt 0 = 0 from by decide) c_6
          refine lv_iload hx hb dX7_inside_30 (lv_at hl 4 rfl) ?_
          refine lv_iconst (v := 1) hx hb dX7_inside_32 (by decide) ?_
          refine lv_iload hx hb dX7_inside_33 (lv_at hl 5 rfl) ?_
          refine lv_ishl hx hb dX7_inside_35 ?_
          refine lv_topi (fun x_8 ex_8 => ?_)
          have b_x_8 : 1 ≤ x_8.toInt ∧ x_8.toInt ≤ 1024 := by rw [ex_8]; exact zi_shl1 rfl (by first | with_reducible assumption | omega)
          refine lv_ior hx hb dX7_inside_36 ?_
          refine lv_topi (fun x_9 ex_9 => ?_)
          refine lv_istore (lv' := [(4, .int x_9), (0, .ref tn), (1, .int p1), (2, .int p2), (3, .int p3), (5, .int v5_1)]) hx hb dX7_inside_37 hl (by decide) rfl (fun ls hl => ?_)
          obtain ⟨x_10, ex_10⟩ : ∃ z : Int32, z = v5_1 + Int32.ofInt 1 := ⟨_, rfl⟩
          have b_x_10 : x_10.toInt = v5_1.toInt + 1 := by rw [ex_10]; exact zi_add rfl (show (Int32.ofInt 1).toInt = 1 from by decide) (z_rac b_v5_1 (by decide))
          refine lv_iinc (v := x_10) (lv' := [(5, .int x_10), (4, .int x_9), (0, .ref tn), (1, .int p1), (2, .int p2), (3, .int p3)]) hx hb dX7_inside_39 hl (k := 5) rfl ex_10.symm (by decide) rfl (fun ls hl => ?_)
          refine lv_goto (tgt := 6) hx hb dX7_inside_42 (by decide) ?_
          exact ih_1 x_9 x_10 (by first | with_reducible assumption | omega) _ _ _ (by first | with_reducible assumption | omega) (hP.sub (ws' := (zV3 tn tn_hours tn_courts tn_gateCount tn_people tn_lines tn_falseHours tn_strayers tn_deep tn_above tn_doors tn_degrees tn_neighbours tn_shows tn_oneEnd tn_otherEnd tn_told tn_strayParts tn_strayCourts tn_shows cA_tn_shows f_tn_shows tn_told cA_tn_told f_tn_told tn_strayCourts cA_tn_strayCourts f_tn_strayCourts)) [0, 1, 2, 3] rfl) (hD.sub (ws' := (zV3 tn tn_hours tn_courts tn_gateCount tn_people tn_lines tn_falseHours tn_strayers tn_deep tn_above tn_doors tn_degrees tn_neighbours tn_shows tn_oneEnd tn_otherEnd tn_told tn_strayParts tn_strayCourts tn_shows cA_tn_shows f_tn_shows tn_told cA_tn_told f_tn_told tn_strayCourts cA_tn_strayCourts f_tn_strayCourts)) [0, 1, 2, 3] (by decide) rfl) hS (lv_sub hl [2, 3, 4, 5, 1, 0] rfl)
  exact loop_1 12 (0) (0) (by decide) _ _ _ (by decide) hP hD hS (lv_sub hl [2, 3, 4, 5, 1, 0] rfl)
set_option maxHeartbeats 4000000 in
set_option maxRecDepth 100000 in
theorem k_X7_beyond (l : Launch) (sa : Nat → Nat) (dC : Nat → ClassId) (dI : Nat → Nat → Nat) (tn : Nat) (p1 : Int32) (p2 : Int32) (tn_hours : Int32) (tn_courts : Int32) (tn_gateCount : Int32) (tn_people : Int32) (tn_lines : Int32) (tn_falseHours : Int32) (tn_strayers : Int32) (tn_deep : Int32) (tn_above : Nat) (tn_doors : Nat) (tn_degrees : Nat) (tn_neighbours : Nat) (tn_shows : Nat) (tn_oneEnd : Nat) (tn_otherEnd : Nat) (tn_told : Nat) (tn_strayParts : Nat) (tn_strayCourts : Nat) (cA_tn_oneEnd : ClassId) (f_tn_oneEnd : Nat → Int32) (cA_tn_otherEnd : ClassId) (f_tn_otherEnd : Nat → Int32) (b_p1 : 0 ≤ p1.toInt ∧ p1.toInt ≤ 15) (b_tn_hours : 0 ≤ tn_hours.toInt ∧ tn_hours.toInt ≤ 48) (b_tn_courts : 0 ≤ tn_courts.toInt ∧ tn_courts.toInt ≤ 10) (b_tn_gateCount : 0 ≤ tn_gateCount.toInt ∧ tn_gateCount.toInt ≤ 16) (b_tn_people : 0 ≤ tn_people.toInt ∧ tn_people.toInt ≤ 10) (b_tn_falseHours : 0 ≤ tn_falseHours.toInt ∧ tn_falseHours.toInt ≤ 9) (b_tn_deep : 0 ≤ tn_deep.toInt ∧ tn_deep.toInt ≤ 1) (b_f_tn_oneEnd : ∀ j : Nat, 0 ≤ (f_tn_oneEnd j).toInt ∧ (f_tn_oneEnd j).toInt ≤ 9) (b_f_tn_otherEnd : ∀ j : Nat, 0 ≤ (f_tn_otherEnd j).toInt ∧ (f_tn_otherEnd j).toInt ≤ 9) (sz : Nat) : Met l yX7_beyond (.code yX7_beyond cX7_beyond 3 (some .int) :: zT) ({ frames := 0, cells := 0, slots := 0, locals := 0 }) (va_Pc [.ref tn, .int p1, .int p2] (zB sa dC dI (zV4 tn tn_hours tn_courts tn_gateCount tn_people tn_lines tn_falseHours tn_strayers tn_deep tn_above tn_doors tn_degrees tn_neighbours tn_shows tn_oneEnd tn_otherEnd tn_told tn_strayParts tn_strayCourts tn_oneEnd cA_tn_oneEnd f_tn_oneEnd tn_otherEnd cA_tn_otherEnd f_tn_otherEnd) [(cA_tn_oneEnd, .int), (cA_tn_otherEnd, .int)] sz)) (va_Qi (fun (r : Int32) (_ : Unit) => ((-1) ≤ r.toInt ∧ r.toInt ≤ 9)) (fun _ t => zW dC dI (zV4 tn tn_hours tn_courts tn_gateCount tn_people tn_lines tn_falseHours tn_strayers tn_deep tn_above tn_doors tn_degrees tn_neighbours tn_shows tn_oneEnd tn_otherEnd tn_told tn_strayParts tn_strayCourts tn_oneEnd cA_tn_oneEnd f_tn_oneEnd tn_otherEnd cA_tn_otherEnd f_tn_otherEnd) [] (va_A (zV4 tn tn_hours tn_courts tn_gateCount tn_people tn_lines tn_falseHours tn_strayers tn_deep tn_above tn_doors tn_degrees tn_neighbours tn_shows tn_oneEnd tn_otherEnd tn_told tn_strayParts tn_strayCourts tn_oneEnd cA_tn_oneEnd f_tn_oneEnd tn_otherEnd cA_tn_otherEnd f_tn_otherEnd) sz) t) (va_A (zV4 tn tn_hours tn_courts tn_gateCount tn_people tn_lines tn_falseHours tn_strayers tn_deep tn_above tn_doors tn_degrees tn_neighbours tn_shows tn_oneEnd tn_otherEnd tn_told tn_strayParts tn_strayCourts tn_oneEnd cA_tn_oneEnd f_tn_oneEnd tn_otherEnd cA_tn_otherEnd f_tn_otherEnd) sz)) 0 0 (va_A (zV4 tn tn_hours tn_courts tn_gateCount tn_people tn_lines tn_falseHours tn_strayers tn_deep tn_above tn_doors tn_degrees tn_neighbours tn_shows tn_oneEnd tn_otherEnd tn_told tn_strayParts tn_strayCourts tn_oneEnd cA_tn_oneEnd f_tn_oneEnd tn_otherEnd cA_tn_otherEnd f_tn_otherEnd) sz) := by
  refine z_enter (by decide) (by exact (Nat.le_of_ble_eq_true rfl)) ?_
  intro p e s m args below meth c ls A R Qc hargs hsz hQe hAe hRe hx hb hml hr hts hown hlocks hin hl hP hK hD hN hXs hA hS
  rw [hAe] at hQe
  have hown : s.vm.findClass RX7 = some m.cls := hown
  have hl : lv_has ls 3 [(0, .ref tn), (1, .int p1), (2, .int p2)] := hl
  refine lv_aload_n hx hb dX7_beyond_0 rfl (lv_at hl 0 rfl) ?_
  refine va_get (D := (dC, dI)) (ci := 7) (v := .ref tn_oneEnd) (C := RX7) (T := TX7) (N := 18) hx hb hts zl_X7 hown hK hP 0 rfl rfl 13 (by decide) (hts _ zw_t1_99) (fun _ h9 => h9) rfl dX7_beyond_1 ?_
  refine lv_iload_n hx hb dX7_beyond_4 rfl (lv_at hl 1 rfl) ?_
  refine va_iald hx hb hK hP 1 0 rfl rfl (zi_in rfl (by first | exact z_rin b_p1 (by decide) | omega)) dX7_beyond_5 ?_
  refine lv_topi (fun x_1 ex_1 => ?_)
  have b_x_1 : 0 ≤ x_1.toInt ∧ x_1.toInt ≤ 9 := by rw [ex_1]; exact b_f_tn_oneEnd _
  refine lv_iload_n hx hb dX7_beyond_6 rfl (lv_at hl 2 rfl) ?_
  have nb_p2 := zi_nb p2
  refine lv_icmp_ne (tgt := 17) hx hb dX7_beyond_7 (by decide) (fun c_2 => ?_) (fun c_2 => ?_)
  · have ic_2 := zz_ne rfl rfl c_2
    refine lv_aload_n hx hb dX7_beyond_17 rfl (lv_at hl 0 rfl) ?_
    refine va_get (D := (dC, dI)) (ci := 7) (v := .ref tn_otherEnd) (C := RX7) (T := TX7) (N := 18) hx hb hts zl_X7 hown hK hP 0 rfl rfl 14 (by decide) (hts _ zw_t1_102) (fun _ h9 => h9) rfl dX7_beyond_18 ?_
    refine lv_iload_n hx hb dX7_beyond_21 rfl (lv_at hl 1 rfl) ?_
    refine va_iald hx hb hK hP 2 1 rfl rfl (zi_in rfl (by first | exact z_rin b_p1 (by decide) | omega)) dX7_beyond_22 ?_
    refine lv_topi (fun x_3 ex_3 => ?_)
    have b_x_3 : 0 ≤ x_3.toInt ∧ x_3.toInt ≤ 9 := by rw [ex_3]; exact b_f_tn_otherEnd _
    refine lv_iload_n hx hb dX7_beyond_23 rfl (lv_at hl 2 rfl) ?_
    refine lv_icmp_ne (tgt := 36) hx hb dX7_beyond_24 (by decide) (fun c_4 => ?_) (fun c_4 => ?_)
    · have ic_4 := zz_ne rfl rfl c_4
      refine lv_iconst (v := (-1)) hx hb dX7_beyond_36 (by decide) ?_
      exact W.iret (v := (-1)) hx hb hr (fun t ht hW => by rw [← hQe]; exact ⟨⟨(-1), (), rfl, (by decide), z_ret hP hK hD ht hW [0, 1, 2] [] rfl (by decide) rfl⟩, hS.F ht⟩) hS.2.2 dX7_beyond_37
    · have ic_4 := zz_nne rfl rfl c_4
      refine lv_aload_n hx hb dX7_beyond_27 rfl (lv_at hl 0 rfl) ?_
      refine va_get (D := (dC, dI)) (ci := 7) (v := .ref tn_oneEnd) (C := RX7) (T := TX7) (N := 18) hx hb hts zl_X7 hown hK hP 0 rfl rfl 13 (by decide) (hts _ zw_t1_99) (fun _ h9 => h9) rfl dX7_beyond_28 ?_
      refine lv_iload_n hx hb dX7_beyond_31 rfl (lv_at hl 1 rfl) ?_
      refine va_iald hx hb hK hP 1 0 rfl rfl (zi_in rfl (by first | exact z_rin b_p1 (by decide) | omega)) dX7_beyond_32 ?_
      refine lv_topi (fun x_5 ex_5 => ?_)
      obtain rfl : x_1 = x_5 := ex_1.trans ex_5.symm
      refine lv_goto (tgt := 37) hx hb dX7_beyond_33 (by decide) ?_
      exact W.iret (v := x_1) hx hb hr (fun t ht hW => by rw [← hQe]; exact ⟨⟨x_1, (), rfl, (by first | with_reducible assumption | exact z_rle b_x_1 (by decide) | omega), z_ret hP hK hD ht hW [0, 1, 2] [] rfl (by decide) rfl⟩, hS.F ht⟩) hS.2.2 dX7_beyond_37
  · have ic_2 := zz_nne rfl rfl c_2
    refine lv_aload_n hx hb dX7_beyond_10 rfl (lv_at hl 0 rfl) ?_
    refine va_get (D := (dC, dI)) (ci := 7) (v := .ref tn_otherEnd) (C := RX7) (T := TX7) (N := 18) hx hb hts zl_X7 hown hK hP 0 rfl rfl 14 (by decide) (hts _ zw_t1_102) (fun _ h9 => h9) rfl dX7_beyond_11 ?_
    refine lv_iload_n hx hb dX7_beyond_14 rfl (lv_at hl 1 rfl) ?_
    refine va_iald hx hb hK hP 2 1 rfl rfl (zi_in rfl (by first | exact z_rin b_p1 (by decide) | omega)) dX7_beyond_15 ?_
    refine lv_topi (fun x_6 ex_6 => ?_)
    have b_x_6 : 0 ≤ x_6.toInt ∧ x_6.toInt ≤ 9 := by rw [ex_6]; exact b_f_tn_otherEnd _
    exact W.iret (v := x_6) hx hb hr (fun t ht hW => by rw [← hQe]; exact ⟨⟨x_6, (), rfl, (by first | with_reducible assumption | exact z_rle b_x_6 (by decide) | omega), z_ret hP hK hD ht hW [0, 1, 2] [] rfl (by decide) rfl⟩, hS.F ht⟩) hS.2.2 dX7_beyond_16
set_option maxHeartbeats 4000000 in
set_option maxRecDepth 100000 in
theorem k_X7_isFree (l : Launch) (sa : Nat → Nat) (dC : Nat → ClassId) (dI : Nat → Nat → Nat) (tn : Nat) (p1 : Int32) (p2 : Int32) (tn_hours : Int32) (tn_courts : Int32) (tn_gateCount : Int32) (tn_people : Int32) (tn_lines : Int32) (tn_falseHours : Int32) (tn_strayers : Int32) (tn_deep : Int32) (tn_above : Nat) (tn_doors : Nat) (tn_degrees : Nat) (tn_neighbours : Nat) (tn_shows : Nat) (tn_oneEnd : Nat) (tn_otherEnd : Nat) (tn_told : Nat) (tn_strayParts : Nat) (tn_strayCourts : Nat) (cA_tn_above : ClassId) (f_tn_above : Nat → Int32) (b_p1 : 0 ≤ p1.toInt ∧ p1.toInt ≤ 9) (b_tn_hours : 0 ≤ tn_hours.toInt ∧ tn_hours.toInt ≤ 48) (b_tn_courts : 0 ≤ tn_courts.toInt ∧ tn_courts.toInt ≤ 10) (b_tn_gateCount : 0 ≤ tn_gateCount.toInt ∧ tn_gateCount.toInt ≤ 16) (b_tn_people : 0 ≤ tn_people.toInt ∧ tn_people.toInt ≤ 10) (b_tn_falseHours : 0 ≤ tn_falseHours.toInt ∧ tn_falseHours.toInt ≤ 9) (b_tn_deep : 0 ≤ tn_deep.toInt ∧ tn_deep.toInt ≤ 1) (sz : Nat) : Met l yX7_isFree (.code yX7_isFree cX7_isFree 3 (some .boolean) :: zT) ({ frames := 1, cells := 0, slots := 0, locals := 21 }) (va_Pc [.ref tn, .int p1, .int p2] (zB sa dC dI (zV5 tn tn_hours tn_courts tn_gateCount tn_people tn_lines tn_falseHours tn_strayers tn_deep tn_above tn_doors tn_degrees tn_neighbours tn_shows tn_oneEnd tn_otherEnd tn_told tn_strayParts tn_strayCourts tn_above cA_tn_above f_tn_above) [(cA_tn_above, .int)] sz)) (va_Qi (fun (r : Int32) (_ : Unit) => (0 ≤ r.toInt ∧ r.toInt ≤ 1)) (fun _ t => zW dC dI (zV5 tn tn_hours tn_courts tn_gateCount tn_people tn_lines tn_falseHours tn_strayers tn_deep tn_above tn_doors tn_degrees tn_neighbours tn_shows tn_oneEnd tn_otherEnd tn_told tn_strayParts tn_strayCourts tn_above cA_tn_above f_tn_above) [] (va_A (zV5 tn tn_hours tn_courts tn_gateCount tn_people tn_lines tn_falseHours tn_strayers tn_deep tn_above tn_doors tn_degrees tn_neighbours tn_shows tn_oneEnd tn_otherEnd tn_told tn_strayParts tn_strayCourts tn_above cA_tn_above f_tn_above) sz) t) (va_A (zV5 tn tn_hours tn_courts tn_gateCount tn_people tn_lines tn_falseHours tn_strayers tn_deep tn_above tn_doors tn_degrees tn_neighbours tn_shows tn_oneEnd tn_otherEnd tn_told tn_strayParts tn_strayCourts tn_above cA_tn_above f_tn_above) sz)) 0 0 (va_A (zV5 tn tn_hours tn_courts tn_gateCount tn_people tn_lines tn_falseHours tn_strayers tn_deep tn_above tn_doors tn_degrees tn_neighbours tn_shows tn_oneEnd tn_otherEnd tn_told tn_strayParts tn_strayCourts tn_above cA_tn_above f_tn_above) sz) := by
  refine z_enter (by decide) (by exact (Nat.le_of_ble_eq_true rfl)) ?_
  intro p e s m args below meth c ls A R Qc hargs hsz hQe hAe hRe hx hb hml hr hts hown hlocks hin hl hP hK hD hN hXs hA hS
  rw [hAe] at hQe
  have hown : s.vm.findClass RX7 = some m.cls := hown
  have hl : lv_has ls 3 [(0, .ref tn), (1, .int p1), (2, .int p2)] := hl
  refine lv_aload_n hx hb dX7_isFree_0 rfl (lv_at hl 0 rfl) ?_
  refine va_get (D := (dC, dI)) (ci := 7) (v := .ref tn_above) (C := RX7) (T := TX7) (N := 18) hx hb hts zl_X7 hown hK hP 0 rfl rfl 8 (by decide) (hts _ zw_t1_79) (fun _ h9 => h9) rfl dX7_isFree_1 ?_
  refine lv_iload_n hx hb dX7_isFree_4 rfl (lv_at hl 1 rfl) ?_
  refine va_iald hx hb hK hP 1 0 rfl rfl (zi_in rfl (by first | exact z_rin b_p1 (by decide) | omega)) dX7_isFree_5 ?_
  refine lv_topi (fun x_1 ex_1 => ?_)
  refine lv_iload_n hx hb dX7_isFree_6 rfl (lv_at hl 2 rfl) ?_
  obtain ⟨hPc, hDc, hFc⟩ := z_cut (wc := []) hP hD hS hA [] rfl (by decide +kernel)
  have hKc := hK.sub (tys' := []) [] rfl
  refine va_calli (va_runSN (As := [.int x_1, .int p2]) (rest := []) ⟨hx, hb, hml, hown, hts⟩ (k_X9_has l sa dC dI x_1 p2 s.heap.size) ⟨va_cnB 2 hts (z_gI zw_t3_124) rfl rfl rfl hN.2.1 (hts _ zw_t1_1) (by decide +kernel) (by rw [← hRe]; exact ⟨(Nat.le_of_ble_eq_true rfl), (Nat.le_of_ble_eq_true rfl)⟩), (hts _ zw_t3_123), trivial⟩ (z_preS hPc hKc hDc hN hXs hS hFc) rfl rfl hl.1 rfl (lv_room (Nat.le_of_ble_eq_true rfl)) dX7_isFree_7 (by rw [← hRe]; exact ⟨(Nat.le_of_ble_eq_true rfl), (Nat.le_of_ble_eq_true rfl)⟩)) hS (fun q _ h => hFc q h) hFc (fun r_2 u t H1 locs ht hvm hw hB hz1 hk1 hS => ?_)
  obtain ⟨hP, hD, hK⟩ := z_after3 (wn := (zV5 tn tn_hours tn_courts tn_gateCount tn_people tn_lines tn_falseHours tn_strayers tn_deep tn_above tn_doors tn_degrees tn_neighbours tn_shows tn_oneEnd tn_otherEnd tn_told tn_strayParts tn_strayCourts tn_above cA_tn_above f_tn_above)) hB ht hvm hP hD hK [] [0, 1] rfl 2 rfl (by decide +kernel) rfl (by decide +kernel) hk1 hFc
  generalize H1 = H at hP hS ⊢
  have hK : va_K (dC, dI) vwCl [(cA_tn_above, .int)] s := hK
  have b_r_2 : 0 ≤ r_2.toInt ∧ r_2.toInt ≤ 1 := hw
  exact W.zret (v := r_2) hx hb hr (zi_bool (by first | with_reducible assumption | omega)) (fun t ht hW => by rw [← hQe]; exact ⟨⟨r_2, (), rfl, (by first | decide | omega), z_ret hP hK hD ht hW [0, 1] [] rfl (by decide) rfl⟩, hS.F ht⟩) hS.2.2 dX7_isFree_10
set_option maxHeartbeats 4000000 in
set_option maxRecDepth 100000 in
theorem k_X7_openBy (l : Launch) (sa : Nat → Nat) (dC : Nat → ClassId) (dI : Nat → Nat → Nat) (tn : Nat) (p1 : Int32) (p2 : Int32) (p3 : Int32) (tn_hours : Int32) (tn_courts : Int32) (tn_gateCount : Int32) (tn_people : Int32) (tn_lines : Int32) (tn_falseHours : Int32) (tn_strayers : Int32) (tn_deep : Int32) (tn_above : Nat) (tn_doors : Nat) (tn_degrees : Nat) (tn_neighbours : Nat) (tn_shows : Nat) (tn_oneEnd : Nat) (tn_otherEnd : Nat) (tn_told : Nat) (tn_strayParts : Nat) (tn_strayCourts : Nat) (cA_tn_shows : ClassId) (f_tn_shows : Nat → Int32) (cA_tn_told : ClassId) (f_tn_told : Nat → Int32) (cA_tn_strayCourts : ClassId) (f_tn_strayCourts : Nat → Int32) (b_p2 : 0 ≤ p2.toInt ∧ p2.toInt ≤ 47) (b_tn_hours : 0 ≤ tn_hours.toInt ∧ tn_hours.toInt ≤ 48) (b_tn_courts : 0 ≤ tn_courts.toInt ∧ tn_courts.toInt ≤ 10) (b_tn_gateCount : 0 ≤ tn_gateCount.toInt ∧ tn_gateCount.toInt ≤ 16) (b_tn_people : 0 ≤ tn_people.toInt ∧ tn_people.toInt ≤ 10) (b_tn_falseHours : 0 ≤ tn_falseHours.toInt ∧ tn_falseHours.toInt ≤ 9) (b_tn_deep : 0 ≤ tn_deep.toInt ∧ tn_deep.toInt ≤ 1) (b_f_tn_told : ∀ j : Nat, 0 ≤ (f_tn_told j).toInt ∧ (f_tn_told j).toInt ≤ 9) (b_f_tn_strayCourts : ∀ j : Nat, 0 ≤ (f_tn_strayCourts j).toInt ∧ (f_tn_strayCourts j).toInt ≤ 9) (sz : Nat) : Met l yX7_openBy (.code yX7_openBy cX7_openBy 6 (some .int) :: zT) ({ frames := 2, cells := 0, slots := 0, locals := 47 }) (va_Pc [.ref tn, .int p1, .int p2, .int p3] (zB sa dC dI (zV3 tn tn_hours tn_courts tn_gateCount tn_people tn_lines tn_falseHours tn_strayers tn_deep tn_above tn_doors tn_degrees tn_neighbours tn_shows tn_oneEnd tn_otherEnd tn_told tn_strayParts tn_strayCourts tn_shows cA_tn_shows f_tn_shows tn_told cA_tn_told f_tn_told tn_strayCourts cA_tn_strayCourts f_tn_strayCourts) [(cA_tn_shows, .int), (cA_tn_told, .int), (cA_tn_strayCourts, .int)] sz)) (va_Qi (fun (r : Int32) (_ : Unit) => True) (fun _ t => zW dC dI (zV3 tn tn_hours tn_courts tn_gateCount tn_people tn_lines tn_falseHours tn_strayers tn_deep tn_above tn_doors tn_degrees tn_neighbours tn_shows tn_oneEnd tn_otherEnd tn_told tn_strayParts tn_strayCourts tn_shows cA_tn_shows f_tn_shows tn_told cA_tn_told f_tn_told tn_strayCourts cA_tn_strayCourts f_tn_strayCourts) [] (va_A (zV3 tn tn_hours tn_courts tn_gateCount tn_people tn_lines tn_falseHours tn_strayers tn_deep tn_above tn_doors tn_degrees tn_neighbours tn_shows tn_oneEnd tn_otherEnd tn_told tn_strayParts tn_strayCourts tn_shows cA_tn_shows f_tn_shows tn_told cA_tn_told f_tn_told tn_strayCourts cA_tn_strayCourts f_tn_strayCourts) sz) t) (va_A (zV3 tn tn_hours tn_courts tn_gateCount tn_people tn_lines tn_falseHours tn_strayers tn_deep tn_above tn_doors tn_degrees tn_neighbours tn_shows tn_oneEnd tn_otherEnd tn_told tn_strayParts tn_strayCourts tn_shows cA_tn_shows f_tn_shows tn_told cA_tn_told f_tn_told tn_strayCourts cA_tn_strayCourts f_tn_strayCourts) sz)) 0 0 (va_A (zV3 tn tn_hours tn_courts tn_gateCount tn_people tn_lines tn_falseHours tn_strayers tn_deep tn_above tn_doors tn_degrees tn_neighbours tn_shows tn_oneEnd tn_otherEnd tn_told tn_strayParts tn_strayCourts tn_shows cA_tn_shows f_tn_shows tn_told cA_tn_told f_tn_told tn_strayCourts cA_tn_strayCourts f_tn_strayCourts) sz) := by
  refine z_enter (by decide) (by exact (Nat.le_of_ble_eq_true rfl)) ?_
  intro p e s m args below meth c ls A R Qc hargs hsz hQe hAe hRe hx hb hml hr hts hown hlocks hin hl hP hK hD hN hXs hA hS
  rw [hAe] at hQe
  have hown : s.vm.findClass RX7 = some m.cls := hown
  have hl : lv_has ls 6 [(0, .ref tn), (1, .int p1), (2, .int p2), (3, .int p3)] := hl
  refine lv_iconst (v := 0) hx hb dX7_openBy_0 (by decide) ?_
  refine lv_istore (lv' := [(4, .int 0), (0, .ref tn), (1, .int p1), (2, .int p2), (3, .int p3)]) hx hb dX7_openBy_1 hl (by decide) rfl (fun ls hl => ?_)
  refine lv_iconst (v := 0) hx hb dX7_openBy_3 (by decide) ?_
  refine lv_istore (lv' := [(5, .int 0), (4, .int 0), (0, .ref tn), (1, .int p1), (2, .int p2), (3, .int p3)]) hx hb dX7_openBy_4 hl (by decide) rfl (fun ls hl => ?_)
  have loop_1 : ∀ (t : Nat) (v4_2 : Int32) (v5_1 : Int32) (b_v5_1 : 0 ≤ v5_1.toInt ∧ v5_1.toInt ≤ 10) (H : Heap) (locs : List Loc) (ls : Array Slot), 10 - v5_1.toInt < (t : Int) → va_P (dC, dI) vwCl (zV3 tn tn_hours tn_courts tn_gateCount tn_people tn_lines tn_falseHours tn_strayers tn_deep tn_above tn_doors tn_degrees tn_neighbours tn_shows tn_oneEnd tn_otherEnd tn_told tn_strayParts tn_strayCourts tn_shows cA_tn_shows f_tn_shows tn_told cA_tn_told f_tn_told tn_strayCourts cA_tn_strayCourts f_tn_strayCourts) H → va_D A (zV3 tn tn_hours tn_courts tn_gateCount tn_people tn_lines tn_falseHours tn_strayers tn_deep tn_above tn_doors tn_degrees tn_neighbours tn_shows tn_oneEnd tn_otherEnd tn_told tn_strayParts tn_strayCourts tn_shows cA_tn_shows f_tn_shows tn_told cA_tn_told f_tn_told tn_strayCourts cA_tn_strayCourts f_tn_strayCourts) → va_S A s.heap H locs → lv_has ls 6 [(0, .ref tn), (1, .int p1), (2, .int p2), (3, .int p3), (4, .int v4_2), (5, .int v5_1)] → W p l e R s m args below meth c H locs 0 0 (MQ below Qc args s 0 0 A) (F0 m 6 ls []) := by
    intro t
    induction t with
    | zero => intro v4_2 v5_1 b_v5_1 H locs ls hmu _ _ _ _; exact absurd hmu (by first | with_reducible assumption | omega)
    | succ t ih_1 =>
      intro v4_2 v5_1 b_v5_1 H locs ls hmu hP hD hS hl
      refine lv_iload hx hb dX7_openBy_6 (lv_at hl 5 rfl) ?_
      refine lv_aload_n hx hb dX7_openBy_8 rfl (lv_at hl 0 rfl) ?_
      refine va_get (D := (dC, dI)) (ci := 7) (v := .int tn_people) (C := RX7) (T := TX7) (N := 18) hx hb hts zl_X7 hown hK hP 0 rfl rfl 3 (by decide) (hts _ zw_t1_62) (fun _ h9 => h9) rfl dX7_openBy_9 ?_
      refine lv_icmp_ge (tgt := 43) hx hb dX7_openBy_12 (by decide) (fun c_3 => ?_) (fun c_3 => ?_)
      · have ic_3 := zz_ge rfl rfl c_3
        refine lv_iload hx hb dX7_openBy_43 (lv_at hl 4 rfl) ?_
        exact W.iret (v := v4_2) hx hb hr (fun t ht hW => by rw [← hQe]; exact ⟨⟨v4_2, (), rfl, trivial, z_ret hP hK hD ht hW [0, 1, 2, 3] [] rfl (by decide) rfl⟩, hS.F ht⟩) hS.2.2 dX7_openBy_45
      · have ic_3 := zz_nge rfl rfl c_3
        refine lv_iload_n hx hb dX7_openBy_15 rfl (lv_at hl 1 rfl) ?_
        refine lv_iload hx hb dX7_openBy_16 (lv_at hl 5 rfl) ?_
        obtain ⟨hPc, hDc, hFc⟩ := z_cut (wc := []) hP hD hS hA [] rfl (by decide +kernel)
        have hKc := hK.sub (tys' := []) [] rfl
        refine va_calli (va_runSN (As := [.int p1, .int v5_1]) (rest := []) ⟨hx, hb, hml, hown, hts⟩ (k_X9_has l sa dC dI p1 v5_1 H.size) ⟨va_cnB 2 hts (z_gI zw_t3_124) rfl rfl rfl hN.2.1 (hts _ zw_t1_1) (by decide +kernel) (by rw [← hRe]; exact ⟨(Nat.le_of_ble_eq_true rfl), (Nat.le_of_ble_eq_true rfl)⟩), (hts _ zw_t3_123), trivial⟩ (z_preS hPc hKc hDc hN hXs hS hFc) rfl rfl hl.1 rfl (lv_room (Nat.le_of_ble_eq_true rfl)) dX7_openBy_18 (by rw [← hRe]; exact ⟨(Nat.le_of_ble_eq_true rfl), (Nat.le_of_ble_eq_true rfl)⟩)) hS (fun q _ h => hFc q h) hFc (fun r_4 u t H1 locs ht hvm hw hB hz1 hk1 hS => ?_)
        obtain ⟨hP, hD, hK⟩ := z_after3 (wn := (zV3 tn tn_hours tn_courts tn_gateCount tn_people tn_lines tn_falseHours tn_strayers tn_deep tn_above tn_doors tn_degrees tn_neighbours tn_shows tn_oneEnd tn_otherEnd tn_told tn_strayParts tn_strayCourts tn_shows cA_tn_shows f_tn_shows tn_told cA_tn_told f_tn_told tn_strayCourts cA_tn_strayCourts f_tn_strayCourts)) hB ht hvm hP hD hK [] [0, 1, 2, 3] rfl 4 rfl (by decide +kernel) rfl (by decide +kernel) hk1 hFc
        generalize H1 = H at hP hS ⊢
        have hK : va_K (dC, dI) vwCl [(cA_tn_shows, .int), (cA_tn_told, .int), (cA_tn_strayCourts, .int)] s := hK
        have b_r_4 : 0 ≤ r_4.toInt ∧ r_4.toInt ≤ 1 := hw
        refine lv_if_eq (tgt := 37) hx hb dX7_openBy_21 (by decide) (fun c_5 => ?_) (fun c_5 => ?_)
        · have ic_5 := zz_eq rfl (show Int32.toInt 0 = 0 from by decide) c_5
          obtain ⟨x_6, ex_6⟩ : ∃ z : Int32, z = v5_1 + Int32.ofInt 1 := ⟨_, rfl⟩
          have b_x_6 : x_6.toInt = v5_1.toInt + 1 := by rw [ex_6]; exact zi_add rfl (show (Int32.ofInt 1).toInt = 1 from by decide) (z_rac b_v5_1 (by decide))
          refine lv_iinc (v := x_6) (lv' := [(5, .int x_6), (0, .ref tn), (1, .int p1), (2, .int p2), (3, .int p3), (4, .int v4_2)]) hx hb dX7_openBy_37 hl (k := 5) rfl ex_6.symm (by decide) rfl (fun ls hl => ?_)
          refine lv_goto (tgt := 6) hx hb dX7_openBy_40 (by decide) ?_
          exact ih_1 v4_2 x_6 (by first | with_reducible assumption | omega) _ _ _ (by first | with_reducible assumption | omega) (hP.sub (ws' := (zV3 tn tn_hours tn_courts tn_gateCount tn_people tn_lines tn_falseHours tn_strayers tn_deep tn_above tn_doors tn_degrees tn_neighbours tn_shows tn_oneEnd tn_otherEnd tn_told tn_strayParts tn_strayCourts tn_shows cA_tn_shows f_tn_shows tn_told cA_tn_told f_tn_told tn_strayCourts cA_tn_strayCourts f_tn_strayCourts)) [0, 1, 2, 3] rfl) (hD.sub (ws' := (zV3 tn tn_hours tn_courts tn_gateCount tn_people tn_lines tn_falseHours tn_strayers tn_deep tn_above tn_doors tn_degrees tn_neighbours tn_shows tn_oneEnd tn_otherEnd tn_told tn_strayParts tn_strayCourts tn_shows cA_tn_shows f_tn_shows tn_told cA_tn_told f_tn_told tn_strayCourts cA_tn_strayCourts f_tn_strayCourts)) [0, 1, 2, 3] (by decide) rfl) hS (lv_sub hl [1, 2, 3, 4, 5, 0] rfl)
        · have ic_5 := zz_neq rfl (show Int32.toInt 0 = 0 from by decide) c_5
          refine lv_iload hx hb dX7_openBy_24 (lv_at hl 4 rfl) ?_
          refine lv_aload_n hx hb dX7_openBy_26 rfl (lv_at hl 0 rfl) ?_
          refine lv_iload hx hb dX7_openBy_27 (lv_at hl 5 rfl) ?_
          refine lv_iload_n hx hb dX7_openBy_29 rfl (lv_at hl 2 rfl) ?_
          refine lv_iload_n hx hb dX7_openBy_30 rfl (lv_at hl 3 rfl) ?_
          obtain ⟨hPc, hDc, hFc⟩ := z_cut (wc := (zV3 tn tn_hours tn_courts tn_gateCount tn_people tn_lines tn_falseHours tn_strayers tn_deep tn_above tn_doors tn_degrees tn_neighbours tn_shows tn_oneEnd tn_otherEnd tn_told tn_strayParts tn_strayCourts tn_shows cA_tn_shows f_tn_shows tn_told cA_tn_told f_tn_told tn_strayCourts cA_tn_strayCourts f_tn_strayCourts)) hP hD hS hA [0, 1, 2, 3] rfl (by decide +kernel)
          have hKc := hK.sub (tys' := [(cA_tn_shows, .int), (cA_tn_told, .int), (cA_tn_strayCourts, .int)]) [0, 1, 2] rfl
          refine va_calli (va_runV (As := [.int v5_1, .int p2, .int p3]) (rest := [.int v4_2]) ⟨hx, hb, hml, hown, hts⟩ (k_X7_showsOf l sa dC dI tn v5_1 p2 p3 tn_hours tn_courts tn_gateCount tn_people tn_lines tn_falseHours tn_strayers tn_deep tn_above tn_doors tn_degrees tn_neighbours tn_shows tn_oneEnd tn_otherEnd tn_told tn_strayParts tn_strayCourts cA_tn_shows f_tn_shows cA_tn_told f_tn_told cA_tn_strayCourts f_tn_strayCourts (by first | with_reducible assumption | omega) b_p2 b_tn_hours b_tn_courts b_tn_gateCount b_tn_people b_tn_falseHours b_tn_deep b_f_tn_told b_f_tn_strayCourts H.size) (cwV 3 hts (z_gV zw_t3_205 zw_t3_206 zw_t3_207 zw_t1_3 zw_t3_208) rfl rfl rfl (by decide +kernel) (by rw [← hRe]; exact ⟨(Nat.le_of_ble_eq_true rfl), (Nat.le_of_ble_eq_true rfl)⟩)) (z_preV hPc hKc hDc hN hXs hS hFc (q := (RX7, TX7, 18)) (ci := 7) (q0 := 0) rfl rfl) rfl rfl hl.1 rfl (lv_room (Nat.le_of_ble_eq_true rfl)) dX7_openBy_31 (by rw [← hRe]; exact ⟨(Nat.le_of_ble_eq_true rfl), (Nat.le_of_ble_eq_true rfl)⟩)) hS (fun q _ h => hFc q h) hFc (fun r_7 u t H1 locs ht hvm hw hB hz1 hk1 hS => ?_)
          obtain ⟨hP, hD, hK⟩ := z_after3 (wn := (zV3 tn tn_hours tn_courts tn_gateCount tn_people tn_lines tn_falseHours tn_strayers tn_deep tn_above tn_doors tn_degrees tn_neighbours tn_shows tn_oneEnd tn_otherEnd tn_told tn_strayParts tn_strayCourts tn_shows cA_tn_shows f_tn_shows tn_told cA_tn_told f_tn_told tn_strayCourts cA_tn_strayCourts f_tn_strayCourts)) hB ht hvm hP hD hK [0, 1, 2, 3] [] rfl 4 rfl (by decide +kernel) rfl (by decide +kernel) hk1 hFc
          generalize H1 = H at hP hS ⊢
          have hK : va_K (dC, dI) vwCl [(cA_tn_shows, .int), (cA_tn_told, .int), (cA_tn_strayCourts, .int)] s := hK
          refine lv_ior hx hb dX7_openBy_34 ?_
          refine lv_topi (fun x_8 ex_8 => ?_)
          refine lv_istore (lv' := [(4, .int x_8), (0, .ref tn), (1, .int p1), (2, .int p2), (3, .int p3), (5, .int v5_1)]) hx hb dX7_openBy_35 hl (by decide) rfl (fun ls hl => ?_)
          obtain ⟨x_9, ex_9⟩ : ∃ z : Int32, z = v5_1 + Int32.ofInt 1 := ⟨_, rfl⟩
          have b_x_9 : x_9.toInt = v5_1.toInt + 1 := by rw [ex_9]; exact zi_add rfl (show (Int32.ofInt 1).toInt = 1 from by decide) (z_rac b_v5_1 (by decide))
          refine lv_iinc (v := x_9) (lv' := [(5, .int x_9), (4, .int x_8), (0, .ref tn), (1, .int p1), (2, .int p2), (3, .int p3)]) hx hb dX7_openBy_37 hl (k := 5) rfl ex_9.symm (by decide) rfl (fun ls hl => ?_)
          refine lv_goto (tgt := 6) hx hb dX7_openBy_40 (by decide) ?_
          exact ih_1 x_8 x_9 (by first | with_reducible assumption | omega) _ _ _ (by first | with_reducible assumption | omega) (hP.sub (ws' := (zV3 tn tn_hours tn_courts tn_gateCount tn_people tn_lines tn_falseHours tn_strayers tn_deep tn_above tn_doors tn_degrees tn_neighbours tn_shows tn_oneEnd tn_otherEnd tn_told tn_strayParts tn_strayCourts tn_shows cA_tn_shows f_tn_shows tn_told cA_tn_told f_tn_told tn_strayCourts cA_tn_strayCourts f_tn_strayCourts)) [0, 1, 2, 3] rfl) (hD.sub (ws' := (zV3 tn tn_hours tn_courts tn_gateCount tn_people tn_lines tn_falseHours tn_strayers tn_deep tn_above tn_doors tn_degrees tn_neighbours tn_shows tn_oneEnd tn_otherEnd tn_told tn_strayParts tn_strayCourts tn_shows cA_tn_shows f_tn_shows tn_told cA_tn_told f_tn_told tn_strayCourts cA_tn_strayCourts f_tn_strayCourts)) [0, 1, 2, 3] (by decide) rfl) hS (lv_sub hl [2, 3, 4, 5, 1, 0] rfl)
  exact loop_1 12 (0) (0) (by decide) _ _ _ (by decide) hP hD hS (lv_sub hl [2, 3, 4, 5, 1, 0] rfl)
set_option maxHeartbeats 4000000 in
set_option maxRecDepth 100000 in
theorem k_X7_chanceOf (l : Launch) (sa : Nat → Nat) (dC : Nat → ClassId) (dI : Nat → Nat → Nat) (tn : Nat) (p1 : Int32) (p2 : Int32) (tn_hours : Int32) (tn_courts : Int32) (tn_gateCount : Int32) (tn_people : Int32) (tn_lines : Int32) (tn_falseHours : Int32) (tn_strayers : Int32) (tn_deep : Int32) (tn_above : Nat) (tn_doors : Nat) (tn_degrees : Nat) (tn_neighbours : Nat) (tn_shows : Nat) (tn_oneEnd : Nat) (tn_otherEnd : Nat) (tn_told : Nat) (tn_strayParts : Nat) (tn_strayCourts : Nat) (cA_tn_strayParts : ClassId) (f_tn_strayParts : Nat → Int32) (b_tn_hours : 0 ≤ tn_hours.toInt ∧ tn_hours.toInt ≤ 48) (b_tn_courts : 0 ≤ tn_courts.toInt ∧ tn_courts.toInt ≤ 10) (b_tn_gateCount : 0 ≤ tn_gateCount.toInt ∧ tn_gateCount.toInt ≤ 16) (b_tn_people : 0 ≤ tn_people.toInt ∧ tn_people.toInt ≤ 10) (b_tn_falseHours : 0 ≤ tn_falseHours.toInt ∧ tn_falseHours.toInt ≤ 9) (b_tn_deep : 0 ≤ tn_deep.toInt ∧ tn_deep.toInt ≤ 1) (b_f_tn_strayParts : ∀ j : Nat, 0 ≤ (f_tn_strayParts j).toInt ∧ (f_tn_strayParts j).toInt ≤ 99) (sz : Nat) : Met l yX7_chanceOf (.code yX7_chanceOf cX7_chanceOf 7 (some .long) :: zT) ({ frames := 1, cells := 0, slots := 0, locals := 21 }) (va_Pc [.ref tn, .int p1, .int p2] (zB sa dC dI (zV5 tn tn_hours tn_courts tn_gateCount tn_people tn_lines tn_falseHours tn_strayers tn_deep tn_above tn_doors tn_degrees tn_neighbours tn_shows tn_oneEnd tn_otherEnd tn_told tn_strayParts tn_strayCourts tn_strayParts cA_tn_strayParts f_tn_strayParts) [(cA_tn_strayParts, .int)] sz)) (va_Ql (fun (r : Int64) (_ : Unit) => True) (fun _ t => zW dC dI (zV5 tn tn_hours tn_courts tn_gateCount tn_people tn_lines tn_falseHours tn_strayers tn_deep tn_above tn_doors tn_degrees tn_neighbours tn_shows tn_oneEnd tn_otherEnd tn_told tn_strayParts tn_strayCourts tn_strayParts cA_tn_strayParts f_tn_strayParts) [] (va_A (zV5 tn tn_hours tn_courts tn_gateCount tn_people tn_lines tn_falseHours tn_strayers tn_deep tn_above tn_doors tn_degrees tn_neighbours tn_shows tn_oneEnd tn_otherEnd tn_told tn_strayParts tn_strayCourts tn_strayParts cA_tn_strayParts f_tn_strayParts) sz) t) (va_A (zV5 tn tn_hours tn_courts tn_gateCount tn_people tn_lines tn_falseHours tn_strayers tn_deep tn_above tn_doors tn_degrees tn_neighbours tn_shows tn_oneEnd tn_otherEnd tn_told tn_strayParts tn_strayCourts tn_strayParts cA_tn_strayParts f_tn_strayParts) sz)) 0 0 (va_A (zV5 tn tn_hours tn_courts tn_gateCount tn_people tn_lines tn_falseHours tn_strayers tn_deep tn_above tn_doors tn_degrees tn_neighbours tn_shows tn_oneEnd tn_otherEnd tn_told tn_strayParts tn_strayCourts tn_strayParts cA_tn_strayParts f_tn_strayParts) sz) := by
  refine z_enter (by decide) (by exact (Nat.le_of_ble_eq_true rfl)) ?_
  intro p e s m args below meth c ls A R Qc hargs hsz hQe hAe hRe hx hb hml hr hts hown hlocks hin hl hP hK hD hN hXs hA hS
  rw [hAe] at hQe
  have hown : s.vm.findClass RX7 = some m.cls := hown
  have hl : lv_has ls 7 [(0, .ref tn), (1, .int p1), (2, .int p2)] := hl
  refine lv_ldc2 (v := 1000000000) hx hb hown (hts _ zw_t5_200) dX7_chanceOf_0 ?_
  refine lv_lstore_n (lv' := [(3, .long 1000000000), (0, .ref tn), (1, .int p1), (2, .int p2)]) hx hb dX7_chanceOf_3 rfl hl (by decide) rfl (fun ls hl => ?_)
  refine lv_iconst (v := 0) hx hb dX7_chanceOf_4 (by decide) ?_
  refine lv_istore (lv' := [(5, .int 0), (3, .long 1000000000), (0, .ref tn), (1, .int p1), (2, .int p2)]) hx hb dX7_chanceOf_5 hl (by decide) rfl (fun ls hl => ?_)
  have loop_1 : ∀ (t : Nat) (v3_2 : Int64) (v5_1 : Int32) (b_v5_1 : 0 ≤ v5_1.toInt ∧ v5_1.toInt ≤ 10) (H : Heap) (locs : List Loc) (ls : Array Slot), 10 - v5_1.toInt < (t : Int) → va_P (dC, dI) vwCl (zV5 tn tn_hours tn_courts tn_gateCount tn_people tn_lines tn_falseHours tn_strayers tn_deep tn_above tn_doors tn_degrees tn_neighbours tn_shows tn_oneEnd tn_otherEnd tn_told tn_strayParts tn_strayCourts tn_strayParts cA_tn_strayParts f_tn_strayParts) H → va_D A (zV5 tn tn_hours tn_courts tn_gateCount tn_people tn_lines tn_falseHours tn_strayers tn_deep tn_above tn_doors tn_degrees tn_neighbours tn_shows tn_oneEnd tn_otherEnd tn_told tn_strayParts tn_strayCourts tn_strayParts cA_tn_strayParts f_tn_strayParts) → va_S A s.heap H locs → lv_has ls 7 [(0, .ref tn), (1, .int p1), (2, .int p2), (3, .long v3_2), (5, .int v5_1)] → W p l e R s m args below meth c H locs 0 0 (MQ below Qc args s 0 0 A) (F0 m 7 ls []) := by
    intro t
    induction t with
    | zero => intro v3_2 v5_1 b_v5_1 H locs ls hmu _ _ _ _; exact absurd hmu (by first | with_reducible assumption | omega)
    | succ t ih_1 =>
      intro v3_2 v5_1 b_v5_1 H locs ls hmu hP hD hS hl
      refine lv_iload hx hb dX7_chanceOf_7 (lv_at hl 4 rfl) ?_
      refine lv_aload_n hx hb dX7_chanceOf_9 rfl (lv_at hl 0 rfl) ?_
      refine va_get (D := (dC, dI)) (ci := 7) (v := .int tn_people) (C := RX7) (T := TX7) (N := 18) hx hb hts zl_X7 hown hK hP 0 rfl rfl 3 (by decide) (hts _ zw_t1_62) (fun _ h9 => h9) rfl dX7_chanceOf_10 ?_
      refine lv_icmp_ge (tgt := 72) hx hb dX7_chanceOf_13 (by decide) (fun c_3 => ?_) (fun c_3 => ?_)
      · have ic_3 := zz_ge rfl rfl c_3
        refine lv_lload_n hx hb dX7_chanceOf_72 rfl (lv_at hl 3 rfl) ?_
        exact W.lret (v := v3_2) hx hb hr (fun t ht hW => by rw [← hQe]; exact ⟨⟨v3_2, (), rfl, trivial, z_ret hP hK hD ht hW [0, 1] [] rfl (by decide) rfl⟩, hS.F ht⟩) hS.2.2 dX7_chanceOf_73
      · have ic_3 := zz_nge rfl rfl c_3
        refine lv_iload_n hx hb dX7_chanceOf_16 rfl (lv_at hl 1 rfl) ?_
        refine lv_iload hx hb dX7_chanceOf_17 (lv_at hl 4 rfl) ?_
        obtain ⟨hPc, hDc, hFc⟩ := z_cut (wc := []) hP hD hS hA [] rfl (by decide +kernel)
        have hKc := hK.sub (tys' := []) [] rfl
        refine va_calli (va_runSN (As := [.int p1, .int v5_1]) (rest := []) ⟨hx, hb, hml, hown, hts⟩ (k_X9_has l sa dC dI p1 v5_1 H.size) ⟨va_cnB 2 hts (z_gI zw_t3_124) rfl rfl rfl hN.2.1 (hts _ zw_t1_1) (by decide +kernel) (by rw [← hRe]; exact ⟨(Nat.le_of_ble_eq_true rfl), (Nat.le_of_ble_eq_true rfl)⟩), (hts _ zw_t3_123), trivial⟩ (z_preS hPc hKc hDc hN hXs hS hFc) rfl rfl hl.1 rfl (lv_room (Nat.le_of_ble_eq_true rfl)) dX7_chanceOf_19 (by rw [← hRe]; exact ⟨(Nat.le_of_ble_eq_true rfl), (Nat.le_of_ble_eq_true rfl)⟩)) hS (fun q _ h => hFc q h) hFc (fun r_4 u t H1 locs ht hvm hw hB hz1 hk1 hS => ?_)
        obtain ⟨hP, hD, hK⟩ := z_after3 (wn := (zV5 tn tn_hours tn_courts tn_gateCount tn_people tn_lines tn_falseHours tn_strayers tn_deep tn_above tn_doors tn_degrees tn_neighbours tn_shows tn_oneEnd tn_otherEnd tn_told tn_strayParts tn_strayCourts tn_strayParts cA_tn_strayParts f_tn_strayParts)) hB ht hvm hP hD hK [] [0, 1] rfl 2 rfl (by decide +kernel) rfl (by decide +kernel) hk1 hFc
        generalize H1 = H at hP hS ⊢
        have hK : va_K (dC, dI) vwCl [(cA_tn_strayParts, .int)] s := hK
        have b_r_4 : 0 ≤ r_4.toInt ∧ r_4.toInt ≤ 1 := hw
        refine lv_if_eq (tgt := 66) hx hb dX7_chanceOf_22 (by decide) (fun c_5 => ?_) (fun c_5 => ?_)
        · have ic_5 := zz_eq rfl (show Int32.toInt 0 = 0 from by decide) c_5
          obtain ⟨x_6, ex_6⟩ : ∃ z : Int32, z = v5_1 + Int32.ofInt 1 := ⟨_, rfl⟩
          have b_x_6 : x_6.toInt = v5_1.toInt + 1 := by rw [ex_6]; exact zi_add rfl (show (Int32.ofInt 1).toInt = 1 from by decide) (z_rac b_v5_1 (by decide))
          refine lv_iinc (v := x_6) (lv' := [(5, .int x_6), (0, .ref tn), (1, .int p1), (2, .int p2), (3, .long v3_2)]) hx hb dX7_chanceOf_66 hl (k := 4) rfl ex_6.symm (by decide) rfl (fun ls hl => ?_)
          refine lv_goto (tgt := 7) hx hb dX7_chanceOf_69 (by decide) ?_
          exact ih_1 v3_2 x_6 (by first | with_reducible assumption | omega) _ _ _ (by first | with_reducible assumption | omega) (hP.sub (ws' := (zV5 tn tn_hours tn_courts tn_gateCount tn_people tn_lines tn_falseHours tn_strayers tn_deep tn_above tn_doors tn_degrees tn_neighbours tn_shows tn_oneEnd tn_otherEnd tn_told tn_strayParts tn_strayCourts tn_strayParts cA_tn_strayParts f_tn_strayParts)) [0, 1] rfl) (hD.sub (ws' := (zV5 tn tn_hours tn_courts tn_gateCount tn_people tn_lines tn_falseHours tn_strayers tn_deep tn_above tn_doors tn_degrees tn_neighbours tn_shows tn_oneEnd tn_otherEnd tn_told tn_strayParts tn_strayCourts tn_strayParts cA_tn_strayParts f_tn_strayParts)) [0, 1] (by decide) rfl) hS (lv_sub hl [1, 2, 3, 4, 0] rfl)
        · have ic_5 := zz_neq rfl (show Int32.toInt 0 = 0 from by decide) c_5
          refine lv_iload_n hx hb dX7_chanceOf_25 rfl (lv_at hl 2 rfl) ?_
          refine lv_iload hx hb dX7_chanceOf_26 (lv_at hl 4 rfl) ?_
          obtain ⟨hPc, hDc, hFc⟩ := z_cut (wc := []) hP hD hS hA [] rfl (by decide +kernel)
          have hKc := hK.sub (tys' := []) [] rfl
          refine va_calli (va_runSN (As := [.int p2, .int v5_1]) (rest := []) ⟨hx, hb, hml, hown, hts⟩ (k_X9_has l sa dC dI p2 v5_1 H.size) ⟨va_cnB 2 hts (z_gI zw_t3_124) rfl rfl rfl hN.2.1 (hts _ zw_t1_1) (by decide +kernel) (by rw [← hRe]; exact ⟨(Nat.le_of_ble_eq_true rfl), (Nat.le_of_ble_eq_true rfl)⟩), (hts _ zw_t3_123), trivial⟩ (z_preS hPc hKc hDc hN hXs hS hFc) rfl rfl hl.1 rfl (lv_room (Nat.le_of_ble_eq_true rfl)) dX7_chanceOf_28 (by rw [← hRe]; exact ⟨(Nat.le_of_ble_eq_true rfl), (Nat.le_of_ble_eq_true rfl)⟩)) hS (fun q _ h => hFc q h) hFc (fun r_7 u t H1 locs ht hvm hw hB hz1 hk1 hS => ?_)
          obtain ⟨hP, hD, hK⟩ := z_after3 (wn := (zV5 tn tn_hours tn_courts tn_gateCount tn_people tn_lines tn_falseHours tn_strayers tn_deep tn_above tn_doors tn_degrees tn_neighbours tn_shows tn_oneEnd tn_otherEnd tn_told tn_strayParts tn_strayCourts tn_strayParts cA_tn_strayParts f_tn_strayParts)) hB ht hvm hP hD hK [] [0, 1] rfl 2 rfl (by decide +kernel) rfl (by decide +kernel) hk1 hFc
          generalize H1 = H at hP hS ⊢
          have hK : va_K (dC, dI) vwCl [(cA_tn_strayParts, .int)] s := hK
          have b_r_7 : 0 ≤ r_7.toInt ∧ r_7.toInt ≤ 1 := hw
          refine lv_if_eq (tgt := 44) hx hb dX7_chanceOf_31 (by decide) (fun c_8 => ?_) (fun c_8 => ?_)
          · have ic_8 := zz_eq rfl (show Int32.toInt 0 = 0 from by decide) c_8
            refine lv_bipush (v := 100) hx hb dX7_chanceOf_44 (by decide) ?_
            refine lv_aload_n hx hb dX7_chanceOf_46 rfl (lv_at hl 0 rfl) ?_
            refine va_get (D := (dC, dI)) (ci := 7) (v := .ref tn_strayParts) (C := RX7) (T := TX7) (N := 18) hx hb hts zl_X7 hown hK hP 0 rfl rfl 16 (by decide) (hts _ zw_t1_107) (fun _ h9 => h9) rfl dX7_chanceOf_47 ?_
            refine lv_iload hx hb dX7_chanceOf_50 (lv_at hl 4 rfl) ?_
            refine va_iald hx hb hK hP 1 0 rfl rfl (zi_in rfl (by first | exact z_rin b_v5_1 (by decide) | omega)) dX7_chanceOf_52 ?_
            refine lv_topi (fun x_9 ex_9 => ?_)
            have b_x_9 : 0 ≤ x_9.toInt ∧ x_9.toInt ≤ 99 := by rw [ex_9]; exact b_f_tn_strayParts _
            refine lv_isub hx hb dX7_chanceOf_53 ?_
            refine lv_topi (fun x_10 ex_10 => ?_)
            have b_x_10 : x_10.toInt = 100 - x_9.toInt := by rw [ex_10]; exact zi_sub (show Int32.toInt 100 = 100 from by decide) rfl (by first | with_reducible assumption | omega)
            refine lv_istore (lv' := [(6, .int x_10), (0, .ref tn), (1, .int p1), (2, .int p2), (3, .long v3_2), (5, .int v5_1)]) hx hb dX7_chanceOf_54 hl (by decide) rfl (fun ls hl => ?_)
            refine lv_lload_n hx hb dX7_chanceOf_56 rfl (lv_at hl 4 rfl) ?_
            refine lv_iload hx hb dX7_chanceOf_57 (lv_at hl 0 rfl) ?_
            refine lv_i2l (v := _) hx hb dX7_chanceOf_59 rfl ?_
            refine lv_topl (fun x_11 ex_11 => ?_)
            have b_x_11 : x_11.toInt = x_10.toInt := by rw [ex_11]; exact z_l64 _
            refine lv_lmul hx hb dX7_chanceOf_60 ?_
            refine lv_topl (fun x_12 ex_12 => ?_)
            refine lv_ldc2 (v := 100) hx hb hown (hts _ zw_t5_201) dX7_chanceOf_61 ?_
            refine lv_ldiv hx hb dX7_chanceOf_64 (by decide) ?_
            refine lv_topl (fun x_13 ex_13 => ?_)
            refine lv_lstore_n (lv' := [(3, .long x_13), (6, .int x_10), (0, .ref tn), (1, .int p1), (2, .int p2), (5, .int v5_1)]) hx hb dX7_chanceOf_65 rfl hl (by decide) rfl (fun ls hl => ?_)
            obtain ⟨x_14, ex_14⟩ : ∃ z : Int32, z = v5_1 + Int32.ofInt 1 := ⟨_, rfl⟩
            have b_x_14 : x_14.toInt = v5_1.toInt + 1 := by rw [ex_14]; exact zi_add rfl (show (Int32.ofInt 1).toInt = 1 from by decide) (z_rac b_v5_1 (by decide))
            refine lv_iinc (v := x_14) (lv' := [(5, .int x_14), (3, .long x_13), (6, .int x_10), (0, .ref tn), (1, .int p1), (2, .int p2)]) hx hb dX7_chanceOf_66 hl (k := 5) rfl ex_14.symm (by decide) rfl (fun ls hl => ?_)
            refine lv_goto (tgt := 7) hx hb dX7_chanceOf_69 (by decide) ?_
            exact ih_1 x_13 x_14 (by first | with_reducible assumption | omega) _ _ _ (by first | with_reducible assumption | omega) (hP.sub (ws' := (zV5 tn tn_hours tn_courts tn_gateCount tn_people tn_lines tn_falseHours tn_strayers tn_deep tn_above tn_doors tn_degrees tn_neighbours tn_shows tn_oneEnd tn_otherEnd tn_told tn_strayParts tn_strayCourts tn_strayParts cA_tn_strayParts f_tn_strayParts)) [0, 1] rfl) (hD.sub (ws' := (zV5 tn tn_hours tn_courts tn_gateCount tn_people tn_lines tn_falseHours tn_strayers tn_deep tn_above tn_doors tn_degrees tn_neighbours tn_shows tn_oneEnd tn_otherEnd tn_told tn_strayParts tn_strayCourts tn_strayParts cA_tn_strayParts f_tn_strayParts)) [0, 1] (by decide) rfl) hS (lv_sub hl [3, 4, 5, 1, 0] rfl)
          · have ic_8 := zz_neq rfl (show Int32.toInt 0 = 0 from by decide) c_8
            refine lv_aload_n hx hb dX7_chanceOf_34 rfl (lv_at hl 0 rfl) ?_
            refine va_get (D := (dC, dI)) (ci := 7) (v := .ref tn_strayParts) (C := RX7) (T := TX7) (N := 18) hx hb hts zl_X7 hown hK hP 0 rfl rfl 16 (by decide) (hts _ zw_t1_107) (fun _ h9 => h9) rfl dX7_chanceOf_35 ?_
            refine lv_iload hx hb dX7_chanceOf_38 (lv_at hl 4 rfl) ?_
            refine va_iald hx hb hK hP 1 0 rfl rfl (zi_in rfl (by first | exact z_rin b_v5_1 (by decide) | omega)) dX7_chanceOf_40 ?_
            refine lv_topi (fun x_15 ex_15 => ?_)
            have b_x_15 : 0 ≤ x_15.toInt ∧ x_15.toInt ≤ 99 := by rw [ex_15]; exact b_f_tn_strayParts _
            refine lv_goto (tgt := 54) hx hb dX7_chanceOf_41 (by decide) ?_
            refine lv_istore (lv' := [(6, .int x_15), (0, .ref tn), (1, .int p1), (2, .int p2), (3, .long v3_2), (5, .int v5_1)]) hx hb dX7_chanceOf_54 hl (by decide) rfl (fun ls hl => ?_)
            refine lv_lload_n hx hb dX7_chanceOf_56 rfl (lv_at hl 4 rfl) ?_
            refine lv_iload hx hb dX7_chanceOf_57 (lv_at hl 0 rfl) ?_
            refine lv_i2l (v := _) hx hb dX7_chanceOf_59 rfl ?_
            refine lv_topl (fun x_16 ex_16 => ?_)
            have b_x_16 : x_16.toInt = x_15.toInt := by rw [ex_16]; exact z_l64 _
            refine lv_lmul hx hb dX7_chanceOf_60 ?_
            refine lv_topl (fun x_17 ex_17 => ?_)
            refine lv_ldc2 (v := 100) hx hb hown (hts _ zw_t5_201) dX7_chanceOf_61 ?_
            refine lv_ldiv hx hb dX7_chanceOf_64 (by decide) ?_
            refine lv_topl (fun x_18 ex_18 => ?_)
            refine lv_lstore_n (lv' := [(3, .long x_18), (6, .int x_15), (0, .ref tn), (1, .int p1), (2, .int p2), (5, .int v5_1)]) hx hb dX7_chanceOf_65 rfl hl (by decide) rfl (fun ls hl => ?_)
            obtain ⟨x_19, ex_19⟩ : ∃ z : Int32, z = v5_1 + Int32.ofInt 1 := ⟨_, rfl⟩
            have b_x_19 : x_19.toInt = v5_1.toInt + 1 := by rw [ex_19]; exact zi_add rfl (show (Int32.ofInt 1).toInt = 1 from by decide) (z_rac b_v5_1 (by decide))
            refine lv_iinc (v := x_19) (lv' := [(5, .int x_19), (3, .long x_18), (6, .int x_15), (0, .ref tn), (1, .int p1), (2, .int p2)]) hx hb dX7_chanceOf_66 hl (k := 5) rfl ex_19.symm (by decide) rfl (fun ls hl => ?_)
            refine lv_goto (tgt := 7) hx hb dX7_chanceOf_69 (by decide) ?_
            exact ih_1 x_18 x_19 (by first | with_reducible assumption | omega) _ _ _ (by first | with_reducible assumption | omega) (hP.sub (ws' := (zV5 tn tn_hours tn_courts tn_gateCount tn_people tn_lines tn_falseHours tn_strayers tn_deep tn_above tn_doors tn_degrees tn_neighbours tn_shows tn_oneEnd tn_otherEnd tn_told tn_strayParts tn_strayCourts tn_strayParts cA_tn_strayParts f_tn_strayParts)) [0, 1] rfl) (hD.sub (ws' := (zV5 tn tn_hours tn_courts tn_gateCount tn_people tn_lines tn_falseHours tn_strayers tn_deep tn_above tn_doors tn_degrees tn_neighbours tn_shows tn_oneEnd tn_otherEnd tn_told tn_strayParts tn_strayCourts tn_strayParts cA_tn_strayParts f_tn_strayParts)) [0, 1] (by decide) rfl) hS (lv_sub hl [3, 4, 5, 1, 0] rfl)
  exact loop_1 12 (1000000000) (0) (by decide) _ _ _ (by decide) hP hD hS (lv_sub hl [2, 3, 4, 1, 0] rfl)
set_option maxHeartbeats 4000000 in
set_option maxRecDepth 100000 in
theorem k_X7_drawn (l : Launch) (sa : Nat → Nat) (dC : Nat → ClassId) (dI : Nat → Nat → Nat) (tn : Nat) (p1 : Int64) (tn_hours : Int32) (tn_courts : Int32) (tn_gateCount : Int32) (tn_people : Int32) (tn_lines : Int32) (tn_falseHours : Int32) (tn_strayers : Int32) (tn_deep : Int32) (tn_above : Nat) (tn_doors : Nat) (tn_degrees : Nat) (tn_neighbours : Nat) (tn_shows : Nat) (tn_oneEnd : Nat) (tn_otherEnd : Nat) (tn_told : Nat) (tn_strayParts : Nat) (tn_strayCourts : Nat) (cA_tn_strayParts : ClassId) (f_tn_strayParts : Nat → Int32) (b_tn_hours : 0 ≤ tn_hours.toInt ∧ tn_hours.toInt ≤ 48) (b_tn_courts : 0 ≤ tn_courts.toInt ∧ tn_courts.toInt ≤ 10) (b_tn_gateCount : 0 ≤ tn_gateCount.toInt ∧ tn_gateCount.toInt ≤ 16) (b_tn_people : 0 ≤ tn_people.toInt ∧ tn_people.toInt ≤ 10) (b_tn_falseHours : 0 ≤ tn_falseHours.toInt ∧ tn_falseHours.toInt ≤ 9) (b_tn_deep : 0 ≤ tn_deep.toInt ∧ tn_deep.toInt ≤ 1) (b_f_tn_strayParts : ∀ j : Nat, 0 ≤ (f_tn_strayParts j).toInt ∧ (f_tn_strayParts j).toInt ≤ 99) (sz : Nat) : Met l yX7_drawn (.code yX7_drawn cX7_drawn 7 (some .int) :: zT) ({ frames := 1, cells := 0, slots := 0, locals := 21 }) (va_Pc [.ref tn, .long p1] (zB sa dC dI (zV5 tn tn_hours tn_courts tn_gateCount tn_people tn_lines tn_falseHours tn_strayers tn_deep tn_above tn_doors tn_degrees tn_neighbours tn_shows tn_oneEnd tn_otherEnd tn_told tn_strayParts tn_strayCourts tn_strayParts cA_tn_strayParts f_tn_strayParts) [(cA_tn_strayParts, .int)] sz)) (va_Qi (fun (r : Int32) (_ : Unit) => True) (fun _ t => zW dC dI (zV5 tn tn_hours tn_courts tn_gateCount tn_people tn_lines tn_falseHours tn_strayers tn_deep tn_above tn_doors tn_degrees tn_neighbours tn_shows tn_oneEnd tn_otherEnd tn_told tn_strayParts tn_strayCourts tn_strayParts cA_tn_strayParts f_tn_strayParts) [] (va_A (zV5 tn tn_hours tn_courts tn_gateCount tn_people tn_lines tn_falseHours tn_strayers tn_deep tn_above tn_doors tn_degrees tn_neighbours tn_shows tn_oneEnd tn_otherEnd tn_told tn_strayParts tn_strayCourts tn_strayParts cA_tn_strayParts f_tn_strayParts) sz) t) (va_A (zV5 tn tn_hours tn_courts tn_gateCount tn_people tn_lines tn_falseHours tn_strayers tn_deep tn_above tn_doors tn_degrees tn_neighbours tn_shows tn_oneEnd tn_otherEnd tn_told tn_strayParts tn_strayCourts tn_strayParts cA_tn_strayParts f_tn_strayParts) sz)) 0 0 (va_A (zV5 tn tn_hours tn_courts tn_gateCount tn_people tn_lines tn_falseHours tn_strayers tn_deep tn_above tn_doors tn_degrees tn_neighbours tn_shows tn_oneEnd tn_otherEnd tn_told tn_strayParts tn_strayCourts tn_strayParts cA_tn_strayParts f_tn_strayParts) sz) := by
  refine z_enter (by decide) (by exact (Nat.le_of_ble_eq_true rfl)) ?_
  intro p e s m args below meth c ls A R Qc hargs hsz hQe hAe hRe hx hb hml hr hts hown hlocks hin hl hP hK hD hN hXs hA hS
  rw [hAe] at hQe
  have hown : s.vm.findClass RX7 = some m.cls := hown
  have hl : lv_has ls 7 [(0, .ref tn), (1, .long p1)] := hl
  refine lv_lload_n hx hb dX7_drawn_0 rfl (lv_at hl 1 rfl) ?_
  refine lv_lstore_n (lv' := [(3, .long p1), (0, .ref tn), (1, .long p1)]) hx hb dX7_drawn_1 rfl hl (by decide) rfl (fun ls hl => ?_)
  refine lv_iconst (v := 0) hx hb dX7_drawn_2 (by decide) ?_
  refine lv_istore (lv' := [(5, .int 0), (3, .long p1), (0, .ref tn), (1, .long p1)]) hx hb dX7_drawn_3 hl (by decide) rfl (fun ls hl => ?_)
  refine lv_iconst (v := 0) hx hb dX7_drawn_5 (by decide) ?_
  refine lv_istore (lv' := [(6, .int 0), (5, .int 0), (3, .long p1), (0, .ref tn), (1, .long p1)]) hx hb dX7_drawn_6 hl (by decide) rfl (fun ls hl => ?_)
  have loop_1 : ∀ (t : Nat) (v3_2 : Int64) (v5_3 : Int32) (v6_1 : Int32) (b_v6_1 : 0 ≤ v6_1.toInt ∧ v6_1.toInt ≤ 10) (H : Heap) (locs : List Loc) (ls : Array Slot), 10 - v6_1.toInt < (t : Int) → va_P (dC, dI) vwCl (zV5 tn tn_hours tn_courts tn_gateCount tn_people tn_lines tn_falseHours tn_strayers tn_deep tn_above tn_doors tn_degrees tn_neighbours tn_shows tn_oneEnd tn_otherEnd tn_told tn_strayParts tn_strayCourts tn_strayParts cA_tn_strayParts f_tn_strayParts) H → va_D A (zV5 tn tn_hours tn_courts tn_gateCount tn_people tn_lines tn_falseHours tn_strayers tn_deep tn_above tn_doors tn_degrees tn_neighbours tn_shows tn_oneEnd tn_otherEnd tn_told tn_strayParts tn_strayCourts tn_strayParts cA_tn_strayParts f_tn_strayParts) → va_S A s.heap H locs → lv_has ls 7 [(0, .ref tn), (1, .long p1), (3, .long v3_2), (5, .int v5_3), (6, .int v6_1)] → W p l e R s m args below meth c H locs 0 0 (MQ below Qc args s 0 0 A) (F0 m 8 ls []) := by
    intro t
    induction t with
    | zero => intro v3_2 v5_3 v6_1 b_v6_1 H locs ls hmu _ _ _ _; exact absurd hmu (by first | with_reducible assumption | omega)
    | succ t ih_1 =>
      intro v3_2 v5_3 v6_1 b_v6_1 H locs ls hmu hP hD hS hl
      refine lv_iload hx hb dX7_drawn_8 (lv_at hl 4 rfl) ?_
      refine lv_aload_n hx hb dX7_drawn_10 rfl (lv_at hl 0 rfl) ?_
      refine va_get (D := (dC, dI)) (ci := 7) (v := .int tn_people) (C := RX7) (T := TX7) (N := 18) hx hb hts zl_X7 hown hK hP 0 rfl rfl 3 (by decide) (hts _ zw_t1_62) (fun _ h9 => h9) rfl dX7_drawn_11 ?_
      refine lv_icmp_ge (tgt := 79) hx hb dX7_drawn_14 (by decide) (fun c_4 => ?_) (fun c_4 => ?_)
      · have ic_4 := zz_ge rfl rfl c_4
        refine lv_iload hx hb dX7_drawn_79 (lv_at hl 3 rfl) ?_
        exact W.iret (v := v5_3) hx hb hr (fun t ht hW => by rw [← hQe]; exact ⟨⟨v5_3, (), rfl, trivial, z_ret hP hK hD ht hW [0, 1] [] rfl (by decide) rfl⟩, hS.F ht⟩) hS.2.2 dX7_drawn_81
      · have ic_4 := zz_nge rfl rfl c_4
        refine lv_aload_n hx hb dX7_drawn_17 rfl (lv_at hl 0 rfl) ?_
        refine va_get (D := (dC, dI)) (ci := 7) (v := .int tn_strayers) (C := RX7) (T := TX7) (N := 18) hx hb hts zl_X7 hown hK hP 0 rfl rfl 6 (by decide) (hts _ zw_t1_75) (fun _ h9 => h9) rfl dX7_drawn_18 ?_
        refine lv_iload hx hb dX7_drawn_21 (lv_at hl 4 rfl) ?_
        obtain ⟨hPc, hDc, hFc⟩ := z_cut (wc := []) hP hD hS hA [] rfl (by decide +kernel)
        have hKc := hK.sub (tys' := []) [] rfl
        refine va_calli (va_runSN (As := [.int tn_strayers, .int v6_1]) (rest := []) ⟨hx, hb, hml, hown, hts⟩ (k_X9_has l sa dC dI tn_strayers v6_1 H.size) ⟨va_cnB 2 hts (z_gI zw_t3_124) rfl rfl rfl hN.2.1 (hts _ zw_t1_1) (by decide +kernel) (by rw [← hRe]; exact ⟨(Nat.le_of_ble_eq_true rfl), (Nat.le_of_ble_eq_true rfl)⟩), (hts _ zw_t3_123), trivial⟩ (z_preS hPc hKc hDc hN hXs hS hFc) rfl rfl hl.1 rfl (lv_room (Nat.le_of_ble_eq_true rfl)) dX7_drawn_23 (by rw [← hRe]; exact ⟨(Nat.le_of_ble_eq_true rfl), (Nat.le_of_ble_eq_true rfl)⟩)) hS (fun q _ h => hFc q h) hFc (fun r_5 u t H1 locs ht hvm hw hB hz1 hk1 hS => ?_)
        obtain ⟨hP, hD, hK⟩ := z_after3 (wn := (zV5 tn tn_hours tn_courts tn_gateCount tn_people tn_lines tn_falseHours tn_strayers tn_deep tn_above tn_doors tn_degrees tn_neighbours tn_shows tn_oneEnd tn_otherEnd tn_told tn_strayParts tn_strayCourts tn_strayParts cA_tn_strayParts f_tn_strayParts)) hB ht hvm hP hD hK [] [0, 1] rfl 2 rfl (by decide +kernel) rfl (by decide +kernel) hk1 hFc
        generalize H1 = H at hP hS ⊢
        have hK : va_K (dC, dI) vwCl [(cA_tn_strayParts, .int)] s := hK
        have b_r_5 : 0 ≤ r_5.toInt ∧ r_5.toInt ≤ 1 := hw
        refine lv_if_eq (tgt := 73) hx hb dX7_drawn_26 (by decide) (fun c_6 => ?_) (fun c_6 => ?_)
        · have ic_6 := zz_eq rfl (show Int32.toInt 0 = 0 from by decide) c_6
          obtain ⟨x_7, ex_7⟩ : ∃ z : Int32, z = v6_1 + Int32.ofInt 1 := ⟨_, rfl⟩
          have b_x_7 : x_7.toInt = v6_1.toInt + 1 := by rw [ex_7]; exact zi_add rfl (show (Int32.ofInt 1).toInt = 1 from by decide) (z_rac b_v6_1 (by decide))
          refine lv_iinc (v := x_7) (lv' := [(6, .int x_7), (0, .ref tn), (1, .long p1), (3, .long v3_2), (5, .int v5_3)]) hx hb dX7_drawn_73 hl (k := 4) rfl ex_7.symm (by decide) rfl (fun ls hl => ?_)
          refine lv_goto (tgt := 8) hx hb dX7_drawn_76 (by decide) ?_
          exact ih_1 v3_2 v5_3 x_7 (by first | with_reducible assumption | omega) _ _ _ (by first | with_reducible assumption | omega) (hP.sub (ws' := (zV5 tn tn_hours tn_courts tn_gateCount tn_people tn_lines tn_falseHours tn_strayers tn_deep tn_above tn_doors tn_degrees tn_neighbours tn_shows tn_oneEnd tn_otherEnd tn_told tn_strayParts tn_strayCourts tn_strayParts cA_tn_strayParts f_tn_strayParts)) [0, 1] rfl) (hD.sub (ws' := (zV5 tn tn_hours tn_courts tn_gateCount tn_people tn_lines tn_falseHours tn_strayers tn_deep tn_above tn_doors tn_degrees tn_neighbours tn_shows tn_oneEnd tn_otherEnd tn_told tn_strayParts tn_strayCourts tn_strayParts cA_tn_strayParts f_tn_strayParts)) [0, 1] (by decide) rfl) hS (lv_sub hl [1, 2, 3, 4, 0] rfl)
        · have ic_6 := zz_neq rfl (show Int32.toInt 0 = 0 from by decide) c_6
          refine lv_ldc2 (v := 1103515245) hx hb hown (hts _ zw_t6_19) dX7_drawn_29 ?_
          refine lv_lload_n hx hb dX7_drawn_32 rfl (lv_at hl 2 rfl) ?_
          refine lv_lmul hx hb dX7_drawn_33 ?_
          refine lv_topl (fun x_8 ex_8 => ?_)
          refine lv_ldc2 (v := 12345) hx hb hown (hts _ zw_t6_20) dX7_drawn_34 ?_
          refine lv_ladd hx hb dX7_drawn_37 ?_
          refine lv_topl (fun x_9 ex_9 => ?_)
          refine lv_ldc2 (v := 2147483648) hx hb hown (hts _ zw_t6_21) dX7_drawn_38 ?_
          refine lv_lrem hx hb dX7_drawn_41 (by decide) ?_
          refine lv_topl (fun x_10 ex_10 => ?_)
          refine lv_lstore_n (lv' := [(3, .long x_10), (0, .ref tn), (1, .long p1), (5, .int v5_3), (6, .int v6_1)]) hx hb dX7_drawn_42 rfl hl (by decide) rfl (fun ls hl => ?_)
          refine lv_lload_n hx hb dX7_drawn_43 rfl (lv_at hl 0 rfl) ?_
          refine lv_ldc2 (v := 65536) hx hb hown (hts _ zw_t6_22) dX7_drawn_44 ?_
          refine lv_ldiv hx hb dX7_drawn_47 (by decide) ?_
          refine lv_topl (fun x_11 ex_11 => ?_)
          refine lv_ldc2 (v := 100) hx hb hown (hts _ zw_t5_201) dX7_drawn_48 ?_
          refine lv_lrem hx hb dX7_drawn_51 (by decide) ?_
          refine lv_topl (fun x_12 ex_12 => ?_)
          refine lv_aload_n hx hb dX7_drawn_52 rfl (lv_at hl 1 rfl) ?_
          refine va_get (D := (dC, dI)) (ci := 7) (v := .ref tn_strayParts) (C := RX7) (T := TX7) (N := 18) hx hb hts zl_X7 hown hK hP 0 rfl rfl 16 (by decide) (hts _ zw_t1_107) (fun _ h9 => h9) rfl dX7_drawn_53 ?_
          refine lv_iload hx hb dX7_drawn_56 (lv_at hl 4 rfl) ?_
          refine va_iald hx hb hK hP 1 0 rfl rfl (zi_in rfl (by first | exact z_rin b_v6_1 (by decide) | omega)) dX7_drawn_58 ?_
          refine lv_topi (fun x_13 ex_13 => ?_)
          have b_x_13 : 0 ≤ x_13.toInt ∧ x_13.toInt ≤ 99 := by rw [ex_13]; exact b_f_tn_strayParts _
          refine lv_i2l (v := _) hx hb dX7_drawn_59 rfl ?_
          refine lv_topl (fun x_14 ex_14 => ?_)
          have b_x_14 : x_14.toInt = x_13.toInt := by rw [ex_14]; exact z_l64 _
          refine W.lcmp hx hb dX7_drawn_60 ?_
          refine lv_if_ge (tgt := 73) hx hb dX7_drawn_61 (by decide) (fun c_15 => ?_) (fun c_15 => ?_)
          · have ic_15 := zl_ge rfl rfl c_15
            obtain ⟨x_16, ex_16⟩ : ∃ z : Int32, z = v6_1 + Int32.ofInt 1 := ⟨_, rfl⟩
            have b_x_16 : x_16.toInt = v6_1.toInt + 1 := by rw [ex_16]; exact zi_add rfl (show (Int32.ofInt 1).toInt = 1 from by decide) (z_rac b_v6_1 (by decide))
            refine lv_iinc (v := x_16) (lv' := [(6, .int x_16), (3, .long x_10), (0, .ref tn), (1, .long p1), (5, .int v5_3)]) hx hb dX7_drawn_73 hl (k := 4) rfl ex_16.symm (by decide) rfl (fun ls hl => ?_)
            refine lv_goto (tgt := 8) hx hb dX7_drawn_76 (by decide) ?_
            exact ih_1 x_10 v5_3 x_16 (by first | with_reducible assumption | omega) _ _ _ (by first | with_reducible assumption | omega) (hP.sub (ws' := (zV5 tn tn_hours tn_courts tn_gateCount tn_people tn_lines tn_falseHours tn_strayers tn_deep tn_above tn_doors tn_degrees tn_neighbours tn_shows tn_oneEnd tn_otherEnd tn_told tn_strayParts tn_strayCourts tn_strayParts cA_tn_strayParts f_tn_strayParts)) [0, 1] rfl) (hD.sub (ws' := (zV5 tn tn_hours tn_courts tn_gateCount tn_people tn_lines tn_falseHours tn_strayers tn_deep tn_above tn_doors tn_degrees tn_neighbours tn_shows tn_oneEnd tn_otherEnd tn_told tn_strayParts tn_strayCourts tn_strayParts cA_tn_strayParts f_tn_strayParts)) [0, 1] (by decide) rfl) hS (lv_sub hl [2, 3, 1, 4, 0] rfl)
          · have ic_15 := zl_nge rfl rfl c_15
            refine lv_iload hx hb dX7_drawn_64 (lv_at hl 3 rfl) ?_
            refine lv_iconst (v := 1) hx hb dX7_drawn_66 (by decide) ?_
            refine lv_iload hx hb dX7_drawn_67 (lv_at hl 4 rfl) ?_
            refine lv_ishl hx hb dX7_drawn_69 ?_
            refine lv_topi (fun x_17 ex_17 => ?_)
            have b_x_17 : 1 ≤ x_17.toInt ∧ x_17.toInt ≤ 1024 := by rw [ex_17]; exact zi_shl1 rfl (by first | with_reducible assumption | omega)
            refine lv_ior hx hb dX7_drawn_70 ?_
            refine lv_topi (fun x_18 ex_18 => ?_)
            refine lv_istore (lv' := [(5, .int x_18), (3, .long x_10), (0, .ref tn), (1, .long p1), (6, .int v6_1)]) hx hb dX7_drawn_71 hl (by decide) rfl (fun ls hl => ?_)
            obtain ⟨x_19, ex_19⟩ : ∃ z : Int32, z = v6_1 + Int32.ofInt 1 := ⟨_, rfl⟩
            have b_x_19 : x_19.toInt = v6_1.toInt + 1 := by rw [ex_19]; exact zi_add rfl (show (Int32.ofInt 1).toInt = 1 from by decide) (z_rac b_v6_1 (by decide))
            refine lv_iinc (v := x_19) (lv' := [(6, .int x_19), (5, .int x_18), (3, .long x_10), (0, .ref tn), (1, .long p1)]) hx hb dX7_drawn_73 hl (k := 4) rfl ex_19.symm (by decide) rfl (fun ls hl => ?_)
            refine lv_goto (tgt := 8) hx hb dX7_drawn_76 (by decide) ?_
            exact ih_1 x_10 x_18 x_19 (by first | with_reducible assumption | omega) _ _ _ (by first | with_reducible assumption | omega) (hP.sub (ws' := (zV5 tn tn_hours tn_courts tn_gateCount tn_people tn_lines tn_falseHours tn_strayers tn_deep tn_above tn_doors tn_degrees tn_neighbours tn_shows tn_oneEnd tn_otherEnd tn_told tn_strayParts tn_strayCourts tn_strayParts cA_tn_strayParts f_tn_strayParts)) [0, 1] rfl) (hD.sub (ws' := (zV5 tn tn_hours tn_courts tn_gateCount tn_people tn_lines tn_falseHours tn_strayers tn_deep tn_above tn_doors tn_degrees tn_neighbours tn_shows tn_oneEnd tn_otherEnd tn_told tn_strayParts tn_strayCourts tn_strayParts cA_tn_strayParts f_tn_strayParts)) [0, 1] (by decide) rfl) hS (lv_sub hl [3, 4, 2, 1, 0] rfl)
  exact loop_1 12 p1 (0) (0) (by decide) _ _ _ (by decide) hP hD hS (lv_sub hl [3, 4, 2, 1, 0] rfl)
