theorem zw_s4_0 : Cond.selects RX9 yX9_liveBy yX9_liveBy ∈ zT := zs_4 (List.mem_of_getElem? (i := 0) (by decide +kernel))
theorem zw_t1_1 : Cond.initialized RX9 ∈ zT := zt_1 (List.mem_of_getElem? (i := 1) (by decide +kernel)) (by decide +kernel)
theorem zw_t1_156 : Cond.fieldLink RX9 106 "NameGate$Image" "town" "LNameGate$Town;" ∈ zT := zt_1 (List.mem_of_getElem? (i := 156) (by decide +kernel)) (by decide +kernel)
theorem zw_t1_3 : Cond.initialized RX7 ∈ zT := zt_1 (List.mem_of_getElem? (i := 3) (by decide +kernel)) (by decide +kernel)
theorem zw_t1_46 : Cond.fieldLink RX9 219 "NameGate$Town" "hours" "I" ∈ zT := zt_1 (List.mem_of_getElem? (i := 46) (by decide +kernel)) (by decide +kernel)
theorem zw_t1_47 : Cond.fieldLink RX7 42 "NameGate$Town" "courts" "I" ∈ zT := zt_1 (List.mem_of_getElem? (i := 47) (by decide +kernel)) (by decide +kernel)
theorem zw_t1_55 : Cond.fieldLink RX7 49 "NameGate$Town" "gateCount" "I" ∈ zT := zt_1 (List.mem_of_getElem? (i := 55) (by decide +kernel)) (by decide +kernel)
theorem zw_t1_62 : Cond.fieldLink RX7 52 "NameGate$Town" "people" "I" ∈ zT := zt_1 (List.mem_of_getElem? (i := 62) (by decide +kernel)) (by decide +kernel)
theorem zw_t2_193 : Cond.fieldLink RX9 20 "NameGate" "now" "LNameGate$Image;" ∈ zT := zt_2 (List.mem_of_getElem? (i := 193) (by decide +kernel)) (by decide +kernel)
theorem zw_t3_181 : Cond.methodLink RX9 123 yX7_hasPerson ∈ zT := zt_3 (List.mem_of_getElem? (i := 181) (by decide +kernel)) (by decide +kernel)
theorem zw_t3_182 : Cond.instanceMethod yX7_hasPerson ∈ zT := zt_3 (List.mem_of_getElem? (i := 182) (by decide +kernel)) (by decide +kernel)
theorem zw_t3_183 : Cond.selects RX7 yX7_hasPerson yX7_hasPerson ∈ zT := zt_3 (List.mem_of_getElem? (i := 183) (by decide +kernel)) (by decide +kernel)
theorem zw_t3_184 : Cond.code yX7_hasPerson cX7_hasPerson 2 (some .boolean) ∈ zT := zt_3 (List.mem_of_getElem? (i := 184) (by decide +kernel)) (by decide +kernel)
theorem zw_t3_197 : Cond.methodLink RX9 133 yX7_hasCourt ∈ zT := zt_3 (List.mem_of_getElem? (i := 197) (by decide +kernel)) (by decide +kernel)
theorem zw_t3_198 : Cond.instanceMethod yX7_hasCourt ∈ zT := zt_3 (List.mem_of_getElem? (i := 198) (by decide +kernel)) (by decide +kernel)
theorem zw_t3_199 : Cond.selects RX7 yX7_hasCourt yX7_hasCourt ∈ zT := zt_3 (List.mem_of_getElem? (i := 199) (by decide +kernel)) (by decide +kernel)
theorem zw_t3_200 : Cond.code yX7_hasCourt cX7_hasCourt 2 (some .boolean) ∈ zT := zt_3 (List.mem_of_getElem? (i := 200) (by decide +kernel)) (by decide +kernel)
theorem zw_t3_233 : Cond.methodLink RX9 153 yX7_hasGate ∈ zT := zt_3 (List.mem_of_getElem? (i := 233) (by decide +kernel)) (by decide +kernel)
theorem zw_t3_234 : Cond.instanceMethod yX7_hasGate ∈ zT := zt_3 (List.mem_of_getElem? (i := 234) (by decide +kernel)) (by decide +kernel)
theorem zw_t3_235 : Cond.selects RX7 yX7_hasGate yX7_hasGate ∈ zT := zt_3 (List.mem_of_getElem? (i := 235) (by decide +kernel)) (by decide +kernel)
theorem zw_t3_236 : Cond.code yX7_hasGate cX7_hasGate 2 (some .boolean) ∈ zT := zt_3 (List.mem_of_getElem? (i := 236) (by decide +kernel)) (by decide +kernel)
theorem zw_t4_10 : Cond.methodLink RX7 59 yX7_hasCourt ∈ zT := zt_4 (List.mem_of_getElem? (i := 10) (by decide +kernel)) (by decide +kernel)
theorem zw_t4_115 : Cond.methodLink RX9 205 yX7_hasTripBy ∈ zT := zt_4 (List.mem_of_getElem? (i := 115) (by decide +kernel)) (by decide +kernel)
theorem zw_t4_116 : Cond.instanceMethod yX7_hasTripBy ∈ zT := zt_4 (List.mem_of_getElem? (i := 116) (by decide +kernel)) (by decide +kernel)
theorem zw_t4_117 : Cond.selects RX7 yX7_hasTripBy yX7_hasTripBy ∈ zT := zt_4 (List.mem_of_getElem? (i := 117) (by decide +kernel)) (by decide +kernel)
theorem zw_t4_118 : Cond.code yX7_hasTripBy cX7_hasTripBy 5 (some .boolean) ∈ zT := zt_4 (List.mem_of_getElem? (i := 118) (by decide +kernel)) (by decide +kernel)
theorem zw_t4_119 : Cond.methodLink RX7 65 yX7_hasTrip ∈ zT := zt_4 (List.mem_of_getElem? (i := 119) (by decide +kernel)) (by decide +kernel)
theorem zw_t4_206 : Cond.instanceMethod yX9_both ∈ zT := zt_4 (List.mem_of_getElem? (i := 206) (by decide +kernel)) (by decide +kernel)
theorem zw_t4_207 : Cond.selects RX9 yX9_both yX9_both ∈ zT := zt_4 (List.mem_of_getElem? (i := 207) (by decide +kernel)) (by decide +kernel)
theorem zw_t4_208 : Cond.code yX9_both cX9_both 5 (some .int) ∈ zT := zt_4 (List.mem_of_getElem? (i := 208) (by decide +kernel)) (by decide +kernel)
theorem zw_t4_21 : Cond.methodLink RX9 171 yX7_hasTrip ∈ zT := zt_4 (List.mem_of_getElem? (i := 21) (by decide +kernel)) (by decide +kernel)
theorem zw_t4_22 : Cond.instanceMethod yX7_hasTrip ∈ zT := zt_4 (List.mem_of_getElem? (i := 22) (by decide +kernel)) (by decide +kernel)
theorem zw_t4_23 : Cond.selects RX7 yX7_hasTrip yX7_hasTrip ∈ zT := zt_4 (List.mem_of_getElem? (i := 23) (by decide +kernel)) (by decide +kernel)
theorem zw_t4_232 : Cond.methodLink RX9 242 yX9_both ∈ zT := zt_4 (List.mem_of_getElem? (i := 232) (by decide +kernel)) (by decide +kernel)
theorem zw_t4_24 : Cond.code yX7_hasTrip cX7_hasTrip 4 (some .boolean) ∈ zT := zt_4 (List.mem_of_getElem? (i := 24) (by decide +kernel)) (by decide +kernel)
theorem zw_t4_5 : Cond.methodLink RX9 160 yX7_hasPassage ∈ zT := zt_4 (List.mem_of_getElem? (i := 5) (by decide +kernel)) (by decide +kernel)
theorem zw_t4_6 : Cond.instanceMethod yX7_hasPassage ∈ zT := zt_4 (List.mem_of_getElem? (i := 6) (by decide +kernel)) (by decide +kernel)
theorem zw_t4_7 : Cond.selects RX7 yX7_hasPassage yX7_hasPassage ∈ zT := zt_4 (List.mem_of_getElem? (i := 7) (by decide +kernel)) (by decide +kernel)
theorem zw_t4_8 : Cond.code yX7_hasPassage cX7_hasPassage 4 (some .boolean) ∈ zT := zt_4 (List.mem_of_getElem? (i := 8) (by decide +kernel)) (by decide +kernel)
theorem zw_t4_9 : Cond.methodLink RX7 55 yX7_hasGate ∈ zT := zt_4 (List.mem_of_getElem? (i := 9) (by decide +kernel)) (by decide +kernel)
theorem zw_t5_193 : Cond.instanceMethod yX9_list ∈ zT := zt_5 (List.mem_of_getElem? (i := 193) (by decide +kernel)) (by decide +kernel)
theorem zw_t5_194 : Cond.selects RX9 yX9_list yX9_list ∈ zT := zt_5 (List.mem_of_getElem? (i := 194) (by decide +kernel)) (by decide +kernel)
theorem zw_t5_195 : Cond.code yX9_list cX9_list 10 (some .long) ∈ zT := zt_5 (List.mem_of_getElem? (i := 195) (by decide +kernel)) (by decide +kernel)
theorem zw_t5_206 : Cond.methodLink RX9 319 yX9_list ∈ zT := zt_5 (List.mem_of_getElem? (i := 206) (by decide +kernel)) (by decide +kernel)
theorem zw_t5_215 : Cond.methodLink RX9 333 yX9_liveBy ∈ zT := zt_5 (List.mem_of_getElem? (i := 215) (by decide +kernel)) (by decide +kernel)
theorem zw_t5_217 : Cond.instanceMethod yX9_liveBy ∈ zT := zt_5 (List.mem_of_getElem? (i := 217) (by decide +kernel)) (by decide +kernel)
theorem zw_t5_218 : Cond.code yX9_liveBy cX9_liveBy 2 (some .int) ∈ zT := zt_5 (List.mem_of_getElem? (i := 218) (by decide +kernel)) (by decide +kernel)
theorem zw_t5_219 : Cond.methodLink RX9 322 yX9_isSlot ∈ zT := zt_5 (List.mem_of_getElem? (i := 219) (by decide +kernel)) (by decide +kernel)
theorem zw_t5_220 : Cond.static yX9_isSlot ∈ zT := zt_5 (List.mem_of_getElem? (i := 220) (by decide +kernel)) (by decide +kernel)
theorem zw_t5_221 : Cond.code yX9_isSlot cX9_isSlot 1 (some .boolean) ∈ zT := zt_5 (List.mem_of_getElem? (i := 221) (by decide +kernel)) (by decide +kernel)
theorem zw_t5_45 : Cond.constantLong RX9 285 (-2) ∈ zT := zt_5 (List.mem_of_getElem? (i := 45) (by decide +kernel)) (by decide +kernel)
theorem zw_t6_14 : Cond.constant RX9 346 (2000000000) ∈ zT := zt_6 (List.mem_of_getElem? (i := 14) (by decide +kernel)) (by decide +kernel)
theorem dX7_hasCourt_0 : decode cX7_hasCourt 0 = .ok (.iload_n 1, 1) := by decide +kernel
theorem dX7_hasCourt_1 : decode cX7_hasCourt 1 = .ok (.ifCond .lt 15, 3) := by decide +kernel
theorem dX7_hasCourt_16 : decode cX7_hasCourt 16 = .ok (.iconst 0, 1) := by decide +kernel
theorem dX7_hasCourt_17 : decode cX7_hasCourt 17 = .ok (.ireturn, 1) := by decide +kernel
theorem dX7_hasCourt_4 : decode cX7_hasCourt 4 = .ok (.iload_n 1, 1) := by decide +kernel
theorem dX7_hasCourt_5 : decode cX7_hasCourt 5 = .ok (.aload_n 0, 1) := by decide +kernel
theorem dX7_hasCourt_6 : decode cX7_hasCourt 6 = .ok (.getfield 42, 3) := by decide +kernel
theorem dX7_hasCourt_9 : decode cX7_hasCourt 9 = .ok (.if_icmp .ge 7, 3) := by decide +kernel
theorem dX7_hasGate_0 : decode cX7_hasGate 0 = .ok (.iload_n 1, 1) := by decide +kernel
theorem dX7_hasGate_1 : decode cX7_hasGate 1 = .ok (.ifCond .lt 15, 3) := by decide +kernel
theorem dX7_hasGate_16 : decode cX7_hasGate 16 = .ok (.iconst 0, 1) := by decide +kernel
theorem dX7_hasGate_17 : decode cX7_hasGate 17 = .ok (.ireturn, 1) := by decide +kernel
theorem dX7_hasGate_4 : decode cX7_hasGate 4 = .ok (.iload_n 1, 1) := by decide +kernel
theorem dX7_hasGate_5 : decode cX7_hasGate 5 = .ok (.aload_n 0, 1) := by decide +kernel
theorem dX7_hasGate_6 : decode cX7_hasGate 6 = .ok (.getfield 49, 3) := by decide +kernel
theorem dX7_hasGate_9 : decode cX7_hasGate 9 = .ok (.if_icmp .ge 7, 3) := by decide +kernel
theorem dX7_hasPassage_0 : decode cX7_hasPassage 0 = .ok (.aload_n 0, 1) := by decide +kernel
theorem dX7_hasPassage_1 : decode cX7_hasPassage 1 = .ok (.iload_n 1, 1) := by decide +kernel
theorem dX7_hasPassage_2 : decode cX7_hasPassage 2 = .ok (.invokevirtual 55, 3) := by decide +kernel
theorem dX7_hasPassage_28 : decode cX7_hasPassage 28 = .ok (.iconst 0, 1) := by decide +kernel
theorem dX7_hasPassage_29 : decode cX7_hasPassage 29 = .ok (.ireturn, 1) := by decide +kernel
theorem dX7_hasPassage_5 : decode cX7_hasPassage 5 = .ok (.ifCond .eq 23, 3) := by decide +kernel
theorem dX7_hasPerson_0 : decode cX7_hasPerson 0 = .ok (.iload_n 1, 1) := by decide +kernel
theorem dX7_hasPerson_1 : decode cX7_hasPerson 1 = .ok (.ifCond .lt 15, 3) := by decide +kernel
theorem dX7_hasPerson_16 : decode cX7_hasPerson 16 = .ok (.iconst 0, 1) := by decide +kernel
theorem dX7_hasPerson_17 : decode cX7_hasPerson 17 = .ok (.ireturn, 1) := by decide +kernel
theorem dX7_hasPerson_4 : decode cX7_hasPerson 4 = .ok (.iload_n 1, 1) := by decide +kernel
theorem dX7_hasPerson_5 : decode cX7_hasPerson 5 = .ok (.aload_n 0, 1) := by decide +kernel
theorem dX7_hasPerson_6 : decode cX7_hasPerson 6 = .ok (.getfield 52, 3) := by decide +kernel
theorem dX7_hasPerson_9 : decode cX7_hasPerson 9 = .ok (.if_icmp .ge 7, 3) := by decide +kernel
theorem dX7_hasTripBy_0 : decode cX7_hasTripBy 0 = .ok (.aload_n 0, 1) := by decide +kernel
theorem dX7_hasTripBy_1 : decode cX7_hasTripBy 1 = .ok (.iload_n 1, 1) := by decide +kernel
theorem dX7_hasTripBy_2 : decode cX7_hasTripBy 2 = .ok (.iload_n 2, 1) := by decide +kernel
theorem dX7_hasTripBy_29 : decode cX7_hasTripBy 29 = .ok (.iconst 0, 1) := by decide +kernel
theorem dX7_hasTripBy_3 : decode cX7_hasTripBy 3 = .ok (.iload_n 3, 1) := by decide +kernel
theorem dX7_hasTripBy_30 : decode cX7_hasTripBy 30 = .ok (.ireturn, 1) := by decide +kernel
theorem dX7_hasTripBy_4 : decode cX7_hasTripBy 4 = .ok (.invokevirtual 65, 3) := by decide +kernel
theorem dX7_hasTripBy_7 : decode cX7_hasTripBy 7 = .ok (.ifCond .eq 22, 3) := by decide +kernel
theorem dX7_hasTrip_0 : decode cX7_hasTrip 0 = .ok (.aload_n 0, 1) := by decide +kernel
theorem dX7_hasTrip_1 : decode cX7_hasTrip 1 = .ok (.iload_n 1, 1) := by decide +kernel
theorem dX7_hasTrip_2 : decode cX7_hasTrip 2 = .ok (.invokevirtual 59, 3) := by decide +kernel
theorem dX7_hasTrip_28 : decode cX7_hasTrip 28 = .ok (.iconst 0, 1) := by decide +kernel
theorem dX7_hasTrip_29 : decode cX7_hasTrip 29 = .ok (.ireturn, 1) := by decide +kernel
theorem dX7_hasTrip_5 : decode cX7_hasTrip 5 = .ok (.ifCond .eq 23, 3) := by decide +kernel
theorem dX9_alone_0 : decode cX9_alone 0 = .ok (.aload_n 0, 1) := by decide +kernel
theorem dX9_alone_1 : decode cX9_alone 1 = .ok (.getfield 20, 3) := by decide +kernel
theorem dX9_alone_11 : decode cX9_alone 11 = .ok (.iload_n 1, 1) := by decide +kernel
theorem dX9_alone_12 : decode cX9_alone 12 = .ok (.iload_n 2, 1) := by decide +kernel
theorem dX9_alone_13 : decode cX9_alone 13 = .ok (.iload_n 3, 1) := by decide +kernel
theorem dX9_alone_14 : decode cX9_alone 14 = .ok (.invokevirtual 171, 3) := by decide +kernel
theorem dX9_alone_17 : decode cX9_alone 17 = .ok (.ifCond .eq 13, 3) := by decide +kernel
theorem dX9_alone_30 : decode cX9_alone 30 = .ok (.bipush (-2), 2) := by decide +kernel
theorem dX9_alone_32 : decode cX9_alone 32 = .ok (.ireturn, 1) := by decide +kernel
theorem dX9_alone_4 : decode cX9_alone 4 = .ok (.getfield 106, 3) := by decide +kernel
theorem dX9_alone_7 : decode cX9_alone 7 = .ok (.astore 5, 2) := by decide +kernel
theorem dX9_alone_9 : decode cX9_alone 9 = .ok (.aload 5, 2) := by decide +kernel
theorem dX9_begin_0 : decode cX9_begin 0 = .ok (.aload_n 0, 1) := by decide +kernel
theorem dX9_begin_1 : decode cX9_begin 1 = .ok (.getfield 20, 3) := by decide +kernel
theorem dX9_begin_11 : decode cX9_begin 11 = .ok (.iload_n 1, 1) := by decide +kernel
theorem dX9_begin_12 : decode cX9_begin 12 = .ok (.iload_n 3, 1) := by decide +kernel
theorem dX9_begin_13 : decode cX9_begin 13 = .ok (.iload_n 2, 1) := by decide +kernel
theorem dX9_begin_14 : decode cX9_begin 14 = .ok (.invokevirtual 171, 3) := by decide +kernel
theorem dX9_begin_17 : decode cX9_begin 17 = .ok (.ifCond .eq 19, 3) := by decide +kernel
theorem dX9_begin_36 : decode cX9_begin 36 = .ok (.bipush (-2), 2) := by decide +kernel
theorem dX9_begin_38 : decode cX9_begin 38 = .ok (.ireturn, 1) := by decide +kernel
theorem dX9_begin_4 : decode cX9_begin 4 = .ok (.getfield 106, 3) := by decide +kernel
theorem dX9_begin_7 : decode cX9_begin 7 = .ok (.astore 5, 2) := by decide +kernel
theorem dX9_begin_9 : decode cX9_begin 9 = .ok (.aload 5, 2) := by decide +kernel
theorem dX9_best_0 : decode cX9_best 0 = .ok (.aload_n 0, 1) := by decide +kernel
theorem dX9_best_1 : decode cX9_best 1 = .ok (.getfield 20, 3) := by decide +kernel
theorem dX9_best_10 : decode cX9_best 10 = .ok (.iload 4, 2) := by decide +kernel
theorem dX9_best_12 : decode cX9_best 12 = .ok (.invokevirtual 205, 3) := by decide +kernel
theorem dX9_best_15 : decode cX9_best 15 = .ok (.ifCond .ne 6, 3) := by decide +kernel
theorem dX9_best_18 : decode cX9_best 18 = .ok (.bipush (-2), 2) := by decide +kernel
theorem dX9_best_20 : decode cX9_best 20 = .ok (.ireturn, 1) := by decide +kernel
theorem dX9_best_4 : decode cX9_best 4 = .ok (.getfield 106, 3) := by decide +kernel
theorem dX9_best_7 : decode cX9_best 7 = .ok (.iload_n 1, 1) := by decide +kernel
theorem dX9_best_8 : decode cX9_best 8 = .ok (.iload_n 2, 1) := by decide +kernel
theorem dX9_best_9 : decode cX9_best 9 = .ok (.iload_n 3, 1) := by decide +kernel
theorem dX9_both_0 : decode cX9_both 0 = .ok (.aload_n 0, 1) := by decide +kernel
theorem dX9_both_1 : decode cX9_both 1 = .ok (.getfield 20, 3) := by decide +kernel
theorem dX9_both_11 : decode cX9_both 11 = .ok (.invokevirtual 171, 3) := by decide +kernel
theorem dX9_both_14 : decode cX9_both 14 = .ok (.ifCond .eq 17, 3) := by decide +kernel
theorem dX9_both_31 : decode cX9_both 31 = .ok (.bipush (-2), 2) := by decide +kernel
theorem dX9_both_33 : decode cX9_both 33 = .ok (.ireturn, 1) := by decide +kernel
theorem dX9_both_4 : decode cX9_both 4 = .ok (.getfield 106, 3) := by decide +kernel
theorem dX9_both_7 : decode cX9_both 7 = .ok (.iload_n 1, 1) := by decide +kernel
theorem dX9_both_8 : decode cX9_both 8 = .ok (.iload_n 3, 1) := by decide +kernel
theorem dX9_both_9 : decode cX9_both 9 = .ok (.iload 4, 2) := by decide +kernel
theorem dX9_days_0 : decode cX9_days 0 = .ok (.aload_n 0, 1) := by decide +kernel
theorem dX9_days_1 : decode cX9_days 1 = .ok (.getfield 20, 3) := by decide +kernel
theorem dX9_days_10 : decode cX9_days 10 = .ok (.ifCond .lt 35, 3) := by decide +kernel
theorem dX9_days_13 : decode cX9_days 13 = .ok (.iload_n 1, 1) := by decide +kernel
theorem dX9_days_14 : decode cX9_days 14 = .ok (.ldc_w 346, 3) := by decide +kernel
theorem dX9_days_17 : decode cX9_days 17 = .ok (.if_icmp .gt 28, 3) := by decide +kernel
theorem dX9_days_20 : decode cX9_days 20 = .ok (.iload_n 2, 1) := by decide +kernel
theorem dX9_days_21 : decode cX9_days 21 = .ok (.iconst 1, 1) := by decide +kernel
theorem dX9_days_22 : decode cX9_days 22 = .ok (.if_icmp .lt 23, 3) := by decide +kernel
theorem dX9_days_25 : decode cX9_days 25 = .ok (.iload_n 2, 1) := by decide +kernel
theorem dX9_days_26 : decode cX9_days 26 = .ok (.bipush 100, 2) := by decide +kernel
theorem dX9_days_28 : decode cX9_days 28 = .ok (.if_icmp .gt 17, 3) := by decide +kernel
theorem dX9_days_31 : decode cX9_days 31 = .ok (.aload 6, 2) := by decide +kernel
theorem dX9_days_33 : decode cX9_days 33 = .ok (.iload_n 3, 1) := by decide +kernel
theorem dX9_days_34 : decode cX9_days 34 = .ok (.iconst 0, 1) := by decide +kernel
theorem dX9_days_35 : decode cX9_days 35 = .ok (.iload 4, 2) := by decide +kernel
theorem dX9_days_37 : decode cX9_days 37 = .ok (.iload 5, 2) := by decide +kernel
theorem dX9_days_39 : decode cX9_days 39 = .ok (.invokevirtual 205, 3) := by decide +kernel
theorem dX9_days_4 : decode cX9_days 4 = .ok (.getfield 106, 3) := by decide +kernel
theorem dX9_days_42 : decode cX9_days 42 = .ok (.ifCond .ne 6, 3) := by decide +kernel
theorem dX9_days_45 : decode cX9_days 45 = .ok (.bipush (-2), 2) := by decide +kernel
theorem dX9_days_47 : decode cX9_days 47 = .ok (.ireturn, 1) := by decide +kernel
theorem dX9_days_7 : decode cX9_days 7 = .ok (.astore 6, 2) := by decide +kernel
theorem dX9_days_9 : decode cX9_days 9 = .ok (.iload_n 1, 1) := by decide +kernel
theorem dX9_depth_0 : decode cX9_depth 0 = .ok (.aload_n 0, 1) := by decide +kernel
theorem dX9_depth_1 : decode cX9_depth 1 = .ok (.getfield 20, 3) := by decide +kernel
theorem dX9_depth_11 : decode cX9_depth 11 = .ok (.ifCond .eq 21, 3) := by decide +kernel
theorem dX9_depth_32 : decode cX9_depth 32 = .ok (.bipush (-2), 2) := by decide +kernel
theorem dX9_depth_34 : decode cX9_depth 34 = .ok (.ireturn, 1) := by decide +kernel
theorem dX9_depth_4 : decode cX9_depth 4 = .ok (.getfield 106, 3) := by decide +kernel
theorem dX9_depth_7 : decode cX9_depth 7 = .ok (.iload_n 1, 1) := by decide +kernel
theorem dX9_depth_8 : decode cX9_depth 8 = .ok (.invokevirtual 133, 3) := by decide +kernel
theorem dX9_draw_0 : decode cX9_draw 0 = .ok (.iload_n 1, 1) := by decide +kernel
theorem dX9_draw_1 : decode cX9_draw 1 = .ok (.ifCond .lt 23, 3) := by decide +kernel
theorem dX9_draw_11 : decode cX9_draw 11 = .ok (.aload_n 0, 1) := by decide +kernel
theorem dX9_draw_12 : decode cX9_draw 12 = .ok (.getfield 20, 3) := by decide +kernel
theorem dX9_draw_15 : decode cX9_draw 15 = .ok (.getfield 106, 3) := by decide +kernel
theorem dX9_draw_18 : decode cX9_draw 18 = .ok (.getfield 219, 3) := by decide +kernel
theorem dX9_draw_21 : decode cX9_draw 21 = .ok (.ifCond .ne 6, 3) := by decide +kernel
theorem dX9_draw_24 : decode cX9_draw 24 = .ok (.bipush (-2), 2) := by decide +kernel
theorem dX9_draw_26 : decode cX9_draw 26 = .ok (.ireturn, 1) := by decide +kernel
theorem dX9_draw_4 : decode cX9_draw 4 = .ok (.iload_n 1, 1) := by decide +kernel
theorem dX9_draw_5 : decode cX9_draw 5 = .ok (.ldc_w 346, 3) := by decide +kernel
theorem dX9_draw_8 : decode cX9_draw 8 = .ok (.if_icmp .gt 16, 3) := by decide +kernel
theorem dX9_empty_0 : decode cX9_empty 0 = .ok (.aload_n 0, 1) := by decide +kernel
theorem dX9_empty_1 : decode cX9_empty 1 = .ok (.getfield 20, 3) := by decide +kernel
theorem dX9_empty_10 : decode cX9_empty 10 = .ok (.invokevirtual 133, 3) := by decide +kernel
theorem dX9_empty_13 : decode cX9_empty 13 = .ok (.ifCond .ne 6, 3) := by decide +kernel
theorem dX9_empty_16 : decode cX9_empty 16 = .ok (.bipush (-2), 2) := by decide +kernel
theorem dX9_empty_18 : decode cX9_empty 18 = .ok (.ireturn, 1) := by decide +kernel
theorem dX9_empty_4 : decode cX9_empty 4 = .ok (.getfield 106, 3) := by decide +kernel
theorem dX9_empty_7 : decode cX9_empty 7 = .ok (.astore_n 2, 1) := by decide +kernel
theorem dX9_empty_8 : decode cX9_empty 8 = .ok (.aload_n 2, 1) := by decide +kernel
theorem dX9_empty_9 : decode cX9_empty 9 = .ok (.iload_n 1, 1) := by decide +kernel
theorem dX9_ends_0 : decode cX9_ends 0 = .ok (.iload_n 2, 1) := by decide +kernel
theorem dX9_ends_1 : decode cX9_ends 1 = .ok (.ifCond .lt 8, 3) := by decide +kernel
theorem dX9_ends_11 : decode cX9_ends 11 = .ok (.ireturn, 1) := by decide +kernel
theorem dX9_ends_12 : decode cX9_ends 12 = .ok (.aload_n 0, 1) := by decide +kernel
theorem dX9_ends_13 : decode cX9_ends 13 = .ok (.iload_n 1, 1) := by decide +kernel
theorem dX9_ends_14 : decode cX9_ends 14 = .ok (.invokevirtual 333, 3) := by decide +kernel
theorem dX9_ends_17 : decode cX9_ends 17 = .ok (.istore_n 3, 1) := by decide +kernel
theorem dX9_ends_18 : decode cX9_ends 18 = .ok (.iload_n 3, 1) := by decide +kernel
theorem dX9_ends_19 : decode cX9_ends 19 = .ok (.ifCond .ge 5, 3) := by decide +kernel
theorem dX9_ends_22 : decode cX9_ends 22 = .ok (.iload_n 3, 1) := by decide +kernel
theorem dX9_ends_23 : decode cX9_ends 23 = .ok (.ireturn, 1) := by decide +kernel
theorem dX9_ends_4 : decode cX9_ends 4 = .ok (.iload_n 2, 1) := by decide +kernel
theorem dX9_ends_5 : decode cX9_ends 5 = .ok (.iconst 2, 1) := by decide +kernel
theorem dX9_ends_6 : decode cX9_ends 6 = .ok (.if_icmp .le 6, 3) := by decide +kernel
theorem dX9_ends_9 : decode cX9_ends 9 = .ok (.bipush (-2), 2) := by decide +kernel
theorem dX9_every_0 : decode cX9_every 0 = .ok (.aload_n 0, 1) := by decide +kernel
theorem dX9_every_1 : decode cX9_every 1 = .ok (.getfield 20, 3) := by decide +kernel
theorem dX9_every_10 : decode cX9_every 10 = .ok (.invokevirtual 133, 3) := by decide +kernel
theorem dX9_every_13 : decode cX9_every 13 = .ok (.ifCond .eq 12, 3) := by decide +kernel
theorem dX9_every_25 : decode cX9_every 25 = .ok (.bipush (-2), 2) := by decide +kernel
theorem dX9_every_27 : decode cX9_every 27 = .ok (.ireturn, 1) := by decide +kernel
theorem dX9_every_4 : decode cX9_every 4 = .ok (.getfield 106, 3) := by decide +kernel
theorem dX9_every_7 : decode cX9_every 7 = .ok (.astore_n 2, 1) := by decide +kernel
theorem dX9_every_8 : decode cX9_every 8 = .ok (.aload_n 2, 1) := by decide +kernel
theorem dX9_every_9 : decode cX9_every 9 = .ok (.iconst 0, 1) := by decide +kernel
theorem dX9_fewest_0 : decode cX9_fewest 0 = .ok (.aload_n 0, 1) := by decide +kernel
theorem dX9_fewest_1 : decode cX9_fewest 1 = .ok (.getfield 20, 3) := by decide +kernel
theorem dX9_fewest_11 : decode cX9_fewest 11 = .ok (.iload_n 1, 1) := by decide +kernel
theorem dX9_fewest_12 : decode cX9_fewest 12 = .ok (.iload_n 2, 1) := by decide +kernel
theorem dX9_fewest_13 : decode cX9_fewest 13 = .ok (.iload_n 3, 1) := by decide +kernel
theorem dX9_fewest_14 : decode cX9_fewest 14 = .ok (.iload 4, 2) := by decide +kernel
theorem dX9_fewest_16 : decode cX9_fewest 16 = .ok (.invokevirtual 205, 3) := by decide +kernel
theorem dX9_fewest_19 : decode cX9_fewest 19 = .ok (.ifCond .eq 14, 3) := by decide +kernel
theorem dX9_fewest_33 : decode cX9_fewest 33 = .ok (.bipush (-2), 2) := by decide +kernel
theorem dX9_fewest_35 : decode cX9_fewest 35 = .ok (.ireturn, 1) := by decide +kernel
theorem dX9_fewest_4 : decode cX9_fewest 4 = .ok (.getfield 106, 3) := by decide +kernel
theorem dX9_fewest_7 : decode cX9_fewest 7 = .ok (.astore 6, 2) := by decide +kernel
theorem dX9_fewest_9 : decode cX9_fewest 9 = .ok (.aload 6, 2) := by decide +kernel
theorem dX9_friend_0 : decode cX9_friend 0 = .ok (.aload_n 0, 1) := by decide +kernel
theorem dX9_friend_1 : decode cX9_friend 1 = .ok (.iload_n 1, 1) := by decide +kernel
theorem dX9_friend_11 : decode cX9_friend 11 = .ok (.iload 5, 2) := by decide +kernel
theorem dX9_friend_13 : decode cX9_friend 13 = .ok (.ifCond .ge 6, 3) := by decide +kernel
theorem dX9_friend_16 : decode cX9_friend 16 = .ok (.iload 5, 2) := by decide +kernel
theorem dX9_friend_18 : decode cX9_friend 18 = .ok (.ireturn, 1) := by decide +kernel
theorem dX9_friend_2 : decode cX9_friend 2 = .ok (.iload_n 2, 1) := by decide +kernel
theorem dX9_friend_3 : decode cX9_friend 3 = .ok (.iload_n 3, 1) := by decide +kernel
theorem dX9_friend_4 : decode cX9_friend 4 = .ok (.iload 4, 2) := by decide +kernel
theorem dX9_friend_6 : decode cX9_friend 6 = .ok (.invokevirtual 242, 3) := by decide +kernel
theorem dX9_friend_9 : decode cX9_friend 9 = .ok (.istore 5, 2) := by decide +kernel
theorem dX9_gates_0 : decode cX9_gates 0 = .ok (.aload_n 0, 1) := by decide +kernel
theorem dX9_gates_1 : decode cX9_gates 1 = .ok (.getfield 20, 3) := by decide +kernel
theorem dX9_gates_10 : decode cX9_gates 10 = .ok (.invokevirtual 171, 3) := by decide +kernel
theorem dX9_gates_13 : decode cX9_gates 13 = .ok (.ifCond .ne 6, 3) := by decide +kernel
theorem dX9_gates_16 : decode cX9_gates 16 = .ok (.bipush (-2), 2) := by decide +kernel
theorem dX9_gates_18 : decode cX9_gates 18 = .ok (.ireturn, 1) := by decide +kernel
theorem dX9_gates_4 : decode cX9_gates 4 = .ok (.getfield 106, 3) := by decide +kernel
theorem dX9_gates_7 : decode cX9_gates 7 = .ok (.iload_n 1, 1) := by decide +kernel
theorem dX9_gates_8 : decode cX9_gates 8 = .ok (.iload_n 2, 1) := by decide +kernel
theorem dX9_gates_9 : decode cX9_gates 9 = .ok (.iload_n 3, 1) := by decide +kernel
theorem dX9_hear_0 : decode cX9_hear 0 = .ok (.aload_n 0, 1) := by decide +kernel
theorem dX9_hear_1 : decode cX9_hear 1 = .ok (.getfield 20, 3) := by decide +kernel
theorem dX9_hear_11 : decode cX9_hear 11 = .ok (.iload_n 1, 1) := by decide +kernel
theorem dX9_hear_12 : decode cX9_hear 12 = .ok (.invokevirtual 123, 3) := by decide +kernel
theorem dX9_hear_15 : decode cX9_hear 15 = .ok (.ifCond .eq 21, 3) := by decide +kernel
theorem dX9_hear_36 : decode cX9_hear 36 = .ok (.bipush (-2), 2) := by decide +kernel
theorem dX9_hear_38 : decode cX9_hear 38 = .ok (.ireturn, 1) := by decide +kernel
theorem dX9_hear_4 : decode cX9_hear 4 = .ok (.getfield 106, 3) := by decide +kernel
theorem dX9_hear_7 : decode cX9_hear 7 = .ok (.astore 5, 2) := by decide +kernel
theorem dX9_hear_9 : decode cX9_hear 9 = .ok (.aload 5, 2) := by decide +kernel
theorem dX9_hollow_0 : decode cX9_hollow 0 = .ok (.aload_n 0, 1) := by decide +kernel
theorem dX9_hollow_1 : decode cX9_hollow 1 = .ok (.getfield 20, 3) := by decide +kernel
theorem dX9_hollow_10 : decode cX9_hollow 10 = .ok (.invokevirtual 133, 3) := by decide +kernel
theorem dX9_hollow_13 : decode cX9_hollow 13 = .ok (.ifCond .ne 6, 3) := by decide +kernel
theorem dX9_hollow_16 : decode cX9_hollow 16 = .ok (.bipush (-2), 2) := by decide +kernel
theorem dX9_hollow_18 : decode cX9_hollow 18 = .ok (.ireturn, 1) := by decide +kernel
theorem dX9_hollow_4 : decode cX9_hollow 4 = .ok (.getfield 106, 3) := by decide +kernel
theorem dX9_hollow_7 : decode cX9_hollow 7 = .ok (.astore_n 2, 1) := by decide +kernel
theorem dX9_hollow_8 : decode cX9_hollow 8 = .ok (.aload_n 2, 1) := by decide +kernel
theorem dX9_hollow_9 : decode cX9_hollow 9 = .ok (.iload_n 1, 1) := by decide +kernel
theorem dX9_host_0 : decode cX9_host 0 = .ok (.aload_n 0, 1) := by decide +kernel
theorem dX9_host_1 : decode cX9_host 1 = .ok (.getfield 20, 3) := by decide +kernel
theorem dX9_host_11 : decode cX9_host 11 = .ok (.iload_n 2, 1) := by decide +kernel
theorem dX9_host_12 : decode cX9_host 12 = .ok (.iload_n 3, 1) := by decide +kernel
theorem dX9_host_13 : decode cX9_host 13 = .ok (.iload 4, 2) := by decide +kernel
theorem dX9_host_15 : decode cX9_host 15 = .ok (.invokevirtual 171, 3) := by decide +kernel
theorem dX9_host_18 : decode cX9_host 18 = .ok (.ifCond .eq 23, 3) := by decide +kernel
theorem dX9_host_4 : decode cX9_host 4 = .ok (.getfield 106, 3) := by decide +kernel
theorem dX9_host_41 : decode cX9_host 41 = .ok (.bipush (-2), 2) := by decide +kernel
theorem dX9_host_43 : decode cX9_host 43 = .ok (.ireturn, 1) := by decide +kernel
theorem dX9_host_7 : decode cX9_host 7 = .ok (.astore 6, 2) := by decide +kernel
theorem dX9_host_9 : decode cX9_host 9 = .ok (.aload 6, 2) := by decide +kernel
theorem dX9_isSlot_0 : decode cX9_isSlot 0 = .ok (.iload_n 0, 1) := by decide +kernel
theorem dX9_isSlot_1 : decode cX9_isSlot 1 = .ok (.ifCond .lt 12, 3) := by decide +kernel
theorem dX9_isSlot_10 : decode cX9_isSlot 10 = .ok (.goto 4, 3) := by decide +kernel
theorem dX9_isSlot_13 : decode cX9_isSlot 13 = .ok (.iconst 0, 1) := by decide +kernel
theorem dX9_isSlot_14 : decode cX9_isSlot 14 = .ok (.ireturn, 1) := by decide +kernel
theorem dX9_isSlot_4 : decode cX9_isSlot 4 = .ok (.iload_n 0, 1) := by decide +kernel
theorem dX9_isSlot_5 : decode cX9_isSlot 5 = .ok (.iconst 4, 1) := by decide +kernel
theorem dX9_isSlot_6 : decode cX9_isSlot 6 = .ok (.if_icmp .ge 7, 3) := by decide +kernel
theorem dX9_isSlot_9 : decode cX9_isSlot 9 = .ok (.iconst 1, 1) := by decide +kernel
theorem dX9_judge_0 : decode cX9_judge 0 = .ok (.aload_n 0, 1) := by decide +kernel
theorem dX9_judge_1 : decode cX9_judge 1 = .ok (.iload_n 1, 1) := by decide +kernel
theorem dX9_judge_10 : decode cX9_judge 10 = .ok (.iload_n 2, 1) := by decide +kernel
theorem dX9_judge_11 : decode cX9_judge 11 = .ok (.goto 10, 3) := by decide +kernel
theorem dX9_judge_2 : decode cX9_judge 2 = .ok (.invokevirtual 333, 3) := by decide +kernel
theorem dX9_judge_21 : decode cX9_judge 21 = .ok (.ireturn, 1) := by decide +kernel
theorem dX9_judge_5 : decode cX9_judge 5 = .ok (.istore_n 2, 1) := by decide +kernel
theorem dX9_judge_6 : decode cX9_judge 6 = .ok (.iload_n 2, 1) := by decide +kernel
theorem dX9_judge_7 : decode cX9_judge 7 = .ok (.ifCond .ge 7, 3) := by decide +kernel
theorem dX9_keeper_0 : decode cX9_keeper 0 = .ok (.aload_n 0, 1) := by decide +kernel
theorem dX9_keeper_1 : decode cX9_keeper 1 = .ok (.getfield 20, 3) := by decide +kernel
theorem dX9_keeper_10 : decode cX9_keeper 10 = .ok (.invokevirtual 133, 3) := by decide +kernel
theorem dX9_keeper_13 : decode cX9_keeper 13 = .ok (.ifCond .ne 6, 3) := by decide +kernel
theorem dX9_keeper_16 : decode cX9_keeper 16 = .ok (.bipush (-2), 2) := by decide +kernel
theorem dX9_keeper_18 : decode cX9_keeper 18 = .ok (.ireturn, 1) := by decide +kernel
theorem dX9_keeper_4 : decode cX9_keeper 4 = .ok (.getfield 106, 3) := by decide +kernel
theorem dX9_keeper_7 : decode cX9_keeper 7 = .ok (.astore_n 2, 1) := by decide +kernel
theorem dX9_keeper_8 : decode cX9_keeper 8 = .ok (.aload_n 2, 1) := by decide +kernel
theorem dX9_keeper_9 : decode cX9_keeper 9 = .ok (.iload_n 1, 1) := by decide +kernel
theorem dX9_keys_0 : decode cX9_keys 0 = .ok (.aload_n 0, 1) := by decide +kernel
theorem dX9_keys_1 : decode cX9_keys 1 = .ok (.getfield 20, 3) := by decide +kernel
theorem dX9_keys_11 : decode cX9_keys 11 = .ok (.iload_n 1, 1) := by decide +kernel
theorem dX9_keys_12 : decode cX9_keys 12 = .ok (.iload_n 2, 1) := by decide +kernel
theorem dX9_keys_13 : decode cX9_keys 13 = .ok (.iload_n 3, 1) := by decide +kernel
theorem dX9_keys_14 : decode cX9_keys 14 = .ok (.invokevirtual 160, 3) := by decide +kernel
theorem dX9_keys_17 : decode cX9_keys 17 = .ok (.ifCond .ne 6, 3) := by decide +kernel
theorem dX9_keys_20 : decode cX9_keys 20 = .ok (.bipush (-2), 2) := by decide +kernel
theorem dX9_keys_22 : decode cX9_keys 22 = .ok (.ireturn, 1) := by decide +kernel
theorem dX9_keys_4 : decode cX9_keys 4 = .ok (.getfield 106, 3) := by decide +kernel
theorem dX9_keys_7 : decode cX9_keys 7 = .ok (.astore 4, 2) := by decide +kernel
theorem dX9_keys_9 : decode cX9_keys 9 = .ok (.aload 4, 2) := by decide +kernel
theorem dX9_latest_0 : decode cX9_latest 0 = .ok (.aload_n 0, 1) := by decide +kernel
theorem dX9_latest_1 : decode cX9_latest 1 = .ok (.getfield 20, 3) := by decide +kernel
theorem dX9_latest_11 : decode cX9_latest 11 = .ok (.ifCond .eq 17, 3) := by decide +kernel
theorem dX9_latest_28 : decode cX9_latest 28 = .ok (.bipush (-2), 2) := by decide +kernel
theorem dX9_latest_30 : decode cX9_latest 30 = .ok (.ireturn, 1) := by decide +kernel
theorem dX9_latest_4 : decode cX9_latest 4 = .ok (.getfield 106, 3) := by decide +kernel
theorem dX9_latest_7 : decode cX9_latest 7 = .ok (.iload_n 1, 1) := by decide +kernel
theorem dX9_latest_8 : decode cX9_latest 8 = .ok (.invokevirtual 133, 3) := by decide +kernel
theorem dX9_leads_0 : decode cX9_leads 0 = .ok (.aload_n 0, 1) := by decide +kernel
theorem dX9_leads_1 : decode cX9_leads 1 = .ok (.getfield 20, 3) := by decide +kernel
theorem dX9_leads_10 : decode cX9_leads 10 = .ok (.invokevirtual 153, 3) := by decide +kernel
theorem dX9_leads_13 : decode cX9_leads 13 = .ok (.ifCond .eq 11, 3) := by decide +kernel
theorem dX9_leads_24 : decode cX9_leads 24 = .ok (.bipush (-2), 2) := by decide +kernel
theorem dX9_leads_26 : decode cX9_leads 26 = .ok (.ireturn, 1) := by decide +kernel
theorem dX9_leads_4 : decode cX9_leads 4 = .ok (.getfield 106, 3) := by decide +kernel
theorem dX9_leads_7 : decode cX9_leads 7 = .ok (.astore_n 3, 1) := by decide +kernel
theorem dX9_leads_8 : decode cX9_leads 8 = .ok (.aload_n 3, 1) := by decide +kernel
theorem dX9_leads_9 : decode cX9_leads 9 = .ok (.iload_n 1, 1) := by decide +kernel
theorem dX9_lies_0 : decode cX9_lies 0 = .ok (.aload_n 0, 1) := by decide +kernel
theorem dX9_lies_1 : decode cX9_lies 1 = .ok (.getfield 20, 3) := by decide +kernel
theorem dX9_lies_10 : decode cX9_lies 10 = .ok (.invokevirtual 133, 3) := by decide +kernel
theorem dX9_lies_13 : decode cX9_lies 13 = .ok (.ifCond .eq 11, 3) := by decide +kernel
theorem dX9_lies_24 : decode cX9_lies 24 = .ok (.bipush (-2), 2) := by decide +kernel
theorem dX9_lies_26 : decode cX9_lies 26 = .ok (.ireturn, 1) := by decide +kernel
theorem dX9_lies_4 : decode cX9_lies 4 = .ok (.getfield 106, 3) := by decide +kernel
theorem dX9_lies_7 : decode cX9_lies 7 = .ok (.astore_n 3, 1) := by decide +kernel
theorem dX9_lies_8 : decode cX9_lies 8 = .ok (.aload_n 3, 1) := by decide +kernel
theorem dX9_lies_9 : decode cX9_lies 9 = .ok (.iload_n 1, 1) := by decide +kernel
theorem dX9_likely_0 : decode cX9_likely 0 = .ok (.aload_n 0, 1) := by decide +kernel
theorem dX9_likely_1 : decode cX9_likely 1 = .ok (.getfield 20, 3) := by decide +kernel
theorem dX9_likely_11 : decode cX9_likely 11 = .ok (.iload_n 1, 1) := by decide +kernel
theorem dX9_likely_12 : decode cX9_likely 12 = .ok (.iload_n 2, 1) := by decide +kernel
theorem dX9_likely_13 : decode cX9_likely 13 = .ok (.iload_n 3, 1) := by decide +kernel
theorem dX9_likely_14 : decode cX9_likely 14 = .ok (.invokevirtual 160, 3) := by decide +kernel
theorem dX9_likely_17 : decode cX9_likely 17 = .ok (.ifCond .eq 14, 3) := by decide +kernel
theorem dX9_likely_31 : decode cX9_likely 31 = .ok (.bipush (-2), 2) := by decide +kernel
theorem dX9_likely_33 : decode cX9_likely 33 = .ok (.ireturn, 1) := by decide +kernel
theorem dX9_likely_4 : decode cX9_likely 4 = .ok (.getfield 106, 3) := by decide +kernel
theorem dX9_likely_7 : decode cX9_likely 7 = .ok (.astore 5, 2) := by decide +kernel
theorem dX9_likely_9 : decode cX9_likely 9 = .ok (.aload 5, 2) := by decide +kernel
theorem dX9_list_0 : decode cX9_list 0 = .ok (.aload_n 0, 1) := by decide +kernel
theorem dX9_list_1 : decode cX9_list 1 = .ok (.getfield 20, 3) := by decide +kernel
theorem dX9_list_11 : decode cX9_list 11 = .ok (.iload_n 1, 1) := by decide +kernel
theorem dX9_list_12 : decode cX9_list 12 = .ok (.iload_n 2, 1) := by decide +kernel
theorem dX9_list_13 : decode cX9_list 13 = .ok (.iload_n 3, 1) := by decide +kernel
theorem dX9_list_14 : decode cX9_list 14 = .ok (.iload 4, 2) := by decide +kernel
theorem dX9_list_16 : decode cX9_list 16 = .ok (.invokevirtual 205, 3) := by decide +kernel
theorem dX9_list_19 : decode cX9_list 19 = .ok (.ifCond .ne 7, 3) := by decide +kernel
theorem dX9_list_22 : decode cX9_list 22 = .ok (.ldc2_w 285, 3) := by decide +kernel
theorem dX9_list_25 : decode cX9_list 25 = .ok (.lreturn, 1) := by decide +kernel
theorem dX9_list_4 : decode cX9_list 4 = .ok (.getfield 106, 3) := by decide +kernel
theorem dX9_list_7 : decode cX9_list 7 = .ok (.astore 5, 2) := by decide +kernel
theorem dX9_list_9 : decode cX9_list 9 = .ok (.aload 5, 2) := by decide +kernel
theorem dX9_liveBy_0 : decode cX9_liveBy 0 = .ok (.iload_n 1, 1) := by decide +kernel
theorem dX9_liveBy_1 : decode cX9_liveBy 1 = .ok (.invokestatic 322, 3) := by decide +kernel
theorem dX9_liveBy_11 : decode cX9_liveBy 11 = .ok (.getfield 106, 3) := by decide +kernel
theorem dX9_liveBy_14 : decode cX9_liveBy 14 = .ok (.getfield 219, 3) := by decide +kernel
theorem dX9_liveBy_17 : decode cX9_liveBy 17 = .ok (.ifCond .ne 6, 3) := by decide +kernel
theorem dX9_liveBy_20 : decode cX9_liveBy 20 = .ok (.bipush (-2), 2) := by decide +kernel
theorem dX9_liveBy_22 : decode cX9_liveBy 22 = .ok (.ireturn, 1) := by decide +kernel
theorem dX9_liveBy_4 : decode cX9_liveBy 4 = .ok (.ifCond .eq 16, 3) := by decide +kernel
theorem dX9_liveBy_7 : decode cX9_liveBy 7 = .ok (.aload_n 0, 1) := by decide +kernel
theorem dX9_liveBy_8 : decode cX9_liveBy 8 = .ok (.getfield 20, 3) := by decide +kernel
theorem dX9_need_0 : decode cX9_need 0 = .ok (.aload_n 0, 1) := by decide +kernel
theorem dX9_need_1 : decode cX9_need 1 = .ok (.getfield 20, 3) := by decide +kernel
theorem dX9_need_11 : decode cX9_need 11 = .ok (.invokevirtual 171, 3) := by decide +kernel
theorem dX9_need_14 : decode cX9_need 14 = .ok (.ifCond .eq 17, 3) := by decide +kernel
theorem dX9_need_31 : decode cX9_need 31 = .ok (.bipush (-2), 2) := by decide +kernel
theorem dX9_need_33 : decode cX9_need 33 = .ok (.ireturn, 1) := by decide +kernel
theorem dX9_need_4 : decode cX9_need 4 = .ok (.getfield 106, 3) := by decide +kernel
theorem dX9_need_7 : decode cX9_need 7 = .ok (.iload_n 2, 1) := by decide +kernel
theorem dX9_need_8 : decode cX9_need 8 = .ok (.iload_n 3, 1) := by decide +kernel
theorem dX9_need_9 : decode cX9_need 9 = .ok (.iload 4, 2) := by decide +kernel
theorem dX9_odds_0 : decode cX9_odds 0 = .ok (.aload_n 0, 1) := by decide +kernel
theorem dX9_odds_1 : decode cX9_odds 1 = .ok (.getfield 20, 3) := by decide +kernel
theorem dX9_odds_10 : decode cX9_odds 10 = .ok (.iload 4, 2) := by decide +kernel
theorem dX9_odds_12 : decode cX9_odds 12 = .ok (.invokevirtual 205, 3) := by decide +kernel
theorem dX9_odds_15 : decode cX9_odds 15 = .ok (.ifCond .ne 7, 3) := by decide +kernel
theorem dX9_odds_18 : decode cX9_odds 18 = .ok (.ldc2_w 285, 3) := by decide +kernel
theorem dX9_odds_21 : decode cX9_odds 21 = .ok (.lreturn, 1) := by decide +kernel
theorem dX9_odds_4 : decode cX9_odds 4 = .ok (.getfield 106, 3) := by decide +kernel
theorem dX9_odds_7 : decode cX9_odds 7 = .ok (.iload_n 1, 1) := by decide +kernel
theorem dX9_odds_8 : decode cX9_odds 8 = .ok (.iload_n 2, 1) := by decide +kernel
theorem dX9_odds_9 : decode cX9_odds 9 = .ok (.iload_n 3, 1) := by decide +kernel
theorem dX9_opens_0 : decode cX9_opens 0 = .ok (.aload_n 0, 1) := by decide +kernel
theorem dX9_opens_1 : decode cX9_opens 1 = .ok (.getfield 20, 3) := by decide +kernel
theorem dX9_opens_11 : decode cX9_opens 11 = .ok (.iload_n 1, 1) := by decide +kernel
theorem dX9_opens_12 : decode cX9_opens 12 = .ok (.iload_n 2, 1) := by decide +kernel
theorem dX9_opens_13 : decode cX9_opens 13 = .ok (.iload_n 3, 1) := by decide +kernel
theorem dX9_opens_14 : decode cX9_opens 14 = .ok (.invokevirtual 160, 3) := by decide +kernel
theorem dX9_opens_17 : decode cX9_opens 17 = .ok (.ifCond .eq 13, 3) := by decide +kernel
theorem dX9_opens_30 : decode cX9_opens 30 = .ok (.bipush (-2), 2) := by decide +kernel
theorem dX9_opens_32 : decode cX9_opens 32 = .ok (.ireturn, 1) := by decide +kernel
theorem dX9_opens_4 : decode cX9_opens 4 = .ok (.getfield 106, 3) := by decide +kernel
theorem dX9_opens_7 : decode cX9_opens 7 = .ok (.astore 5, 2) := by decide +kernel
theorem dX9_opens_9 : decode cX9_opens 9 = .ok (.aload 5, 2) := by decide +kernel
theorem dX9_out_0 : decode cX9_out 0 = .ok (.aload_n 0, 1) := by decide +kernel
theorem dX9_out_1 : decode cX9_out 1 = .ok (.getfield 20, 3) := by decide +kernel
theorem dX9_out_11 : decode cX9_out 11 = .ok (.iload_n 1, 1) := by decide +kernel
theorem dX9_out_12 : decode cX9_out 12 = .ok (.iload_n 2, 1) := by decide +kernel
theorem dX9_out_13 : decode cX9_out 13 = .ok (.iload_n 3, 1) := by decide +kernel
theorem dX9_out_14 : decode cX9_out 14 = .ok (.invokevirtual 171, 3) := by decide +kernel
theorem dX9_out_17 : decode cX9_out 17 = .ok (.ifCond .eq 14, 3) := by decide +kernel
theorem dX9_out_31 : decode cX9_out 31 = .ok (.bipush (-2), 2) := by decide +kernel
theorem dX9_out_33 : decode cX9_out 33 = .ok (.ireturn, 1) := by decide +kernel
theorem dX9_out_4 : decode cX9_out 4 = .ok (.getfield 106, 3) := by decide +kernel
theorem dX9_out_7 : decode cX9_out 7 = .ok (.astore 5, 2) := by decide +kernel
theorem dX9_out_9 : decode cX9_out 9 = .ok (.aload 5, 2) := by decide +kernel
theorem dX9_price_0 : decode cX9_price 0 = .ok (.aload_n 0, 1) := by decide +kernel
theorem dX9_price_1 : decode cX9_price 1 = .ok (.iload_n 1, 1) := by decide +kernel
theorem dX9_price_11 : decode cX9_price 11 = .ok (.lload 5, 2) := by decide +kernel
theorem dX9_price_13 : decode cX9_price 13 = .ok (.lconst 0, 1) := by decide +kernel
theorem dX9_price_14 : decode cX9_price 14 = .ok (.lcmp, 1) := by decide +kernel
theorem dX9_price_15 : decode cX9_price 15 = .ok (.ifCond .ge 8, 3) := by decide +kernel
theorem dX9_price_18 : decode cX9_price 18 = .ok (.lload 5, 2) := by decide +kernel
theorem dX9_price_2 : decode cX9_price 2 = .ok (.iload_n 2, 1) := by decide +kernel
theorem dX9_price_20 : decode cX9_price 20 = .ok (.goto 15, 3) := by decide +kernel
theorem dX9_price_3 : decode cX9_price 3 = .ok (.iload_n 3, 1) := by decide +kernel
theorem dX9_price_35 : decode cX9_price 35 = .ok (.lreturn, 1) := by decide +kernel
theorem dX9_price_4 : decode cX9_price 4 = .ok (.iload 4, 2) := by decide +kernel
theorem dX9_price_6 : decode cX9_price 6 = .ok (.invokevirtual 319, 3) := by decide +kernel
theorem dX9_price_9 : decode cX9_price 9 = .ok (.lstore 5, 2) := by decide +kernel
theorem dX9_reach_0 : decode cX9_reach 0 = .ok (.aload_n 0, 1) := by decide +kernel
theorem dX9_reach_1 : decode cX9_reach 1 = .ok (.getfield 20, 3) := by decide +kernel
theorem dX9_reach_11 : decode cX9_reach 11 = .ok (.ifCond .eq 17, 3) := by decide +kernel
theorem dX9_reach_28 : decode cX9_reach 28 = .ok (.bipush (-2), 2) := by decide +kernel
theorem dX9_reach_30 : decode cX9_reach 30 = .ok (.ireturn, 1) := by decide +kernel
theorem dX9_reach_4 : decode cX9_reach 4 = .ok (.getfield 106, 3) := by decide +kernel
theorem dX9_reach_7 : decode cX9_reach 7 = .ok (.iload_n 1, 1) := by decide +kernel
theorem dX9_reach_8 : decode cX9_reach 8 = .ok (.invokevirtual 133, 3) := by decide +kernel
theorem dX9_soonest_0 : decode cX9_soonest 0 = .ok (.aload_n 0, 1) := by decide +kernel
theorem dX9_soonest_1 : decode cX9_soonest 1 = .ok (.getfield 20, 3) := by decide +kernel
theorem dX9_soonest_10 : decode cX9_soonest 10 = .ok (.invokevirtual 171, 3) := by decide +kernel
theorem dX9_soonest_13 : decode cX9_soonest 13 = .ok (.ifCond .ne 6, 3) := by decide +kernel
theorem dX9_soonest_16 : decode cX9_soonest 16 = .ok (.bipush (-2), 2) := by decide +kernel
theorem dX9_soonest_18 : decode cX9_soonest 18 = .ok (.ireturn, 1) := by decide +kernel
theorem dX9_soonest_4 : decode cX9_soonest 4 = .ok (.getfield 106, 3) := by decide +kernel
theorem dX9_soonest_7 : decode cX9_soonest 7 = .ok (.iload_n 1, 1) := by decide +kernel
theorem dX9_soonest_8 : decode cX9_soonest 8 = .ok (.iload_n 2, 1) := by decide +kernel
theorem dX9_soonest_9 : decode cX9_soonest 9 = .ok (.iload_n 3, 1) := by decide +kernel
theorem dX9_sure_0 : decode cX9_sure 0 = .ok (.aload_n 0, 1) := by decide +kernel
theorem dX9_sure_1 : decode cX9_sure 1 = .ok (.getfield 20, 3) := by decide +kernel
theorem dX9_sure_10 : decode cX9_sure 10 = .ok (.iload 4, 2) := by decide +kernel
theorem dX9_sure_12 : decode cX9_sure 12 = .ok (.invokevirtual 205, 3) := by decide +kernel
theorem dX9_sure_15 : decode cX9_sure 15 = .ok (.ifCond .ne 7, 3) := by decide +kernel
theorem dX9_sure_18 : decode cX9_sure 18 = .ok (.ldc2_w 285, 3) := by decide +kernel
theorem dX9_sure_21 : decode cX9_sure 21 = .ok (.lreturn, 1) := by decide +kernel
theorem dX9_sure_4 : decode cX9_sure 4 = .ok (.getfield 106, 3) := by decide +kernel
theorem dX9_sure_7 : decode cX9_sure 7 = .ok (.iload_n 1, 1) := by decide +kernel
theorem dX9_sure_8 : decode cX9_sure 8 = .ok (.iload_n 2, 1) := by decide +kernel
theorem dX9_sure_9 : decode cX9_sure 9 = .ok (.iload_n 3, 1) := by decide +kernel
theorem dX9_teach_0 : decode cX9_teach 0 = .ok (.aload_n 0, 1) := by decide +kernel
theorem dX9_teach_1 : decode cX9_teach 1 = .ok (.getfield 20, 3) := by decide +kernel
theorem dX9_teach_11 : decode cX9_teach 11 = .ok (.iload_n 1, 1) := by decide +kernel
theorem dX9_teach_12 : decode cX9_teach 12 = .ok (.iload_n 2, 1) := by decide +kernel
theorem dX9_teach_13 : decode cX9_teach 13 = .ok (.iload_n 3, 1) := by decide +kernel
theorem dX9_teach_14 : decode cX9_teach 14 = .ok (.invokevirtual 171, 3) := by decide +kernel
theorem dX9_teach_17 : decode cX9_teach 17 = .ok (.ifCond .eq 14, 3) := by decide +kernel
theorem dX9_teach_31 : decode cX9_teach 31 = .ok (.bipush (-2), 2) := by decide +kernel
theorem dX9_teach_33 : decode cX9_teach 33 = .ok (.ireturn, 1) := by decide +kernel
theorem dX9_teach_4 : decode cX9_teach 4 = .ok (.getfield 106, 3) := by decide +kernel
theorem dX9_teach_7 : decode cX9_teach 7 = .ok (.astore 5, 2) := by decide +kernel
theorem dX9_teach_9 : decode cX9_teach 9 = .ok (.aload 5, 2) := by decide +kernel
theorem dX9_tell_0 : decode cX9_tell 0 = .ok (.aload_n 0, 1) := by decide +kernel
theorem dX9_tell_1 : decode cX9_tell 1 = .ok (.getfield 20, 3) := by decide +kernel
theorem dX9_tell_11 : decode cX9_tell 11 = .ok (.iload 5, 2) := by decide +kernel
theorem dX9_tell_13 : decode cX9_tell 13 = .ok (.invokevirtual 205, 3) := by decide +kernel
theorem dX9_tell_16 : decode cX9_tell 16 = .ok (.ifCond .eq 17, 3) := by decide +kernel
theorem dX9_tell_33 : decode cX9_tell 33 = .ok (.ldc2_w 285, 3) := by decide +kernel
theorem dX9_tell_36 : decode cX9_tell 36 = .ok (.lreturn, 1) := by decide +kernel
theorem dX9_tell_4 : decode cX9_tell 4 = .ok (.getfield 106, 3) := by decide +kernel
theorem dX9_tell_7 : decode cX9_tell 7 = .ok (.iload_n 2, 1) := by decide +kernel
theorem dX9_tell_8 : decode cX9_tell 8 = .ok (.iload_n 3, 1) := by decide +kernel
theorem dX9_tell_9 : decode cX9_tell 9 = .ok (.iload 4, 2) := by decide +kernel
theorem dX9_tells_0 : decode cX9_tells 0 = .ok (.aload_n 0, 1) := by decide +kernel
theorem dX9_tells_1 : decode cX9_tells 1 = .ok (.getfield 20, 3) := by decide +kernel
theorem dX9_tells_10 : decode cX9_tells 10 = .ok (.iload 4, 2) := by decide +kernel
theorem dX9_tells_12 : decode cX9_tells 12 = .ok (.invokevirtual 205, 3) := by decide +kernel
theorem dX9_tells_15 : decode cX9_tells 15 = .ok (.ifCond .ne 6, 3) := by decide +kernel
theorem dX9_tells_18 : decode cX9_tells 18 = .ok (.bipush (-2), 2) := by decide +kernel
theorem dX9_tells_20 : decode cX9_tells 20 = .ok (.ireturn, 1) := by decide +kernel
theorem dX9_tells_4 : decode cX9_tells 4 = .ok (.getfield 106, 3) := by decide +kernel
theorem dX9_tells_7 : decode cX9_tells 7 = .ok (.iload_n 1, 1) := by decide +kernel
theorem dX9_tells_8 : decode cX9_tells 8 = .ok (.iload_n 2, 1) := by decide +kernel
theorem dX9_tells_9 : decode cX9_tells 9 = .ok (.iload_n 3, 1) := by decide +kernel
theorem dX9_think_0 : decode cX9_think 0 = .ok (.aload_n 0, 1) := by decide +kernel
theorem dX9_think_1 : decode cX9_think 1 = .ok (.getfield 20, 3) := by decide +kernel
theorem dX9_think_11 : decode cX9_think 11 = .ok (.iload_n 1, 1) := by decide +kernel
theorem dX9_think_12 : decode cX9_think 12 = .ok (.invokevirtual 123, 3) := by decide +kernel
theorem dX9_think_15 : decode cX9_think 15 = .ok (.ifCond .eq 21, 3) := by decide +kernel
theorem dX9_think_36 : decode cX9_think 36 = .ok (.bipush (-2), 2) := by decide +kernel
theorem dX9_think_38 : decode cX9_think 38 = .ok (.ireturn, 1) := by decide +kernel
theorem dX9_think_4 : decode cX9_think 4 = .ok (.getfield 106, 3) := by decide +kernel
theorem dX9_think_7 : decode cX9_think 7 = .ok (.astore 4, 2) := by decide +kernel
theorem dX9_think_9 : decode cX9_think 9 = .ok (.aload 4, 2) := by decide +kernel
theorem dX9_three_0 : decode cX9_three 0 = .ok (.aload_n 0, 1) := by decide +kernel
theorem dX9_three_1 : decode cX9_three 1 = .ok (.getfield 20, 3) := by decide +kernel
theorem dX9_three_11 : decode cX9_three 11 = .ok (.iload_n 1, 1) := by decide +kernel
theorem dX9_three_12 : decode cX9_three 12 = .ok (.iload 4, 2) := by decide +kernel
theorem dX9_three_14 : decode cX9_three 14 = .ok (.iload 5, 2) := by decide +kernel
theorem dX9_three_16 : decode cX9_three 16 = .ok (.invokevirtual 171, 3) := by decide +kernel
theorem dX9_three_19 : decode cX9_three 19 = .ok (.ifCond .eq 21, 3) := by decide +kernel
theorem dX9_three_4 : decode cX9_three 4 = .ok (.getfield 106, 3) := by decide +kernel
theorem dX9_three_40 : decode cX9_three 40 = .ok (.bipush (-2), 2) := by decide +kernel
theorem dX9_three_42 : decode cX9_three 42 = .ok (.ireturn, 1) := by decide +kernel
theorem dX9_three_7 : decode cX9_three 7 = .ok (.astore 6, 2) := by decide +kernel
theorem dX9_three_9 : decode cX9_three 9 = .ok (.aload 6, 2) := by decide +kernel
theorem dX9_until_0 : decode cX9_until 0 = .ok (.aload_n 0, 1) := by decide +kernel
theorem dX9_until_1 : decode cX9_until 1 = .ok (.getfield 20, 3) := by decide +kernel
theorem dX9_until_11 : decode cX9_until 11 = .ok (.iload_n 1, 1) := by decide +kernel
theorem dX9_until_12 : decode cX9_until 12 = .ok (.iload_n 2, 1) := by decide +kernel
theorem dX9_until_13 : decode cX9_until 13 = .ok (.iload_n 3, 1) := by decide +kernel
theorem dX9_until_14 : decode cX9_until 14 = .ok (.invokevirtual 171, 3) := by decide +kernel
theorem dX9_until_17 : decode cX9_until 17 = .ok (.ifCond .eq 16, 3) := by decide +kernel
theorem dX9_until_33 : decode cX9_until 33 = .ok (.bipush (-2), 2) := by decide +kernel
theorem dX9_until_35 : decode cX9_until 35 = .ok (.ireturn, 1) := by decide +kernel
theorem dX9_until_4 : decode cX9_until 4 = .ok (.getfield 106, 3) := by decide +kernel
theorem dX9_until_7 : decode cX9_until 7 = .ok (.astore 5, 2) := by decide +kernel
theorem dX9_until_9 : decode cX9_until 9 = .ok (.aload 5, 2) := by decide +kernel
theorem dX9_vital_0 : decode cX9_vital 0 = .ok (.aload_n 0, 1) := by decide +kernel
theorem dX9_vital_1 : decode cX9_vital 1 = .ok (.getfield 20, 3) := by decide +kernel
theorem dX9_vital_10 : decode cX9_vital 10 = .ok (.invokevirtual 171, 3) := by decide +kernel
theorem dX9_vital_13 : decode cX9_vital 13 = .ok (.ifCond .ne 6, 3) := by decide +kernel
theorem dX9_vital_16 : decode cX9_vital 16 = .ok (.bipush (-2), 2) := by decide +kernel
theorem dX9_vital_18 : decode cX9_vital 18 = .ok (.ireturn, 1) := by decide +kernel
theorem dX9_vital_4 : decode cX9_vital 4 = .ok (.getfield 106, 3) := by decide +kernel
theorem dX9_vital_7 : decode cX9_vital 7 = .ok (.iload_n 1, 1) := by decide +kernel
theorem dX9_vital_8 : decode cX9_vital 8 = .ok (.iload_n 2, 1) := by decide +kernel
theorem dX9_vital_9 : decode cX9_vital 9 = .ok (.iload_n 3, 1) := by decide +kernel
theorem dX9_way_0 : decode cX9_way 0 = .ok (.aload_n 0, 1) := by decide +kernel
theorem dX9_way_1 : decode cX9_way 1 = .ok (.getfield 20, 3) := by decide +kernel
theorem dX9_way_11 : decode cX9_way 11 = .ok (.iload_n 1, 1) := by decide +kernel
theorem dX9_way_12 : decode cX9_way 12 = .ok (.iload_n 2, 1) := by decide +kernel
theorem dX9_way_13 : decode cX9_way 13 = .ok (.iload_n 3, 1) := by decide +kernel
theorem dX9_way_14 : decode cX9_way 14 = .ok (.invokevirtual 171, 3) := by decide +kernel
theorem dX9_way_17 : decode cX9_way 17 = .ok (.ifCond .eq 14, 3) := by decide +kernel
theorem dX9_way_31 : decode cX9_way 31 = .ok (.bipush (-2), 2) := by decide +kernel
theorem dX9_way_33 : decode cX9_way 33 = .ok (.ireturn, 1) := by decide +kernel
theorem dX9_way_4 : decode cX9_way 4 = .ok (.getfield 106, 3) := by decide +kernel
theorem dX9_way_7 : decode cX9_way 7 = .ok (.astore 5, 2) := by decide +kernel
theorem dX9_way_9 : decode cX9_way 9 = .ok (.aload 5, 2) := by decide +kernel
theorem dX9_ways_0 : decode cX9_ways 0 = .ok (.aload_n 0, 1) := by decide +kernel
theorem dX9_ways_1 : decode cX9_ways 1 = .ok (.getfield 20, 3) := by decide +kernel
theorem dX9_ways_11 : decode cX9_ways 11 = .ok (.iload_n 1, 1) := by decide +kernel
theorem dX9_ways_12 : decode cX9_ways 12 = .ok (.iload_n 2, 1) := by decide +kernel
theorem dX9_ways_13 : decode cX9_ways 13 = .ok (.iload_n 3, 1) := by decide +kernel
theorem dX9_ways_14 : decode cX9_ways 14 = .ok (.iload 4, 2) := by decide +kernel
theorem dX9_ways_16 : decode cX9_ways 16 = .ok (.invokevirtual 205, 3) := by decide +kernel
theorem dX9_ways_19 : decode cX9_ways 19 = .ok (.ifCond .eq 9, 3) := by decide +kernel
theorem dX9_ways_28 : decode cX9_ways 28 = .ok (.bipush (-2), 2) := by decide +kernel
theorem dX9_ways_30 : decode cX9_ways 30 = .ok (.ireturn, 1) := by decide +kernel
theorem dX9_ways_4 : decode cX9_ways 4 = .ok (.getfield 106, 3) := by decide +kernel
theorem dX9_ways_7 : decode cX9_ways 7 = .ok (.astore 5, 2) := by decide +kernel
theorem dX9_ways_9 : decode cX9_ways 9 = .ok (.aload 5, 2) := by decide +kernel
theorem dX9_where_0 : decode cX9_where 0 = .ok (.aload_n 0, 1) := by decide +kernel
theorem dX9_where_1 : decode cX9_where 1 = .ok (.getfield 20, 3) := by decide +kernel
theorem dX9_where_10 : decode cX9_where 10 = .ok (.invokevirtual 123, 3) := by decide +kernel
theorem dX9_where_13 : decode cX9_where 13 = .ok (.ifCond .eq 11, 3) := by decide +kernel
theorem dX9_where_24 : decode cX9_where 24 = .ok (.bipush (-2), 2) := by decide +kernel
theorem dX9_where_26 : decode cX9_where 26 = .ok (.ireturn, 1) := by decide +kernel
theorem dX9_where_4 : decode cX9_where 4 = .ok (.getfield 106, 3) := by decide +kernel
theorem dX9_where_7 : decode cX9_where 7 = .ok (.astore_n 3, 1) := by decide +kernel
theorem dX9_where_8 : decode cX9_where 8 = .ok (.aload_n 3, 1) := by decide +kernel
theorem dX9_where_9 : decode cX9_where 9 = .ok (.iload_n 1, 1) := by decide +kernel
theorem dX9_within_0 : decode cX9_within 0 = .ok (.aload_n 0, 1) := by decide +kernel
theorem dX9_within_1 : decode cX9_within 1 = .ok (.getfield 20, 3) := by decide +kernel
theorem dX9_within_10 : decode cX9_within 10 = .ok (.invokevirtual 133, 3) := by decide +kernel
theorem dX9_within_13 : decode cX9_within 13 = .ok (.ifCond .eq 11, 3) := by decide +kernel
theorem dX9_within_24 : decode cX9_within 24 = .ok (.bipush (-2), 2) := by decide +kernel
theorem dX9_within_26 : decode cX9_within 26 = .ok (.ireturn, 1) := by decide +kernel
theorem dX9_within_4 : decode cX9_within 4 = .ok (.getfield 106, 3) := by decide +kernel
theorem dX9_within_7 : decode cX9_within 7 = .ok (.astore_n 3, 1) := by decide +kernel
theorem dX9_within_8 : decode cX9_within 8 = .ok (.aload_n 3, 1) := by decide +kernel
theorem dX9_within_9 : decode cX9_within 9 = .ok (.iload_n 1, 1) := by decide +kernel
set_option maxHeartbeats 4000000 in
set_option maxRecDepth 100000 in
theorem k_X7_hasPerson (l : Launch) (dC : Nat → ClassId) (dI : Nat → Nat → Nat) (tn : Nat) (p1 : Int32) (ta0 : Nat) (ta1 : Nat) (ta2 : Nat) (ta3 : Nat) (ta4 : Nat) (ta5 : Nat) (ta6 : Nat) (ta7 : Nat) (ta8 : Nat) (ta9 : Nat)  (sz : Nat) : Met l yX7_hasPerson (.code yX7_hasPerson cX7_hasPerson 2 (some .boolean) :: zT) ({ frames := 0, cells := 0, slots := 0, locals := 0 }) (va_Pc [.ref tn, .int p1] (zB dC dI [(tn, .inr (7, [.int 0, .int 0, .int 0, .int 0, .int 0, .int 0, .int 0, .int 0, .ref ta0, .ref ta1, .ref ta2, .ref ta3, .ref ta4, .ref ta5, .ref ta6, .ref ta7, .ref ta8, .ref ta9]))] [] sz)) (va_Qi (fun (r : Int32) (_ : Unit) => r = 0) (fun _ t => zW dC dI [(tn, .inr (7, [.int 0, .int 0, .int 0, .int 0, .int 0, .int 0, .int 0, .int 0, .ref ta0, .ref ta1, .ref ta2, .ref ta3, .ref ta4, .ref ta5, .ref ta6, .ref ta7, .ref ta8, .ref ta9]))] [] (va_A [(tn, .inr (7, [.int 0, .int 0, .int 0, .int 0, .int 0, .int 0, .int 0, .int 0, .ref ta0, .ref ta1, .ref ta2, .ref ta3, .ref ta4, .ref ta5, .ref ta6, .ref ta7, .ref ta8, .ref ta9]))] sz) t) (va_A [(tn, .inr (7, [.int 0, .int 0, .int 0, .int 0, .int 0, .int 0, .int 0, .int 0, .ref ta0, .ref ta1, .ref ta2, .ref ta3, .ref ta4, .ref ta5, .ref ta6, .ref ta7, .ref ta8, .ref ta9]))] sz)) 0 0 (va_A [(tn, .inr (7, [.int 0, .int 0, .int 0, .int 0, .int 0, .int 0, .int 0, .int 0, .ref ta0, .ref ta1, .ref ta2, .ref ta3, .ref ta4, .ref ta5, .ref ta6, .ref ta7, .ref ta8, .ref ta9]))] sz) := by
  refine Met.ofW (cc := cX7_hasPerson) (maxL := 2) (ret := (some .boolean)) (by decide) rfl ?_
  intro p e s m args below meth c s₁ B hml hv
  obtain ⟨rfl, hsz, hP, hK, hD0⟩ := hv
  have hx := B.exec
  have hb := B.bytes
  have hr := B.returns
  have hts := z_hts (atoms_spec (ws := .code yX7_hasPerson cX7_hasPerson 2 (some .boolean) :: zT) B.pre)
  have hown : s.vm.findClass RX7 = some m.cls := findClass_of_methodNamed B.named
  have hlocks := B.notSynchronized
  subst hsz
  have hD := hD0.self (sz := s.heap.size)
  generalize hAe : va_A [(tn, .inr (7, [.int 0, .int 0, .int 0, .int 0, .int 0, .int 0, .int 0, .int 0, .ref ta0, .ref ta1, .ref ta2, .ref ta3, .ref ta4, .ref ta5, .ref ta6, .ref ta7, .ref ta8, .ref ta9]))] s.heap.size = A at hD ⊢
  have hA : ∀ q : Nat, s.heap.size ≤ q → A q := fun q h => by rw [← hAe]; exact Or.inr h
  have hS : va_S A s.heap s.heap [] := va_S.rf
  have hP : va_P (dC, dI) vwCl [(tn, .inr (7, [.int 0, .int 0, .int 0, .int 0, .int 0, .int 0, .int 0, .int 0, .ref ta0, .ref ta1, .ref ta2, .ref ta3, .ref ta4, .ref ta5, .ref ta6, .ref ta7, .ref ta8, .ref ta9]))] s.heap := hP
  have hl := lv_entry ([.ref tn, .int p1]) (n := 2) (Nat.le_of_ble_eq_true rfl)
  rw [lg_entry_eq]
  generalize (lg_sl ([.ref tn, .int p1]) ++ List.replicate (2 - (lg_sl ([.ref tn, .int p1])).length) Slot.unset).toArray = ls at hl ⊢
  have hl : lv_has ls 2 [(0, .ref tn), (1, .int p1)] := hl
  refine lv_iload_n hx hb dX7_hasPerson_0 rfl (lv_at hl 1 rfl) ?_
  refine lv_if_lt (tgt := 16) hx hb dX7_hasPerson_1 (by decide) (fun c_1 => ?_) (fun c_1 => ?_)
  · have ic_1 := z_lt (k := 0) (by decide) c_1
    refine lv_iconst (v := 0) hx hb dX7_hasPerson_16 (by decide) ?_
    exact W.zret (v := 0) hx hb hr (by decide) (fun t ht hW => ⟨⟨0, (), rfl, rfl, z_ret hP hK hD ht hW [0] [] rfl (by decide) rfl⟩, hS.F ht⟩) hS.2.2 dX7_hasPerson_17
  · have ic_1 := z_nlt (k := 0) (by decide) c_1
    refine lv_iload_n hx hb dX7_hasPerson_4 rfl (lv_at hl 1 rfl) ?_
    refine lv_aload_n hx hb dX7_hasPerson_5 rfl (lv_at hl 0 rfl) ?_
    refine va_get (D := (dC, dI)) (ci := 7) (v := .int 0) (C := RX7) (T := TX7) (N := 18) hx hb hts zl_X7 hown hK hP 0 rfl rfl 3 (by decide) (hts _ zw_t1_62) (fun _ h9 => h9) rfl dX7_hasPerson_6 ?_
    refine lv_icmp_ge (tgt := 16) hx hb dX7_hasPerson_9 (by decide) (fun c_2 => ?_) (fun q => absurd (z_nge (k := 0) (by decide) q) (by omega))
    have ic_2 := z_ge (k := 0) (by decide) c_2
    refine lv_iconst (v := 0) hx hb dX7_hasPerson_16 (by decide) ?_
    exact W.zret (v := 0) hx hb hr (by decide) (fun t ht hW => ⟨⟨0, (), rfl, rfl, z_ret hP hK hD ht hW [0] [] rfl (by decide) rfl⟩, hS.F ht⟩) hS.2.2 dX7_hasPerson_17
set_option maxHeartbeats 4000000 in
set_option maxRecDepth 100000 in
theorem k_X9_where (l : Launch) (dC : Nat → ClassId) (dI : Nat → Nat → Nat) (h0 : Nat) (p1 : Int32) (p2 : Int32) (tp : Nat) (nw : Nat) (im : Nat) (sl : Nat) (rd : Nat) (wk : Nat) (fm : Nat) (mt : Nat) (ch : Nat) (dy : Nat) (tn : Nat) (ta0 : Nat) (ta1 : Nat) (ta2 : Nat) (ta3 : Nat) (ta4 : Nat) (ta5 : Nat) (ta6 : Nat) (ta7 : Nat) (ta8 : Nat) (ta9 : Nat)  (sz : Nat) : Met l yX9_where (.code yX9_where cX9_where 4 (some .int) :: zT) ({ frames := 1, cells := 0, slots := 0, locals := 21 }) (va_Pc [.ref h0, .int p1, .int p2] (zB dC dI [(h0, .inr (9, [.ref tp, .int 0, .int 0, .int (-1), .ref nw, .ref im, .ref sl, .ref rd, .ref wk, .ref fm, .ref mt, .ref ch, .ref dy])), (nw, .inr (3, [.int 0, .ref tn, .int 0, .int 0, .int 0, .int 0])), (tn, .inr (7, [.int 0, .int 0, .int 0, .int 0, .int 0, .int 0, .int 0, .int 0, .ref ta0, .ref ta1, .ref ta2, .ref ta3, .ref ta4, .ref ta5, .ref ta6, .ref ta7, .ref ta8, .ref ta9]))] [] sz)) (va_Qi (fun (r : Int32) (_ : Unit) => r = (-2)) (fun _ _ => True) (va_A [(h0, .inr (9, [.ref tp, .int 0, .int 0, .int (-1), .ref nw, .ref im, .ref sl, .ref rd, .ref wk, .ref fm, .ref mt, .ref ch, .ref dy])), (nw, .inr (3, [.int 0, .ref tn, .int 0, .int 0, .int 0, .int 0])), (tn, .inr (7, [.int 0, .int 0, .int 0, .int 0, .int 0, .int 0, .int 0, .int 0, .ref ta0, .ref ta1, .ref ta2, .ref ta3, .ref ta4, .ref ta5, .ref ta6, .ref ta7, .ref ta8, .ref ta9]))] sz)) 0 0 (va_A [(h0, .inr (9, [.ref tp, .int 0, .int 0, .int (-1), .ref nw, .ref im, .ref sl, .ref rd, .ref wk, .ref fm, .ref mt, .ref ch, .ref dy])), (nw, .inr (3, [.int 0, .ref tn, .int 0, .int 0, .int 0, .int 0])), (tn, .inr (7, [.int 0, .int 0, .int 0, .int 0, .int 0, .int 0, .int 0, .int 0, .ref ta0, .ref ta1, .ref ta2, .ref ta3, .ref ta4, .ref ta5, .ref ta6, .ref ta7, .ref ta8, .ref ta9]))] sz) := by
  refine Met.ofW (cc := cX9_where) (maxL := 4) (ret := (some .int)) (by decide) rfl ?_
  intro p e s m args below meth c s₁ B hml hv
  obtain ⟨rfl, hsz, hP, hK, hD0⟩ := hv
  have hx := B.exec
  have hb := B.bytes
  have hr := B.returns
  have hts := z_hts (atoms_spec (ws := .code yX9_where cX9_where 4 (some .int) :: zT) B.pre)
  have hown : s.vm.findClass RX9 = some m.cls := findClass_of_methodNamed B.named
  have hlocks := B.notSynchronized
  subst hsz
  have hD := hD0.self (sz := s.heap.size)
  generalize hAe : va_A [(h0, .inr (9, [.ref tp, .int 0, .int 0, .int (-1), .ref nw, .ref im, .ref sl, .ref rd, .ref wk, .ref fm, .ref mt, .ref ch, .ref dy])), (nw, .inr (3, [.int 0, .ref tn, .int 0, .int 0, .int 0, .int 0])), (tn, .inr (7, [.int 0, .int 0, .int 0, .int 0, .int 0, .int 0, .int 0, .int 0, .ref ta0, .ref ta1, .ref ta2, .ref ta3, .ref ta4, .ref ta5, .ref ta6, .ref ta7, .ref ta8, .ref ta9]))] s.heap.size = A at hD ⊢
  have hA : ∀ q : Nat, s.heap.size ≤ q → A q := fun q h => by rw [← hAe]; exact Or.inr h
  have hS : va_S A s.heap s.heap [] := va_S.rf
  have hP : va_P (dC, dI) vwCl [(h0, .inr (9, [.ref tp, .int 0, .int 0, .int (-1), .ref nw, .ref im, .ref sl, .ref rd, .ref wk, .ref fm, .ref mt, .ref ch, .ref dy])), (nw, .inr (3, [.int 0, .ref tn, .int 0, .int 0, .int 0, .int 0])), (tn, .inr (7, [.int 0, .int 0, .int 0, .int 0, .int 0, .int 0, .int 0, .int 0, .ref ta0, .ref ta1, .ref ta2, .ref ta3, .ref ta4, .ref ta5, .ref ta6, .ref ta7, .ref ta8, .ref ta9]))] s.heap := hP
  have hl := lv_entry ([.ref h0, .int p1, .int p2]) (n := 4) (Nat.le_of_ble_eq_true rfl)
  rw [lg_entry_eq]
  generalize (lg_sl ([.ref h0, .int p1, .int p2]) ++ List.replicate (4 - (lg_sl ([.ref h0, .int p1, .int p2])).length) Slot.unset).toArray = ls at hl ⊢
  have hl : lv_has ls 4 [(0, .ref h0), (1, .int p1), (2, .int p2)] := hl
  refine lv_aload_n hx hb dX9_where_0 rfl (lv_at hl 0 rfl) ?_
  refine va_get (D := (dC, dI)) (ci := 9) (v := .ref nw) (C := RX9) (T := TX9) (N := 13) hx hb hts zl_X9 hown hK hP 0 rfl rfl 4 (by decide) (hts _ zw_t2_193) (fun _ h9 => h9) rfl dX9_where_1 ?_
  refine va_get (D := (dC, dI)) (ci := 3) (v := .ref tn) (C := RX3) (T := TX3) (N := 6) hx hb hts zl_X3 hown hK hP 1 rfl rfl 1 (by decide) (hts _ zw_t1_156) (fun _ h9 => h9) rfl dX9_where_4 ?_
  refine lv_astore_n (lv' := [(3, .ref tn), (0, .ref h0), (1, .int p1), (2, .int p2)]) hx hb dX9_where_7 rfl hl (by decide) rfl (fun ls hl => ?_)
  refine lv_aload_n hx hb dX9_where_8 rfl (lv_at hl 0 rfl) ?_
  refine lv_iload_n hx hb dX9_where_9 rfl (lv_at hl 2 rfl) ?_
  have hPc := hP.sub (ws' := [(tn, .inr (7, [.int 0, .int 0, .int 0, .int 0, .int 0, .int 0, .int 0, .int 0, .ref ta0, .ref ta1, .ref ta2, .ref ta3, .ref ta4, .ref ta5, .ref ta6, .ref ta7, .ref ta8, .ref ta9]))]) [2] rfl
  have hDc := hD.sub (ws' := [(tn, .inr (7, [.int 0, .int 0, .int 0, .int 0, .int 0, .int 0, .int 0, .int 0, .ref ta0, .ref ta1, .ref ta2, .ref ta3, .ref ta4, .ref ta5, .ref ta6, .ref ta7, .ref ta8, .ref ta9]))]) [2] (by decide) rfl
  have hKc := hK.sub (tys' := []) [] rfl
  have hFc := va_free (wc := [(tn, .inr (7, [.int 0, .int 0, .int 0, .int 0, .int 0, .int 0, .int 0, .int 0, .ref ta0, .ref ta1, .ref ta2, .ref ta3, .ref ta4, .ref ta5, .ref ta6, .ref ta7, .ref ta8, .ref ta9]))]) hD hS hA [2] rfl
  refine va_calli (va_runV (As := [.int p1]) (rest := []) ⟨hx, hb, hml, hown, hts⟩ (k_X7_hasPerson l dC dI tn p1 ta0 ta1 ta2 ta3 ta4 ta5 ta6 ta7 ta8 ta9 s.heap.size) (cwV 1 hts (z_gV zw_t3_181 zw_t3_182 zw_t3_183 zw_t1_3 zw_t3_184) rfl rfl rfl (by decide +kernel) ⟨(Nat.le_of_ble_eq_true rfl), (Nat.le_of_ble_eq_true rfl)⟩) (z_preV hPc hKc hDc (ci := 7) (q0 := 0) rfl rfl) rfl rfl hl.1 rfl (lv_room (Nat.le_of_ble_eq_true rfl)) dX9_where_10 ⟨(Nat.le_of_ble_eq_true rfl), (Nat.le_of_ble_eq_true rfl)⟩) hS (fun q _ h => hFc q h) hFc (fun r_1 u t H1 locs ht hvm hw hB hz1 hk1 hS => ?_)
  obtain ⟨hP, hD, hK⟩ := z_after [(h0, .inr (9, [.ref tp, .int 0, .int 0, .int (-1), .ref nw, .ref im, .ref sl, .ref rd, .ref wk, .ref fm, .ref mt, .ref ch, .ref dy])), (nw, .inr (3, [.int 0, .ref tn, .int 0, .int 0, .int 0, .int 0]))] hB ht hvm hP hD hK [2] [0, 1] rfl rfl (by decide) (by decide) hk1 hFc
  generalize H1 = H at hP hS ⊢
  have hP : va_P (dC, dI) vwCl [(h0, .inr (9, [.ref tp, .int 0, .int 0, .int (-1), .ref nw, .ref im, .ref sl, .ref rd, .ref wk, .ref fm, .ref mt, .ref ch, .ref dy])), (nw, .inr (3, [.int 0, .ref tn, .int 0, .int 0, .int 0, .int 0])), (tn, .inr (7, [.int 0, .int 0, .int 0, .int 0, .int 0, .int 0, .int 0, .int 0, .ref ta0, .ref ta1, .ref ta2, .ref ta3, .ref ta4, .ref ta5, .ref ta6, .ref ta7, .ref ta8, .ref ta9]))] H := hP
  have hD : va_D A [(h0, .inr (9, [.ref tp, .int 0, .int 0, .int (-1), .ref nw, .ref im, .ref sl, .ref rd, .ref wk, .ref fm, .ref mt, .ref ch, .ref dy])), (nw, .inr (3, [.int 0, .ref tn, .int 0, .int 0, .int 0, .int 0])), (tn, .inr (7, [.int 0, .int 0, .int 0, .int 0, .int 0, .int 0, .int 0, .int 0, .ref ta0, .ref ta1, .ref ta2, .ref ta3, .ref ta4, .ref ta5, .ref ta6, .ref ta7, .ref ta8, .ref ta9]))] := hD
  have hK : va_K (dC, dI) vwCl [] s := hK
  obtain rfl : r_1 = 0 := hw
  refine lv_if_eq (tgt := 24) hx hb dX9_where_13 (by decide) (fun _ => ?_) (fun q => absurd q (by decide))
  refine lv_bipush (v := (-2)) hx hb dX9_where_24 (by decide) ?_
  exact W.iret (v := (-2)) hx hb hr (fun t ht hW => ⟨⟨(-2), (), rfl, rfl, trivial⟩, hS.F ht⟩) hS.2.2 dX9_where_26
set_option maxHeartbeats 4000000 in
set_option maxRecDepth 100000 in
theorem k_X7_hasCourt (l : Launch) (dC : Nat → ClassId) (dI : Nat → Nat → Nat) (tn : Nat) (p1 : Int32) (ta0 : Nat) (ta1 : Nat) (ta2 : Nat) (ta3 : Nat) (ta4 : Nat) (ta5 : Nat) (ta6 : Nat) (ta7 : Nat) (ta8 : Nat) (ta9 : Nat)  (sz : Nat) : Met l yX7_hasCourt (.code yX7_hasCourt cX7_hasCourt 2 (some .boolean) :: zT) ({ frames := 0, cells := 0, slots := 0, locals := 0 }) (va_Pc [.ref tn, .int p1] (zB dC dI [(tn, .inr (7, [.int 0, .int 0, .int 0, .int 0, .int 0, .int 0, .int 0, .int 0, .ref ta0, .ref ta1, .ref ta2, .ref ta3, .ref ta4, .ref ta5, .ref ta6, .ref ta7, .ref ta8, .ref ta9]))] [] sz)) (va_Qi (fun (r : Int32) (_ : Unit) => r = 0) (fun _ t => zW dC dI [(tn, .inr (7, [.int 0, .int 0, .int 0, .int 0, .int 0, .int 0, .int 0, .int 0, .ref ta0, .ref ta1, .ref ta2, .ref ta3, .ref ta4, .ref ta5, .ref ta6, .ref ta7, .ref ta8, .ref ta9]))] [] (va_A [(tn, .inr (7, [.int 0, .int 0, .int 0, .int 0, .int 0, .int 0, .int 0, .int 0, .ref ta0, .ref ta1, .ref ta2, .ref ta3, .ref ta4, .ref ta5, .ref ta6, .ref ta7, .ref ta8, .ref ta9]))] sz) t) (va_A [(tn, .inr (7, [.int 0, .int 0, .int 0, .int 0, .int 0, .int 0, .int 0, .int 0, .ref ta0, .ref ta1, .ref ta2, .ref ta3, .ref ta4, .ref ta5, .ref ta6, .ref ta7, .ref ta8, .ref ta9]))] sz)) 0 0 (va_A [(tn, .inr (7, [.int 0, .int 0, .int 0, .int 0, .int 0, .int 0, .int 0, .int 0, .ref ta0, .ref ta1, .ref ta2, .ref ta3, .ref ta4, .ref ta5, .ref ta6, .ref ta7, .ref ta8, .ref ta9]))] sz) := by
  refine Met.ofW (cc := cX7_hasCourt) (maxL := 2) (ret := (some .boolean)) (by decide) rfl ?_
  intro p e s m args below meth c s₁ B hml hv
  obtain ⟨rfl, hsz, hP, hK, hD0⟩ := hv
  have hx := B.exec
  have hb := B.bytes
  have hr := B.returns
  have hts := z_hts (atoms_spec (ws := .code yX7_hasCourt cX7_hasCourt 2 (some .boolean) :: zT) B.pre)
  have hown : s.vm.findClass RX7 = some m.cls := findClass_of_methodNamed B.named
  have hlocks := B.notSynchronized
  subst hsz
  have hD := hD0.self (sz := s.heap.size)
  generalize hAe : va_A [(tn, .inr (7, [.int 0, .int 0, .int 0, .int 0, .int 0, .int 0, .int 0, .int 0, .ref ta0, .ref ta1, .ref ta2, .ref ta3, .ref ta4, .ref ta5, .ref ta6, .ref ta7, .ref ta8, .ref ta9]))] s.heap.size = A at hD ⊢
  have hA : ∀ q : Nat, s.heap.size ≤ q → A q := fun q h => by rw [← hAe]; exact Or.inr h
  have hS : va_S A s.heap s.heap [] := va_S.rf
  have hP : va_P (dC, dI) vwCl [(tn, .inr (7, [.int 0, .int 0, .int 0, .int 0, .int 0, .int 0, .int 0, .int 0, .ref ta0, .ref ta1, .ref ta2, .ref ta3, .ref ta4, .ref ta5, .ref ta6, .ref ta7, .ref ta8, .ref ta9]))] s.heap := hP
  have hl := lv_entry ([.ref tn, .int p1]) (n := 2) (Nat.le_of_ble_eq_true rfl)
  rw [lg_entry_eq]
  generalize (lg_sl ([.ref tn, .int p1]) ++ List.replicate (2 - (lg_sl ([.ref tn, .int p1])).length) Slot.unset).toArray = ls at hl ⊢
  have hl : lv_has ls 2 [(0, .ref tn), (1, .int p1)] := hl
  refine lv_iload_n hx hb dX7_hasCourt_0 rfl (lv_at hl 1 rfl) ?_
  refine lv_if_lt (tgt := 16) hx hb dX7_hasCourt_1 (by decide) (fun c_1 => ?_) (fun c_1 => ?_)
  · have ic_1 := z_lt (k := 0) (by decide) c_1
    refine lv_iconst (v := 0) hx hb dX7_hasCourt_16 (by decide) ?_
    exact W.zret (v := 0) hx hb hr (by decide) (fun t ht hW => ⟨⟨0, (), rfl, rfl, z_ret hP hK hD ht hW [0] [] rfl (by decide) rfl⟩, hS.F ht⟩) hS.2.2 dX7_hasCourt_17
  · have ic_1 := z_nlt (k := 0) (by decide) c_1
    refine lv_iload_n hx hb dX7_hasCourt_4 rfl (lv_at hl 1 rfl) ?_
    refine lv_aload_n hx hb dX7_hasCourt_5 rfl (lv_at hl 0 rfl) ?_
    refine va_get (D := (dC, dI)) (ci := 7) (v := .int 0) (C := RX7) (T := TX7) (N := 18) hx hb hts zl_X7 hown hK hP 0 rfl rfl 1 (by decide) (hts _ zw_t1_47) (fun _ h9 => h9) rfl dX7_hasCourt_6 ?_
    refine lv_icmp_ge (tgt := 16) hx hb dX7_hasCourt_9 (by decide) (fun c_2 => ?_) (fun q => absurd (z_nge (k := 0) (by decide) q) (by omega))
    have ic_2 := z_ge (k := 0) (by decide) c_2
    refine lv_iconst (v := 0) hx hb dX7_hasCourt_16 (by decide) ?_
    exact W.zret (v := 0) hx hb hr (by decide) (fun t ht hW => ⟨⟨0, (), rfl, rfl, z_ret hP hK hD ht hW [0] [] rfl (by decide) rfl⟩, hS.F ht⟩) hS.2.2 dX7_hasCourt_17
set_option maxHeartbeats 4000000 in
set_option maxRecDepth 100000 in
theorem k_X9_within (l : Launch) (dC : Nat → ClassId) (dI : Nat → Nat → Nat) (h0 : Nat) (p1 : Int32) (p2 : Int32) (tp : Nat) (nw : Nat) (im : Nat) (sl : Nat) (rd : Nat) (wk : Nat) (fm : Nat) (mt : Nat) (ch : Nat) (dy : Nat) (tn : Nat) (ta0 : Nat) (ta1 : Nat) (ta2 : Nat) (ta3 : Nat) (ta4 : Nat) (ta5 : Nat) (ta6 : Nat) (ta7 : Nat) (ta8 : Nat) (ta9 : Nat)  (sz : Nat) : Met l yX9_within (.code yX9_within cX9_within 4 (some .int) :: zT) ({ frames := 1, cells := 0, slots := 0, locals := 21 }) (va_Pc [.ref h0, .int p1, .int p2] (zB dC dI [(h0, .inr (9, [.ref tp, .int 0, .int 0, .int (-1), .ref nw, .ref im, .ref sl, .ref rd, .ref wk, .ref fm, .ref mt, .ref ch, .ref dy])), (nw, .inr (3, [.int 0, .ref tn, .int 0, .int 0, .int 0, .int 0])), (tn, .inr (7, [.int 0, .int 0, .int 0, .int 0, .int 0, .int 0, .int 0, .int 0, .ref ta0, .ref ta1, .ref ta2, .ref ta3, .ref ta4, .ref ta5, .ref ta6, .ref ta7, .ref ta8, .ref ta9]))] [] sz)) (va_Qi (fun (r : Int32) (_ : Unit) => r = (-2)) (fun _ _ => True) (va_A [(h0, .inr (9, [.ref tp, .int 0, .int 0, .int (-1), .ref nw, .ref im, .ref sl, .ref rd, .ref wk, .ref fm, .ref mt, .ref ch, .ref dy])), (nw, .inr (3, [.int 0, .ref tn, .int 0, .int 0, .int 0, .int 0])), (tn, .inr (7, [.int 0, .int 0, .int 0, .int 0, .int 0, .int 0, .int 0, .int 0, .ref ta0, .ref ta1, .ref ta2, .ref ta3, .ref ta4, .ref ta5, .ref ta6, .ref ta7, .ref ta8, .ref ta9]))] sz)) 0 0 (va_A [(h0, .inr (9, [.ref tp, .int 0, .int 0, .int (-1), .ref nw, .ref im, .ref sl, .ref rd, .ref wk, .ref fm, .ref mt, .ref ch, .ref dy])), (nw, .inr (3, [.int 0, .ref tn, .int 0, .int 0, .int 0, .int 0])), (tn, .inr (7, [.int 0, .int 0, .int 0, .int 0, .int 0, .int 0, .int 0, .int 0, .ref ta0, .ref ta1, .ref ta2, .ref ta3, .ref ta4, .ref ta5, .ref ta6, .ref ta7, .ref ta8, .ref ta9]))] sz) := by
  refine Met.ofW (cc := cX9_within) (maxL := 4) (ret := (some .int)) (by decide) rfl ?_
  intro p e s m args below meth c s₁ B hml hv
  obtain ⟨rfl, hsz, hP, hK, hD0⟩ := hv
  have hx := B.exec
  have hb := B.bytes
  have hr := B.returns
  have hts := z_hts (atoms_spec (ws := .code yX9_within cX9_within 4 (some .int) :: zT) B.pre)
  have hown : s.vm.findClass RX9 = some m.cls := findClass_of_methodNamed B.named
  have hlocks := B.notSynchronized
  subst hsz
  have hD := hD0.self (sz := s.heap.size)
  generalize hAe : va_A [(h0, .inr (9, [.ref tp, .int 0, .int 0, .int (-1), .ref nw, .ref im, .ref sl, .ref rd, .ref wk, .ref fm, .ref mt, .ref ch, .ref dy])), (nw, .inr (3, [.int 0, .ref tn, .int 0, .int 0, .int 0, .int 0])), (tn, .inr (7, [.int 0, .int 0, .int 0, .int 0, .int 0, .int 0, .int 0, .int 0, .ref ta0, .ref ta1, .ref ta2, .ref ta3, .ref ta4, .ref ta5, .ref ta6, .ref ta7, .ref ta8, .ref ta9]))] s.heap.size = A at hD ⊢
  have hA : ∀ q : Nat, s.heap.size ≤ q → A q := fun q h => by rw [← hAe]; exact Or.inr h
  have hS : va_S A s.heap s.heap [] := va_S.rf
  have hP : va_P (dC, dI) vwCl [(h0, .inr (9, [.ref tp, .int 0, .int 0, .int (-1), .ref nw, .ref im, .ref sl, .ref rd, .ref wk, .ref fm, .ref mt, .ref ch, .ref dy])), (nw, .inr (3, [.int 0, .ref tn, .int 0, .int 0, .int 0, .int 0])), (tn, .inr (7, [.int 0, .int 0, .int 0, .int 0, .int 0, .int 0, .int 0, .int 0, .ref ta0, .ref ta1, .ref ta2, .ref ta3, .ref ta4, .ref ta5, .ref ta6, .ref ta7, .ref ta8, .ref ta9]))] s.heap := hP
  have hl := lv_entry ([.ref h0, .int p1, .int p2]) (n := 4) (Nat.le_of_ble_eq_true rfl)
  rw [lg_entry_eq]
  generalize (lg_sl ([.ref h0, .int p1, .int p2]) ++ List.replicate (4 - (lg_sl ([.ref h0, .int p1, .int p2])).length) Slot.unset).toArray = ls at hl ⊢
  have hl : lv_has ls 4 [(0, .ref h0), (1, .int p1), (2, .int p2)] := hl
  refine lv_aload_n hx hb dX9_within_0 rfl (lv_at hl 0 rfl) ?_
  refine va_get (D := (dC, dI)) (ci := 9) (v := .ref nw) (C := RX9) (T := TX9) (N := 13) hx hb hts zl_X9 hown hK hP 0 rfl rfl 4 (by decide) (hts _ zw_t2_193) (fun _ h9 => h9) rfl dX9_within_1 ?_
  refine va_get (D := (dC, dI)) (ci := 3) (v := .ref tn) (C := RX3) (T := TX3) (N := 6) hx hb hts zl_X3 hown hK hP 1 rfl rfl 1 (by decide) (hts _ zw_t1_156) (fun _ h9 => h9) rfl dX9_within_4 ?_
  refine lv_astore_n (lv' := [(3, .ref tn), (0, .ref h0), (1, .int p1), (2, .int p2)]) hx hb dX9_within_7 rfl hl (by decide) rfl (fun ls hl => ?_)
  refine lv_aload_n hx hb dX9_within_8 rfl (lv_at hl 0 rfl) ?_
  refine lv_iload_n hx hb dX9_within_9 rfl (lv_at hl 2 rfl) ?_
  have hPc := hP.sub (ws' := [(tn, .inr (7, [.int 0, .int 0, .int 0, .int 0, .int 0, .int 0, .int 0, .int 0, .ref ta0, .ref ta1, .ref ta2, .ref ta3, .ref ta4, .ref ta5, .ref ta6, .ref ta7, .ref ta8, .ref ta9]))]) [2] rfl
  have hDc := hD.sub (ws' := [(tn, .inr (7, [.int 0, .int 0, .int 0, .int 0, .int 0, .int 0, .int 0, .int 0, .ref ta0, .ref ta1, .ref ta2, .ref ta3, .ref ta4, .ref ta5, .ref ta6, .ref ta7, .ref ta8, .ref ta9]))]) [2] (by decide) rfl
  have hKc := hK.sub (tys' := []) [] rfl
  have hFc := va_free (wc := [(tn, .inr (7, [.int 0, .int 0, .int 0, .int 0, .int 0, .int 0, .int 0, .int 0, .ref ta0, .ref ta1, .ref ta2, .ref ta3, .ref ta4, .ref ta5, .ref ta6, .ref ta7, .ref ta8, .ref ta9]))]) hD hS hA [2] rfl
  refine va_calli (va_runV (As := [.int p1]) (rest := []) ⟨hx, hb, hml, hown, hts⟩ (k_X7_hasCourt l dC dI tn p1 ta0 ta1 ta2 ta3 ta4 ta5 ta6 ta7 ta8 ta9 s.heap.size) (cwV 1 hts (z_gV zw_t3_197 zw_t3_198 zw_t3_199 zw_t1_3 zw_t3_200) rfl rfl rfl (by decide +kernel) ⟨(Nat.le_of_ble_eq_true rfl), (Nat.le_of_ble_eq_true rfl)⟩) (z_preV hPc hKc hDc (ci := 7) (q0 := 0) rfl rfl) rfl rfl hl.1 rfl (lv_room (Nat.le_of_ble_eq_true rfl)) dX9_within_10 ⟨(Nat.le_of_ble_eq_true rfl), (Nat.le_of_ble_eq_true rfl)⟩) hS (fun q _ h => hFc q h) hFc (fun r_1 u t H1 locs ht hvm hw hB hz1 hk1 hS => ?_)
  obtain ⟨hP, hD, hK⟩ := z_after [(h0, .inr (9, [.ref tp, .int 0, .int 0, .int (-1), .ref nw, .ref im, .ref sl, .ref rd, .ref wk, .ref fm, .ref mt, .ref ch, .ref dy])), (nw, .inr (3, [.int 0, .ref tn, .int 0, .int 0, .int 0, .int 0]))] hB ht hvm hP hD hK [2] [0, 1] rfl rfl (by decide) (by decide) hk1 hFc
  generalize H1 = H at hP hS ⊢
  have hP : va_P (dC, dI) vwCl [(h0, .inr (9, [.ref tp, .int 0, .int 0, .int (-1), .ref nw, .ref im, .ref sl, .ref rd, .ref wk, .ref fm, .ref mt, .ref ch, .ref dy])), (nw, .inr (3, [.int 0, .ref tn, .int 0, .int 0, .int 0, .int 0])), (tn, .inr (7, [.int 0, .int 0, .int 0, .int 0, .int 0, .int 0, .int 0, .int 0, .ref ta0, .ref ta1, .ref ta2, .ref ta3, .ref ta4, .ref ta5, .ref ta6, .ref ta7, .ref ta8, .ref ta9]))] H := hP
  have hD : va_D A [(h0, .inr (9, [.ref tp, .int 0, .int 0, .int (-1), .ref nw, .ref im, .ref sl, .ref rd, .ref wk, .ref fm, .ref mt, .ref ch, .ref dy])), (nw, .inr (3, [.int 0, .ref tn, .int 0, .int 0, .int 0, .int 0])), (tn, .inr (7, [.int 0, .int 0, .int 0, .int 0, .int 0, .int 0, .int 0, .int 0, .ref ta0, .ref ta1, .ref ta2, .ref ta3, .ref ta4, .ref ta5, .ref ta6, .ref ta7, .ref ta8, .ref ta9]))] := hD
  have hK : va_K (dC, dI) vwCl [] s := hK
  obtain rfl : r_1 = 0 := hw
  refine lv_if_eq (tgt := 24) hx hb dX9_within_13 (by decide) (fun _ => ?_) (fun q => absurd q (by decide))
  refine lv_bipush (v := (-2)) hx hb dX9_within_24 (by decide) ?_
  exact W.iret (v := (-2)) hx hb hr (fun t ht hW => ⟨⟨(-2), (), rfl, rfl, trivial⟩, hS.F ht⟩) hS.2.2 dX9_within_26
set_option maxHeartbeats 4000000 in
set_option maxRecDepth 100000 in
theorem k_X9_depth (l : Launch) (dC : Nat → ClassId) (dI : Nat → Nat → Nat) (h0 : Nat) (p1 : Int32) (tp : Nat) (nw : Nat) (im : Nat) (sl : Nat) (rd : Nat) (wk : Nat) (fm : Nat) (mt : Nat) (ch : Nat) (dy : Nat) (tn : Nat) (ta0 : Nat) (ta1 : Nat) (ta2 : Nat) (ta3 : Nat) (ta4 : Nat) (ta5 : Nat) (ta6 : Nat) (ta7 : Nat) (ta8 : Nat) (ta9 : Nat)  (sz : Nat) : Met l yX9_depth (.code yX9_depth cX9_depth 2 (some .int) :: zT) ({ frames := 1, cells := 0, slots := 0, locals := 21 }) (va_Pc [.ref h0, .int p1] (zB dC dI [(h0, .inr (9, [.ref tp, .int 0, .int 0, .int (-1), .ref nw, .ref im, .ref sl, .ref rd, .ref wk, .ref fm, .ref mt, .ref ch, .ref dy])), (nw, .inr (3, [.int 0, .ref tn, .int 0, .int 0, .int 0, .int 0])), (tn, .inr (7, [.int 0, .int 0, .int 0, .int 0, .int 0, .int 0, .int 0, .int 0, .ref ta0, .ref ta1, .ref ta2, .ref ta3, .ref ta4, .ref ta5, .ref ta6, .ref ta7, .ref ta8, .ref ta9]))] [] sz)) (va_Qi (fun (r : Int32) (_ : Unit) => r = (-2)) (fun _ _ => True) (va_A [(h0, .inr (9, [.ref tp, .int 0, .int 0, .int (-1), .ref nw, .ref im, .ref sl, .ref rd, .ref wk, .ref fm, .ref mt, .ref ch, .ref dy])), (nw, .inr (3, [.int 0, .ref tn, .int 0, .int 0, .int 0, .int 0])), (tn, .inr (7, [.int 0, .int 0, .int 0, .int 0, .int 0, .int 0, .int 0, .int 0, .ref ta0, .ref ta1, .ref ta2, .ref ta3, .ref ta4, .ref ta5, .ref ta6, .ref ta7, .ref ta8, .ref ta9]))] sz)) 0 0 (va_A [(h0, .inr (9, [.ref tp, .int 0, .int 0, .int (-1), .ref nw, .ref im, .ref sl, .ref rd, .ref wk, .ref fm, .ref mt, .ref ch, .ref dy])), (nw, .inr (3, [.int 0, .ref tn, .int 0, .int 0, .int 0, .int 0])), (tn, .inr (7, [.int 0, .int 0, .int 0, .int 0, .int 0, .int 0, .int 0, .int 0, .ref ta0, .ref ta1, .ref ta2, .ref ta3, .ref ta4, .ref ta5, .ref ta6, .ref ta7, .ref ta8, .ref ta9]))] sz) := by
  refine Met.ofW (cc := cX9_depth) (maxL := 2) (ret := (some .int)) (by decide) rfl ?_
  intro p e s m args below meth c s₁ B hml hv
  obtain ⟨rfl, hsz, hP, hK, hD0⟩ := hv
  have hx := B.exec
  have hb := B.bytes
  have hr := B.returns
  have hts := z_hts (atoms_spec (ws := .code yX9_depth cX9_depth 2 (some .int) :: zT) B.pre)
  have hown : s.vm.findClass RX9 = some m.cls := findClass_of_methodNamed B.named
  have hlocks := B.notSynchronized
  subst hsz
  have hD := hD0.self (sz := s.heap.size)
  generalize hAe : va_A [(h0, .inr (9, [.ref tp, .int 0, .int 0, .int (-1), .ref nw, .ref im, .ref sl, .ref rd, .ref wk, .ref fm, .ref mt, .ref ch, .ref dy])), (nw, .inr (3, [.int 0, .ref tn, .int 0, .int 0, .int 0, .int 0])), (tn, .inr (7, [.int 0, .int 0, .int 0, .int 0, .int 0, .int 0, .int 0, .int 0, .ref ta0, .ref ta1, .ref ta2, .ref ta3, .ref ta4, .ref ta5, .ref ta6, .ref ta7, .ref ta8, .ref ta9]))] s.heap.size = A at hD ⊢
  have hA : ∀ q : Nat, s.heap.size ≤ q → A q := fun q h => by rw [← hAe]; exact Or.inr h
  have hS : va_S A s.heap s.heap [] := va_S.rf
  have hP : va_P (dC, dI) vwCl [(h0, .inr (9, [.ref tp, .int 0, .int 0, .int (-1), .ref nw, .ref im, .ref sl, .ref rd, .ref wk, .ref fm, .ref mt, .ref ch, .ref dy])), (nw, .inr (3, [.int 0, .ref tn, .int 0, .int 0, .int 0, .int 0])), (tn, .inr (7, [.int 0, .int 0, .int 0, .int 0, .int 0, .int 0, .int 0, .int 0, .ref ta0, .ref ta1, .ref ta2, .ref ta3, .ref ta4, .ref ta5, .ref ta6, .ref ta7, .ref ta8, .ref ta9]))] s.heap := hP
  have hl := lv_entry ([.ref h0, .int p1]) (n := 2) (Nat.le_of_ble_eq_true rfl)
  rw [lg_entry_eq]
  generalize (lg_sl ([.ref h0, .int p1]) ++ List.replicate (2 - (lg_sl ([.ref h0, .int p1])).length) Slot.unset).toArray = ls at hl ⊢
  have hl : lv_has ls 2 [(0, .ref h0), (1, .int p1)] := hl
  refine lv_aload_n hx hb dX9_depth_0 rfl (lv_at hl 0 rfl) ?_
  refine va_get (D := (dC, dI)) (ci := 9) (v := .ref nw) (C := RX9) (T := TX9) (N := 13) hx hb hts zl_X9 hown hK hP 0 rfl rfl 4 (by decide) (hts _ zw_t2_193) (fun _ h9 => h9) rfl dX9_depth_1 ?_
  refine va_get (D := (dC, dI)) (ci := 3) (v := .ref tn) (C := RX3) (T := TX3) (N := 6) hx hb hts zl_X3 hown hK hP 1 rfl rfl 1 (by decide) (hts _ zw_t1_156) (fun _ h9 => h9) rfl dX9_depth_4 ?_
  refine lv_iload_n hx hb dX9_depth_7 rfl (lv_at hl 1 rfl) ?_
  have hPc := hP.sub (ws' := [(tn, .inr (7, [.int 0, .int 0, .int 0, .int 0, .int 0, .int 0, .int 0, .int 0, .ref ta0, .ref ta1, .ref ta2, .ref ta3, .ref ta4, .ref ta5, .ref ta6, .ref ta7, .ref ta8, .ref ta9]))]) [2] rfl
  have hDc := hD.sub (ws' := [(tn, .inr (7, [.int 0, .int 0, .int 0, .int 0, .int 0, .int 0, .int 0, .int 0, .ref ta0, .ref ta1, .ref ta2, .ref ta3, .ref ta4, .ref ta5, .ref ta6, .ref ta7, .ref ta8, .ref ta9]))]) [2] (by decide) rfl
  have hKc := hK.sub (tys' := []) [] rfl
  have hFc := va_free (wc := [(tn, .inr (7, [.int 0, .int 0, .int 0, .int 0, .int 0, .int 0, .int 0, .int 0, .ref ta0, .ref ta1, .ref ta2, .ref ta3, .ref ta4, .ref ta5, .ref ta6, .ref ta7, .ref ta8, .ref ta9]))]) hD hS hA [2] rfl
  refine va_calli (va_runV (As := [.int p1]) (rest := []) ⟨hx, hb, hml, hown, hts⟩ (k_X7_hasCourt l dC dI tn p1 ta0 ta1 ta2 ta3 ta4 ta5 ta6 ta7 ta8 ta9 s.heap.size) (cwV 1 hts (z_gV zw_t3_197 zw_t3_198 zw_t3_199 zw_t1_3 zw_t3_200) rfl rfl rfl (by decide +kernel) ⟨(Nat.le_of_ble_eq_true rfl), (Nat.le_of_ble_eq_true rfl)⟩) (z_preV hPc hKc hDc (ci := 7) (q0 := 0) rfl rfl) rfl rfl hl.1 rfl (lv_room (Nat.le_of_ble_eq_true rfl)) dX9_depth_8 ⟨(Nat.le_of_ble_eq_true rfl), (Nat.le_of_ble_eq_true rfl)⟩) hS (fun q _ h => hFc q h) hFc (fun r_1 u t H1 locs ht hvm hw hB hz1 hk1 hS => ?_)
  obtain ⟨hP, hD, hK⟩ := z_after [(h0, .inr (9, [.ref tp, .int 0, .int 0, .int (-1), .ref nw, .ref im, .ref sl, .ref rd, .ref wk, .ref fm, .ref mt, .ref ch, .ref dy])), (nw, .inr (3, [.int 0, .ref tn, .int 0, .int 0, .int 0, .int 0]))] hB ht hvm hP hD hK [2] [0, 1] rfl rfl (by decide) (by decide) hk1 hFc
  generalize H1 = H at hP hS ⊢
  have hP : va_P (dC, dI) vwCl [(h0, .inr (9, [.ref tp, .int 0, .int 0, .int (-1), .ref nw, .ref im, .ref sl, .ref rd, .ref wk, .ref fm, .ref mt, .ref ch, .ref dy])), (nw, .inr (3, [.int 0, .ref tn, .int 0, .int 0, .int 0, .int 0])), (tn, .inr (7, [.int 0, .int 0, .int 0, .int 0, .int 0, .int 0, .int 0, .int 0, .ref ta0, .ref ta1, .ref ta2, .ref ta3, .ref ta4, .ref ta5, .ref ta6, .ref ta7, .ref ta8, .ref ta9]))] H := hP
  have hD : va_D A [(h0, .inr (9, [.ref tp, .int 0, .int 0, .int (-1), .ref nw, .ref im, .ref sl, .ref rd, .ref wk, .ref fm, .ref mt, .ref ch, .ref dy])), (nw, .inr (3, [.int 0, .ref tn, .int 0, .int 0, .int 0, .int 0])), (tn, .inr (7, [.int 0, .int 0, .int 0, .int 0, .int 0, .int 0, .int 0, .int 0, .ref ta0, .ref ta1, .ref ta2, .ref ta3, .ref ta4, .ref ta5, .ref ta6, .ref ta7, .ref ta8, .ref ta9]))] := hD
  have hK : va_K (dC, dI) vwCl [] s := hK
  obtain rfl : r_1 = 0 := hw
  refine lv_if_eq (tgt := 32) hx hb dX9_depth_11 (by decide) (fun _ => ?_) (fun q => absurd q (by decide))
  refine lv_bipush (v := (-2)) hx hb dX9_depth_32 (by decide) ?_
  exact W.iret (v := (-2)) hx hb hr (fun t ht hW => ⟨⟨(-2), (), rfl, rfl, trivial⟩, hS.F ht⟩) hS.2.2 dX9_depth_34
set_option maxHeartbeats 4000000 in
set_option maxRecDepth 100000 in
theorem k_X9_lies (l : Launch) (dC : Nat → ClassId) (dI : Nat → Nat → Nat) (h0 : Nat) (p1 : Int32) (p2 : Int32) (tp : Nat) (nw : Nat) (im : Nat) (sl : Nat) (rd : Nat) (wk : Nat) (fm : Nat) (mt : Nat) (ch : Nat) (dy : Nat) (tn : Nat) (ta0 : Nat) (ta1 : Nat) (ta2 : Nat) (ta3 : Nat) (ta4 : Nat) (ta5 : Nat) (ta6 : Nat) (ta7 : Nat) (ta8 : Nat) (ta9 : Nat)  (sz : Nat) : Met l yX9_lies (.code yX9_lies cX9_lies 4 (some .int) :: zT) ({ frames := 1, cells := 0, slots := 0, locals := 21 }) (va_Pc [.ref h0, .int p1, .int p2] (zB dC dI [(h0, .inr (9, [.ref tp, .int 0, .int 0, .int (-1), .ref nw, .ref im, .ref sl, .ref rd, .ref wk, .ref fm, .ref mt, .ref ch, .ref dy])), (nw, .inr (3, [.int 0, .ref tn, .int 0, .int 0, .int 0, .int 0])), (tn, .inr (7, [.int 0, .int 0, .int 0, .int 0, .int 0, .int 0, .int 0, .int 0, .ref ta0, .ref ta1, .ref ta2, .ref ta3, .ref ta4, .ref ta5, .ref ta6, .ref ta7, .ref ta8, .ref ta9]))] [] sz)) (va_Qi (fun (r : Int32) (_ : Unit) => r = (-2)) (fun _ _ => True) (va_A [(h0, .inr (9, [.ref tp, .int 0, .int 0, .int (-1), .ref nw, .ref im, .ref sl, .ref rd, .ref wk, .ref fm, .ref mt, .ref ch, .ref dy])), (nw, .inr (3, [.int 0, .ref tn, .int 0, .int 0, .int 0, .int 0])), (tn, .inr (7, [.int 0, .int 0, .int 0, .int 0, .int 0, .int 0, .int 0, .int 0, .ref ta0, .ref ta1, .ref ta2, .ref ta3, .ref ta4, .ref ta5, .ref ta6, .ref ta7, .ref ta8, .ref ta9]))] sz)) 0 0 (va_A [(h0, .inr (9, [.ref tp, .int 0, .int 0, .int (-1), .ref nw, .ref im, .ref sl, .ref rd, .ref wk, .ref fm, .ref mt, .ref ch, .ref dy])), (nw, .inr (3, [.int 0, .ref tn, .int 0, .int 0, .int 0, .int 0])), (tn, .inr (7, [.int 0, .int 0, .int 0, .int 0, .int 0, .int 0, .int 0, .int 0, .ref ta0, .ref ta1, .ref ta2, .ref ta3, .ref ta4, .ref ta5, .ref ta6, .ref ta7, .ref ta8, .ref ta9]))] sz) := by
  refine Met.ofW (cc := cX9_lies) (maxL := 4) (ret := (some .int)) (by decide) rfl ?_
  intro p e s m args below meth c s₁ B hml hv
  obtain ⟨rfl, hsz, hP, hK, hD0⟩ := hv
  have hx := B.exec
  have hb := B.bytes
  have hr := B.returns
  have hts := z_hts (atoms_spec (ws := .code yX9_lies cX9_lies 4 (some .int) :: zT) B.pre)
  have hown : s.vm.findClass RX9 = some m.cls := findClass_of_methodNamed B.named
  have hlocks := B.notSynchronized
  subst hsz
  have hD := hD0.self (sz := s.heap.size)
  generalize hAe : va_A [(h0, .inr (9, [.ref tp, .int 0, .int 0, .int (-1), .ref nw, .ref im, .ref sl, .ref rd, .ref wk, .ref fm, .ref mt, .ref ch, .ref dy])), (nw, .inr (3, [.int 0, .ref tn, .int 0, .int 0, .int 0, .int 0])), (tn, .inr (7, [.int 0, .int 0, .int 0, .int 0, .int 0, .int 0, .int 0, .int 0, .ref ta0, .ref ta1, .ref ta2, .ref ta3, .ref ta4, .ref ta5, .ref ta6, .ref ta7, .ref ta8, .ref ta9]))] s.heap.size = A at hD ⊢
  have hA : ∀ q : Nat, s.heap.size ≤ q → A q := fun q h => by rw [← hAe]; exact Or.inr h
  have hS : va_S A s.heap s.heap [] := va_S.rf
  have hP : va_P (dC, dI) vwCl [(h0, .inr (9, [.ref tp, .int 0, .int 0, .int (-1), .ref nw, .ref im, .ref sl, .ref rd, .ref wk, .ref fm, .ref mt, .ref ch, .ref dy])), (nw, .inr (3, [.int 0, .ref tn, .int 0, .int 0, .int 0, .int 0])), (tn, .inr (7, [.int 0, .int 0, .int 0, .int 0, .int 0, .int 0, .int 0, .int 0, .ref ta0, .ref ta1, .ref ta2, .ref ta3, .ref ta4, .ref ta5, .ref ta6, .ref ta7, .ref ta8, .ref ta9]))] s.heap := hP
  have hl := lv_entry ([.ref h0, .int p1, .int p2]) (n := 4) (Nat.le_of_ble_eq_true rfl)
  rw [lg_entry_eq]
  generalize (lg_sl ([.ref h0, .int p1, .int p2]) ++ List.replicate (4 - (lg_sl ([.ref h0, .int p1, .int p2])).length) Slot.unset).toArray = ls at hl ⊢
  have hl : lv_has ls 4 [(0, .ref h0), (1, .int p1), (2, .int p2)] := hl
  refine lv_aload_n hx hb dX9_lies_0 rfl (lv_at hl 0 rfl) ?_
  refine va_get (D := (dC, dI)) (ci := 9) (v := .ref nw) (C := RX9) (T := TX9) (N := 13) hx hb hts zl_X9 hown hK hP 0 rfl rfl 4 (by decide) (hts _ zw_t2_193) (fun _ h9 => h9) rfl dX9_lies_1 ?_
  refine va_get (D := (dC, dI)) (ci := 3) (v := .ref tn) (C := RX3) (T := TX3) (N := 6) hx hb hts zl_X3 hown hK hP 1 rfl rfl 1 (by decide) (hts _ zw_t1_156) (fun _ h9 => h9) rfl dX9_lies_4 ?_
  refine lv_astore_n (lv' := [(3, .ref tn), (0, .ref h0), (1, .int p1), (2, .int p2)]) hx hb dX9_lies_7 rfl hl (by decide) rfl (fun ls hl => ?_)
  refine lv_aload_n hx hb dX9_lies_8 rfl (lv_at hl 0 rfl) ?_
  refine lv_iload_n hx hb dX9_lies_9 rfl (lv_at hl 2 rfl) ?_
  have hPc := hP.sub (ws' := [(tn, .inr (7, [.int 0, .int 0, .int 0, .int 0, .int 0, .int 0, .int 0, .int 0, .ref ta0, .ref ta1, .ref ta2, .ref ta3, .ref ta4, .ref ta5, .ref ta6, .ref ta7, .ref ta8, .ref ta9]))]) [2] rfl
  have hDc := hD.sub (ws' := [(tn, .inr (7, [.int 0, .int 0, .int 0, .int 0, .int 0, .int 0, .int 0, .int 0, .ref ta0, .ref ta1, .ref ta2, .ref ta3, .ref ta4, .ref ta5, .ref ta6, .ref ta7, .ref ta8, .ref ta9]))]) [2] (by decide) rfl
  have hKc := hK.sub (tys' := []) [] rfl
  have hFc := va_free (wc := [(tn, .inr (7, [.int 0, .int 0, .int 0, .int 0, .int 0, .int 0, .int 0, .int 0, .ref ta0, .ref ta1, .ref ta2, .ref ta3, .ref ta4, .ref ta5, .ref ta6, .ref ta7, .ref ta8, .ref ta9]))]) hD hS hA [2] rfl
  refine va_calli (va_runV (As := [.int p1]) (rest := []) ⟨hx, hb, hml, hown, hts⟩ (k_X7_hasCourt l dC dI tn p1 ta0 ta1 ta2 ta3 ta4 ta5 ta6 ta7 ta8 ta9 s.heap.size) (cwV 1 hts (z_gV zw_t3_197 zw_t3_198 zw_t3_199 zw_t1_3 zw_t3_200) rfl rfl rfl (by decide +kernel) ⟨(Nat.le_of_ble_eq_true rfl), (Nat.le_of_ble_eq_true rfl)⟩) (z_preV hPc hKc hDc (ci := 7) (q0 := 0) rfl rfl) rfl rfl hl.1 rfl (lv_room (Nat.le_of_ble_eq_true rfl)) dX9_lies_10 ⟨(Nat.le_of_ble_eq_true rfl), (Nat.le_of_ble_eq_true rfl)⟩) hS (fun q _ h => hFc q h) hFc (fun r_1 u t H1 locs ht hvm hw hB hz1 hk1 hS => ?_)
  obtain ⟨hP, hD, hK⟩ := z_after [(h0, .inr (9, [.ref tp, .int 0, .int 0, .int (-1), .ref nw, .ref im, .ref sl, .ref rd, .ref wk, .ref fm, .ref mt, .ref ch, .ref dy])), (nw, .inr (3, [.int 0, .ref tn, .int 0, .int 0, .int 0, .int 0]))] hB ht hvm hP hD hK [2] [0, 1] rfl rfl (by decide) (by decide) hk1 hFc
  generalize H1 = H at hP hS ⊢
  have hP : va_P (dC, dI) vwCl [(h0, .inr (9, [.ref tp, .int 0, .int 0, .int (-1), .ref nw, .ref im, .ref sl, .ref rd, .ref wk, .ref fm, .ref mt, .ref ch, .ref dy])), (nw, .inr (3, [.int 0, .ref tn, .int 0, .int 0, .int 0, .int 0])), (tn, .inr (7, [.int 0, .int 0, .int 0, .int 0, .int 0, .int 0, .int 0, .int 0, .ref ta0, .ref ta1, .ref ta2, .ref ta3, .ref ta4, .ref ta5, .ref ta6, .ref ta7, .ref ta8, .ref ta9]))] H := hP
  have hD : va_D A [(h0, .inr (9, [.ref tp, .int 0, .int 0, .int (-1), .ref nw, .ref im, .ref sl, .ref rd, .ref wk, .ref fm, .ref mt, .ref ch, .ref dy])), (nw, .inr (3, [.int 0, .ref tn, .int 0, .int 0, .int 0, .int 0])), (tn, .inr (7, [.int 0, .int 0, .int 0, .int 0, .int 0, .int 0, .int 0, .int 0, .ref ta0, .ref ta1, .ref ta2, .ref ta3, .ref ta4, .ref ta5, .ref ta6, .ref ta7, .ref ta8, .ref ta9]))] := hD
  have hK : va_K (dC, dI) vwCl [] s := hK
  obtain rfl : r_1 = 0 := hw
  refine lv_if_eq (tgt := 24) hx hb dX9_lies_13 (by decide) (fun _ => ?_) (fun q => absurd q (by decide))
  refine lv_bipush (v := (-2)) hx hb dX9_lies_24 (by decide) ?_
  exact W.iret (v := (-2)) hx hb hr (fun t ht hW => ⟨⟨(-2), (), rfl, rfl, trivial⟩, hS.F ht⟩) hS.2.2 dX9_lies_26
set_option maxHeartbeats 4000000 in
set_option maxRecDepth 100000 in
theorem k_X7_hasGate (l : Launch) (dC : Nat → ClassId) (dI : Nat → Nat → Nat) (tn : Nat) (p1 : Int32) (ta0 : Nat) (ta1 : Nat) (ta2 : Nat) (ta3 : Nat) (ta4 : Nat) (ta5 : Nat) (ta6 : Nat) (ta7 : Nat) (ta8 : Nat) (ta9 : Nat)  (sz : Nat) : Met l yX7_hasGate (.code yX7_hasGate cX7_hasGate 2 (some .boolean) :: zT) ({ frames := 0, cells := 0, slots := 0, locals := 0 }) (va_Pc [.ref tn, .int p1] (zB dC dI [(tn, .inr (7, [.int 0, .int 0, .int 0, .int 0, .int 0, .int 0, .int 0, .int 0, .ref ta0, .ref ta1, .ref ta2, .ref ta3, .ref ta4, .ref ta5, .ref ta6, .ref ta7, .ref ta8, .ref ta9]))] [] sz)) (va_Qi (fun (r : Int32) (_ : Unit) => r = 0) (fun _ t => zW dC dI [(tn, .inr (7, [.int 0, .int 0, .int 0, .int 0, .int 0, .int 0, .int 0, .int 0, .ref ta0, .ref ta1, .ref ta2, .ref ta3, .ref ta4, .ref ta5, .ref ta6, .ref ta7, .ref ta8, .ref ta9]))] [] (va_A [(tn, .inr (7, [.int 0, .int 0, .int 0, .int 0, .int 0, .int 0, .int 0, .int 0, .ref ta0, .ref ta1, .ref ta2, .ref ta3, .ref ta4, .ref ta5, .ref ta6, .ref ta7, .ref ta8, .ref ta9]))] sz) t) (va_A [(tn, .inr (7, [.int 0, .int 0, .int 0, .int 0, .int 0, .int 0, .int 0, .int 0, .ref ta0, .ref ta1, .ref ta2, .ref ta3, .ref ta4, .ref ta5, .ref ta6, .ref ta7, .ref ta8, .ref ta9]))] sz)) 0 0 (va_A [(tn, .inr (7, [.int 0, .int 0, .int 0, .int 0, .int 0, .int 0, .int 0, .int 0, .ref ta0, .ref ta1, .ref ta2, .ref ta3, .ref ta4, .ref ta5, .ref ta6, .ref ta7, .ref ta8, .ref ta9]))] sz) := by
  refine Met.ofW (cc := cX7_hasGate) (maxL := 2) (ret := (some .boolean)) (by decide) rfl ?_
  intro p e s m args below meth c s₁ B hml hv
  obtain ⟨rfl, hsz, hP, hK, hD0⟩ := hv
  have hx := B.exec
  have hb := B.bytes
  have hr := B.returns
  have hts := z_hts (atoms_spec (ws := .code yX7_hasGate cX7_hasGate 2 (some .boolean) :: zT) B.pre)
  have hown : s.vm.findClass RX7 = some m.cls := findClass_of_methodNamed B.named
  have hlocks := B.notSynchronized
  subst hsz
  have hD := hD0.self (sz := s.heap.size)
  generalize hAe : va_A [(tn, .inr (7, [.int 0, .int 0, .int 0, .int 0, .int 0, .int 0, .int 0, .int 0, .ref ta0, .ref ta1, .ref ta2, .ref ta3, .ref ta4, .ref ta5, .ref ta6, .ref ta7, .ref ta8, .ref ta9]))] s.heap.size = A at hD ⊢
  have hA : ∀ q : Nat, s.heap.size ≤ q → A q := fun q h => by rw [← hAe]; exact Or.inr h
  have hS : va_S A s.heap s.heap [] := va_S.rf
  have hP : va_P (dC, dI) vwCl [(tn, .inr (7, [.int 0, .int 0, .int 0, .int 0, .int 0, .int 0, .int 0, .int 0, .ref ta0, .ref ta1, .ref ta2, .ref ta3, .ref ta4, .ref ta5, .ref ta6, .ref ta7, .ref ta8, .ref ta9]))] s.heap := hP
  have hl := lv_entry ([.ref tn, .int p1]) (n := 2) (Nat.le_of_ble_eq_true rfl)
  rw [lg_entry_eq]
  generalize (lg_sl ([.ref tn, .int p1]) ++ List.replicate (2 - (lg_sl ([.ref tn, .int p1])).length) Slot.unset).toArray = ls at hl ⊢
  have hl : lv_has ls 2 [(0, .ref tn), (1, .int p1)] := hl
  refine lv_iload_n hx hb dX7_hasGate_0 rfl (lv_at hl 1 rfl) ?_
  refine lv_if_lt (tgt := 16) hx hb dX7_hasGate_1 (by decide) (fun c_1 => ?_) (fun c_1 => ?_)
  · have ic_1 := z_lt (k := 0) (by decide) c_1
    refine lv_iconst (v := 0) hx hb dX7_hasGate_16 (by decide) ?_
    exact W.zret (v := 0) hx hb hr (by decide) (fun t ht hW => ⟨⟨0, (), rfl, rfl, z_ret hP hK hD ht hW [0] [] rfl (by decide) rfl⟩, hS.F ht⟩) hS.2.2 dX7_hasGate_17
  · have ic_1 := z_nlt (k := 0) (by decide) c_1
    refine lv_iload_n hx hb dX7_hasGate_4 rfl (lv_at hl 1 rfl) ?_
    refine lv_aload_n hx hb dX7_hasGate_5 rfl (lv_at hl 0 rfl) ?_
    refine va_get (D := (dC, dI)) (ci := 7) (v := .int 0) (C := RX7) (T := TX7) (N := 18) hx hb hts zl_X7 hown hK hP 0 rfl rfl 2 (by decide) (hts _ zw_t1_55) (fun _ h9 => h9) rfl dX7_hasGate_6 ?_
    refine lv_icmp_ge (tgt := 16) hx hb dX7_hasGate_9 (by decide) (fun c_2 => ?_) (fun q => absurd (z_nge (k := 0) (by decide) q) (by omega))
    have ic_2 := z_ge (k := 0) (by decide) c_2
    refine lv_iconst (v := 0) hx hb dX7_hasGate_16 (by decide) ?_
    exact W.zret (v := 0) hx hb hr (by decide) (fun t ht hW => ⟨⟨0, (), rfl, rfl, z_ret hP hK hD ht hW [0] [] rfl (by decide) rfl⟩, hS.F ht⟩) hS.2.2 dX7_hasGate_17
set_option maxHeartbeats 4000000 in
set_option maxRecDepth 100000 in
theorem k_X9_leads (l : Launch) (dC : Nat → ClassId) (dI : Nat → Nat → Nat) (h0 : Nat) (p1 : Int32) (p2 : Int32) (tp : Nat) (nw : Nat) (im : Nat) (sl : Nat) (rd : Nat) (wk : Nat) (fm : Nat) (mt : Nat) (ch : Nat) (dy : Nat) (tn : Nat) (ta0 : Nat) (ta1 : Nat) (ta2 : Nat) (ta3 : Nat) (ta4 : Nat) (ta5 : Nat) (ta6 : Nat) (ta7 : Nat) (ta8 : Nat) (ta9 : Nat)  (sz : Nat) : Met l yX9_leads (.code yX9_leads cX9_leads 4 (some .int) :: zT) ({ frames := 1, cells := 0, slots := 0, locals := 21 }) (va_Pc [.ref h0, .int p1, .int p2] (zB dC dI [(h0, .inr (9, [.ref tp, .int 0, .int 0, .int (-1), .ref nw, .ref im, .ref sl, .ref rd, .ref wk, .ref fm, .ref mt, .ref ch, .ref dy])), (nw, .inr (3, [.int 0, .ref tn, .int 0, .int 0, .int 0, .int 0])), (tn, .inr (7, [.int 0, .int 0, .int 0, .int 0, .int 0, .int 0, .int 0, .int 0, .ref ta0, .ref ta1, .ref ta2, .ref ta3, .ref ta4, .ref ta5, .ref ta6, .ref ta7, .ref ta8, .ref ta9]))] [] sz)) (va_Qi (fun (r : Int32) (_ : Unit) => r = (-2)) (fun _ _ => True) (va_A [(h0, .inr (9, [.ref tp, .int 0, .int 0, .int (-1), .ref nw, .ref im, .ref sl, .ref rd, .ref wk, .ref fm, .ref mt, .ref ch, .ref dy])), (nw, .inr (3, [.int 0, .ref tn, .int 0, .int 0, .int 0, .int 0])), (tn, .inr (7, [.int 0, .int 0, .int 0, .int 0, .int 0, .int 0, .int 0, .int 0, .ref ta0, .ref ta1, .ref ta2, .ref ta3, .ref ta4, .ref ta5, .ref ta6, .ref ta7, .ref ta8, .ref ta9]))] sz)) 0 0 (va_A [(h0, .inr (9, [.ref tp, .int 0, .int 0, .int (-1), .ref nw, .ref im, .ref sl, .ref rd, .ref wk, .ref fm, .ref mt, .ref ch, .ref dy])), (nw, .inr (3, [.int 0, .ref tn, .int 0, .int 0, .int 0, .int 0])), (tn, .inr (7, [.int 0, .int 0, .int 0, .int 0, .int 0, .int 0, .int 0, .int 0, .ref ta0, .ref ta1, .ref ta2, .ref ta3, .ref ta4, .ref ta5, .ref ta6, .ref ta7, .ref ta8, .ref ta9]))] sz) := by
  refine Met.ofW (cc := cX9_leads) (maxL := 4) (ret := (some .int)) (by decide) rfl ?_
  intro p e s m args below meth c s₁ B hml hv
  obtain ⟨rfl, hsz, hP, hK, hD0⟩ := hv
  have hx := B.exec
  have hb := B.bytes
  have hr := B.returns
  have hts := z_hts (atoms_spec (ws := .code yX9_leads cX9_leads 4 (some .int) :: zT) B.pre)
  have hown : s.vm.findClass RX9 = some m.cls := findClass_of_methodNamed B.named
  have hlocks := B.notSynchronized
  subst hsz
  have hD := hD0.self (sz := s.heap.size)
  generalize hAe : va_A [(h0, .inr (9, [.ref tp, .int 0, .int 0, .int (-1), .ref nw, .ref im, .ref sl, .ref rd, .ref wk, .ref fm, .ref mt, .ref ch, .ref dy])), (nw, .inr (3, [.int 0, .ref tn, .int 0, .int 0, .int 0, .int 0])), (tn, .inr (7, [.int 0, .int 0, .int 0, .int 0, .int 0, .int 0, .int 0, .int 0, .ref ta0, .ref ta1, .ref ta2, .ref ta3, .ref ta4, .ref ta5, .ref ta6, .ref ta7, .ref ta8, .ref ta9]))] s.heap.size = A at hD ⊢
  have hA : ∀ q : Nat, s.heap.size ≤ q → A q := fun q h => by rw [← hAe]; exact Or.inr h
  have hS : va_S A s.heap s.heap [] := va_S.rf
  have hP : va_P (dC, dI) vwCl [(h0, .inr (9, [.ref tp, .int 0, .int 0, .int (-1), .ref nw, .ref im, .ref sl, .ref rd, .ref wk, .ref fm, .ref mt, .ref ch, .ref dy])), (nw, .inr (3, [.int 0, .ref tn, .int 0, .int 0, .int 0, .int 0])), (tn, .inr (7, [.int 0, .int 0, .int 0, .int 0, .int 0, .int 0, .int 0, .int 0, .ref ta0, .ref ta1, .ref ta2, .ref ta3, .ref ta4, .ref ta5, .ref ta6, .ref ta7, .ref ta8, .ref ta9]))] s.heap := hP
  have hl := lv_entry ([.ref h0, .int p1, .int p2]) (n := 4) (Nat.le_of_ble_eq_true rfl)
  rw [lg_entry_eq]
  generalize (lg_sl ([.ref h0, .int p1, .int p2]) ++ List.replicate (4 - (lg_sl ([.ref h0, .int p1, .int p2])).length) Slot.unset).toArray = ls at hl ⊢
  have hl : lv_has ls 4 [(0, .ref h0), (1, .int p1), (2, .int p2)] := hl
  refine lv_aload_n hx hb dX9_leads_0 rfl (lv_at hl 0 rfl) ?_
  refine va_get (D := (dC, dI)) (ci := 9) (v := .ref nw) (C := RX9) (T := TX9) (N := 13) hx hb hts zl_X9 hown hK hP 0 rfl rfl 4 (by decide) (hts _ zw_t2_193) (fun _ h9 => h9) rfl dX9_leads_1 ?_
  refine va_get (D := (dC, dI)) (ci := 3) (v := .ref tn) (C := RX3) (T := TX3) (N := 6) hx hb hts zl_X3 hown hK hP 1 rfl rfl 1 (by decide) (hts _ zw_t1_156) (fun _ h9 => h9) rfl dX9_leads_4 ?_
  refine lv_astore_n (lv' := [(3, .ref tn), (0, .ref h0), (1, .int p1), (2, .int p2)]) hx hb dX9_leads_7 rfl hl (by decide) rfl (fun ls hl => ?_)
  refine lv_aload_n hx hb dX9_leads_8 rfl (lv_at hl 0 rfl) ?_
  refine lv_iload_n hx hb dX9_leads_9 rfl (lv_at hl 2 rfl) ?_
  have hPc := hP.sub (ws' := [(tn, .inr (7, [.int 0, .int 0, .int 0, .int 0, .int 0, .int 0, .int 0, .int 0, .ref ta0, .ref ta1, .ref ta2, .ref ta3, .ref ta4, .ref ta5, .ref ta6, .ref ta7, .ref ta8, .ref ta9]))]) [2] rfl
  have hDc := hD.sub (ws' := [(tn, .inr (7, [.int 0, .int 0, .int 0, .int 0, .int 0, .int 0, .int 0, .int 0, .ref ta0, .ref ta1, .ref ta2, .ref ta3, .ref ta4, .ref ta5, .ref ta6, .ref ta7, .ref ta8, .ref ta9]))]) [2] (by decide) rfl
  have hKc := hK.sub (tys' := []) [] rfl
  have hFc := va_free (wc := [(tn, .inr (7, [.int 0, .int 0, .int 0, .int 0, .int 0, .int 0, .int 0, .int 0, .ref ta0, .ref ta1, .ref ta2, .ref ta3, .ref ta4, .ref ta5, .ref ta6, .ref ta7, .ref ta8, .ref ta9]))]) hD hS hA [2] rfl
  refine va_calli (va_runV (As := [.int p1]) (rest := []) ⟨hx, hb, hml, hown, hts⟩ (k_X7_hasGate l dC dI tn p1 ta0 ta1 ta2 ta3 ta4 ta5 ta6 ta7 ta8 ta9 s.heap.size) (cwV 1 hts (z_gV zw_t3_233 zw_t3_234 zw_t3_235 zw_t1_3 zw_t3_236) rfl rfl rfl (by decide +kernel) ⟨(Nat.le_of_ble_eq_true rfl), (Nat.le_of_ble_eq_true rfl)⟩) (z_preV hPc hKc hDc (ci := 7) (q0 := 0) rfl rfl) rfl rfl hl.1 rfl (lv_room (Nat.le_of_ble_eq_true rfl)) dX9_leads_10 ⟨(Nat.le_of_ble_eq_true rfl), (Nat.le_of_ble_eq_true rfl)⟩) hS (fun q _ h => hFc q h) hFc (fun r_1 u t H1 locs ht hvm hw hB hz1 hk1 hS => ?_)
  obtain ⟨hP, hD, hK⟩ := z_after [(h0, .inr (9, [.ref tp, .int 0, .int 0, .int (-1), .ref nw, .ref im, .ref sl, .ref rd, .ref wk, .ref fm, .ref mt, .ref ch, .ref dy])), (nw, .inr (3, [.int 0, .ref tn, .int 0, .int 0, .int 0, .int 0]))] hB ht hvm hP hD hK [2] [0, 1] rfl rfl (by decide) (by decide) hk1 hFc
  generalize H1 = H at hP hS ⊢
  have hP : va_P (dC, dI) vwCl [(h0, .inr (9, [.ref tp, .int 0, .int 0, .int (-1), .ref nw, .ref im, .ref sl, .ref rd, .ref wk, .ref fm, .ref mt, .ref ch, .ref dy])), (nw, .inr (3, [.int 0, .ref tn, .int 0, .int 0, .int 0, .int 0])), (tn, .inr (7, [.int 0, .int 0, .int 0, .int 0, .int 0, .int 0, .int 0, .int 0, .ref ta0, .ref ta1, .ref ta2, .ref ta3, .ref ta4, .ref ta5, .ref ta6, .ref ta7, .ref ta8, .ref ta9]))] H := hP
  have hD : va_D A [(h0, .inr (9, [.ref tp, .int 0, .int 0, .int (-1), .ref nw, .ref im, .ref sl, .ref rd, .ref wk, .ref fm, .ref mt, .ref ch, .ref dy])), (nw, .inr (3, [.int 0, .ref tn, .int 0, .int 0, .int 0, .int 0])), (tn, .inr (7, [.int 0, .int 0, .int 0, .int 0, .int 0, .int 0, .int 0, .int 0, .ref ta0, .ref ta1, .ref ta2, .ref ta3, .ref ta4, .ref ta5, .ref ta6, .ref ta7, .ref ta8, .ref ta9]))] := hD
  have hK : va_K (dC, dI) vwCl [] s := hK
  obtain rfl : r_1 = 0 := hw
  refine lv_if_eq (tgt := 24) hx hb dX9_leads_13 (by decide) (fun _ => ?_) (fun q => absurd q (by decide))
  refine lv_bipush (v := (-2)) hx hb dX9_leads_24 (by decide) ?_
  exact W.iret (v := (-2)) hx hb hr (fun t ht hW => ⟨⟨(-2), (), rfl, rfl, trivial⟩, hS.F ht⟩) hS.2.2 dX9_leads_26
set_option maxHeartbeats 4000000 in
set_option maxRecDepth 100000 in
theorem k_X7_hasPassage (l : Launch) (dC : Nat → ClassId) (dI : Nat → Nat → Nat) (tn : Nat) (p1 : Int32) (p2 : Int32) (p3 : Int32) (ta0 : Nat) (ta1 : Nat) (ta2 : Nat) (ta3 : Nat) (ta4 : Nat) (ta5 : Nat) (ta6 : Nat) (ta7 : Nat) (ta8 : Nat) (ta9 : Nat)  (sz : Nat) : Met l yX7_hasPassage (.code yX7_hasPassage cX7_hasPassage 4 (some .boolean) :: zT) ({ frames := 1, cells := 0, slots := 0, locals := 21 }) (va_Pc [.ref tn, .int p1, .int p2, .int p3] (zB dC dI [(tn, .inr (7, [.int 0, .int 0, .int 0, .int 0, .int 0, .int 0, .int 0, .int 0, .ref ta0, .ref ta1, .ref ta2, .ref ta3, .ref ta4, .ref ta5, .ref ta6, .ref ta7, .ref ta8, .ref ta9]))] [] sz)) (va_Qi (fun (r : Int32) (_ : Unit) => r = 0) (fun _ t => zW dC dI [(tn, .inr (7, [.int 0, .int 0, .int 0, .int 0, .int 0, .int 0, .int 0, .int 0, .ref ta0, .ref ta1, .ref ta2, .ref ta3, .ref ta4, .ref ta5, .ref ta6, .ref ta7, .ref ta8, .ref ta9]))] [] (va_A [(tn, .inr (7, [.int 0, .int 0, .int 0, .int 0, .int 0, .int 0, .int 0, .int 0, .ref ta0, .ref ta1, .ref ta2, .ref ta3, .ref ta4, .ref ta5, .ref ta6, .ref ta7, .ref ta8, .ref ta9]))] sz) t) (va_A [(tn, .inr (7, [.int 0, .int 0, .int 0, .int 0, .int 0, .int 0, .int 0, .int 0, .ref ta0, .ref ta1, .ref ta2, .ref ta3, .ref ta4, .ref ta5, .ref ta6, .ref ta7, .ref ta8, .ref ta9]))] sz)) 0 0 (va_A [(tn, .inr (7, [.int 0, .int 0, .int 0, .int 0, .int 0, .int 0, .int 0, .int 0, .ref ta0, .ref ta1, .ref ta2, .ref ta3, .ref ta4, .ref ta5, .ref ta6, .ref ta7, .ref ta8, .ref ta9]))] sz) := by
  refine Met.ofW (cc := cX7_hasPassage) (maxL := 4) (ret := (some .boolean)) (by decide) rfl ?_
  intro p e s m args below meth c s₁ B hml hv
  obtain ⟨rfl, hsz, hP, hK, hD0⟩ := hv
  have hx := B.exec
  have hb := B.bytes
  have hr := B.returns
  have hts := z_hts (atoms_spec (ws := .code yX7_hasPassage cX7_hasPassage 4 (some .boolean) :: zT) B.pre)
  have hown : s.vm.findClass RX7 = some m.cls := findClass_of_methodNamed B.named
  have hlocks := B.notSynchronized
  subst hsz
  have hD := hD0.self (sz := s.heap.size)
  generalize hAe : va_A [(tn, .inr (7, [.int 0, .int 0, .int 0, .int 0, .int 0, .int 0, .int 0, .int 0, .ref ta0, .ref ta1, .ref ta2, .ref ta3, .ref ta4, .ref ta5, .ref ta6, .ref ta7, .ref ta8, .ref ta9]))] s.heap.size = A at hD ⊢
  have hA : ∀ q : Nat, s.heap.size ≤ q → A q := fun q h => by rw [← hAe]; exact Or.inr h
  have hS : va_S A s.heap s.heap [] := va_S.rf
  have hP : va_P (dC, dI) vwCl [(tn, .inr (7, [.int 0, .int 0, .int 0, .int 0, .int 0, .int 0, .int 0, .int 0, .ref ta0, .ref ta1, .ref ta2, .ref ta3, .ref ta4, .ref ta5, .ref ta6, .ref ta7, .ref ta8, .ref ta9]))] s.heap := hP
  have hl := lv_entry ([.ref tn, .int p1, .int p2, .int p3]) (n := 4) (Nat.le_of_ble_eq_true rfl)
  rw [lg_entry_eq]
  generalize (lg_sl ([.ref tn, .int p1, .int p2, .int p3]) ++ List.replicate (4 - (lg_sl ([.ref tn, .int p1, .int p2, .int p3])).length) Slot.unset).toArray = ls at hl ⊢
  have hl : lv_has ls 4 [(0, .ref tn), (1, .int p1), (2, .int p2), (3, .int p3)] := hl
  refine lv_aload_n hx hb dX7_hasPassage_0 rfl (lv_at hl 0 rfl) ?_
  refine lv_iload_n hx hb dX7_hasPassage_1 rfl (lv_at hl 1 rfl) ?_
  have hPc := hP.sub (ws' := [(tn, .inr (7, [.int 0, .int 0, .int 0, .int 0, .int 0, .int 0, .int 0, .int 0, .ref ta0, .ref ta1, .ref ta2, .ref ta3, .ref ta4, .ref ta5, .ref ta6, .ref ta7, .ref ta8, .ref ta9]))]) [0] rfl
  have hDc := hD.sub (ws' := [(tn, .inr (7, [.int 0, .int 0, .int 0, .int 0, .int 0, .int 0, .int 0, .int 0, .ref ta0, .ref ta1, .ref ta2, .ref ta3, .ref ta4, .ref ta5, .ref ta6, .ref ta7, .ref ta8, .ref ta9]))]) [0] (by decide) rfl
  have hKc := hK.sub (tys' := []) [] rfl
  have hFc := va_free (wc := [(tn, .inr (7, [.int 0, .int 0, .int 0, .int 0, .int 0, .int 0, .int 0, .int 0, .ref ta0, .ref ta1, .ref ta2, .ref ta3, .ref ta4, .ref ta5, .ref ta6, .ref ta7, .ref ta8, .ref ta9]))]) hD hS hA [0] rfl
  refine va_calli (va_runV (As := [.int p1]) (rest := []) ⟨hx, hb, hml, hown, hts⟩ (k_X7_hasGate l dC dI tn p1 ta0 ta1 ta2 ta3 ta4 ta5 ta6 ta7 ta8 ta9 s.heap.size) (cwV 1 hts (z_gV zw_t4_9 zw_t3_234 zw_t3_235 zw_t1_3 zw_t3_236) rfl rfl rfl (by decide +kernel) ⟨(Nat.le_of_ble_eq_true rfl), (Nat.le_of_ble_eq_true rfl)⟩) (z_preV hPc hKc hDc (ci := 7) (q0 := 0) rfl rfl) rfl rfl hl.1 rfl (lv_room (Nat.le_of_ble_eq_true rfl)) dX7_hasPassage_2 ⟨(Nat.le_of_ble_eq_true rfl), (Nat.le_of_ble_eq_true rfl)⟩) hS (fun q _ h => hFc q h) hFc (fun r_1 u t H1 locs ht hvm hw hB hz1 hk1 hS => ?_)
  obtain ⟨hP, hD, hK⟩ := z_after [] hB ht hvm hP hD hK [0] [] rfl rfl (by decide) (by decide) hk1 hFc
  generalize H1 = H at hP hS ⊢
  have hP : va_P (dC, dI) vwCl [(tn, .inr (7, [.int 0, .int 0, .int 0, .int 0, .int 0, .int 0, .int 0, .int 0, .ref ta0, .ref ta1, .ref ta2, .ref ta3, .ref ta4, .ref ta5, .ref ta6, .ref ta7, .ref ta8, .ref ta9]))] H := hP
  have hD : va_D A [(tn, .inr (7, [.int 0, .int 0, .int 0, .int 0, .int 0, .int 0, .int 0, .int 0, .ref ta0, .ref ta1, .ref ta2, .ref ta3, .ref ta4, .ref ta5, .ref ta6, .ref ta7, .ref ta8, .ref ta9]))] := hD
  have hK : va_K (dC, dI) vwCl [] s := hK
  obtain rfl : r_1 = 0 := hw
  refine lv_if_eq (tgt := 28) hx hb dX7_hasPassage_5 (by decide) (fun _ => ?_) (fun q => absurd q (by decide))
  refine lv_iconst (v := 0) hx hb dX7_hasPassage_28 (by decide) ?_
  exact W.zret (v := 0) hx hb hr (by decide) (fun t ht hW => ⟨⟨0, (), rfl, rfl, z_ret hP hK hD ht hW [0] [] rfl (by decide) rfl⟩, hS.F ht⟩) hS.2.2 dX7_hasPassage_29
set_option maxHeartbeats 4000000 in
set_option maxRecDepth 100000 in
theorem k_X9_opens (l : Launch) (dC : Nat → ClassId) (dI : Nat → Nat → Nat) (h0 : Nat) (p1 : Int32) (p2 : Int32) (p3 : Int32) (p4 : Int32) (tp : Nat) (nw : Nat) (im : Nat) (sl : Nat) (rd : Nat) (wk : Nat) (fm : Nat) (mt : Nat) (ch : Nat) (dy : Nat) (tn : Nat) (ta0 : Nat) (ta1 : Nat) (ta2 : Nat) (ta3 : Nat) (ta4 : Nat) (ta5 : Nat) (ta6 : Nat) (ta7 : Nat) (ta8 : Nat) (ta9 : Nat)  (sz : Nat) : Met l yX9_opens (.code yX9_opens cX9_opens 7 (some .int) :: zT) ({ frames := 2, cells := 0, slots := 0, locals := 44 }) (va_Pc [.ref h0, .int p1, .int p2, .int p3, .int p4] (zB dC dI [(h0, .inr (9, [.ref tp, .int 0, .int 0, .int (-1), .ref nw, .ref im, .ref sl, .ref rd, .ref wk, .ref fm, .ref mt, .ref ch, .ref dy])), (nw, .inr (3, [.int 0, .ref tn, .int 0, .int 0, .int 0, .int 0])), (tn, .inr (7, [.int 0, .int 0, .int 0, .int 0, .int 0, .int 0, .int 0, .int 0, .ref ta0, .ref ta1, .ref ta2, .ref ta3, .ref ta4, .ref ta5, .ref ta6, .ref ta7, .ref ta8, .ref ta9]))] [] sz)) (va_Qi (fun (r : Int32) (_ : Unit) => r = (-2)) (fun _ _ => True) (va_A [(h0, .inr (9, [.ref tp, .int 0, .int 0, .int (-1), .ref nw, .ref im, .ref sl, .ref rd, .ref wk, .ref fm, .ref mt, .ref ch, .ref dy])), (nw, .inr (3, [.int 0, .ref tn, .int 0, .int 0, .int 0, .int 0])), (tn, .inr (7, [.int 0, .int 0, .int 0, .int 0, .int 0, .int 0, .int 0, .int 0, .ref ta0, .ref ta1, .ref ta2, .ref ta3, .ref ta4, .ref ta5, .ref ta6, .ref ta7, .ref ta8, .ref ta9]))] sz)) 0 0 (va_A [(h0, .inr (9, [.ref tp, .int 0, .int 0, .int (-1), .ref nw, .ref im, .ref sl, .ref rd, .ref wk, .ref fm, .ref mt, .ref ch, .ref dy])), (nw, .inr (3, [.int 0, .ref tn, .int 0, .int 0, .int 0, .int 0])), (tn, .inr (7, [.int 0, .int 0, .int 0, .int 0, .int 0, .int 0, .int 0, .int 0, .ref ta0, .ref ta1, .ref ta2, .ref ta3, .ref ta4, .ref ta5, .ref ta6, .ref ta7, .ref ta8, .ref ta9]))] sz) := by
  refine Met.ofW (cc := cX9_opens) (maxL := 7) (ret := (some .int)) (by decide) rfl ?_
  intro p e s m args below meth c s₁ B hml hv
  obtain ⟨rfl, hsz, hP, hK, hD0⟩ := hv
  have hx := B.exec
  have hb := B.bytes
  have hr := B.returns
  have hts := z_hts (atoms_spec (ws := .code yX9_opens cX9_opens 7 (some .int) :: zT) B.pre)
  have hown : s.vm.findClass RX9 = some m.cls := findClass_of_methodNamed B.named
  have hlocks := B.notSynchronized
  subst hsz
  have hD := hD0.self (sz := s.heap.size)
  generalize hAe : va_A [(h0, .inr (9, [.ref tp, .int 0, .int 0, .int (-1), .ref nw, .ref im, .ref sl, .ref rd, .ref wk, .ref fm, .ref mt, .ref ch, .ref dy])), (nw, .inr (3, [.int 0, .ref tn, .int 0, .int 0, .int 0, .int 0])), (tn, .inr (7, [.int 0, .int 0, .int 0, .int 0, .int 0, .int 0, .int 0, .int 0, .ref ta0, .ref ta1, .ref ta2, .ref ta3, .ref ta4, .ref ta5, .ref ta6, .ref ta7, .ref ta8, .ref ta9]))] s.heap.size = A at hD ⊢
  have hA : ∀ q : Nat, s.heap.size ≤ q → A q := fun q h => by rw [← hAe]; exact Or.inr h
  have hS : va_S A s.heap s.heap [] := va_S.rf
  have hP : va_P (dC, dI) vwCl [(h0, .inr (9, [.ref tp, .int 0, .int 0, .int (-1), .ref nw, .ref im, .ref sl, .ref rd, .ref wk, .ref fm, .ref mt, .ref ch, .ref dy])), (nw, .inr (3, [.int 0, .ref tn, .int 0, .int 0, .int 0, .int 0])), (tn, .inr (7, [.int 0, .int 0, .int 0, .int 0, .int 0, .int 0, .int 0, .int 0, .ref ta0, .ref ta1, .ref ta2, .ref ta3, .ref ta4, .ref ta5, .ref ta6, .ref ta7, .ref ta8, .ref ta9]))] s.heap := hP
  have hl := lv_entry ([.ref h0, .int p1, .int p2, .int p3, .int p4]) (n := 7) (Nat.le_of_ble_eq_true rfl)
  rw [lg_entry_eq]
  generalize (lg_sl ([.ref h0, .int p1, .int p2, .int p3, .int p4]) ++ List.replicate (7 - (lg_sl ([.ref h0, .int p1, .int p2, .int p3, .int p4])).length) Slot.unset).toArray = ls at hl ⊢
  have hl : lv_has ls 7 [(0, .ref h0), (1, .int p1), (2, .int p2), (3, .int p3), (4, .int p4)] := hl
  refine lv_aload_n hx hb dX9_opens_0 rfl (lv_at hl 0 rfl) ?_
  refine va_get (D := (dC, dI)) (ci := 9) (v := .ref nw) (C := RX9) (T := TX9) (N := 13) hx hb hts zl_X9 hown hK hP 0 rfl rfl 4 (by decide) (hts _ zw_t2_193) (fun _ h9 => h9) rfl dX9_opens_1 ?_
  refine va_get (D := (dC, dI)) (ci := 3) (v := .ref tn) (C := RX3) (T := TX3) (N := 6) hx hb hts zl_X3 hown hK hP 1 rfl rfl 1 (by decide) (hts _ zw_t1_156) (fun _ h9 => h9) rfl dX9_opens_4 ?_
  refine lv_astore (lv' := [(5, .ref tn), (0, .ref h0), (1, .int p1), (2, .int p2), (3, .int p3), (4, .int p4)]) hx hb dX9_opens_7 hl (by decide) rfl (fun ls hl => ?_)
  refine lv_aload hx hb dX9_opens_9 (lv_at hl 0 rfl) ?_
  refine lv_iload_n hx hb dX9_opens_11 rfl (lv_at hl 2 rfl) ?_
  refine lv_iload_n hx hb dX9_opens_12 rfl (lv_at hl 3 rfl) ?_
  refine lv_iload_n hx hb dX9_opens_13 rfl (lv_at hl 4 rfl) ?_
  have hPc := hP.sub (ws' := [(tn, .inr (7, [.int 0, .int 0, .int 0, .int 0, .int 0, .int 0, .int 0, .int 0, .ref ta0, .ref ta1, .ref ta2, .ref ta3, .ref ta4, .ref ta5, .ref ta6, .ref ta7, .ref ta8, .ref ta9]))]) [2] rfl
  have hDc := hD.sub (ws' := [(tn, .inr (7, [.int 0, .int 0, .int 0, .int 0, .int 0, .int 0, .int 0, .int 0, .ref ta0, .ref ta1, .ref ta2, .ref ta3, .ref ta4, .ref ta5, .ref ta6, .ref ta7, .ref ta8, .ref ta9]))]) [2] (by decide) rfl
  have hKc := hK.sub (tys' := []) [] rfl
  have hFc := va_free (wc := [(tn, .inr (7, [.int 0, .int 0, .int 0, .int 0, .int 0, .int 0, .int 0, .int 0, .ref ta0, .ref ta1, .ref ta2, .ref ta3, .ref ta4, .ref ta5, .ref ta6, .ref ta7, .ref ta8, .ref ta9]))]) hD hS hA [2] rfl
  refine va_calli (va_runV (As := [.int p1, .int p2, .int p3]) (rest := []) ⟨hx, hb, hml, hown, hts⟩ (k_X7_hasPassage l dC dI tn p1 p2 p3 ta0 ta1 ta2 ta3 ta4 ta5 ta6 ta7 ta8 ta9 s.heap.size) (cwV 3 hts (z_gV zw_t4_5 zw_t4_6 zw_t4_7 zw_t1_3 zw_t4_8) rfl rfl rfl (by decide +kernel) ⟨(Nat.le_of_ble_eq_true rfl), (Nat.le_of_ble_eq_true rfl)⟩) (z_preV hPc hKc hDc (ci := 7) (q0 := 0) rfl rfl) rfl rfl hl.1 rfl (lv_room (Nat.le_of_ble_eq_true rfl)) dX9_opens_14 ⟨(Nat.le_of_ble_eq_true rfl), (Nat.le_of_ble_eq_true rfl)⟩) hS (fun q _ h => hFc q h) hFc (fun r_1 u t H1 locs ht hvm hw hB hz1 hk1 hS => ?_)
  obtain ⟨hP, hD, hK⟩ := z_after [(h0, .inr (9, [.ref tp, .int 0, .int 0, .int (-1), .ref nw, .ref im, .ref sl, .ref rd, .ref wk, .ref fm, .ref mt, .ref ch, .ref dy])), (nw, .inr (3, [.int 0, .ref tn, .int 0, .int 0, .int 0, .int 0]))] hB ht hvm hP hD hK [2] [0, 1] rfl rfl (by decide) (by decide) hk1 hFc
  generalize H1 = H at hP hS ⊢
  have hP : va_P (dC, dI) vwCl [(h0, .inr (9, [.ref tp, .int 0, .int 0, .int (-1), .ref nw, .ref im, .ref sl, .ref rd, .ref wk, .ref fm, .ref mt, .ref ch, .ref dy])), (nw, .inr (3, [.int 0, .ref tn, .int 0, .int 0, .int 0, .int 0])), (tn, .inr (7, [.int 0, .int 0, .int 0, .int 0, .int 0, .int 0, .int 0, .int 0, .ref ta0, .ref ta1, .ref ta2, .ref ta3, .ref ta4, .ref ta5, .ref ta6, .ref ta7, .ref ta8, .ref ta9]))] H := hP
  have hD : va_D A [(h0, .inr (9, [.ref tp, .int 0, .int 0, .int (-1), .ref nw, .ref im, .ref sl, .ref rd, .ref wk, .ref fm, .ref mt, .ref ch, .ref dy])), (nw, .inr (3, [.int 0, .ref tn, .int 0, .int 0, .int 0, .int 0])), (tn, .inr (7, [.int 0, .int 0, .int 0, .int 0, .int 0, .int 0, .int 0, .int 0, .ref ta0, .ref ta1, .ref ta2, .ref ta3, .ref ta4, .ref ta5, .ref ta6, .ref ta7, .ref ta8, .ref ta9]))] := hD
  have hK : va_K (dC, dI) vwCl [] s := hK
  obtain rfl : r_1 = 0 := hw
  refine lv_if_eq (tgt := 30) hx hb dX9_opens_17 (by decide) (fun _ => ?_) (fun q => absurd q (by decide))
  refine lv_bipush (v := (-2)) hx hb dX9_opens_30 (by decide) ?_
  exact W.iret (v := (-2)) hx hb hr (fun t ht hW => ⟨⟨(-2), (), rfl, rfl, trivial⟩, hS.F ht⟩) hS.2.2 dX9_opens_32
set_option maxHeartbeats 4000000 in
set_option maxRecDepth 100000 in
theorem k_X9_keys (l : Launch) (dC : Nat → ClassId) (dI : Nat → Nat → Nat) (h0 : Nat) (p1 : Int32) (p2 : Int32) (p3 : Int32) (tp : Nat) (nw : Nat) (im : Nat) (sl : Nat) (rd : Nat) (wk : Nat) (fm : Nat) (mt : Nat) (ch : Nat) (dy : Nat) (tn : Nat) (ta0 : Nat) (ta1 : Nat) (ta2 : Nat) (ta3 : Nat) (ta4 : Nat) (ta5 : Nat) (ta6 : Nat) (ta7 : Nat) (ta8 : Nat) (ta9 : Nat)  (sz : Nat) : Met l yX9_keys (.code yX9_keys cX9_keys 6 (some .int) :: zT) ({ frames := 2, cells := 0, slots := 0, locals := 44 }) (va_Pc [.ref h0, .int p1, .int p2, .int p3] (zB dC dI [(h0, .inr (9, [.ref tp, .int 0, .int 0, .int (-1), .ref nw, .ref im, .ref sl, .ref rd, .ref wk, .ref fm, .ref mt, .ref ch, .ref dy])), (nw, .inr (3, [.int 0, .ref tn, .int 0, .int 0, .int 0, .int 0])), (tn, .inr (7, [.int 0, .int 0, .int 0, .int 0, .int 0, .int 0, .int 0, .int 0, .ref ta0, .ref ta1, .ref ta2, .ref ta3, .ref ta4, .ref ta5, .ref ta6, .ref ta7, .ref ta8, .ref ta9]))] [] sz)) (va_Qi (fun (r : Int32) (_ : Unit) => r = (-2)) (fun _ _ => True) (va_A [(h0, .inr (9, [.ref tp, .int 0, .int 0, .int (-1), .ref nw, .ref im, .ref sl, .ref rd, .ref wk, .ref fm, .ref mt, .ref ch, .ref dy])), (nw, .inr (3, [.int 0, .ref tn, .int 0, .int 0, .int 0, .int 0])), (tn, .inr (7, [.int 0, .int 0, .int 0, .int 0, .int 0, .int 0, .int 0, .int 0, .ref ta0, .ref ta1, .ref ta2, .ref ta3, .ref ta4, .ref ta5, .ref ta6, .ref ta7, .ref ta8, .ref ta9]))] sz)) 0 0 (va_A [(h0, .inr (9, [.ref tp, .int 0, .int 0, .int (-1), .ref nw, .ref im, .ref sl, .ref rd, .ref wk, .ref fm, .ref mt, .ref ch, .ref dy])), (nw, .inr (3, [.int 0, .ref tn, .int 0, .int 0, .int 0, .int 0])), (tn, .inr (7, [.int 0, .int 0, .int 0, .int 0, .int 0, .int 0, .int 0, .int 0, .ref ta0, .ref ta1, .ref ta2, .ref ta3, .ref ta4, .ref ta5, .ref ta6, .ref ta7, .ref ta8, .ref ta9]))] sz) := by
  refine Met.ofW (cc := cX9_keys) (maxL := 6) (ret := (some .int)) (by decide) rfl ?_
  intro p e s m args below meth c s₁ B hml hv
  obtain ⟨rfl, hsz, hP, hK, hD0⟩ := hv
  have hx := B.exec
  have hb := B.bytes
  have hr := B.returns
  have hts := z_hts (atoms_spec (ws := .code yX9_keys cX9_keys 6 (some .int) :: zT) B.pre)
  have hown : s.vm.findClass RX9 = some m.cls := findClass_of_methodNamed B.named
  have hlocks := B.notSynchronized
  subst hsz
  have hD := hD0.self (sz := s.heap.size)
  generalize hAe : va_A [(h0, .inr (9, [.ref tp, .int 0, .int 0, .int (-1), .ref nw, .ref im, .ref sl, .ref rd, .ref wk, .ref fm, .ref mt, .ref ch, .ref dy])), (nw, .inr (3, [.int 0, .ref tn, .int 0, .int 0, .int 0, .int 0])), (tn, .inr (7, [.int 0, .int 0, .int 0, .int 0, .int 0, .int 0, .int 0, .int 0, .ref ta0, .ref ta1, .ref ta2, .ref ta3, .ref ta4, .ref ta5, .ref ta6, .ref ta7, .ref ta8, .ref ta9]))] s.heap.size = A at hD ⊢
  have hA : ∀ q : Nat, s.heap.size ≤ q → A q := fun q h => by rw [← hAe]; exact Or.inr h
  have hS : va_S A s.heap s.heap [] := va_S.rf
  have hP : va_P (dC, dI) vwCl [(h0, .inr (9, [.ref tp, .int 0, .int 0, .int (-1), .ref nw, .ref im, .ref sl, .ref rd, .ref wk, .ref fm, .ref mt, .ref ch, .ref dy])), (nw, .inr (3, [.int 0, .ref tn, .int 0, .int 0, .int 0, .int 0])), (tn, .inr (7, [.int 0, .int 0, .int 0, .int 0, .int 0, .int 0, .int 0, .int 0, .ref ta0, .ref ta1, .ref ta2, .ref ta3, .ref ta4, .ref ta5, .ref ta6, .ref ta7, .ref ta8, .ref ta9]))] s.heap := hP
  have hl := lv_entry ([.ref h0, .int p1, .int p2, .int p3]) (n := 6) (Nat.le_of_ble_eq_true rfl)
  rw [lg_entry_eq]
  generalize (lg_sl ([.ref h0, .int p1, .int p2, .int p3]) ++ List.replicate (6 - (lg_sl ([.ref h0, .int p1, .int p2, .int p3])).length) Slot.unset).toArray = ls at hl ⊢
  have hl : lv_has ls 6 [(0, .ref h0), (1, .int p1), (2, .int p2), (3, .int p3)] := hl
  refine lv_aload_n hx hb dX9_keys_0 rfl (lv_at hl 0 rfl) ?_
  refine va_get (D := (dC, dI)) (ci := 9) (v := .ref nw) (C := RX9) (T := TX9) (N := 13) hx hb hts zl_X9 hown hK hP 0 rfl rfl 4 (by decide) (hts _ zw_t2_193) (fun _ h9 => h9) rfl dX9_keys_1 ?_
  refine va_get (D := (dC, dI)) (ci := 3) (v := .ref tn) (C := RX3) (T := TX3) (N := 6) hx hb hts zl_X3 hown hK hP 1 rfl rfl 1 (by decide) (hts _ zw_t1_156) (fun _ h9 => h9) rfl dX9_keys_4 ?_
  refine lv_astore (lv' := [(4, .ref tn), (0, .ref h0), (1, .int p1), (2, .int p2), (3, .int p3)]) hx hb dX9_keys_7 hl (by decide) rfl (fun ls hl => ?_)
  refine lv_aload hx hb dX9_keys_9 (lv_at hl 0 rfl) ?_
  refine lv_iload_n hx hb dX9_keys_11 rfl (lv_at hl 2 rfl) ?_
  refine lv_iload_n hx hb dX9_keys_12 rfl (lv_at hl 3 rfl) ?_
  refine lv_iload_n hx hb dX9_keys_13 rfl (lv_at hl 4 rfl) ?_
  have hPc := hP.sub (ws' := [(tn, .inr (7, [.int 0, .int 0, .int 0, .int 0, .int 0, .int 0, .int 0, .int 0, .ref ta0, .ref ta1, .ref ta2, .ref ta3, .ref ta4, .ref ta5, .ref ta6, .ref ta7, .ref ta8, .ref ta9]))]) [2] rfl
  have hDc := hD.sub (ws' := [(tn, .inr (7, [.int 0, .int 0, .int 0, .int 0, .int 0, .int 0, .int 0, .int 0, .ref ta0, .ref ta1, .ref ta2, .ref ta3, .ref ta4, .ref ta5, .ref ta6, .ref ta7, .ref ta8, .ref ta9]))]) [2] (by decide) rfl
  have hKc := hK.sub (tys' := []) [] rfl
  have hFc := va_free (wc := [(tn, .inr (7, [.int 0, .int 0, .int 0, .int 0, .int 0, .int 0, .int 0, .int 0, .ref ta0, .ref ta1, .ref ta2, .ref ta3, .ref ta4, .ref ta5, .ref ta6, .ref ta7, .ref ta8, .ref ta9]))]) hD hS hA [2] rfl
  refine va_calli (va_runV (As := [.int p1, .int p2, .int p3]) (rest := []) ⟨hx, hb, hml, hown, hts⟩ (k_X7_hasPassage l dC dI tn p1 p2 p3 ta0 ta1 ta2 ta3 ta4 ta5 ta6 ta7 ta8 ta9 s.heap.size) (cwV 3 hts (z_gV zw_t4_5 zw_t4_6 zw_t4_7 zw_t1_3 zw_t4_8) rfl rfl rfl (by decide +kernel) ⟨(Nat.le_of_ble_eq_true rfl), (Nat.le_of_ble_eq_true rfl)⟩) (z_preV hPc hKc hDc (ci := 7) (q0 := 0) rfl rfl) rfl rfl hl.1 rfl (lv_room (Nat.le_of_ble_eq_true rfl)) dX9_keys_14 ⟨(Nat.le_of_ble_eq_true rfl), (Nat.le_of_ble_eq_true rfl)⟩) hS (fun q _ h => hFc q h) hFc (fun r_1 u t H1 locs ht hvm hw hB hz1 hk1 hS => ?_)
  obtain ⟨hP, hD, hK⟩ := z_after [(h0, .inr (9, [.ref tp, .int 0, .int 0, .int (-1), .ref nw, .ref im, .ref sl, .ref rd, .ref wk, .ref fm, .ref mt, .ref ch, .ref dy])), (nw, .inr (3, [.int 0, .ref tn, .int 0, .int 0, .int 0, .int 0]))] hB ht hvm hP hD hK [2] [0, 1] rfl rfl (by decide) (by decide) hk1 hFc
  generalize H1 = H at hP hS ⊢
  have hP : va_P (dC, dI) vwCl [(h0, .inr (9, [.ref tp, .int 0, .int 0, .int (-1), .ref nw, .ref im, .ref sl, .ref rd, .ref wk, .ref fm, .ref mt, .ref ch, .ref dy])), (nw, .inr (3, [.int 0, .ref tn, .int 0, .int 0, .int 0, .int 0])), (tn, .inr (7, [.int 0, .int 0, .int 0, .int 0, .int 0, .int 0, .int 0, .int 0, .ref ta0, .ref ta1, .ref ta2, .ref ta3, .ref ta4, .ref ta5, .ref ta6, .ref ta7, .ref ta8, .ref ta9]))] H := hP
  have hD : va_D A [(h0, .inr (9, [.ref tp, .int 0, .int 0, .int (-1), .ref nw, .ref im, .ref sl, .ref rd, .ref wk, .ref fm, .ref mt, .ref ch, .ref dy])), (nw, .inr (3, [.int 0, .ref tn, .int 0, .int 0, .int 0, .int 0])), (tn, .inr (7, [.int 0, .int 0, .int 0, .int 0, .int 0, .int 0, .int 0, .int 0, .ref ta0, .ref ta1, .ref ta2, .ref ta3, .ref ta4, .ref ta5, .ref ta6, .ref ta7, .ref ta8, .ref ta9]))] := hD
  have hK : va_K (dC, dI) vwCl [] s := hK
  obtain rfl : r_1 = 0 := hw
  refine lv_if_ne (tgt := 23) hx hb dX9_keys_17 (by decide) (fun q => absurd q (by decide)) (fun _ => ?_)
  refine lv_bipush (v := (-2)) hx hb dX9_keys_20 (by decide) ?_
  exact W.iret (v := (-2)) hx hb hr (fun t ht hW => ⟨⟨(-2), (), rfl, rfl, trivial⟩, hS.F ht⟩) hS.2.2 dX9_keys_22
set_option maxHeartbeats 4000000 in
set_option maxRecDepth 100000 in
theorem k_X7_hasTrip (l : Launch) (dC : Nat → ClassId) (dI : Nat → Nat → Nat) (tn : Nat) (p1 : Int32) (p2 : Int32) (p3 : Int32) (ta0 : Nat) (ta1 : Nat) (ta2 : Nat) (ta3 : Nat) (ta4 : Nat) (ta5 : Nat) (ta6 : Nat) (ta7 : Nat) (ta8 : Nat) (ta9 : Nat)  (sz : Nat) : Met l yX7_hasTrip (.code yX7_hasTrip cX7_hasTrip 4 (some .boolean) :: zT) ({ frames := 1, cells := 0, slots := 0, locals := 21 }) (va_Pc [.ref tn, .int p1, .int p2, .int p3] (zB dC dI [(tn, .inr (7, [.int 0, .int 0, .int 0, .int 0, .int 0, .int 0, .int 0, .int 0, .ref ta0, .ref ta1, .ref ta2, .ref ta3, .ref ta4, .ref ta5, .ref ta6, .ref ta7, .ref ta8, .ref ta9]))] [] sz)) (va_Qi (fun (r : Int32) (_ : Unit) => r = 0) (fun _ t => zW dC dI [(tn, .inr (7, [.int 0, .int 0, .int 0, .int 0, .int 0, .int 0, .int 0, .int 0, .ref ta0, .ref ta1, .ref ta2, .ref ta3, .ref ta4, .ref ta5, .ref ta6, .ref ta7, .ref ta8, .ref ta9]))] [] (va_A [(tn, .inr (7, [.int 0, .int 0, .int 0, .int 0, .int 0, .int 0, .int 0, .int 0, .ref ta0, .ref ta1, .ref ta2, .ref ta3, .ref ta4, .ref ta5, .ref ta6, .ref ta7, .ref ta8, .ref ta9]))] sz) t) (va_A [(tn, .inr (7, [.int 0, .int 0, .int 0, .int 0, .int 0, .int 0, .int 0, .int 0, .ref ta0, .ref ta1, .ref ta2, .ref ta3, .ref ta4, .ref ta5, .ref ta6, .ref ta7, .ref ta8, .ref ta9]))] sz)) 0 0 (va_A [(tn, .inr (7, [.int 0, .int 0, .int 0, .int 0, .int 0, .int 0, .int 0, .int 0, .ref ta0, .ref ta1, .ref ta2, .ref ta3, .ref ta4, .ref ta5, .ref ta6, .ref ta7, .ref ta8, .ref ta9]))] sz) := by
  refine Met.ofW (cc := cX7_hasTrip) (maxL := 4) (ret := (some .boolean)) (by decide) rfl ?_
  intro p e s m args below meth c s₁ B hml hv
  obtain ⟨rfl, hsz, hP, hK, hD0⟩ := hv
  have hx := B.exec
  have hb := B.bytes
  have hr := B.returns
  have hts := z_hts (atoms_spec (ws := .code yX7_hasTrip cX7_hasTrip 4 (some .boolean) :: zT) B.pre)
  have hown : s.vm.findClass RX7 = some m.cls := findClass_of_methodNamed B.named
  have hlocks := B.notSynchronized
  subst hsz
  have hD := hD0.self (sz := s.heap.size)
  generalize hAe : va_A [(tn, .inr (7, [.int 0, .int 0, .int 0, .int 0, .int 0, .int 0, .int 0, .int 0, .ref ta0, .ref ta1, .ref ta2, .ref ta3, .ref ta4, .ref ta5, .ref ta6, .ref ta7, .ref ta8, .ref ta9]))] s.heap.size = A at hD ⊢
  have hA : ∀ q : Nat, s.heap.size ≤ q → A q := fun q h => by rw [← hAe]; exact Or.inr h
  have hS : va_S A s.heap s.heap [] := va_S.rf
  have hP : va_P (dC, dI) vwCl [(tn, .inr (7, [.int 0, .int 0, .int 0, .int 0, .int 0, .int 0, .int 0, .int 0, .ref ta0, .ref ta1, .ref ta2, .ref ta3, .ref ta4, .ref ta5, .ref ta6, .ref ta7, .ref ta8, .ref ta9]))] s.heap := hP
  have hl := lv_entry ([.ref tn, .int p1, .int p2, .int p3]) (n := 4) (Nat.le_of_ble_eq_true rfl)
  rw [lg_entry_eq]
  generalize (lg_sl ([.ref tn, .int p1, .int p2, .int p3]) ++ List.replicate (4 - (lg_sl ([.ref tn, .int p1, .int p2, .int p3])).length) Slot.unset).toArray = ls at hl ⊢
  have hl : lv_has ls 4 [(0, .ref tn), (1, .int p1), (2, .int p2), (3, .int p3)] := hl
  refine lv_aload_n hx hb dX7_hasTrip_0 rfl (lv_at hl 0 rfl) ?_
  refine lv_iload_n hx hb dX7_hasTrip_1 rfl (lv_at hl 1 rfl) ?_
  have hPc := hP.sub (ws' := [(tn, .inr (7, [.int 0, .int 0, .int 0, .int 0, .int 0, .int 0, .int 0, .int 0, .ref ta0, .ref ta1, .ref ta2, .ref ta3, .ref ta4, .ref ta5, .ref ta6, .ref ta7, .ref ta8, .ref ta9]))]) [0] rfl
  have hDc := hD.sub (ws' := [(tn, .inr (7, [.int 0, .int 0, .int 0, .int 0, .int 0, .int 0, .int 0, .int 0, .ref ta0, .ref ta1, .ref ta2, .ref ta3, .ref ta4, .ref ta5, .ref ta6, .ref ta7, .ref ta8, .ref ta9]))]) [0] (by decide) rfl
  have hKc := hK.sub (tys' := []) [] rfl
  have hFc := va_free (wc := [(tn, .inr (7, [.int 0, .int 0, .int 0, .int 0, .int 0, .int 0, .int 0, .int 0, .ref ta0, .ref ta1, .ref ta2, .ref ta3, .ref ta4, .ref ta5, .ref ta6, .ref ta7, .ref ta8, .ref ta9]))]) hD hS hA [0] rfl
  refine va_calli (va_runV (As := [.int p1]) (rest := []) ⟨hx, hb, hml, hown, hts⟩ (k_X7_hasCourt l dC dI tn p1 ta0 ta1 ta2 ta3 ta4 ta5 ta6 ta7 ta8 ta9 s.heap.size) (cwV 1 hts (z_gV zw_t4_10 zw_t3_198 zw_t3_199 zw_t1_3 zw_t3_200) rfl rfl rfl (by decide +kernel) ⟨(Nat.le_of_ble_eq_true rfl), (Nat.le_of_ble_eq_true rfl)⟩) (z_preV hPc hKc hDc (ci := 7) (q0 := 0) rfl rfl) rfl rfl hl.1 rfl (lv_room (Nat.le_of_ble_eq_true rfl)) dX7_hasTrip_2 ⟨(Nat.le_of_ble_eq_true rfl), (Nat.le_of_ble_eq_true rfl)⟩) hS (fun q _ h => hFc q h) hFc (fun r_1 u t H1 locs ht hvm hw hB hz1 hk1 hS => ?_)
  obtain ⟨hP, hD, hK⟩ := z_after [] hB ht hvm hP hD hK [0] [] rfl rfl (by decide) (by decide) hk1 hFc
  generalize H1 = H at hP hS ⊢
  have hP : va_P (dC, dI) vwCl [(tn, .inr (7, [.int 0, .int 0, .int 0, .int 0, .int 0, .int 0, .int 0, .int 0, .ref ta0, .ref ta1, .ref ta2, .ref ta3, .ref ta4, .ref ta5, .ref ta6, .ref ta7, .ref ta8, .ref ta9]))] H := hP
  have hD : va_D A [(tn, .inr (7, [.int 0, .int 0, .int 0, .int 0, .int 0, .int 0, .int 0, .int 0, .ref ta0, .ref ta1, .ref ta2, .ref ta3, .ref ta4, .ref ta5, .ref ta6, .ref ta7, .ref ta8, .ref ta9]))] := hD
  have hK : va_K (dC, dI) vwCl [] s := hK
  obtain rfl : r_1 = 0 := hw
  refine lv_if_eq (tgt := 28) hx hb dX7_hasTrip_5 (by decide) (fun _ => ?_) (fun q => absurd q (by decide))
  refine lv_iconst (v := 0) hx hb dX7_hasTrip_28 (by decide) ?_
  exact W.zret (v := 0) hx hb hr (by decide) (fun t ht hW => ⟨⟨0, (), rfl, rfl, z_ret hP hK hD ht hW [0] [] rfl (by decide) rfl⟩, hS.F ht⟩) hS.2.2 dX7_hasTrip_29
set_option maxHeartbeats 4000000 in
set_option maxRecDepth 100000 in
theorem k_X9_soonest (l : Launch) (dC : Nat → ClassId) (dI : Nat → Nat → Nat) (h0 : Nat) (p1 : Int32) (p2 : Int32) (p3 : Int32) (tp : Nat) (nw : Nat) (im : Nat) (sl : Nat) (rd : Nat) (wk : Nat) (fm : Nat) (mt : Nat) (ch : Nat) (dy : Nat) (tn : Nat) (ta0 : Nat) (ta1 : Nat) (ta2 : Nat) (ta3 : Nat) (ta4 : Nat) (ta5 : Nat) (ta6 : Nat) (ta7 : Nat) (ta8 : Nat) (ta9 : Nat)  (sz : Nat) : Met l yX9_soonest (.code yX9_soonest cX9_soonest 4 (some .int) :: zT) ({ frames := 2, cells := 0, slots := 0, locals := 44 }) (va_Pc [.ref h0, .int p1, .int p2, .int p3] (zB dC dI [(h0, .inr (9, [.ref tp, .int 0, .int 0, .int (-1), .ref nw, .ref im, .ref sl, .ref rd, .ref wk, .ref fm, .ref mt, .ref ch, .ref dy])), (nw, .inr (3, [.int 0, .ref tn, .int 0, .int 0, .int 0, .int 0])), (tn, .inr (7, [.int 0, .int 0, .int 0, .int 0, .int 0, .int 0, .int 0, .int 0, .ref ta0, .ref ta1, .ref ta2, .ref ta3, .ref ta4, .ref ta5, .ref ta6, .ref ta7, .ref ta8, .ref ta9]))] [] sz)) (va_Qi (fun (r : Int32) (_ : Unit) => r = (-2)) (fun _ _ => True) (va_A [(h0, .inr (9, [.ref tp, .int 0, .int 0, .int (-1), .ref nw, .ref im, .ref sl, .ref rd, .ref wk, .ref fm, .ref mt, .ref ch, .ref dy])), (nw, .inr (3, [.int 0, .ref tn, .int 0, .int 0, .int 0, .int 0])), (tn, .inr (7, [.int 0, .int 0, .int 0, .int 0, .int 0, .int 0, .int 0, .int 0, .ref ta0, .ref ta1, .ref ta2, .ref ta3, .ref ta4, .ref ta5, .ref ta6, .ref ta7, .ref ta8, .ref ta9]))] sz)) 0 0 (va_A [(h0, .inr (9, [.ref tp, .int 0, .int 0, .int (-1), .ref nw, .ref im, .ref sl, .ref rd, .ref wk, .ref fm, .ref mt, .ref ch, .ref dy])), (nw, .inr (3, [.int 0, .ref tn, .int 0, .int 0, .int 0, .int 0])), (tn, .inr (7, [.int 0, .int 0, .int 0, .int 0, .int 0, .int 0, .int 0, .int 0, .ref ta0, .ref ta1, .ref ta2, .ref ta3, .ref ta4, .ref ta5, .ref ta6, .ref ta7, .ref ta8, .ref ta9]))] sz) := by
  refine Met.ofW (cc := cX9_soonest) (maxL := 4) (ret := (some .int)) (by decide) rfl ?_
  intro p e s m args below meth c s₁ B hml hv
  obtain ⟨rfl, hsz, hP, hK, hD0⟩ := hv
  have hx := B.exec
  have hb := B.bytes
  have hr := B.returns
  have hts := z_hts (atoms_spec (ws := .code yX9_soonest cX9_soonest 4 (some .int) :: zT) B.pre)
  have hown : s.vm.findClass RX9 = some m.cls := findClass_of_methodNamed B.named
  have hlocks := B.notSynchronized
  subst hsz
  have hD := hD0.self (sz := s.heap.size)
  generalize hAe : va_A [(h0, .inr (9, [.ref tp, .int 0, .int 0, .int (-1), .ref nw, .ref im, .ref sl, .ref rd, .ref wk, .ref fm, .ref mt, .ref ch, .ref dy])), (nw, .inr (3, [.int 0, .ref tn, .int 0, .int 0, .int 0, .int 0])), (tn, .inr (7, [.int 0, .int 0, .int 0, .int 0, .int 0, .int 0, .int 0, .int 0, .ref ta0, .ref ta1, .ref ta2, .ref ta3, .ref ta4, .ref ta5, .ref ta6, .ref ta7, .ref ta8, .ref ta9]))] s.heap.size = A at hD ⊢
  have hA : ∀ q : Nat, s.heap.size ≤ q → A q := fun q h => by rw [← hAe]; exact Or.inr h
  have hS : va_S A s.heap s.heap [] := va_S.rf
  have hP : va_P (dC, dI) vwCl [(h0, .inr (9, [.ref tp, .int 0, .int 0, .int (-1), .ref nw, .ref im, .ref sl, .ref rd, .ref wk, .ref fm, .ref mt, .ref ch, .ref dy])), (nw, .inr (3, [.int 0, .ref tn, .int 0, .int 0, .int 0, .int 0])), (tn, .inr (7, [.int 0, .int 0, .int 0, .int 0, .int 0, .int 0, .int 0, .int 0, .ref ta0, .ref ta1, .ref ta2, .ref ta3, .ref ta4, .ref ta5, .ref ta6, .ref ta7, .ref ta8, .ref ta9]))] s.heap := hP
  have hl := lv_entry ([.ref h0, .int p1, .int p2, .int p3]) (n := 4) (Nat.le_of_ble_eq_true rfl)
  rw [lg_entry_eq]
  generalize (lg_sl ([.ref h0, .int p1, .int p2, .int p3]) ++ List.replicate (4 - (lg_sl ([.ref h0, .int p1, .int p2, .int p3])).length) Slot.unset).toArray = ls at hl ⊢
  have hl : lv_has ls 4 [(0, .ref h0), (1, .int p1), (2, .int p2), (3, .int p3)] := hl
  refine lv_aload_n hx hb dX9_soonest_0 rfl (lv_at hl 0 rfl) ?_
  refine va_get (D := (dC, dI)) (ci := 9) (v := .ref nw) (C := RX9) (T := TX9) (N := 13) hx hb hts zl_X9 hown hK hP 0 rfl rfl 4 (by decide) (hts _ zw_t2_193) (fun _ h9 => h9) rfl dX9_soonest_1 ?_
  refine va_get (D := (dC, dI)) (ci := 3) (v := .ref tn) (C := RX3) (T := TX3) (N := 6) hx hb hts zl_X3 hown hK hP 1 rfl rfl 1 (by decide) (hts _ zw_t1_156) (fun _ h9 => h9) rfl dX9_soonest_4 ?_
  refine lv_iload_n hx hb dX9_soonest_7 rfl (lv_at hl 1 rfl) ?_
  refine lv_iload_n hx hb dX9_soonest_8 rfl (lv_at hl 2 rfl) ?_
  refine lv_iload_n hx hb dX9_soonest_9 rfl (lv_at hl 3 rfl) ?_
  have hPc := hP.sub (ws' := [(tn, .inr (7, [.int 0, .int 0, .int 0, .int 0, .int 0, .int 0, .int 0, .int 0, .ref ta0, .ref ta1, .ref ta2, .ref ta3, .ref ta4, .ref ta5, .ref ta6, .ref ta7, .ref ta8, .ref ta9]))]) [2] rfl
  have hDc := hD.sub (ws' := [(tn, .inr (7, [.int 0, .int 0, .int 0, .int 0, .int 0, .int 0, .int 0, .int 0, .ref ta0, .ref ta1, .ref ta2, .ref ta3, .ref ta4, .ref ta5, .ref ta6, .ref ta7, .ref ta8, .ref ta9]))]) [2] (by decide) rfl
  have hKc := hK.sub (tys' := []) [] rfl
  have hFc := va_free (wc := [(tn, .inr (7, [.int 0, .int 0, .int 0, .int 0, .int 0, .int 0, .int 0, .int 0, .ref ta0, .ref ta1, .ref ta2, .ref ta3, .ref ta4, .ref ta5, .ref ta6, .ref ta7, .ref ta8, .ref ta9]))]) hD hS hA [2] rfl
  refine va_calli (va_runV (As := [.int p1, .int p2, .int p3]) (rest := []) ⟨hx, hb, hml, hown, hts⟩ (k_X7_hasTrip l dC dI tn p1 p2 p3 ta0 ta1 ta2 ta3 ta4 ta5 ta6 ta7 ta8 ta9 s.heap.size) (cwV 3 hts (z_gV zw_t4_21 zw_t4_22 zw_t4_23 zw_t1_3 zw_t4_24) rfl rfl rfl (by decide +kernel) ⟨(Nat.le_of_ble_eq_true rfl), (Nat.le_of_ble_eq_true rfl)⟩) (z_preV hPc hKc hDc (ci := 7) (q0 := 0) rfl rfl) rfl rfl hl.1 rfl (lv_room (Nat.le_of_ble_eq_true rfl)) dX9_soonest_10 ⟨(Nat.le_of_ble_eq_true rfl), (Nat.le_of_ble_eq_true rfl)⟩) hS (fun q _ h => hFc q h) hFc (fun r_1 u t H1 locs ht hvm hw hB hz1 hk1 hS => ?_)
  obtain ⟨hP, hD, hK⟩ := z_after [(h0, .inr (9, [.ref tp, .int 0, .int 0, .int (-1), .ref nw, .ref im, .ref sl, .ref rd, .ref wk, .ref fm, .ref mt, .ref ch, .ref dy])), (nw, .inr (3, [.int 0, .ref tn, .int 0, .int 0, .int 0, .int 0]))] hB ht hvm hP hD hK [2] [0, 1] rfl rfl (by decide) (by decide) hk1 hFc
  generalize H1 = H at hP hS ⊢
  have hP : va_P (dC, dI) vwCl [(h0, .inr (9, [.ref tp, .int 0, .int 0, .int (-1), .ref nw, .ref im, .ref sl, .ref rd, .ref wk, .ref fm, .ref mt, .ref ch, .ref dy])), (nw, .inr (3, [.int 0, .ref tn, .int 0, .int 0, .int 0, .int 0])), (tn, .inr (7, [.int 0, .int 0, .int 0, .int 0, .int 0, .int 0, .int 0, .int 0, .ref ta0, .ref ta1, .ref ta2, .ref ta3, .ref ta4, .ref ta5, .ref ta6, .ref ta7, .ref ta8, .ref ta9]))] H := hP
  have hD : va_D A [(h0, .inr (9, [.ref tp, .int 0, .int 0, .int (-1), .ref nw, .ref im, .ref sl, .ref rd, .ref wk, .ref fm, .ref mt, .ref ch, .ref dy])), (nw, .inr (3, [.int 0, .ref tn, .int 0, .int 0, .int 0, .int 0])), (tn, .inr (7, [.int 0, .int 0, .int 0, .int 0, .int 0, .int 0, .int 0, .int 0, .ref ta0, .ref ta1, .ref ta2, .ref ta3, .ref ta4, .ref ta5, .ref ta6, .ref ta7, .ref ta8, .ref ta9]))] := hD
  have hK : va_K (dC, dI) vwCl [] s := hK
  obtain rfl : r_1 = 0 := hw
  refine lv_if_ne (tgt := 19) hx hb dX9_soonest_13 (by decide) (fun q => absurd q (by decide)) (fun _ => ?_)
  refine lv_bipush (v := (-2)) hx hb dX9_soonest_16 (by decide) ?_
  exact W.iret (v := (-2)) hx hb hr (fun t ht hW => ⟨⟨(-2), (), rfl, rfl, trivial⟩, hS.F ht⟩) hS.2.2 dX9_soonest_18
set_option maxHeartbeats 4000000 in
set_option maxRecDepth 100000 in
theorem k_X9_gates (l : Launch) (dC : Nat → ClassId) (dI : Nat → Nat → Nat) (h0 : Nat) (p1 : Int32) (p2 : Int32) (p3 : Int32) (tp : Nat) (nw : Nat) (im : Nat) (sl : Nat) (rd : Nat) (wk : Nat) (fm : Nat) (mt : Nat) (ch : Nat) (dy : Nat) (tn : Nat) (ta0 : Nat) (ta1 : Nat) (ta2 : Nat) (ta3 : Nat) (ta4 : Nat) (ta5 : Nat) (ta6 : Nat) (ta7 : Nat) (ta8 : Nat) (ta9 : Nat)  (sz : Nat) : Met l yX9_gates (.code yX9_gates cX9_gates 4 (some .int) :: zT) ({ frames := 2, cells := 0, slots := 0, locals := 44 }) (va_Pc [.ref h0, .int p1, .int p2, .int p3] (zB dC dI [(h0, .inr (9, [.ref tp, .int 0, .int 0, .int (-1), .ref nw, .ref im, .ref sl, .ref rd, .ref wk, .ref fm, .ref mt, .ref ch, .ref dy])), (nw, .inr (3, [.int 0, .ref tn, .int 0, .int 0, .int 0, .int 0])), (tn, .inr (7, [.int 0, .int 0, .int 0, .int 0, .int 0, .int 0, .int 0, .int 0, .ref ta0, .ref ta1, .ref ta2, .ref ta3, .ref ta4, .ref ta5, .ref ta6, .ref ta7, .ref ta8, .ref ta9]))] [] sz)) (va_Qi (fun (r : Int32) (_ : Unit) => r = (-2)) (fun _ _ => True) (va_A [(h0, .inr (9, [.ref tp, .int 0, .int 0, .int (-1), .ref nw, .ref im, .ref sl, .ref rd, .ref wk, .ref fm, .ref mt, .ref ch, .ref dy])), (nw, .inr (3, [.int 0, .ref tn, .int 0, .int 0, .int 0, .int 0])), (tn, .inr (7, [.int 0, .int 0, .int 0, .int 0, .int 0, .int 0, .int 0, .int 0, .ref ta0, .ref ta1, .ref ta2, .ref ta3, .ref ta4, .ref ta5, .ref ta6, .ref ta7, .ref ta8, .ref ta9]))] sz)) 0 0 (va_A [(h0, .inr (9, [.ref tp, .int 0, .int 0, .int (-1), .ref nw, .ref im, .ref sl, .ref rd, .ref wk, .ref fm, .ref mt, .ref ch, .ref dy])), (nw, .inr (3, [.int 0, .ref tn, .int 0, .int 0, .int 0, .int 0])), (tn, .inr (7, [.int 0, .int 0, .int 0, .int 0, .int 0, .int 0, .int 0, .int 0, .ref ta0, .ref ta1, .ref ta2, .ref ta3, .ref ta4, .ref ta5, .ref ta6, .ref ta7, .ref ta8, .ref ta9]))] sz) := by
  refine Met.ofW (cc := cX9_gates) (maxL := 4) (ret := (some .int)) (by decide) rfl ?_
  intro p e s m args below meth c s₁ B hml hv
  obtain ⟨rfl, hsz, hP, hK, hD0⟩ := hv
  have hx := B.exec
  have hb := B.bytes
  have hr := B.returns
  have hts := z_hts (atoms_spec (ws := .code yX9_gates cX9_gates 4 (some .int) :: zT) B.pre)
  have hown : s.vm.findClass RX9 = some m.cls := findClass_of_methodNamed B.named
  have hlocks := B.notSynchronized
  subst hsz
  have hD := hD0.self (sz := s.heap.size)
  generalize hAe : va_A [(h0, .inr (9, [.ref tp, .int 0, .int 0, .int (-1), .ref nw, .ref im, .ref sl, .ref rd, .ref wk, .ref fm, .ref mt, .ref ch, .ref dy])), (nw, .inr (3, [.int 0, .ref tn, .int 0, .int 0, .int 0, .int 0])), (tn, .inr (7, [.int 0, .int 0, .int 0, .int 0, .int 0, .int 0, .int 0, .int 0, .ref ta0, .ref ta1, .ref ta2, .ref ta3, .ref ta4, .ref ta5, .ref ta6, .ref ta7, .ref ta8, .ref ta9]))] s.heap.size = A at hD ⊢
  have hA : ∀ q : Nat, s.heap.size ≤ q → A q := fun q h => by rw [← hAe]; exact Or.inr h
  have hS : va_S A s.heap s.heap [] := va_S.rf
  have hP : va_P (dC, dI) vwCl [(h0, .inr (9, [.ref tp, .int 0, .int 0, .int (-1), .ref nw, .ref im, .ref sl, .ref rd, .ref wk, .ref fm, .ref mt, .ref ch, .ref dy])), (nw, .inr (3, [.int 0, .ref tn, .int 0, .int 0, .int 0, .int 0])), (tn, .inr (7, [.int 0, .int 0, .int 0, .int 0, .int 0, .int 0, .int 0, .int 0, .ref ta0, .ref ta1, .ref ta2, .ref ta3, .ref ta4, .ref ta5, .ref ta6, .ref ta7, .ref ta8, .ref ta9]))] s.heap := hP
  have hl := lv_entry ([.ref h0, .int p1, .int p2, .int p3]) (n := 4) (Nat.le_of_ble_eq_true rfl)
  rw [lg_entry_eq]
  generalize (lg_sl ([.ref h0, .int p1, .int p2, .int p3]) ++ List.replicate (4 - (lg_sl ([.ref h0, .int p1, .int p2, .int p3])).length) Slot.unset).toArray = ls at hl ⊢
  have hl : lv_has ls 4 [(0, .ref h0), (1, .int p1), (2, .int p2), (3, .int p3)] := hl
  refine lv_aload_n hx hb dX9_gates_0 rfl (lv_at hl 0 rfl) ?_
  refine va_get (D := (dC, dI)) (ci := 9) (v := .ref nw) (C := RX9) (T := TX9) (N := 13) hx hb hts zl_X9 hown hK hP 0 rfl rfl 4 (by decide) (hts _ zw_t2_193) (fun _ h9 => h9) rfl dX9_gates_1 ?_
  refine va_get (D := (dC, dI)) (ci := 3) (v := .ref tn) (C := RX3) (T := TX3) (N := 6) hx hb hts zl_X3 hown hK hP 1 rfl rfl 1 (by decide) (hts _ zw_t1_156) (fun _ h9 => h9) rfl dX9_gates_4 ?_
  refine lv_iload_n hx hb dX9_gates_7 rfl (lv_at hl 1 rfl) ?_
  refine lv_iload_n hx hb dX9_gates_8 rfl (lv_at hl 2 rfl) ?_
  refine lv_iload_n hx hb dX9_gates_9 rfl (lv_at hl 3 rfl) ?_
  have hPc := hP.sub (ws' := [(tn, .inr (7, [.int 0, .int 0, .int 0, .int 0, .int 0, .int 0, .int 0, .int 0, .ref ta0, .ref ta1, .ref ta2, .ref ta3, .ref ta4, .ref ta5, .ref ta6, .ref ta7, .ref ta8, .ref ta9]))]) [2] rfl
  have hDc := hD.sub (ws' := [(tn, .inr (7, [.int 0, .int 0, .int 0, .int 0, .int 0, .int 0, .int 0, .int 0, .ref ta0, .ref ta1, .ref ta2, .ref ta3, .ref ta4, .ref ta5, .ref ta6, .ref ta7, .ref ta8, .ref ta9]))]) [2] (by decide) rfl
  have hKc := hK.sub (tys' := []) [] rfl
  have hFc := va_free (wc := [(tn, .inr (7, [.int 0, .int 0, .int 0, .int 0, .int 0, .int 0, .int 0, .int 0, .ref ta0, .ref ta1, .ref ta2, .ref ta3, .ref ta4, .ref ta5, .ref ta6, .ref ta7, .ref ta8, .ref ta9]))]) hD hS hA [2] rfl
  refine va_calli (va_runV (As := [.int p1, .int p2, .int p3]) (rest := []) ⟨hx, hb, hml, hown, hts⟩ (k_X7_hasTrip l dC dI tn p1 p2 p3 ta0 ta1 ta2 ta3 ta4 ta5 ta6 ta7 ta8 ta9 s.heap.size) (cwV 3 hts (z_gV zw_t4_21 zw_t4_22 zw_t4_23 zw_t1_3 zw_t4_24) rfl rfl rfl (by decide +kernel) ⟨(Nat.le_of_ble_eq_true rfl), (Nat.le_of_ble_eq_true rfl)⟩) (z_preV hPc hKc hDc (ci := 7) (q0 := 0) rfl rfl) rfl rfl hl.1 rfl (lv_room (Nat.le_of_ble_eq_true rfl)) dX9_gates_10 ⟨(Nat.le_of_ble_eq_true rfl), (Nat.le_of_ble_eq_true rfl)⟩) hS (fun q _ h => hFc q h) hFc (fun r_1 u t H1 locs ht hvm hw hB hz1 hk1 hS => ?_)
  obtain ⟨hP, hD, hK⟩ := z_after [(h0, .inr (9, [.ref tp, .int 0, .int 0, .int (-1), .ref nw, .ref im, .ref sl, .ref rd, .ref wk, .ref fm, .ref mt, .ref ch, .ref dy])), (nw, .inr (3, [.int 0, .ref tn, .int 0, .int 0, .int 0, .int 0]))] hB ht hvm hP hD hK [2] [0, 1] rfl rfl (by decide) (by decide) hk1 hFc
  generalize H1 = H at hP hS ⊢
  have hP : va_P (dC, dI) vwCl [(h0, .inr (9, [.ref tp, .int 0, .int 0, .int (-1), .ref nw, .ref im, .ref sl, .ref rd, .ref wk, .ref fm, .ref mt, .ref ch, .ref dy])), (nw, .inr (3, [.int 0, .ref tn, .int 0, .int 0, .int 0, .int 0])), (tn, .inr (7, [.int 0, .int 0, .int 0, .int 0, .int 0, .int 0, .int 0, .int 0, .ref ta0, .ref ta1, .ref ta2, .ref ta3, .ref ta4, .ref ta5, .ref ta6, .ref ta7, .ref ta8, .ref ta9]))] H := hP
  have hD : va_D A [(h0, .inr (9, [.ref tp, .int 0, .int 0, .int (-1), .ref nw, .ref im, .ref sl, .ref rd, .ref wk, .ref fm, .ref mt, .ref ch, .ref dy])), (nw, .inr (3, [.int 0, .ref tn, .int 0, .int 0, .int 0, .int 0])), (tn, .inr (7, [.int 0, .int 0, .int 0, .int 0, .int 0, .int 0, .int 0, .int 0, .ref ta0, .ref ta1, .ref ta2, .ref ta3, .ref ta4, .ref ta5, .ref ta6, .ref ta7, .ref ta8, .ref ta9]))] := hD
  have hK : va_K (dC, dI) vwCl [] s := hK
  obtain rfl : r_1 = 0 := hw
  refine lv_if_ne (tgt := 19) hx hb dX9_gates_13 (by decide) (fun q => absurd q (by decide)) (fun _ => ?_)
  refine lv_bipush (v := (-2)) hx hb dX9_gates_16 (by decide) ?_
  exact W.iret (v := (-2)) hx hb hr (fun t ht hW => ⟨⟨(-2), (), rfl, rfl, trivial⟩, hS.F ht⟩) hS.2.2 dX9_gates_18
set_option maxHeartbeats 4000000 in
set_option maxRecDepth 100000 in
theorem k_X9_way (l : Launch) (dC : Nat → ClassId) (dI : Nat → Nat → Nat) (h0 : Nat) (p1 : Int32) (p2 : Int32) (p3 : Int32) (p4 : Int32) (tp : Nat) (nw : Nat) (im : Nat) (sl : Nat) (rd : Nat) (wk : Nat) (fm : Nat) (mt : Nat) (ch : Nat) (dy : Nat) (tn : Nat) (ta0 : Nat) (ta1 : Nat) (ta2 : Nat) (ta3 : Nat) (ta4 : Nat) (ta5 : Nat) (ta6 : Nat) (ta7 : Nat) (ta8 : Nat) (ta9 : Nat)  (sz : Nat) : Met l yX9_way (.code yX9_way cX9_way 6 (some .int) :: zT) ({ frames := 2, cells := 0, slots := 0, locals := 44 }) (va_Pc [.ref h0, .int p1, .int p2, .int p3, .int p4] (zB dC dI [(h0, .inr (9, [.ref tp, .int 0, .int 0, .int (-1), .ref nw, .ref im, .ref sl, .ref rd, .ref wk, .ref fm, .ref mt, .ref ch, .ref dy])), (nw, .inr (3, [.int 0, .ref tn, .int 0, .int 0, .int 0, .int 0])), (tn, .inr (7, [.int 0, .int 0, .int 0, .int 0, .int 0, .int 0, .int 0, .int 0, .ref ta0, .ref ta1, .ref ta2, .ref ta3, .ref ta4, .ref ta5, .ref ta6, .ref ta7, .ref ta8, .ref ta9]))] [] sz)) (va_Qi (fun (r : Int32) (_ : Unit) => r = (-2)) (fun _ _ => True) (va_A [(h0, .inr (9, [.ref tp, .int 0, .int 0, .int (-1), .ref nw, .ref im, .ref sl, .ref rd, .ref wk, .ref fm, .ref mt, .ref ch, .ref dy])), (nw, .inr (3, [.int 0, .ref tn, .int 0, .int 0, .int 0, .int 0])), (tn, .inr (7, [.int 0, .int 0, .int 0, .int 0, .int 0, .int 0, .int 0, .int 0, .ref ta0, .ref ta1, .ref ta2, .ref ta3, .ref ta4, .ref ta5, .ref ta6, .ref ta7, .ref ta8, .ref ta9]))] sz)) 0 0 (va_A [(h0, .inr (9, [.ref tp, .int 0, .int 0, .int (-1), .ref nw, .ref im, .ref sl, .ref rd, .ref wk, .ref fm, .ref mt, .ref ch, .ref dy])), (nw, .inr (3, [.int 0, .ref tn, .int 0, .int 0, .int 0, .int 0])), (tn, .inr (7, [.int 0, .int 0, .int 0, .int 0, .int 0, .int 0, .int 0, .int 0, .ref ta0, .ref ta1, .ref ta2, .ref ta3, .ref ta4, .ref ta5, .ref ta6, .ref ta7, .ref ta8, .ref ta9]))] sz) := by
  refine Met.ofW (cc := cX9_way) (maxL := 6) (ret := (some .int)) (by decide) rfl ?_
  intro p e s m args below meth c s₁ B hml hv
  obtain ⟨rfl, hsz, hP, hK, hD0⟩ := hv
  have hx := B.exec
  have hb := B.bytes
  have hr := B.returns
  have hts := z_hts (atoms_spec (ws := .code yX9_way cX9_way 6 (some .int) :: zT) B.pre)
  have hown : s.vm.findClass RX9 = some m.cls := findClass_of_methodNamed B.named
  have hlocks := B.notSynchronized
  subst hsz
  have hD := hD0.self (sz := s.heap.size)
  generalize hAe : va_A [(h0, .inr (9, [.ref tp, .int 0, .int 0, .int (-1), .ref nw, .ref im, .ref sl, .ref rd, .ref wk, .ref fm, .ref mt, .ref ch, .ref dy])), (nw, .inr (3, [.int 0, .ref tn, .int 0, .int 0, .int 0, .int 0])), (tn, .inr (7, [.int 0, .int 0, .int 0, .int 0, .int 0, .int 0, .int 0, .int 0, .ref ta0, .ref ta1, .ref ta2, .ref ta3, .ref ta4, .ref ta5, .ref ta6, .ref ta7, .ref ta8, .ref ta9]))] s.heap.size = A at hD ⊢
  have hA : ∀ q : Nat, s.heap.size ≤ q → A q := fun q h => by rw [← hAe]; exact Or.inr h
  have hS : va_S A s.heap s.heap [] := va_S.rf
  have hP : va_P (dC, dI) vwCl [(h0, .inr (9, [.ref tp, .int 0, .int 0, .int (-1), .ref nw, .ref im, .ref sl, .ref rd, .ref wk, .ref fm, .ref mt, .ref ch, .ref dy])), (nw, .inr (3, [.int 0, .ref tn, .int 0, .int 0, .int 0, .int 0])), (tn, .inr (7, [.int 0, .int 0, .int 0, .int 0, .int 0, .int 0, .int 0, .int 0, .ref ta0, .ref ta1, .ref ta2, .ref ta3, .ref ta4, .ref ta5, .ref ta6, .ref ta7, .ref ta8, .ref ta9]))] s.heap := hP
  have hl := lv_entry ([.ref h0, .int p1, .int p2, .int p3, .int p4]) (n := 6) (Nat.le_of_ble_eq_true rfl)
  rw [lg_entry_eq]
  generalize (lg_sl ([.ref h0, .int p1, .int p2, .int p3, .int p4]) ++ List.replicate (6 - (lg_sl ([.ref h0, .int p1, .int p2, .int p3, .int p4])).length) Slot.unset).toArray = ls at hl ⊢
  have hl : lv_has ls 6 [(0, .ref h0), (1, .int p1), (2, .int p2), (3, .int p3), (4, .int p4)] := hl
  refine lv_aload_n hx hb dX9_way_0 rfl (lv_at hl 0 rfl) ?_
  refine va_get (D := (dC, dI)) (ci := 9) (v := .ref nw) (C := RX9) (T := TX9) (N := 13) hx hb hts zl_X9 hown hK hP 0 rfl rfl 4 (by decide) (hts _ zw_t2_193) (fun _ h9 => h9) rfl dX9_way_1 ?_
  refine va_get (D := (dC, dI)) (ci := 3) (v := .ref tn) (C := RX3) (T := TX3) (N := 6) hx hb hts zl_X3 hown hK hP 1 rfl rfl 1 (by decide) (hts _ zw_t1_156) (fun _ h9 => h9) rfl dX9_way_4 ?_
  refine lv_astore (lv' := [(5, .ref tn), (0, .ref h0), (1, .int p1), (2, .int p2), (3, .int p3), (4, .int p4)]) hx hb dX9_way_7 hl (by decide) rfl (fun ls hl => ?_)
  refine lv_aload hx hb dX9_way_9 (lv_at hl 0 rfl) ?_
  refine lv_iload_n hx hb dX9_way_11 rfl (lv_at hl 2 rfl) ?_
  refine lv_iload_n hx hb dX9_way_12 rfl (lv_at hl 3 rfl) ?_
  refine lv_iload_n hx hb dX9_way_13 rfl (lv_at hl 4 rfl) ?_
  have hPc := hP.sub (ws' := [(tn, .inr (7, [.int 0, .int 0, .int 0, .int 0, .int 0, .int 0, .int 0, .int 0, .ref ta0, .ref ta1, .ref ta2, .ref ta3, .ref ta4, .ref ta5, .ref ta6, .ref ta7, .ref ta8, .ref ta9]))]) [2] rfl
  have hDc := hD.sub (ws' := [(tn, .inr (7, [.int 0, .int 0, .int 0, .int 0, .int 0, .int 0, .int 0, .int 0, .ref ta0, .ref ta1, .ref ta2, .ref ta3, .ref ta4, .ref ta5, .ref ta6, .ref ta7, .ref ta8, .ref ta9]))]) [2] (by decide) rfl
  have hKc := hK.sub (tys' := []) [] rfl
  have hFc := va_free (wc := [(tn, .inr (7, [.int 0, .int 0, .int 0, .int 0, .int 0, .int 0, .int 0, .int 0, .ref ta0, .ref ta1, .ref ta2, .ref ta3, .ref ta4, .ref ta5, .ref ta6, .ref ta7, .ref ta8, .ref ta9]))]) hD hS hA [2] rfl
  refine va_calli (va_runV (As := [.int p1, .int p2, .int p3]) (rest := []) ⟨hx, hb, hml, hown, hts⟩ (k_X7_hasTrip l dC dI tn p1 p2 p3 ta0 ta1 ta2 ta3 ta4 ta5 ta6 ta7 ta8 ta9 s.heap.size) (cwV 3 hts (z_gV zw_t4_21 zw_t4_22 zw_t4_23 zw_t1_3 zw_t4_24) rfl rfl rfl (by decide +kernel) ⟨(Nat.le_of_ble_eq_true rfl), (Nat.le_of_ble_eq_true rfl)⟩) (z_preV hPc hKc hDc (ci := 7) (q0 := 0) rfl rfl) rfl rfl hl.1 rfl (lv_room (Nat.le_of_ble_eq_true rfl)) dX9_way_14 ⟨(Nat.le_of_ble_eq_true rfl), (Nat.le_of_ble_eq_true rfl)⟩) hS (fun q _ h => hFc q h) hFc (fun r_1 u t H1 locs ht hvm hw hB hz1 hk1 hS => ?_)
  obtain ⟨hP, hD, hK⟩ := z_after [(h0, .inr (9, [.ref tp, .int 0, .int 0, .int (-1), .ref nw, .ref im, .ref sl, .ref rd, .ref wk, .ref fm, .ref mt, .ref ch, .ref dy])), (nw, .inr (3, [.int 0, .ref tn, .int 0, .int 0, .int 0, .int 0]))] hB ht hvm hP hD hK [2] [0, 1] rfl rfl (by decide) (by decide) hk1 hFc
  generalize H1 = H at hP hS ⊢
  have hP : va_P (dC, dI) vwCl [(h0, .inr (9, [.ref tp, .int 0, .int 0, .int (-1), .ref nw, .ref im, .ref sl, .ref rd, .ref wk, .ref fm, .ref mt, .ref ch, .ref dy])), (nw, .inr (3, [.int 0, .ref tn, .int 0, .int 0, .int 0, .int 0])), (tn, .inr (7, [.int 0, .int 0, .int 0, .int 0, .int 0, .int 0, .int 0, .int 0, .ref ta0, .ref ta1, .ref ta2, .ref ta3, .ref ta4, .ref ta5, .ref ta6, .ref ta7, .ref ta8, .ref ta9]))] H := hP
  have hD : va_D A [(h0, .inr (9, [.ref tp, .int 0, .int 0, .int (-1), .ref nw, .ref im, .ref sl, .ref rd, .ref wk, .ref fm, .ref mt, .ref ch, .ref dy])), (nw, .inr (3, [.int 0, .ref tn, .int 0, .int 0, .int 0, .int 0])), (tn, .inr (7, [.int 0, .int 0, .int 0, .int 0, .int 0, .int 0, .int 0, .int 0, .ref ta0, .ref ta1, .ref ta2, .ref ta3, .ref ta4, .ref ta5, .ref ta6, .ref ta7, .ref ta8, .ref ta9]))] := hD
  have hK : va_K (dC, dI) vwCl [] s := hK
  obtain rfl : r_1 = 0 := hw
  refine lv_if_eq (tgt := 31) hx hb dX9_way_17 (by decide) (fun _ => ?_) (fun q => absurd q (by decide))
  refine lv_bipush (v := (-2)) hx hb dX9_way_31 (by decide) ?_
  exact W.iret (v := (-2)) hx hb hr (fun t ht hW => ⟨⟨(-2), (), rfl, rfl, trivial⟩, hS.F ht⟩) hS.2.2 dX9_way_33
set_option maxHeartbeats 4000000 in
set_option maxRecDepth 100000 in
theorem k_X9_reach (l : Launch) (dC : Nat → ClassId) (dI : Nat → Nat → Nat) (h0 : Nat) (p1 : Int32) (p2 : Int32) (tp : Nat) (nw : Nat) (im : Nat) (sl : Nat) (rd : Nat) (wk : Nat) (fm : Nat) (mt : Nat) (ch : Nat) (dy : Nat) (tn : Nat) (ta0 : Nat) (ta1 : Nat) (ta2 : Nat) (ta3 : Nat) (ta4 : Nat) (ta5 : Nat) (ta6 : Nat) (ta7 : Nat) (ta8 : Nat) (ta9 : Nat)  (sz : Nat) : Met l yX9_reach (.code yX9_reach cX9_reach 3 (some .int) :: zT) ({ frames := 1, cells := 0, slots := 0, locals := 21 }) (va_Pc [.ref h0, .int p1, .int p2] (zB dC dI [(h0, .inr (9, [.ref tp, .int 0, .int 0, .int (-1), .ref nw, .ref im, .ref sl, .ref rd, .ref wk, .ref fm, .ref mt, .ref ch, .ref dy])), (nw, .inr (3, [.int 0, .ref tn, .int 0, .int 0, .int 0, .int 0])), (tn, .inr (7, [.int 0, .int 0, .int 0, .int 0, .int 0, .int 0, .int 0, .int 0, .ref ta0, .ref ta1, .ref ta2, .ref ta3, .ref ta4, .ref ta5, .ref ta6, .ref ta7, .ref ta8, .ref ta9]))] [] sz)) (va_Qi (fun (r : Int32) (_ : Unit) => r = (-2)) (fun _ _ => True) (va_A [(h0, .inr (9, [.ref tp, .int 0, .int 0, .int (-1), .ref nw, .ref im, .ref sl, .ref rd, .ref wk, .ref fm, .ref mt, .ref ch, .ref dy])), (nw, .inr (3, [.int 0, .ref tn, .int 0, .int 0, .int 0, .int 0])), (tn, .inr (7, [.int 0, .int 0, .int 0, .int 0, .int 0, .int 0, .int 0, .int 0, .ref ta0, .ref ta1, .ref ta2, .ref ta3, .ref ta4, .ref ta5, .ref ta6, .ref ta7, .ref ta8, .ref ta9]))] sz)) 0 0 (va_A [(h0, .inr (9, [.ref tp, .int 0, .int 0, .int (-1), .ref nw, .ref im, .ref sl, .ref rd, .ref wk, .ref fm, .ref mt, .ref ch, .ref dy])), (nw, .inr (3, [.int 0, .ref tn, .int 0, .int 0, .int 0, .int 0])), (tn, .inr (7, [.int 0, .int 0, .int 0, .int 0, .int 0, .int 0, .int 0, .int 0, .ref ta0, .ref ta1, .ref ta2, .ref ta3, .ref ta4, .ref ta5, .ref ta6, .ref ta7, .ref ta8, .ref ta9]))] sz) := by
  refine Met.ofW (cc := cX9_reach) (maxL := 3) (ret := (some .int)) (by decide) rfl ?_
  intro p e s m args below meth c s₁ B hml hv
  obtain ⟨rfl, hsz, hP, hK, hD0⟩ := hv
  have hx := B.exec
  have hb := B.bytes
  have hr := B.returns
  have hts := z_hts (atoms_spec (ws := .code yX9_reach cX9_reach 3 (some .int) :: zT) B.pre)
  have hown : s.vm.findClass RX9 = some m.cls := findClass_of_methodNamed B.named
  have hlocks := B.notSynchronized
  subst hsz
  have hD := hD0.self (sz := s.heap.size)
  generalize hAe : va_A [(h0, .inr (9, [.ref tp, .int 0, .int 0, .int (-1), .ref nw, .ref im, .ref sl, .ref rd, .ref wk, .ref fm, .ref mt, .ref ch, .ref dy])), (nw, .inr (3, [.int 0, .ref tn, .int 0, .int 0, .int 0, .int 0])), (tn, .inr (7, [.int 0, .int 0, .int 0, .int 0, .int 0, .int 0, .int 0, .int 0, .ref ta0, .ref ta1, .ref ta2, .ref ta3, .ref ta4, .ref ta5, .ref ta6, .ref ta7, .ref ta8, .ref ta9]))] s.heap.size = A at hD ⊢
  have hA : ∀ q : Nat, s.heap.size ≤ q → A q := fun q h => by rw [← hAe]; exact Or.inr h
  have hS : va_S A s.heap s.heap [] := va_S.rf
  have hP : va_P (dC, dI) vwCl [(h0, .inr (9, [.ref tp, .int 0, .int 0, .int (-1), .ref nw, .ref im, .ref sl, .ref rd, .ref wk, .ref fm, .ref mt, .ref ch, .ref dy])), (nw, .inr (3, [.int 0, .ref tn, .int 0, .int 0, .int 0, .int 0])), (tn, .inr (7, [.int 0, .int 0, .int 0, .int 0, .int 0, .int 0, .int 0, .int 0, .ref ta0, .ref ta1, .ref ta2, .ref ta3, .ref ta4, .ref ta5, .ref ta6, .ref ta7, .ref ta8, .ref ta9]))] s.heap := hP
  have hl := lv_entry ([.ref h0, .int p1, .int p2]) (n := 3) (Nat.le_of_ble_eq_true rfl)
  rw [lg_entry_eq]
  generalize (lg_sl ([.ref h0, .int p1, .int p2]) ++ List.replicate (3 - (lg_sl ([.ref h0, .int p1, .int p2])).length) Slot.unset).toArray = ls at hl ⊢
  have hl : lv_has ls 3 [(0, .ref h0), (1, .int p1), (2, .int p2)] := hl
  refine lv_aload_n hx hb dX9_reach_0 rfl (lv_at hl 0 rfl) ?_
  refine va_get (D := (dC, dI)) (ci := 9) (v := .ref nw) (C := RX9) (T := TX9) (N := 13) hx hb hts zl_X9 hown hK hP 0 rfl rfl 4 (by decide) (hts _ zw_t2_193) (fun _ h9 => h9) rfl dX9_reach_1 ?_
  refine va_get (D := (dC, dI)) (ci := 3) (v := .ref tn) (C := RX3) (T := TX3) (N := 6) hx hb hts zl_X3 hown hK hP 1 rfl rfl 1 (by decide) (hts _ zw_t1_156) (fun _ h9 => h9) rfl dX9_reach_4 ?_
  refine lv_iload_n hx hb dX9_reach_7 rfl (lv_at hl 1 rfl) ?_
  have hPc := hP.sub (ws' := [(tn, .inr (7, [.int 0, .int 0, .int 0, .int 0, .int 0, .int 0, .int 0, .int 0, .ref ta0, .ref ta1, .ref ta2, .ref ta3, .ref ta4, .ref ta5, .ref ta6, .ref ta7, .ref ta8, .ref ta9]))]) [2] rfl
  have hDc := hD.sub (ws' := [(tn, .inr (7, [.int 0, .int 0, .int 0, .int 0, .int 0, .int 0, .int 0, .int 0, .ref ta0, .ref ta1, .ref ta2, .ref ta3, .ref ta4, .ref ta5, .ref ta6, .ref ta7, .ref ta8, .ref ta9]))]) [2] (by decide) rfl
  have hKc := hK.sub (tys' := []) [] rfl
  have hFc := va_free (wc := [(tn, .inr (7, [.int 0, .int 0, .int 0, .int 0, .int 0, .int 0, .int 0, .int 0, .ref ta0, .ref ta1, .ref ta2, .ref ta3, .ref ta4, .ref ta5, .ref ta6, .ref ta7, .ref ta8, .ref ta9]))]) hD hS hA [2] rfl
  refine va_calli (va_runV (As := [.int p1]) (rest := []) ⟨hx, hb, hml, hown, hts⟩ (k_X7_hasCourt l dC dI tn p1 ta0 ta1 ta2 ta3 ta4 ta5 ta6 ta7 ta8 ta9 s.heap.size) (cwV 1 hts (z_gV zw_t3_197 zw_t3_198 zw_t3_199 zw_t1_3 zw_t3_200) rfl rfl rfl (by decide +kernel) ⟨(Nat.le_of_ble_eq_true rfl), (Nat.le_of_ble_eq_true rfl)⟩) (z_preV hPc hKc hDc (ci := 7) (q0 := 0) rfl rfl) rfl rfl hl.1 rfl (lv_room (Nat.le_of_ble_eq_true rfl)) dX9_reach_8 ⟨(Nat.le_of_ble_eq_true rfl), (Nat.le_of_ble_eq_true rfl)⟩) hS (fun q _ h => hFc q h) hFc (fun r_1 u t H1 locs ht hvm hw hB hz1 hk1 hS => ?_)
  obtain ⟨hP, hD, hK⟩ := z_after [(h0, .inr (9, [.ref tp, .int 0, .int 0, .int (-1), .ref nw, .ref im, .ref sl, .ref rd, .ref wk, .ref fm, .ref mt, .ref ch, .ref dy])), (nw, .inr (3, [.int 0, .ref tn, .int 0, .int 0, .int 0, .int 0]))] hB ht hvm hP hD hK [2] [0, 1] rfl rfl (by decide) (by decide) hk1 hFc
  generalize H1 = H at hP hS ⊢
  have hP : va_P (dC, dI) vwCl [(h0, .inr (9, [.ref tp, .int 0, .int 0, .int (-1), .ref nw, .ref im, .ref sl, .ref rd, .ref wk, .ref fm, .ref mt, .ref ch, .ref dy])), (nw, .inr (3, [.int 0, .ref tn, .int 0, .int 0, .int 0, .int 0])), (tn, .inr (7, [.int 0, .int 0, .int 0, .int 0, .int 0, .int 0, .int 0, .int 0, .ref ta0, .ref ta1, .ref ta2, .ref ta3, .ref ta4, .ref ta5, .ref ta6, .ref ta7, .ref ta8, .ref ta9]))] H := hP
  have hD : va_D A [(h0, .inr (9, [.ref tp, .int 0, .int 0, .int (-1), .ref nw, .ref im, .ref sl, .ref rd, .ref wk, .ref fm, .ref mt, .ref ch, .ref dy])), (nw, .inr (3, [.int 0, .ref tn, .int 0, .int 0, .int 0, .int 0])), (tn, .inr (7, [.int 0, .int 0, .int 0, .int 0, .int 0, .int 0, .int 0, .int 0, .ref ta0, .ref ta1, .ref ta2, .ref ta3, .ref ta4, .ref ta5, .ref ta6, .ref ta7, .ref ta8, .ref ta9]))] := hD
  have hK : va_K (dC, dI) vwCl [] s := hK
  obtain rfl : r_1 = 0 := hw
  refine lv_if_eq (tgt := 28) hx hb dX9_reach_11 (by decide) (fun _ => ?_) (fun q => absurd q (by decide))
  refine lv_bipush (v := (-2)) hx hb dX9_reach_28 (by decide) ?_
  exact W.iret (v := (-2)) hx hb hr (fun t ht hW => ⟨⟨(-2), (), rfl, rfl, trivial⟩, hS.F ht⟩) hS.2.2 dX9_reach_30
set_option maxHeartbeats 4000000 in
set_option maxRecDepth 100000 in
theorem k_X9_latest (l : Launch) (dC : Nat → ClassId) (dI : Nat → Nat → Nat) (h0 : Nat) (p1 : Int32) (p2 : Int32) (tp : Nat) (nw : Nat) (im : Nat) (sl : Nat) (rd : Nat) (wk : Nat) (fm : Nat) (mt : Nat) (ch : Nat) (dy : Nat) (tn : Nat) (ta0 : Nat) (ta1 : Nat) (ta2 : Nat) (ta3 : Nat) (ta4 : Nat) (ta5 : Nat) (ta6 : Nat) (ta7 : Nat) (ta8 : Nat) (ta9 : Nat)  (sz : Nat) : Met l yX9_latest (.code yX9_latest cX9_latest 3 (some .int) :: zT) ({ frames := 1, cells := 0, slots := 0, locals := 21 }) (va_Pc [.ref h0, .int p1, .int p2] (zB dC dI [(h0, .inr (9, [.ref tp, .int 0, .int 0, .int (-1), .ref nw, .ref im, .ref sl, .ref rd, .ref wk, .ref fm, .ref mt, .ref ch, .ref dy])), (nw, .inr (3, [.int 0, .ref tn, .int 0, .int 0, .int 0, .int 0])), (tn, .inr (7, [.int 0, .int 0, .int 0, .int 0, .int 0, .int 0, .int 0, .int 0, .ref ta0, .ref ta1, .ref ta2, .ref ta3, .ref ta4, .ref ta5, .ref ta6, .ref ta7, .ref ta8, .ref ta9]))] [] sz)) (va_Qi (fun (r : Int32) (_ : Unit) => r = (-2)) (fun _ _ => True) (va_A [(h0, .inr (9, [.ref tp, .int 0, .int 0, .int (-1), .ref nw, .ref im, .ref sl, .ref rd, .ref wk, .ref fm, .ref mt, .ref ch, .ref dy])), (nw, .inr (3, [.int 0, .ref tn, .int 0, .int 0, .int 0, .int 0])), (tn, .inr (7, [.int 0, .int 0, .int 0, .int 0, .int 0, .int 0, .int 0, .int 0, .ref ta0, .ref ta1, .ref ta2, .ref ta3, .ref ta4, .ref ta5, .ref ta6, .ref ta7, .ref ta8, .ref ta9]))] sz)) 0 0 (va_A [(h0, .inr (9, [.ref tp, .int 0, .int 0, .int (-1), .ref nw, .ref im, .ref sl, .ref rd, .ref wk, .ref fm, .ref mt, .ref ch, .ref dy])), (nw, .inr (3, [.int 0, .ref tn, .int 0, .int 0, .int 0, .int 0])), (tn, .inr (7, [.int 0, .int 0, .int 0, .int 0, .int 0, .int 0, .int 0, .int 0, .ref ta0, .ref ta1, .ref ta2, .ref ta3, .ref ta4, .ref ta5, .ref ta6, .ref ta7, .ref ta8, .ref ta9]))] sz) := by
  refine Met.ofW (cc := cX9_latest) (maxL := 3) (ret := (some .int)) (by decide) rfl ?_
  intro p e s m args below meth c s₁ B hml hv
  obtain ⟨rfl, hsz, hP, hK, hD0⟩ := hv
  have hx := B.exec
  have hb := B.bytes
  have hr := B.returns
  have hts := z_hts (atoms_spec (ws := .code yX9_latest cX9_latest 3 (some .int) :: zT) B.pre)
  have hown : s.vm.findClass RX9 = some m.cls := findClass_of_methodNamed B.named
  have hlocks := B.notSynchronized
  subst hsz
  have hD := hD0.self (sz := s.heap.size)
  generalize hAe : va_A [(h0, .inr (9, [.ref tp, .int 0, .int 0, .int (-1), .ref nw, .ref im, .ref sl, .ref rd, .ref wk, .ref fm, .ref mt, .ref ch, .ref dy])), (nw, .inr (3, [.int 0, .ref tn, .int 0, .int 0, .int 0, .int 0])), (tn, .inr (7, [.int 0, .int 0, .int 0, .int 0, .int 0, .int 0, .int 0, .int 0, .ref ta0, .ref ta1, .ref ta2, .ref ta3, .ref ta4, .ref ta5, .ref ta6, .ref ta7, .ref ta8, .ref ta9]))] s.heap.size = A at hD ⊢
  have hA : ∀ q : Nat, s.heap.size ≤ q → A q := fun q h => by rw [← hAe]; exact Or.inr h
  have hS : va_S A s.heap s.heap [] := va_S.rf
  have hP : va_P (dC, dI) vwCl [(h0, .inr (9, [.ref tp, .int 0, .int 0, .int (-1), .ref nw, .ref im, .ref sl, .ref rd, .ref wk, .ref fm, .ref mt, .ref ch, .ref dy])), (nw, .inr (3, [.int 0, .ref tn, .int 0, .int 0, .int 0, .int 0])), (tn, .inr (7, [.int 0, .int 0, .int 0, .int 0, .int 0, .int 0, .int 0, .int 0, .ref ta0, .ref ta1, .ref ta2, .ref ta3, .ref ta4, .ref ta5, .ref ta6, .ref ta7, .ref ta8, .ref ta9]))] s.heap := hP
  have hl := lv_entry ([.ref h0, .int p1, .int p2]) (n := 3) (Nat.le_of_ble_eq_true rfl)
  rw [lg_entry_eq]
  generalize (lg_sl ([.ref h0, .int p1, .int p2]) ++ List.replicate (3 - (lg_sl ([.ref h0, .int p1, .int p2])).length) Slot.unset).toArray = ls at hl ⊢
  have hl : lv_has ls 3 [(0, .ref h0), (1, .int p1), (2, .int p2)] := hl
  refine lv_aload_n hx hb dX9_latest_0 rfl (lv_at hl 0 rfl) ?_
  refine va_get (D := (dC, dI)) (ci := 9) (v := .ref nw) (C := RX9) (T := TX9) (N := 13) hx hb hts zl_X9 hown hK hP 0 rfl rfl 4 (by decide) (hts _ zw_t2_193) (fun _ h9 => h9) rfl dX9_latest_1 ?_
  refine va_get (D := (dC, dI)) (ci := 3) (v := .ref tn) (C := RX3) (T := TX3) (N := 6) hx hb hts zl_X3 hown hK hP 1 rfl rfl 1 (by decide) (hts _ zw_t1_156) (fun _ h9 => h9) rfl dX9_latest_4 ?_
  refine lv_iload_n hx hb dX9_latest_7 rfl (lv_at hl 1 rfl) ?_
  have hPc := hP.sub (ws' := [(tn, .inr (7, [.int 0, .int 0, .int 0, .int 0, .int 0, .int 0, .int 0, .int 0, .ref ta0, .ref ta1, .ref ta2, .ref ta3, .ref ta4, .ref ta5, .ref ta6, .ref ta7, .ref ta8, .ref ta9]))]) [2] rfl
  have hDc := hD.sub (ws' := [(tn, .inr (7, [.int 0, .int 0, .int 0, .int 0, .int 0, .int 0, .int 0, .int 0, .ref ta0, .ref ta1, .ref ta2, .ref ta3, .ref ta4, .ref ta5, .ref ta6, .ref ta7, .ref ta8, .ref ta9]))]) [2] (by decide) rfl
  have hKc := hK.sub (tys' := []) [] rfl
  have hFc := va_free (wc := [(tn, .inr (7, [.int 0, .int 0, .int 0, .int 0, .int 0, .int 0, .int 0, .int 0, .ref ta0, .ref ta1, .ref ta2, .ref ta3, .ref ta4, .ref ta5, .ref ta6, .ref ta7, .ref ta8, .ref ta9]))]) hD hS hA [2] rfl
  refine va_calli (va_runV (As := [.int p1]) (rest := []) ⟨hx, hb, hml, hown, hts⟩ (k_X7_hasCourt l dC dI tn p1 ta0 ta1 ta2 ta3 ta4 ta5 ta6 ta7 ta8 ta9 s.heap.size) (cwV 1 hts (z_gV zw_t3_197 zw_t3_198 zw_t3_199 zw_t1_3 zw_t3_200) rfl rfl rfl (by decide +kernel) ⟨(Nat.le_of_ble_eq_true rfl), (Nat.le_of_ble_eq_true rfl)⟩) (z_preV hPc hKc hDc (ci := 7) (q0 := 0) rfl rfl) rfl rfl hl.1 rfl (lv_room (Nat.le_of_ble_eq_true rfl)) dX9_latest_8 ⟨(Nat.le_of_ble_eq_true rfl), (Nat.le_of_ble_eq_true rfl)⟩) hS (fun q _ h => hFc q h) hFc (fun r_1 u t H1 locs ht hvm hw hB hz1 hk1 hS => ?_)
  obtain ⟨hP, hD, hK⟩ := z_after [(h0, .inr (9, [.ref tp, .int 0, .int 0, .int (-1), .ref nw, .ref im, .ref sl, .ref rd, .ref wk, .ref fm, .ref mt, .ref ch, .ref dy])), (nw, .inr (3, [.int 0, .ref tn, .int 0, .int 0, .int 0, .int 0]))] hB ht hvm hP hD hK [2] [0, 1] rfl rfl (by decide) (by decide) hk1 hFc
  generalize H1 = H at hP hS ⊢
  have hP : va_P (dC, dI) vwCl [(h0, .inr (9, [.ref tp, .int 0, .int 0, .int (-1), .ref nw, .ref im, .ref sl, .ref rd, .ref wk, .ref fm, .ref mt, .ref ch, .ref dy])), (nw, .inr (3, [.int 0, .ref tn, .int 0, .int 0, .int 0, .int 0])), (tn, .inr (7, [.int 0, .int 0, .int 0, .int 0, .int 0, .int 0, .int 0, .int 0, .ref ta0, .ref ta1, .ref ta2, .ref ta3, .ref ta4, .ref ta5, .ref ta6, .ref ta7, .ref ta8, .ref ta9]))] H := hP
  have hD : va_D A [(h0, .inr (9, [.ref tp, .int 0, .int 0, .int (-1), .ref nw, .ref im, .ref sl, .ref rd, .ref wk, .ref fm, .ref mt, .ref ch, .ref dy])), (nw, .inr (3, [.int 0, .ref tn, .int 0, .int 0, .int 0, .int 0])), (tn, .inr (7, [.int 0, .int 0, .int 0, .int 0, .int 0, .int 0, .int 0, .int 0, .ref ta0, .ref ta1, .ref ta2, .ref ta3, .ref ta4, .ref ta5, .ref ta6, .ref ta7, .ref ta8, .ref ta9]))] := hD
  have hK : va_K (dC, dI) vwCl [] s := hK
  obtain rfl : r_1 = 0 := hw
  refine lv_if_eq (tgt := 28) hx hb dX9_latest_11 (by decide) (fun _ => ?_) (fun q => absurd q (by decide))
  refine lv_bipush (v := (-2)) hx hb dX9_latest_28 (by decide) ?_
  exact W.iret (v := (-2)) hx hb hr (fun t ht hW => ⟨⟨(-2), (), rfl, rfl, trivial⟩, hS.F ht⟩) hS.2.2 dX9_latest_30
set_option maxHeartbeats 4000000 in
set_option maxRecDepth 100000 in
theorem k_X9_need (l : Launch) (dC : Nat → ClassId) (dI : Nat → Nat → Nat) (h0 : Nat) (p1 : Int32) (p2 : Int32) (p3 : Int32) (p4 : Int32) (tp : Nat) (nw : Nat) (im : Nat) (sl : Nat) (rd : Nat) (wk : Nat) (fm : Nat) (mt : Nat) (ch : Nat) (dy : Nat) (tn : Nat) (ta0 : Nat) (ta1 : Nat) (ta2 : Nat) (ta3 : Nat) (ta4 : Nat) (ta5 : Nat) (ta6 : Nat) (ta7 : Nat) (ta8 : Nat) (ta9 : Nat)  (sz : Nat) : Met l yX9_need (.code yX9_need cX9_need 7 (some .int) :: zT) ({ frames := 2, cells := 0, slots := 0, locals := 44 }) (va_Pc [.ref h0, .int p1, .int p2, .int p3, .int p4] (zB dC dI [(h0, .inr (9, [.ref tp, .int 0, .int 0, .int (-1), .ref nw, .ref im, .ref sl, .ref rd, .ref wk, .ref fm, .ref mt, .ref ch, .ref dy])), (nw, .inr (3, [.int 0, .ref tn, .int 0, .int 0, .int 0, .int 0])), (tn, .inr (7, [.int 0, .int 0, .int 0, .int 0, .int 0, .int 0, .int 0, .int 0, .ref ta0, .ref ta1, .ref ta2, .ref ta3, .ref ta4, .ref ta5, .ref ta6, .ref ta7, .ref ta8, .ref ta9]))] [] sz)) (va_Qi (fun (r : Int32) (_ : Unit) => r = (-2)) (fun _ _ => True) (va_A [(h0, .inr (9, [.ref tp, .int 0, .int 0, .int (-1), .ref nw, .ref im, .ref sl, .ref rd, .ref wk, .ref fm, .ref mt, .ref ch, .ref dy])), (nw, .inr (3, [.int 0, .ref tn, .int 0, .int 0, .int 0, .int 0])), (tn, .inr (7, [.int 0, .int 0, .int 0, .int 0, .int 0, .int 0, .int 0, .int 0, .ref ta0, .ref ta1, .ref ta2, .ref ta3, .ref ta4, .ref ta5, .ref ta6, .ref ta7, .ref ta8, .ref ta9]))] sz)) 0 0 (va_A [(h0, .inr (9, [.ref tp, .int 0, .int 0, .int (-1), .ref nw, .ref im, .ref sl, .ref rd, .ref wk, .ref fm, .ref mt, .ref ch, .ref dy])), (nw, .inr (3, [.int 0, .ref tn, .int 0, .int 0, .int 0, .int 0])), (tn, .inr (7, [.int 0, .int 0, .int 0, .int 0, .int 0, .int 0, .int 0, .int 0, .ref ta0, .ref ta1, .ref ta2, .ref ta3, .ref ta4, .ref ta5, .ref ta6, .ref ta7, .ref ta8, .ref ta9]))] sz) := by
  refine Met.ofW (cc := cX9_need) (maxL := 7) (ret := (some .int)) (by decide) rfl ?_
  intro p e s m args below meth c s₁ B hml hv
  obtain ⟨rfl, hsz, hP, hK, hD0⟩ := hv
  have hx := B.exec
  have hb := B.bytes
  have hr := B.returns
  have hts := z_hts (atoms_spec (ws := .code yX9_need cX9_need 7 (some .int) :: zT) B.pre)
  have hown : s.vm.findClass RX9 = some m.cls := findClass_of_methodNamed B.named
  have hlocks := B.notSynchronized
  subst hsz
  have hD := hD0.self (sz := s.heap.size)
  generalize hAe : va_A [(h0, .inr (9, [.ref tp, .int 0, .int 0, .int (-1), .ref nw, .ref im, .ref sl, .ref rd, .ref wk, .ref fm, .ref mt, .ref ch, .ref dy])), (nw, .inr (3, [.int 0, .ref tn, .int 0, .int 0, .int 0, .int 0])), (tn, .inr (7, [.int 0, .int 0, .int 0, .int 0, .int 0, .int 0, .int 0, .int 0, .ref ta0, .ref ta1, .ref ta2, .ref ta3, .ref ta4, .ref ta5, .ref ta6, .ref ta7, .ref ta8, .ref ta9]))] s.heap.size = A at hD ⊢
  have hA : ∀ q : Nat, s.heap.size ≤ q → A q := fun q h => by rw [← hAe]; exact Or.inr h
  have hS : va_S A s.heap s.heap [] := va_S.rf
  have hP : va_P (dC, dI) vwCl [(h0, .inr (9, [.ref tp, .int 0, .int 0, .int (-1), .ref nw, .ref im, .ref sl, .ref rd, .ref wk, .ref fm, .ref mt, .ref ch, .ref dy])), (nw, .inr (3, [.int 0, .ref tn, .int 0, .int 0, .int 0, .int 0])), (tn, .inr (7, [.int 0, .int 0, .int 0, .int 0, .int 0, .int 0, .int 0, .int 0, .ref ta0, .ref ta1, .ref ta2, .ref ta3, .ref ta4, .ref ta5, .ref ta6, .ref ta7, .ref ta8, .ref ta9]))] s.heap := hP
  have hl := lv_entry ([.ref h0, .int p1, .int p2, .int p3, .int p4]) (n := 7) (Nat.le_of_ble_eq_true rfl)
  rw [lg_entry_eq]
  generalize (lg_sl ([.ref h0, .int p1, .int p2, .int p3, .int p4]) ++ List.replicate (7 - (lg_sl ([.ref h0, .int p1, .int p2, .int p3, .int p4])).length) Slot.unset).toArray = ls at hl ⊢
  have hl : lv_has ls 7 [(0, .ref h0), (1, .int p1), (2, .int p2), (3, .int p3), (4, .int p4)] := hl
  refine lv_aload_n hx hb dX9_need_0 rfl (lv_at hl 0 rfl) ?_
  refine va_get (D := (dC, dI)) (ci := 9) (v := .ref nw) (C := RX9) (T := TX9) (N := 13) hx hb hts zl_X9 hown hK hP 0 rfl rfl 4 (by decide) (hts _ zw_t2_193) (fun _ h9 => h9) rfl dX9_need_1 ?_
  refine va_get (D := (dC, dI)) (ci := 3) (v := .ref tn) (C := RX3) (T := TX3) (N := 6) hx hb hts zl_X3 hown hK hP 1 rfl rfl 1 (by decide) (hts _ zw_t1_156) (fun _ h9 => h9) rfl dX9_need_4 ?_
  refine lv_iload_n hx hb dX9_need_7 rfl (lv_at hl 2 rfl) ?_
  refine lv_iload_n hx hb dX9_need_8 rfl (lv_at hl 3 rfl) ?_
  refine lv_iload hx hb dX9_need_9 (lv_at hl 4 rfl) ?_
  have hPc := hP.sub (ws' := [(tn, .inr (7, [.int 0, .int 0, .int 0, .int 0, .int 0, .int 0, .int 0, .int 0, .ref ta0, .ref ta1, .ref ta2, .ref ta3, .ref ta4, .ref ta5, .ref ta6, .ref ta7, .ref ta8, .ref ta9]))]) [2] rfl
  have hDc := hD.sub (ws' := [(tn, .inr (7, [.int 0, .int 0, .int 0, .int 0, .int 0, .int 0, .int 0, .int 0, .ref ta0, .ref ta1, .ref ta2, .ref ta3, .ref ta4, .ref ta5, .ref ta6, .ref ta7, .ref ta8, .ref ta9]))]) [2] (by decide) rfl
  have hKc := hK.sub (tys' := []) [] rfl
  have hFc := va_free (wc := [(tn, .inr (7, [.int 0, .int 0, .int 0, .int 0, .int 0, .int 0, .int 0, .int 0, .ref ta0, .ref ta1, .ref ta2, .ref ta3, .ref ta4, .ref ta5, .ref ta6, .ref ta7, .ref ta8, .ref ta9]))]) hD hS hA [2] rfl
  refine va_calli (va_runV (As := [.int p2, .int p3, .int p4]) (rest := []) ⟨hx, hb, hml, hown, hts⟩ (k_X7_hasTrip l dC dI tn p2 p3 p4 ta0 ta1 ta2 ta3 ta4 ta5 ta6 ta7 ta8 ta9 s.heap.size) (cwV 3 hts (z_gV zw_t4_21 zw_t4_22 zw_t4_23 zw_t1_3 zw_t4_24) rfl rfl rfl (by decide +kernel) ⟨(Nat.le_of_ble_eq_true rfl), (Nat.le_of_ble_eq_true rfl)⟩) (z_preV hPc hKc hDc (ci := 7) (q0 := 0) rfl rfl) rfl rfl hl.1 rfl (lv_room (Nat.le_of_ble_eq_true rfl)) dX9_need_11 ⟨(Nat.le_of_ble_eq_true rfl), (Nat.le_of_ble_eq_true rfl)⟩) hS (fun q _ h => hFc q h) hFc (fun r_1 u t H1 locs ht hvm hw hB hz1 hk1 hS => ?_)
  obtain ⟨hP, hD, hK⟩ := z_after [(h0, .inr (9, [.ref tp, .int 0, .int 0, .int (-1), .ref nw, .ref im, .ref sl, .ref rd, .ref wk, .ref fm, .ref mt, .ref ch, .ref dy])), (nw, .inr (3, [.int 0, .ref tn, .int 0, .int 0, .int 0, .int 0]))] hB ht hvm hP hD hK [2] [0, 1] rfl rfl (by decide) (by decide) hk1 hFc
  generalize H1 = H at hP hS ⊢
  have hP : va_P (dC, dI) vwCl [(h0, .inr (9, [.ref tp, .int 0, .int 0, .int (-1), .ref nw, .ref im, .ref sl, .ref rd, .ref wk, .ref fm, .ref mt, .ref ch, .ref dy])), (nw, .inr (3, [.int 0, .ref tn, .int 0, .int 0, .int 0, .int 0])), (tn, .inr (7, [.int 0, .int 0, .int 0, .int 0, .int 0, .int 0, .int 0, .int 0, .ref ta0, .ref ta1, .ref ta2, .ref ta3, .ref ta4, .ref ta5, .ref ta6, .ref ta7, .ref ta8, .ref ta9]))] H := hP
  have hD : va_D A [(h0, .inr (9, [.ref tp, .int 0, .int 0, .int (-1), .ref nw, .ref im, .ref sl, .ref rd, .ref wk, .ref fm, .ref mt, .ref ch, .ref dy])), (nw, .inr (3, [.int 0, .ref tn, .int 0, .int 0, .int 0, .int 0])), (tn, .inr (7, [.int 0, .int 0, .int 0, .int 0, .int 0, .int 0, .int 0, .int 0, .ref ta0, .ref ta1, .ref ta2, .ref ta3, .ref ta4, .ref ta5, .ref ta6, .ref ta7, .ref ta8, .ref ta9]))] := hD
  have hK : va_K (dC, dI) vwCl [] s := hK
  obtain rfl : r_1 = 0 := hw
  refine lv_if_eq (tgt := 31) hx hb dX9_need_14 (by decide) (fun _ => ?_) (fun q => absurd q (by decide))
  refine lv_bipush (v := (-2)) hx hb dX9_need_31 (by decide) ?_
  exact W.iret (v := (-2)) hx hb hr (fun t ht hW => ⟨⟨(-2), (), rfl, rfl, trivial⟩, hS.F ht⟩) hS.2.2 dX9_need_33
set_option maxHeartbeats 4000000 in
set_option maxRecDepth 100000 in
theorem k_X7_hasTripBy (l : Launch) (dC : Nat → ClassId) (dI : Nat → Nat → Nat) (tn : Nat) (p1 : Int32) (p2 : Int32) (p3 : Int32) (p4 : Int32) (ta0 : Nat) (ta1 : Nat) (ta2 : Nat) (ta3 : Nat) (ta4 : Nat) (ta5 : Nat) (ta6 : Nat) (ta7 : Nat) (ta8 : Nat) (ta9 : Nat)  (sz : Nat) : Met l yX7_hasTripBy (.code yX7_hasTripBy cX7_hasTripBy 5 (some .boolean) :: zT) ({ frames := 2, cells := 0, slots := 0, locals := 44 }) (va_Pc [.ref tn, .int p1, .int p2, .int p3, .int p4] (zB dC dI [(tn, .inr (7, [.int 0, .int 0, .int 0, .int 0, .int 0, .int 0, .int 0, .int 0, .ref ta0, .ref ta1, .ref ta2, .ref ta3, .ref ta4, .ref ta5, .ref ta6, .ref ta7, .ref ta8, .ref ta9]))] [] sz)) (va_Qi (fun (r : Int32) (_ : Unit) => r = 0) (fun _ t => zW dC dI [(tn, .inr (7, [.int 0, .int 0, .int 0, .int 0, .int 0, .int 0, .int 0, .int 0, .ref ta0, .ref ta1, .ref ta2, .ref ta3, .ref ta4, .ref ta5, .ref ta6, .ref ta7, .ref ta8, .ref ta9]))] [] (va_A [(tn, .inr (7, [.int 0, .int 0, .int 0, .int 0, .int 0, .int 0, .int 0, .int 0, .ref ta0, .ref ta1, .ref ta2, .ref ta3, .ref ta4, .ref ta5, .ref ta6, .ref ta7, .ref ta8, .ref ta9]))] sz) t) (va_A [(tn, .inr (7, [.int 0, .int 0, .int 0, .int 0, .int 0, .int 0, .int 0, .int 0, .ref ta0, .ref ta1, .ref ta2, .ref ta3, .ref ta4, .ref ta5, .ref ta6, .ref ta7, .ref ta8, .ref ta9]))] sz)) 0 0 (va_A [(tn, .inr (7, [.int 0, .int 0, .int 0, .int 0, .int 0, .int 0, .int 0, .int 0, .ref ta0, .ref ta1, .ref ta2, .ref ta3, .ref ta4, .ref ta5, .ref ta6, .ref ta7, .ref ta8, .ref ta9]))] sz) := by
  refine Met.ofW (cc := cX7_hasTripBy) (maxL := 5) (ret := (some .boolean)) (by decide) rfl ?_
  intro p e s m args below meth c s₁ B hml hv
  obtain ⟨rfl, hsz, hP, hK, hD0⟩ := hv
  have hx := B.exec
  have hb := B.bytes
  have hr := B.returns
  have hts := z_hts (atoms_spec (ws := .code yX7_hasTripBy cX7_hasTripBy 5 (some .boolean) :: zT) B.pre)
  have hown : s.vm.findClass RX7 = some m.cls := findClass_of_methodNamed B.named
  have hlocks := B.notSynchronized
  subst hsz
  have hD := hD0.self (sz := s.heap.size)
  generalize hAe : va_A [(tn, .inr (7, [.int 0, .int 0, .int 0, .int 0, .int 0, .int 0, .int 0, .int 0, .ref ta0, .ref ta1, .ref ta2, .ref ta3, .ref ta4, .ref ta5, .ref ta6, .ref ta7, .ref ta8, .ref ta9]))] s.heap.size = A at hD ⊢
  have hA : ∀ q : Nat, s.heap.size ≤ q → A q := fun q h => by rw [← hAe]; exact Or.inr h
  have hS : va_S A s.heap s.heap [] := va_S.rf
  have hP : va_P (dC, dI) vwCl [(tn, .inr (7, [.int 0, .int 0, .int 0, .int 0, .int 0, .int 0, .int 0, .int 0, .ref ta0, .ref ta1, .ref ta2, .ref ta3, .ref ta4, .ref ta5, .ref ta6, .ref ta7, .ref ta8, .ref ta9]))] s.heap := hP
  have hl := lv_entry ([.ref tn, .int p1, .int p2, .int p3, .int p4]) (n := 5) (Nat.le_of_ble_eq_true rfl)
  rw [lg_entry_eq]
  generalize (lg_sl ([.ref tn, .int p1, .int p2, .int p3, .int p4]) ++ List.replicate (5 - (lg_sl ([.ref tn, .int p1, .int p2, .int p3, .int p4])).length) Slot.unset).toArray = ls at hl ⊢
  have hl : lv_has ls 5 [(0, .ref tn), (1, .int p1), (2, .int p2), (3, .int p3), (4, .int p4)] := hl
  refine lv_aload_n hx hb dX7_hasTripBy_0 rfl (lv_at hl 0 rfl) ?_
  refine lv_iload_n hx hb dX7_hasTripBy_1 rfl (lv_at hl 1 rfl) ?_
  refine lv_iload_n hx hb dX7_hasTripBy_2 rfl (lv_at hl 2 rfl) ?_
  refine lv_iload_n hx hb dX7_hasTripBy_3 rfl (lv_at hl 3 rfl) ?_
  have hPc := hP.sub (ws' := [(tn, .inr (7, [.int 0, .int 0, .int 0, .int 0, .int 0, .int 0, .int 0, .int 0, .ref ta0, .ref ta1, .ref ta2, .ref ta3, .ref ta4, .ref ta5, .ref ta6, .ref ta7, .ref ta8, .ref ta9]))]) [0] rfl
  have hDc := hD.sub (ws' := [(tn, .inr (7, [.int 0, .int 0, .int 0, .int 0, .int 0, .int 0, .int 0, .int 0, .ref ta0, .ref ta1, .ref ta2, .ref ta3, .ref ta4, .ref ta5, .ref ta6, .ref ta7, .ref ta8, .ref ta9]))]) [0] (by decide) rfl
  have hKc := hK.sub (tys' := []) [] rfl
  have hFc := va_free (wc := [(tn, .inr (7, [.int 0, .int 0, .int 0, .int 0, .int 0, .int 0, .int 0, .int 0, .ref ta0, .ref ta1, .ref ta2, .ref ta3, .ref ta4, .ref ta5, .ref ta6, .ref ta7, .ref ta8, .ref ta9]))]) hD hS hA [0] rfl
  refine va_calli (va_runV (As := [.int p1, .int p2, .int p3]) (rest := []) ⟨hx, hb, hml, hown, hts⟩ (k_X7_hasTrip l dC dI tn p1 p2 p3 ta0 ta1 ta2 ta3 ta4 ta5 ta6 ta7 ta8 ta9 s.heap.size) (cwV 3 hts (z_gV zw_t4_119 zw_t4_22 zw_t4_23 zw_t1_3 zw_t4_24) rfl rfl rfl (by decide +kernel) ⟨(Nat.le_of_ble_eq_true rfl), (Nat.le_of_ble_eq_true rfl)⟩) (z_preV hPc hKc hDc (ci := 7) (q0 := 0) rfl rfl) rfl rfl hl.1 rfl (lv_room (Nat.le_of_ble_eq_true rfl)) dX7_hasTripBy_4 ⟨(Nat.le_of_ble_eq_true rfl), (Nat.le_of_ble_eq_true rfl)⟩) hS (fun q _ h => hFc q h) hFc (fun r_1 u t H1 locs ht hvm hw hB hz1 hk1 hS => ?_)
  obtain ⟨hP, hD, hK⟩ := z_after [] hB ht hvm hP hD hK [0] [] rfl rfl (by decide) (by decide) hk1 hFc
  generalize H1 = H at hP hS ⊢
  have hP : va_P (dC, dI) vwCl [(tn, .inr (7, [.int 0, .int 0, .int 0, .int 0, .int 0, .int 0, .int 0, .int 0, .ref ta0, .ref ta1, .ref ta2, .ref ta3, .ref ta4, .ref ta5, .ref ta6, .ref ta7, .ref ta8, .ref ta9]))] H := hP
  have hD : va_D A [(tn, .inr (7, [.int 0, .int 0, .int 0, .int 0, .int 0, .int 0, .int 0, .int 0, .ref ta0, .ref ta1, .ref ta2, .ref ta3, .ref ta4, .ref ta5, .ref ta6, .ref ta7, .ref ta8, .ref ta9]))] := hD
  have hK : va_K (dC, dI) vwCl [] s := hK
  obtain rfl : r_1 = 0 := hw
  refine lv_if_eq (tgt := 29) hx hb dX7_hasTripBy_7 (by decide) (fun _ => ?_) (fun q => absurd q (by decide))
  refine lv_iconst (v := 0) hx hb dX7_hasTripBy_29 (by decide) ?_
  exact W.zret (v := 0) hx hb hr (by decide) (fun t ht hW => ⟨⟨0, (), rfl, rfl, z_ret hP hK hD ht hW [0] [] rfl (by decide) rfl⟩, hS.F ht⟩) hS.2.2 dX7_hasTripBy_30
set_option maxHeartbeats 4000000 in
set_option maxRecDepth 100000 in
theorem k_X9_fewest (l : Launch) (dC : Nat → ClassId) (dI : Nat → Nat → Nat) (h0 : Nat) (p1 : Int32) (p2 : Int32) (p3 : Int32) (p4 : Int32) (p5 : Int32) (tp : Nat) (nw : Nat) (im : Nat) (sl : Nat) (rd : Nat) (wk : Nat) (fm : Nat) (mt : Nat) (ch : Nat) (dy : Nat) (tn : Nat) (ta0 : Nat) (ta1 : Nat) (ta2 : Nat) (ta3 : Nat) (ta4 : Nat) (ta5 : Nat) (ta6 : Nat) (ta7 : Nat) (ta8 : Nat) (ta9 : Nat)  (sz : Nat) : Met l yX9_fewest (.code yX9_fewest cX9_fewest 7 (some .int) :: zT) ({ frames := 3, cells := 0, slots := 0, locals := 68 }) (va_Pc [.ref h0, .int p1, .int p2, .int p3, .int p4, .int p5] (zB dC dI [(h0, .inr (9, [.ref tp, .int 0, .int 0, .int (-1), .ref nw, .ref im, .ref sl, .ref rd, .ref wk, .ref fm, .ref mt, .ref ch, .ref dy])), (nw, .inr (3, [.int 0, .ref tn, .int 0, .int 0, .int 0, .int 0])), (tn, .inr (7, [.int 0, .int 0, .int 0, .int 0, .int 0, .int 0, .int 0, .int 0, .ref ta0, .ref ta1, .ref ta2, .ref ta3, .ref ta4, .ref ta5, .ref ta6, .ref ta7, .ref ta8, .ref ta9]))] [] sz)) (va_Qi (fun (r : Int32) (_ : Unit) => r = (-2)) (fun _ _ => True) (va_A [(h0, .inr (9, [.ref tp, .int 0, .int 0, .int (-1), .ref nw, .ref im, .ref sl, .ref rd, .ref wk, .ref fm, .ref mt, .ref ch, .ref dy])), (nw, .inr (3, [.int 0, .ref tn, .int 0, .int 0, .int 0, .int 0])), (tn, .inr (7, [.int 0, .int 0, .int 0, .int 0, .int 0, .int 0, .int 0, .int 0, .ref ta0, .ref ta1, .ref ta2, .ref ta3, .ref ta4, .ref ta5, .ref ta6, .ref ta7, .ref ta8, .ref ta9]))] sz)) 0 0 (va_A [(h0, .inr (9, [.ref tp, .int 0, .int 0, .int (-1), .ref nw, .ref im, .ref sl, .ref rd, .ref wk, .ref fm, .ref mt, .ref ch, .ref dy])), (nw, .inr (3, [.int 0, .ref tn, .int 0, .int 0, .int 0, .int 0])), (tn, .inr (7, [.int 0, .int 0, .int 0, .int 0, .int 0, .int 0, .int 0, .int 0, .ref ta0, .ref ta1, .ref ta2, .ref ta3, .ref ta4, .ref ta5, .ref ta6, .ref ta7, .ref ta8, .ref ta9]))] sz) := by
  refine Met.ofW (cc := cX9_fewest) (maxL := 7) (ret := (some .int)) (by decide) rfl ?_
  intro p e s m args below meth c s₁ B hml hv
  obtain ⟨rfl, hsz, hP, hK, hD0⟩ := hv
  have hx := B.exec
  have hb := B.bytes
  have hr := B.returns
  have hts := z_hts (atoms_spec (ws := .code yX9_fewest cX9_fewest 7 (some .int) :: zT) B.pre)
  have hown : s.vm.findClass RX9 = some m.cls := findClass_of_methodNamed B.named
  have hlocks := B.notSynchronized
  subst hsz
  have hD := hD0.self (sz := s.heap.size)
  generalize hAe : va_A [(h0, .inr (9, [.ref tp, .int 0, .int 0, .int (-1), .ref nw, .ref im, .ref sl, .ref rd, .ref wk, .ref fm, .ref mt, .ref ch, .ref dy])), (nw, .inr (3, [.int 0, .ref tn, .int 0, .int 0, .int 0, .int 0])), (tn, .inr (7, [.int 0, .int 0, .int 0, .int 0, .int 0, .int 0, .int 0, .int 0, .ref ta0, .ref ta1, .ref ta2, .ref ta3, .ref ta4, .ref ta5, .ref ta6, .ref ta7, .ref ta8, .ref ta9]))] s.heap.size = A at hD ⊢
  have hA : ∀ q : Nat, s.heap.size ≤ q → A q := fun q h => by rw [← hAe]; exact Or.inr h
  have hS : va_S A s.heap s.heap [] := va_S.rf
  have hP : va_P (dC, dI) vwCl [(h0, .inr (9, [.ref tp, .int 0, .int 0, .int (-1), .ref nw, .ref im, .ref sl, .ref rd, .ref wk, .ref fm, .ref mt, .ref ch, .ref dy])), (nw, .inr (3, [.int 0, .ref tn, .int 0, .int 0, .int 0, .int 0])), (tn, .inr (7, [.int 0, .int 0, .int 0, .int 0, .int 0, .int 0, .int 0, .int 0, .ref ta0, .ref ta1, .ref ta2, .ref ta3, .ref ta4, .ref ta5, .ref ta6, .ref ta7, .ref ta8, .ref ta9]))] s.heap := hP
  have hl := lv_entry ([.ref h0, .int p1, .int p2, .int p3, .int p4, .int p5]) (n := 7) (Nat.le_of_ble_eq_true rfl)
  rw [lg_entry_eq]
  generalize (lg_sl ([.ref h0, .int p1, .int p2, .int p3, .int p4, .int p5]) ++ List.replicate (7 - (lg_sl ([.ref h0, .int p1, .int p2, .int p3, .int p4, .int p5])).length) Slot.unset).toArray = ls at hl ⊢
  have hl : lv_has ls 7 [(0, .ref h0), (1, .int p1), (2, .int p2), (3, .int p3), (4, .int p4), (5, .int p5)] := hl
  refine lv_aload_n hx hb dX9_fewest_0 rfl (lv_at hl 0 rfl) ?_
  refine va_get (D := (dC, dI)) (ci := 9) (v := .ref nw) (C := RX9) (T := TX9) (N := 13) hx hb hts zl_X9 hown hK hP 0 rfl rfl 4 (by decide) (hts _ zw_t2_193) (fun _ h9 => h9) rfl dX9_fewest_1 ?_
  refine va_get (D := (dC, dI)) (ci := 3) (v := .ref tn) (C := RX3) (T := TX3) (N := 6) hx hb hts zl_X3 hown hK hP 1 rfl rfl 1 (by decide) (hts _ zw_t1_156) (fun _ h9 => h9) rfl dX9_fewest_4 ?_
  refine lv_astore (lv' := [(6, .ref tn), (0, .ref h0), (1, .int p1), (2, .int p2), (3, .int p3), (4, .int p4), (5, .int p5)]) hx hb dX9_fewest_7 hl (by decide) rfl (fun ls hl => ?_)
  refine lv_aload hx hb dX9_fewest_9 (lv_at hl 0 rfl) ?_
  refine lv_iload_n hx hb dX9_fewest_11 rfl (lv_at hl 2 rfl) ?_
  refine lv_iload_n hx hb dX9_fewest_12 rfl (lv_at hl 3 rfl) ?_
  refine lv_iload_n hx hb dX9_fewest_13 rfl (lv_at hl 4 rfl) ?_
  refine lv_iload hx hb dX9_fewest_14 (lv_at hl 5 rfl) ?_
  have hPc := hP.sub (ws' := [(tn, .inr (7, [.int 0, .int 0, .int 0, .int 0, .int 0, .int 0, .int 0, .int 0, .ref ta0, .ref ta1, .ref ta2, .ref ta3, .ref ta4, .ref ta5, .ref ta6, .ref ta7, .ref ta8, .ref ta9]))]) [2] rfl
  have hDc := hD.sub (ws' := [(tn, .inr (7, [.int 0, .int 0, .int 0, .int 0, .int 0, .int 0, .int 0, .int 0, .ref ta0, .ref ta1, .ref ta2, .ref ta3, .ref ta4, .ref ta5, .ref ta6, .ref ta7, .ref ta8, .ref ta9]))]) [2] (by decide) rfl
  have hKc := hK.sub (tys' := []) [] rfl
  have hFc := va_free (wc := [(tn, .inr (7, [.int 0, .int 0, .int 0, .int 0, .int 0, .int 0, .int 0, .int 0, .ref ta0, .ref ta1, .ref ta2, .ref ta3, .ref ta4, .ref ta5, .ref ta6, .ref ta7, .ref ta8, .ref ta9]))]) hD hS hA [2] rfl
  refine va_calli (va_runV (As := [.int p1, .int p2, .int p3, .int p4]) (rest := []) ⟨hx, hb, hml, hown, hts⟩ (k_X7_hasTripBy l dC dI tn p1 p2 p3 p4 ta0 ta1 ta2 ta3 ta4 ta5 ta6 ta7 ta8 ta9 s.heap.size) (cwV 4 hts (z_gV zw_t4_115 zw_t4_116 zw_t4_117 zw_t1_3 zw_t4_118) rfl rfl rfl (by decide +kernel) ⟨(Nat.le_of_ble_eq_true rfl), (Nat.le_of_ble_eq_true rfl)⟩) (z_preV hPc hKc hDc (ci := 7) (q0 := 0) rfl rfl) rfl rfl hl.1 rfl (lv_room (Nat.le_of_ble_eq_true rfl)) dX9_fewest_16 ⟨(Nat.le_of_ble_eq_true rfl), (Nat.le_of_ble_eq_true rfl)⟩) hS (fun q _ h => hFc q h) hFc (fun r_1 u t H1 locs ht hvm hw hB hz1 hk1 hS => ?_)
  obtain ⟨hP, hD, hK⟩ := z_after [(h0, .inr (9, [.ref tp, .int 0, .int 0, .int (-1), .ref nw, .ref im, .ref sl, .ref rd, .ref wk, .ref fm, .ref mt, .ref ch, .ref dy])), (nw, .inr (3, [.int 0, .ref tn, .int 0, .int 0, .int 0, .int 0]))] hB ht hvm hP hD hK [2] [0, 1] rfl rfl (by decide) (by decide) hk1 hFc
  generalize H1 = H at hP hS ⊢
  have hP : va_P (dC, dI) vwCl [(h0, .inr (9, [.ref tp, .int 0, .int 0, .int (-1), .ref nw, .ref im, .ref sl, .ref rd, .ref wk, .ref fm, .ref mt, .ref ch, .ref dy])), (nw, .inr (3, [.int 0, .ref tn, .int 0, .int 0, .int 0, .int 0])), (tn, .inr (7, [.int 0, .int 0, .int 0, .int 0, .int 0, .int 0, .int 0, .int 0, .ref ta0, .ref ta1, .ref ta2, .ref ta3, .ref ta4, .ref ta5, .ref ta6, .ref ta7, .ref ta8, .ref ta9]))] H := hP
  have hD : va_D A [(h0, .inr (9, [.ref tp, .int 0, .int 0, .int (-1), .ref nw, .ref im, .ref sl, .ref rd, .ref wk, .ref fm, .ref mt, .ref ch, .ref dy])), (nw, .inr (3, [.int 0, .ref tn, .int 0, .int 0, .int 0, .int 0])), (tn, .inr (7, [.int 0, .int 0, .int 0, .int 0, .int 0, .int 0, .int 0, .int 0, .ref ta0, .ref ta1, .ref ta2, .ref ta3, .ref ta4, .ref ta5, .ref ta6, .ref ta7, .ref ta8, .ref ta9]))] := hD
  have hK : va_K (dC, dI) vwCl [] s := hK
  obtain rfl : r_1 = 0 := hw
  refine lv_if_eq (tgt := 33) hx hb dX9_fewest_19 (by decide) (fun _ => ?_) (fun q => absurd q (by decide))
  refine lv_bipush (v := (-2)) hx hb dX9_fewest_33 (by decide) ?_
  exact W.iret (v := (-2)) hx hb hr (fun t ht hW => ⟨⟨(-2), (), rfl, rfl, trivial⟩, hS.F ht⟩) hS.2.2 dX9_fewest_35
set_option maxHeartbeats 4000000 in
set_option maxRecDepth 100000 in
theorem k_X9_every (l : Launch) (dC : Nat → ClassId) (dI : Nat → Nat → Nat) (h0 : Nat) (p1 : Int32) (tp : Nat) (nw : Nat) (im : Nat) (sl : Nat) (rd : Nat) (wk : Nat) (fm : Nat) (mt : Nat) (ch : Nat) (dy : Nat) (tn : Nat) (ta0 : Nat) (ta1 : Nat) (ta2 : Nat) (ta3 : Nat) (ta4 : Nat) (ta5 : Nat) (ta6 : Nat) (ta7 : Nat) (ta8 : Nat) (ta9 : Nat)  (sz : Nat) : Met l yX9_every (.code yX9_every cX9_every 3 (some .int) :: zT) ({ frames := 1, cells := 0, slots := 0, locals := 21 }) (va_Pc [.ref h0, .int p1] (zB dC dI [(h0, .inr (9, [.ref tp, .int 0, .int 0, .int (-1), .ref nw, .ref im, .ref sl, .ref rd, .ref wk, .ref fm, .ref mt, .ref ch, .ref dy])), (nw, .inr (3, [.int 0, .ref tn, .int 0, .int 0, .int 0, .int 0])), (tn, .inr (7, [.int 0, .int 0, .int 0, .int 0, .int 0, .int 0, .int 0, .int 0, .ref ta0, .ref ta1, .ref ta2, .ref ta3, .ref ta4, .ref ta5, .ref ta6, .ref ta7, .ref ta8, .ref ta9]))] [] sz)) (va_Qi (fun (r : Int32) (_ : Unit) => r = (-2)) (fun _ _ => True) (va_A [(h0, .inr (9, [.ref tp, .int 0, .int 0, .int (-1), .ref nw, .ref im, .ref sl, .ref rd, .ref wk, .ref fm, .ref mt, .ref ch, .ref dy])), (nw, .inr (3, [.int 0, .ref tn, .int 0, .int 0, .int 0, .int 0])), (tn, .inr (7, [.int 0, .int 0, .int 0, .int 0, .int 0, .int 0, .int 0, .int 0, .ref ta0, .ref ta1, .ref ta2, .ref ta3, .ref ta4, .ref ta5, .ref ta6, .ref ta7, .ref ta8, .ref ta9]))] sz)) 0 0 (va_A [(h0, .inr (9, [.ref tp, .int 0, .int 0, .int (-1), .ref nw, .ref im, .ref sl, .ref rd, .ref wk, .ref fm, .ref mt, .ref ch, .ref dy])), (nw, .inr (3, [.int 0, .ref tn, .int 0, .int 0, .int 0, .int 0])), (tn, .inr (7, [.int 0, .int 0, .int 0, .int 0, .int 0, .int 0, .int 0, .int 0, .ref ta0, .ref ta1, .ref ta2, .ref ta3, .ref ta4, .ref ta5, .ref ta6, .ref ta7, .ref ta8, .ref ta9]))] sz) := by
  refine Met.ofW (cc := cX9_every) (maxL := 3) (ret := (some .int)) (by decide) rfl ?_
  intro p e s m args below meth c s₁ B hml hv
  obtain ⟨rfl, hsz, hP, hK, hD0⟩ := hv
  have hx := B.exec
  have hb := B.bytes
  have hr := B.returns
  have hts := z_hts (atoms_spec (ws := .code yX9_every cX9_every 3 (some .int) :: zT) B.pre)
  have hown : s.vm.findClass RX9 = some m.cls := findClass_of_methodNamed B.named
  have hlocks := B.notSynchronized
  subst hsz
  have hD := hD0.self (sz := s.heap.size)
  generalize hAe : va_A [(h0, .inr (9, [.ref tp, .int 0, .int 0, .int (-1), .ref nw, .ref im, .ref sl, .ref rd, .ref wk, .ref fm, .ref mt, .ref ch, .ref dy])), (nw, .inr (3, [.int 0, .ref tn, .int 0, .int 0, .int 0, .int 0])), (tn, .inr (7, [.int 0, .int 0, .int 0, .int 0, .int 0, .int 0, .int 0, .int 0, .ref ta0, .ref ta1, .ref ta2, .ref ta3, .ref ta4, .ref ta5, .ref ta6, .ref ta7, .ref ta8, .ref ta9]))] s.heap.size = A at hD ⊢
  have hA : ∀ q : Nat, s.heap.size ≤ q → A q := fun q h => by rw [← hAe]; exact Or.inr h
  have hS : va_S A s.heap s.heap [] := va_S.rf
  have hP : va_P (dC, dI) vwCl [(h0, .inr (9, [.ref tp, .int 0, .int 0, .int (-1), .ref nw, .ref im, .ref sl, .ref rd, .ref wk, .ref fm, .ref mt, .ref ch, .ref dy])), (nw, .inr (3, [.int 0, .ref tn, .int 0, .int 0, .int 0, .int 0])), (tn, .inr (7, [.int 0, .int 0, .int 0, .int 0, .int 0, .int 0, .int 0, .int 0, .ref ta0, .ref ta1, .ref ta2, .ref ta3, .ref ta4, .ref ta5, .ref ta6, .ref ta7, .ref ta8, .ref ta9]))] s.heap := hP
  have hl := lv_entry ([.ref h0, .int p1]) (n := 3) (Nat.le_of_ble_eq_true rfl)
  rw [lg_entry_eq]
  generalize (lg_sl ([.ref h0, .int p1]) ++ List.replicate (3 - (lg_sl ([.ref h0, .int p1])).length) Slot.unset).toArray = ls at hl ⊢
  have hl : lv_has ls 3 [(0, .ref h0), (1, .int p1)] := hl
  refine lv_aload_n hx hb dX9_every_0 rfl (lv_at hl 0 rfl) ?_
  refine va_get (D := (dC, dI)) (ci := 9) (v := .ref nw) (C := RX9) (T := TX9) (N := 13) hx hb hts zl_X9 hown hK hP 0 rfl rfl 4 (by decide) (hts _ zw_t2_193) (fun _ h9 => h9) rfl dX9_every_1 ?_
  refine va_get (D := (dC, dI)) (ci := 3) (v := .ref tn) (C := RX3) (T := TX3) (N := 6) hx hb hts zl_X3 hown hK hP 1 rfl rfl 1 (by decide) (hts _ zw_t1_156) (fun _ h9 => h9) rfl dX9_every_4 ?_
  refine lv_astore_n (lv' := [(2, .ref tn), (0, .ref h0), (1, .int p1)]) hx hb dX9_every_7 rfl hl (by decide) rfl (fun ls hl => ?_)
  refine lv_aload_n hx hb dX9_every_8 rfl (lv_at hl 0 rfl) ?_
  refine lv_iconst (v := 0) hx hb dX9_every_9 (by decide) ?_
  have hPc := hP.sub (ws' := [(tn, .inr (7, [.int 0, .int 0, .int 0, .int 0, .int 0, .int 0, .int 0, .int 0, .ref ta0, .ref ta1, .ref ta2, .ref ta3, .ref ta4, .ref ta5, .ref ta6, .ref ta7, .ref ta8, .ref ta9]))]) [2] rfl
  have hDc := hD.sub (ws' := [(tn, .inr (7, [.int 0, .int 0, .int 0, .int 0, .int 0, .int 0, .int 0, .int 0, .ref ta0, .ref ta1, .ref ta2, .ref ta3, .ref ta4, .ref ta5, .ref ta6, .ref ta7, .ref ta8, .ref ta9]))]) [2] (by decide) rfl
  have hKc := hK.sub (tys' := []) [] rfl
  have hFc := va_free (wc := [(tn, .inr (7, [.int 0, .int 0, .int 0, .int 0, .int 0, .int 0, .int 0, .int 0, .ref ta0, .ref ta1, .ref ta2, .ref ta3, .ref ta4, .ref ta5, .ref ta6, .ref ta7, .ref ta8, .ref ta9]))]) hD hS hA [2] rfl
  refine va_calli (va_runV (As := [.int 0]) (rest := []) ⟨hx, hb, hml, hown, hts⟩ (k_X7_hasCourt l dC dI tn (0) ta0 ta1 ta2 ta3 ta4 ta5 ta6 ta7 ta8 ta9 s.heap.size) (cwV 1 hts (z_gV zw_t3_197 zw_t3_198 zw_t3_199 zw_t1_3 zw_t3_200) rfl rfl rfl (by decide +kernel) ⟨(Nat.le_of_ble_eq_true rfl), (Nat.le_of_ble_eq_true rfl)⟩) (z_preV hPc hKc hDc (ci := 7) (q0 := 0) rfl rfl) rfl rfl hl.1 rfl (lv_room (Nat.le_of_ble_eq_true rfl)) dX9_every_10 ⟨(Nat.le_of_ble_eq_true rfl), (Nat.le_of_ble_eq_true rfl)⟩) hS (fun q _ h => hFc q h) hFc (fun r_1 u t H1 locs ht hvm hw hB hz1 hk1 hS => ?_)
  obtain ⟨hP, hD, hK⟩ := z_after [(h0, .inr (9, [.ref tp, .int 0, .int 0, .int (-1), .ref nw, .ref im, .ref sl, .ref rd, .ref wk, .ref fm, .ref mt, .ref ch, .ref dy])), (nw, .inr (3, [.int 0, .ref tn, .int 0, .int 0, .int 0, .int 0]))] hB ht hvm hP hD hK [2] [0, 1] rfl rfl (by decide) (by decide) hk1 hFc
  generalize H1 = H at hP hS ⊢
  have hP : va_P (dC, dI) vwCl [(h0, .inr (9, [.ref tp, .int 0, .int 0, .int (-1), .ref nw, .ref im, .ref sl, .ref rd, .ref wk, .ref fm, .ref mt, .ref ch, .ref dy])), (nw, .inr (3, [.int 0, .ref tn, .int 0, .int 0, .int 0, .int 0])), (tn, .inr (7, [.int 0, .int 0, .int 0, .int 0, .int 0, .int 0, .int 0, .int 0, .ref ta0, .ref ta1, .ref ta2, .ref ta3, .ref ta4, .ref ta5, .ref ta6, .ref ta7, .ref ta8, .ref ta9]))] H := hP
  have hD : va_D A [(h0, .inr (9, [.ref tp, .int 0, .int 0, .int (-1), .ref nw, .ref im, .ref sl, .ref rd, .ref wk, .ref fm, .ref mt, .ref ch, .ref dy])), (nw, .inr (3, [.int 0, .ref tn, .int 0, .int 0, .int 0, .int 0])), (tn, .inr (7, [.int 0, .int 0, .int 0, .int 0, .int 0, .int 0, .int 0, .int 0, .ref ta0, .ref ta1, .ref ta2, .ref ta3, .ref ta4, .ref ta5, .ref ta6, .ref ta7, .ref ta8, .ref ta9]))] := hD
  have hK : va_K (dC, dI) vwCl [] s := hK
  obtain rfl : r_1 = 0 := hw
  refine lv_if_eq (tgt := 25) hx hb dX9_every_13 (by decide) (fun _ => ?_) (fun q => absurd q (by decide))
  refine lv_bipush (v := (-2)) hx hb dX9_every_25 (by decide) ?_
  exact W.iret (v := (-2)) hx hb hr (fun t ht hW => ⟨⟨(-2), (), rfl, rfl, trivial⟩, hS.F ht⟩) hS.2.2 dX9_every_27
set_option maxHeartbeats 4000000 in
set_option maxRecDepth 100000 in
theorem k_X9_ways (l : Launch) (dC : Nat → ClassId) (dI : Nat → Nat → Nat) (h0 : Nat) (p1 : Int32) (p2 : Int32) (p3 : Int32) (p4 : Int32) (tp : Nat) (nw : Nat) (im : Nat) (sl : Nat) (rd : Nat) (wk : Nat) (fm : Nat) (mt : Nat) (ch : Nat) (dy : Nat) (tn : Nat) (ta0 : Nat) (ta1 : Nat) (ta2 : Nat) (ta3 : Nat) (ta4 : Nat) (ta5 : Nat) (ta6 : Nat) (ta7 : Nat) (ta8 : Nat) (ta9 : Nat)  (sz : Nat) : Met l yX9_ways (.code yX9_ways cX9_ways 6 (some .int) :: zT) ({ frames := 3, cells := 0, slots := 0, locals := 68 }) (va_Pc [.ref h0, .int p1, .int p2, .int p3, .int p4] (zB dC dI [(h0, .inr (9, [.ref tp, .int 0, .int 0, .int (-1), .ref nw, .ref im, .ref sl, .ref rd, .ref wk, .ref fm, .ref mt, .ref ch, .ref dy])), (nw, .inr (3, [.int 0, .ref tn, .int 0, .int 0, .int 0, .int 0])), (tn, .inr (7, [.int 0, .int 0, .int 0, .int 0, .int 0, .int 0, .int 0, .int 0, .ref ta0, .ref ta1, .ref ta2, .ref ta3, .ref ta4, .ref ta5, .ref ta6, .ref ta7, .ref ta8, .ref ta9]))] [] sz)) (va_Qi (fun (r : Int32) (_ : Unit) => r = (-2)) (fun _ _ => True) (va_A [(h0, .inr (9, [.ref tp, .int 0, .int 0, .int (-1), .ref nw, .ref im, .ref sl, .ref rd, .ref wk, .ref fm, .ref mt, .ref ch, .ref dy])), (nw, .inr (3, [.int 0, .ref tn, .int 0, .int 0, .int 0, .int 0])), (tn, .inr (7, [.int 0, .int 0, .int 0, .int 0, .int 0, .int 0, .int 0, .int 0, .ref ta0, .ref ta1, .ref ta2, .ref ta3, .ref ta4, .ref ta5, .ref ta6, .ref ta7, .ref ta8, .ref ta9]))] sz)) 0 0 (va_A [(h0, .inr (9, [.ref tp, .int 0, .int 0, .int (-1), .ref nw, .ref im, .ref sl, .ref rd, .ref wk, .ref fm, .ref mt, .ref ch, .ref dy])), (nw, .inr (3, [.int 0, .ref tn, .int 0, .int 0, .int 0, .int 0])), (tn, .inr (7, [.int 0, .int 0, .int 0, .int 0, .int 0, .int 0, .int 0, .int 0, .ref ta0, .ref ta1, .ref ta2, .ref ta3, .ref ta4, .ref ta5, .ref ta6, .ref ta7, .ref ta8, .ref ta9]))] sz) := by
  refine Met.ofW (cc := cX9_ways) (maxL := 6) (ret := (some .int)) (by decide) rfl ?_
  intro p e s m args below meth c s₁ B hml hv
  obtain ⟨rfl, hsz, hP, hK, hD0⟩ := hv
  have hx := B.exec
  have hb := B.bytes
  have hr := B.returns
  have hts := z_hts (atoms_spec (ws := .code yX9_ways cX9_ways 6 (some .int) :: zT) B.pre)
  have hown : s.vm.findClass RX9 = some m.cls := findClass_of_methodNamed B.named
  have hlocks := B.notSynchronized
  subst hsz
  have hD := hD0.self (sz := s.heap.size)
  generalize hAe : va_A [(h0, .inr (9, [.ref tp, .int 0, .int 0, .int (-1), .ref nw, .ref im, .ref sl, .ref rd, .ref wk, .ref fm, .ref mt, .ref ch, .ref dy])), (nw, .inr (3, [.int 0, .ref tn, .int 0, .int 0, .int 0, .int 0])), (tn, .inr (7, [.int 0, .int 0, .int 0, .int 0, .int 0, .int 0, .int 0, .int 0, .ref ta0, .ref ta1, .ref ta2, .ref ta3, .ref ta4, .ref ta5, .ref ta6, .ref ta7, .ref ta8, .ref ta9]))] s.heap.size = A at hD ⊢
  have hA : ∀ q : Nat, s.heap.size ≤ q → A q := fun q h => by rw [← hAe]; exact Or.inr h
  have hS : va_S A s.heap s.heap [] := va_S.rf
  have hP : va_P (dC, dI) vwCl [(h0, .inr (9, [.ref tp, .int 0, .int 0, .int (-1), .ref nw, .ref im, .ref sl, .ref rd, .ref wk, .ref fm, .ref mt, .ref ch, .ref dy])), (nw, .inr (3, [.int 0, .ref tn, .int 0, .int 0, .int 0, .int 0])), (tn, .inr (7, [.int 0, .int 0, .int 0, .int 0, .int 0, .int 0, .int 0, .int 0, .ref ta0, .ref ta1, .ref ta2, .ref ta3, .ref ta4, .ref ta5, .ref ta6, .ref ta7, .ref ta8, .ref ta9]))] s.heap := hP
  have hl := lv_entry ([.ref h0, .int p1, .int p2, .int p3, .int p4]) (n := 6) (Nat.le_of_ble_eq_true rfl)
  rw [lg_entry_eq]
  generalize (lg_sl ([.ref h0, .int p1, .int p2, .int p3, .int p4]) ++ List.replicate (6 - (lg_sl ([.ref h0, .int p1, .int p2, .int p3, .int p4])).length) Slot.unset).toArray = ls at hl ⊢
  have hl : lv_has ls 6 [(0, .ref h0), (1, .int p1), (2, .int p2), (3, .int p3), (4, .int p4)] := hl
  refine lv_aload_n hx hb dX9_ways_0 rfl (lv_at hl 0 rfl) ?_
  refine va_get (D := (dC, dI)) (ci := 9) (v := .ref nw) (C := RX9) (T := TX9) (N := 13) hx hb hts zl_X9 hown hK hP 0 rfl rfl 4 (by decide) (hts _ zw_t2_193) (fun _ h9 => h9) rfl dX9_ways_1 ?_
  refine va_get (D := (dC, dI)) (ci := 3) (v := .ref tn) (C := RX3) (T := TX3) (N := 6) hx hb hts zl_X3 hown hK hP 1 rfl rfl 1 (by decide) (hts _ zw_t1_156) (fun _ h9 => h9) rfl dX9_ways_4 ?_
  refine lv_astore (lv' := [(5, .ref tn), (0, .ref h0), (1, .int p1), (2, .int p2), (3, .int p3), (4, .int p4)]) hx hb dX9_ways_7 hl (by decide) rfl (fun ls hl => ?_)
  refine lv_aload hx hb dX9_ways_9 (lv_at hl 0 rfl) ?_
  refine lv_iload_n hx hb dX9_ways_11 rfl (lv_at hl 2 rfl) ?_
  refine lv_iload_n hx hb dX9_ways_12 rfl (lv_at hl 3 rfl) ?_
  refine lv_iload_n hx hb dX9_ways_13 rfl (lv_at hl 4 rfl) ?_
  refine lv_iload hx hb dX9_ways_14 (lv_at hl 5 rfl) ?_
  have hPc := hP.sub (ws' := [(tn, .inr (7, [.int 0, .int 0, .int 0, .int 0, .int 0, .int 0, .int 0, .int 0, .ref ta0, .ref ta1, .ref ta2, .ref ta3, .ref ta4, .ref ta5, .ref ta6, .ref ta7, .ref ta8, .ref ta9]))]) [2] rfl
  have hDc := hD.sub (ws' := [(tn, .inr (7, [.int 0, .int 0, .int 0, .int 0, .int 0, .int 0, .int 0, .int 0, .ref ta0, .ref ta1, .ref ta2, .ref ta3, .ref ta4, .ref ta5, .ref ta6, .ref ta7, .ref ta8, .ref ta9]))]) [2] (by decide) rfl
  have hKc := hK.sub (tys' := []) [] rfl
  have hFc := va_free (wc := [(tn, .inr (7, [.int 0, .int 0, .int 0, .int 0, .int 0, .int 0, .int 0, .int 0, .ref ta0, .ref ta1, .ref ta2, .ref ta3, .ref ta4, .ref ta5, .ref ta6, .ref ta7, .ref ta8, .ref ta9]))]) hD hS hA [2] rfl
  refine va_calli (va_runV (As := [.int p1, .int p2, .int p3, .int p4]) (rest := []) ⟨hx, hb, hml, hown, hts⟩ (k_X7_hasTripBy l dC dI tn p1 p2 p3 p4 ta0 ta1 ta2 ta3 ta4 ta5 ta6 ta7 ta8 ta9 s.heap.size) (cwV 4 hts (z_gV zw_t4_115 zw_t4_116 zw_t4_117 zw_t1_3 zw_t4_118) rfl rfl rfl (by decide +kernel) ⟨(Nat.le_of_ble_eq_true rfl), (Nat.le_of_ble_eq_true rfl)⟩) (z_preV hPc hKc hDc (ci := 7) (q0 := 0) rfl rfl) rfl rfl hl.1 rfl (lv_room (Nat.le_of_ble_eq_true rfl)) dX9_ways_16 ⟨(Nat.le_of_ble_eq_true rfl), (Nat.le_of_ble_eq_true rfl)⟩) hS (fun q _ h => hFc q h) hFc (fun r_1 u t H1 locs ht hvm hw hB hz1 hk1 hS => ?_)
  obtain ⟨hP, hD, hK⟩ := z_after [(h0, .inr (9, [.ref tp, .int 0, .int 0, .int (-1), .ref nw, .ref im, .ref sl, .ref rd, .ref wk, .ref fm, .ref mt, .ref ch, .ref dy])), (nw, .inr (3, [.int 0, .ref tn, .int 0, .int 0, .int 0, .int 0]))] hB ht hvm hP hD hK [2] [0, 1] rfl rfl (by decide) (by decide) hk1 hFc
  generalize H1 = H at hP hS ⊢
  have hP : va_P (dC, dI) vwCl [(h0, .inr (9, [.ref tp, .int 0, .int 0, .int (-1), .ref nw, .ref im, .ref sl, .ref rd, .ref wk, .ref fm, .ref mt, .ref ch, .ref dy])), (nw, .inr (3, [.int 0, .ref tn, .int 0, .int 0, .int 0, .int 0])), (tn, .inr (7, [.int 0, .int 0, .int 0, .int 0, .int 0, .int 0, .int 0, .int 0, .ref ta0, .ref ta1, .ref ta2, .ref ta3, .ref ta4, .ref ta5, .ref ta6, .ref ta7, .ref ta8, .ref ta9]))] H := hP
  have hD : va_D A [(h0, .inr (9, [.ref tp, .int 0, .int 0, .int (-1), .ref nw, .ref im, .ref sl, .ref rd, .ref wk, .ref fm, .ref mt, .ref ch, .ref dy])), (nw, .inr (3, [.int 0, .ref tn, .int 0, .int 0, .int 0, .int 0])), (tn, .inr (7, [.int 0, .int 0, .int 0, .int 0, .int 0, .int 0, .int 0, .int 0, .ref ta0, .ref ta1, .ref ta2, .ref ta3, .ref ta4, .ref ta5, .ref ta6, .ref ta7, .ref ta8, .ref ta9]))] := hD
  have hK : va_K (dC, dI) vwCl [] s := hK
  obtain rfl : r_1 = 0 := hw
  refine lv_if_eq (tgt := 28) hx hb dX9_ways_19 (by decide) (fun _ => ?_) (fun q => absurd q (by decide))
  refine lv_bipush (v := (-2)) hx hb dX9_ways_28 (by decide) ?_
  exact W.iret (v := (-2)) hx hb hr (fun t ht hW => ⟨⟨(-2), (), rfl, rfl, trivial⟩, hS.F ht⟩) hS.2.2 dX9_ways_30
set_option maxHeartbeats 4000000 in
set_option maxRecDepth 100000 in
theorem k_X9_out (l : Launch) (dC : Nat → ClassId) (dI : Nat → Nat → Nat) (h0 : Nat) (p1 : Int32) (p2 : Int32) (p3 : Int32) (p4 : Int32) (tp : Nat) (nw : Nat) (im : Nat) (sl : Nat) (rd : Nat) (wk : Nat) (fm : Nat) (mt : Nat) (ch : Nat) (dy : Nat) (tn : Nat) (ta0 : Nat) (ta1 : Nat) (ta2 : Nat) (ta3 : Nat) (ta4 : Nat) (ta5 : Nat) (ta6 : Nat) (ta7 : Nat) (ta8 : Nat) (ta9 : Nat)  (sz : Nat) : Met l yX9_out (.code yX9_out cX9_out 6 (some .int) :: zT) ({ frames := 2, cells := 0, slots := 0, locals := 44 }) (va_Pc [.ref h0, .int p1, .int p2, .int p3, .int p4] (zB dC dI [(h0, .inr (9, [.ref tp, .int 0, .int 0, .int (-1), .ref nw, .ref im, .ref sl, .ref rd, .ref wk, .ref fm, .ref mt, .ref ch, .ref dy])), (nw, .inr (3, [.int 0, .ref tn, .int 0, .int 0, .int 0, .int 0])), (tn, .inr (7, [.int 0, .int 0, .int 0, .int 0, .int 0, .int 0, .int 0, .int 0, .ref ta0, .ref ta1, .ref ta2, .ref ta3, .ref ta4, .ref ta5, .ref ta6, .ref ta7, .ref ta8, .ref ta9]))] [] sz)) (va_Qi (fun (r : Int32) (_ : Unit) => r = (-2)) (fun _ _ => True) (va_A [(h0, .inr (9, [.ref tp, .int 0, .int 0, .int (-1), .ref nw, .ref im, .ref sl, .ref rd, .ref wk, .ref fm, .ref mt, .ref ch, .ref dy])), (nw, .inr (3, [.int 0, .ref tn, .int 0, .int 0, .int 0, .int 0])), (tn, .inr (7, [.int 0, .int 0, .int 0, .int 0, .int 0, .int 0, .int 0, .int 0, .ref ta0, .ref ta1, .ref ta2, .ref ta3, .ref ta4, .ref ta5, .ref ta6, .ref ta7, .ref ta8, .ref ta9]))] sz)) 0 0 (va_A [(h0, .inr (9, [.ref tp, .int 0, .int 0, .int (-1), .ref nw, .ref im, .ref sl, .ref rd, .ref wk, .ref fm, .ref mt, .ref ch, .ref dy])), (nw, .inr (3, [.int 0, .ref tn, .int 0, .int 0, .int 0, .int 0])), (tn, .inr (7, [.int 0, .int 0, .int 0, .int 0, .int 0, .int 0, .int 0, .int 0, .ref ta0, .ref ta1, .ref ta2, .ref ta3, .ref ta4, .ref ta5, .ref ta6, .ref ta7, .ref ta8, .ref ta9]))] sz) := by
  refine Met.ofW (cc := cX9_out) (maxL := 6) (ret := (some .int)) (by decide) rfl ?_
  intro p e s m args below meth c s₁ B hml hv
  obtain ⟨rfl, hsz, hP, hK, hD0⟩ := hv
  have hx := B.exec
  have hb := B.bytes
  have hr := B.returns
  have hts := z_hts (atoms_spec (ws := .code yX9_out cX9_out 6 (some .int) :: zT) B.pre)
  have hown : s.vm.findClass RX9 = some m.cls := findClass_of_methodNamed B.named
  have hlocks := B.notSynchronized
  subst hsz
  have hD := hD0.self (sz := s.heap.size)
  generalize hAe : va_A [(h0, .inr (9, [.ref tp, .int 0, .int 0, .int (-1), .ref nw, .ref im, .ref sl, .ref rd, .ref wk, .ref fm, .ref mt, .ref ch, .ref dy])), (nw, .inr (3, [.int 0, .ref tn, .int 0, .int 0, .int 0, .int 0])), (tn, .inr (7, [.int 0, .int 0, .int 0, .int 0, .int 0, .int 0, .int 0, .int 0, .ref ta0, .ref ta1, .ref ta2, .ref ta3, .ref ta4, .ref ta5, .ref ta6, .ref ta7, .ref ta8, .ref ta9]))] s.heap.size = A at hD ⊢
  have hA : ∀ q : Nat, s.heap.size ≤ q → A q := fun q h => by rw [← hAe]; exact Or.inr h
  have hS : va_S A s.heap s.heap [] := va_S.rf
  have hP : va_P (dC, dI) vwCl [(h0, .inr (9, [.ref tp, .int 0, .int 0, .int (-1), .ref nw, .ref im, .ref sl, .ref rd, .ref wk, .ref fm, .ref mt, .ref ch, .ref dy])), (nw, .inr (3, [.int 0, .ref tn, .int 0, .int 0, .int 0, .int 0])), (tn, .inr (7, [.int 0, .int 0, .int 0, .int 0, .int 0, .int 0, .int 0, .int 0, .ref ta0, .ref ta1, .ref ta2, .ref ta3, .ref ta4, .ref ta5, .ref ta6, .ref ta7, .ref ta8, .ref ta9]))] s.heap := hP
  have hl := lv_entry ([.ref h0, .int p1, .int p2, .int p3, .int p4]) (n := 6) (Nat.le_of_ble_eq_true rfl)
  rw [lg_entry_eq]
  generalize (lg_sl ([.ref h0, .int p1, .int p2, .int p3, .int p4]) ++ List.replicate (6 - (lg_sl ([.ref h0, .int p1, .int p2, .int p3, .int p4])).length) Slot.unset).toArray = ls at hl ⊢
  have hl : lv_has ls 6 [(0, .ref h0), (1, .int p1), (2, .int p2), (3, .int p3), (4, .int p4)] := hl
  refine lv_aload_n hx hb dX9_out_0 rfl (lv_at hl 0 rfl) ?_
  refine va_get (D := (dC, dI)) (ci := 9) (v := .ref nw) (C := RX9) (T := TX9) (N := 13) hx hb hts zl_X9 hown hK hP 0 rfl rfl 4 (by decide) (hts _ zw_t2_193) (fun _ h9 => h9) rfl dX9_out_1 ?_
  refine va_get (D := (dC, dI)) (ci := 3) (v := .ref tn) (C := RX3) (T := TX3) (N := 6) hx hb hts zl_X3 hown hK hP 1 rfl rfl 1 (by decide) (hts _ zw_t1_156) (fun _ h9 => h9) rfl dX9_out_4 ?_
  refine lv_astore (lv' := [(5, .ref tn), (0, .ref h0), (1, .int p1), (2, .int p2), (3, .int p3), (4, .int p4)]) hx hb dX9_out_7 hl (by decide) rfl (fun ls hl => ?_)
  refine lv_aload hx hb dX9_out_9 (lv_at hl 0 rfl) ?_
  refine lv_iload_n hx hb dX9_out_11 rfl (lv_at hl 2 rfl) ?_
  refine lv_iload_n hx hb dX9_out_12 rfl (lv_at hl 3 rfl) ?_
  refine lv_iload_n hx hb dX9_out_13 rfl (lv_at hl 4 rfl) ?_
  have hPc := hP.sub (ws' := [(tn, .inr (7, [.int 0, .int 0, .int 0, .int 0, .int 0, .int 0, .int 0, .int 0, .ref ta0, .ref ta1, .ref ta2, .ref ta3, .ref ta4, .ref ta5, .ref ta6, .ref ta7, .ref ta8, .ref ta9]))]) [2] rfl
  have hDc := hD.sub (ws' := [(tn, .inr (7, [.int 0, .int 0, .int 0, .int 0, .int 0, .int 0, .int 0, .int 0, .ref ta0, .ref ta1, .ref ta2, .ref ta3, .ref ta4, .ref ta5, .ref ta6, .ref ta7, .ref ta8, .ref ta9]))]) [2] (by decide) rfl
  have hKc := hK.sub (tys' := []) [] rfl
  have hFc := va_free (wc := [(tn, .inr (7, [.int 0, .int 0, .int 0, .int 0, .int 0, .int 0, .int 0, .int 0, .ref ta0, .ref ta1, .ref ta2, .ref ta3, .ref ta4, .ref ta5, .ref ta6, .ref ta7, .ref ta8, .ref ta9]))]) hD hS hA [2] rfl
  refine va_calli (va_runV (As := [.int p1, .int p2, .int p3]) (rest := []) ⟨hx, hb, hml, hown, hts⟩ (k_X7_hasTrip l dC dI tn p1 p2 p3 ta0 ta1 ta2 ta3 ta4 ta5 ta6 ta7 ta8 ta9 s.heap.size) (cwV 3 hts (z_gV zw_t4_21 zw_t4_22 zw_t4_23 zw_t1_3 zw_t4_24) rfl rfl rfl (by decide +kernel) ⟨(Nat.le_of_ble_eq_true rfl), (Nat.le_of_ble_eq_true rfl)⟩) (z_preV hPc hKc hDc (ci := 7) (q0 := 0) rfl rfl) rfl rfl hl.1 rfl (lv_room (Nat.le_of_ble_eq_true rfl)) dX9_out_14 ⟨(Nat.le_of_ble_eq_true rfl), (Nat.le_of_ble_eq_true rfl)⟩) hS (fun q _ h => hFc q h) hFc (fun r_1 u t H1 locs ht hvm hw hB hz1 hk1 hS => ?_)
  obtain ⟨hP, hD, hK⟩ := z_after [(h0, .inr (9, [.ref tp, .int 0, .int 0, .int (-1), .ref nw, .ref im, .ref sl, .ref rd, .ref wk, .ref fm, .ref mt, .ref ch, .ref dy])), (nw, .inr (3, [.int 0, .ref tn, .int 0, .int 0, .int 0, .int 0]))] hB ht hvm hP hD hK [2] [0, 1] rfl rfl (by decide) (by decide) hk1 hFc
  generalize H1 = H at hP hS ⊢
  have hP : va_P (dC, dI) vwCl [(h0, .inr (9, [.ref tp, .int 0, .int 0, .int (-1), .ref nw, .ref im, .ref sl, .ref rd, .ref wk, .ref fm, .ref mt, .ref ch, .ref dy])), (nw, .inr (3, [.int 0, .ref tn, .int 0, .int 0, .int 0, .int 0])), (tn, .inr (7, [.int 0, .int 0, .int 0, .int 0, .int 0, .int 0, .int 0, .int 0, .ref ta0, .ref ta1, .ref ta2, .ref ta3, .ref ta4, .ref ta5, .ref ta6, .ref ta7, .ref ta8, .ref ta9]))] H := hP
  have hD : va_D A [(h0, .inr (9, [.ref tp, .int 0, .int 0, .int (-1), .ref nw, .ref im, .ref sl, .ref rd, .ref wk, .ref fm, .ref mt, .ref ch, .ref dy])), (nw, .inr (3, [.int 0, .ref tn, .int 0, .int 0, .int 0, .int 0])), (tn, .inr (7, [.int 0, .int 0, .int 0, .int 0, .int 0, .int 0, .int 0, .int 0, .ref ta0, .ref ta1, .ref ta2, .ref ta3, .ref ta4, .ref ta5, .ref ta6, .ref ta7, .ref ta8, .ref ta9]))] := hD
  have hK : va_K (dC, dI) vwCl [] s := hK
  obtain rfl : r_1 = 0 := hw
  refine lv_if_eq (tgt := 31) hx hb dX9_out_17 (by decide) (fun _ => ?_) (fun q => absurd q (by decide))
  refine lv_bipush (v := (-2)) hx hb dX9_out_31 (by decide) ?_
  exact W.iret (v := (-2)) hx hb hr (fun t ht hW => ⟨⟨(-2), (), rfl, rfl, trivial⟩, hS.F ht⟩) hS.2.2 dX9_out_33
set_option maxHeartbeats 4000000 in
set_option maxRecDepth 100000 in
theorem k_X9_alone (l : Launch) (dC : Nat → ClassId) (dI : Nat → Nat → Nat) (h0 : Nat) (p1 : Int32) (p2 : Int32) (p3 : Int32) (p4 : Int32) (tp : Nat) (nw : Nat) (im : Nat) (sl : Nat) (rd : Nat) (wk : Nat) (fm : Nat) (mt : Nat) (ch : Nat) (dy : Nat) (tn : Nat) (ta0 : Nat) (ta1 : Nat) (ta2 : Nat) (ta3 : Nat) (ta4 : Nat) (ta5 : Nat) (ta6 : Nat) (ta7 : Nat) (ta8 : Nat) (ta9 : Nat)  (sz : Nat) : Met l yX9_alone (.code yX9_alone cX9_alone 6 (some .int) :: zT) ({ frames := 2, cells := 0, slots := 0, locals := 44 }) (va_Pc [.ref h0, .int p1, .int p2, .int p3, .int p4] (zB dC dI [(h0, .inr (9, [.ref tp, .int 0, .int 0, .int (-1), .ref nw, .ref im, .ref sl, .ref rd, .ref wk, .ref fm, .ref mt, .ref ch, .ref dy])), (nw, .inr (3, [.int 0, .ref tn, .int 0, .int 0, .int 0, .int 0])), (tn, .inr (7, [.int 0, .int 0, .int 0, .int 0, .int 0, .int 0, .int 0, .int 0, .ref ta0, .ref ta1, .ref ta2, .ref ta3, .ref ta4, .ref ta5, .ref ta6, .ref ta7, .ref ta8, .ref ta9]))] [] sz)) (va_Qi (fun (r : Int32) (_ : Unit) => r = (-2)) (fun _ _ => True) (va_A [(h0, .inr (9, [.ref tp, .int 0, .int 0, .int (-1), .ref nw, .ref im, .ref sl, .ref rd, .ref wk, .ref fm, .ref mt, .ref ch, .ref dy])), (nw, .inr (3, [.int 0, .ref tn, .int 0, .int 0, .int 0, .int 0])), (tn, .inr (7, [.int 0, .int 0, .int 0, .int 0, .int 0, .int 0, .int 0, .int 0, .ref ta0, .ref ta1, .ref ta2, .ref ta3, .ref ta4, .ref ta5, .ref ta6, .ref ta7, .ref ta8, .ref ta9]))] sz)) 0 0 (va_A [(h0, .inr (9, [.ref tp, .int 0, .int 0, .int (-1), .ref nw, .ref im, .ref sl, .ref rd, .ref wk, .ref fm, .ref mt, .ref ch, .ref dy])), (nw, .inr (3, [.int 0, .ref tn, .int 0, .int 0, .int 0, .int 0])), (tn, .inr (7, [.int 0, .int 0, .int 0, .int 0, .int 0, .int 0, .int 0, .int 0, .ref ta0, .ref ta1, .ref ta2, .ref ta3, .ref ta4, .ref ta5, .ref ta6, .ref ta7, .ref ta8, .ref ta9]))] sz) := by
  refine Met.ofW (cc := cX9_alone) (maxL := 6) (ret := (some .int)) (by decide) rfl ?_
  intro p e s m args below meth c s₁ B hml hv
  obtain ⟨rfl, hsz, hP, hK, hD0⟩ := hv
  have hx := B.exec
  have hb := B.bytes
  have hr := B.returns
  have hts := z_hts (atoms_spec (ws := .code yX9_alone cX9_alone 6 (some .int) :: zT) B.pre)
  have hown : s.vm.findClass RX9 = some m.cls := findClass_of_methodNamed B.named
  have hlocks := B.notSynchronized
  subst hsz
  have hD := hD0.self (sz := s.heap.size)
  generalize hAe : va_A [(h0, .inr (9, [.ref tp, .int 0, .int 0, .int (-1), .ref nw, .ref im, .ref sl, .ref rd, .ref wk, .ref fm, .ref mt, .ref ch, .ref dy])), (nw, .inr (3, [.int 0, .ref tn, .int 0, .int 0, .int 0, .int 0])), (tn, .inr (7, [.int 0, .int 0, .int 0, .int 0, .int 0, .int 0, .int 0, .int 0, .ref ta0, .ref ta1, .ref ta2, .ref ta3, .ref ta4, .ref ta5, .ref ta6, .ref ta7, .ref ta8, .ref ta9]))] s.heap.size = A at hD ⊢
  have hA : ∀ q : Nat, s.heap.size ≤ q → A q := fun q h => by rw [← hAe]; exact Or.inr h
  have hS : va_S A s.heap s.heap [] := va_S.rf
  have hP : va_P (dC, dI) vwCl [(h0, .inr (9, [.ref tp, .int 0, .int 0, .int (-1), .ref nw, .ref im, .ref sl, .ref rd, .ref wk, .ref fm, .ref mt, .ref ch, .ref dy])), (nw, .inr (3, [.int 0, .ref tn, .int 0, .int 0, .int 0, .int 0])), (tn, .inr (7, [.int 0, .int 0, .int 0, .int 0, .int 0, .int 0, .int 0, .int 0, .ref ta0, .ref ta1, .ref ta2, .ref ta3, .ref ta4, .ref ta5, .ref ta6, .ref ta7, .ref ta8, .ref ta9]))] s.heap := hP
  have hl := lv_entry ([.ref h0, .int p1, .int p2, .int p3, .int p4]) (n := 6) (Nat.le_of_ble_eq_true rfl)
  rw [lg_entry_eq]
  generalize (lg_sl ([.ref h0, .int p1, .int p2, .int p3, .int p4]) ++ List.replicate (6 - (lg_sl ([.ref h0, .int p1, .int p2, .int p3, .int p4])).length) Slot.unset).toArray = ls at hl ⊢
  have hl : lv_has ls 6 [(0, .ref h0), (1, .int p1), (2, .int p2), (3, .int p3), (4, .int p4)] := hl
  refine lv_aload_n hx hb dX9_alone_0 rfl (lv_at hl 0 rfl) ?_
  refine va_get (D := (dC, dI)) (ci := 9) (v := .ref nw) (C := RX9) (T := TX9) (N := 13) hx hb hts zl_X9 hown hK hP 0 rfl rfl 4 (by decide) (hts _ zw_t2_193) (fun _ h9 => h9) rfl dX9_alone_1 ?_
  refine va_get (D := (dC, dI)) (ci := 3) (v := .ref tn) (C := RX3) (T := TX3) (N := 6) hx hb hts zl_X3 hown hK hP 1 rfl rfl 1 (by decide) (hts _ zw_t1_156) (fun _ h9 => h9) rfl dX9_alone_4 ?_
  refine lv_astore (lv' := [(5, .ref tn), (0, .ref h0), (1, .int p1), (2, .int p2), (3, .int p3), (4, .int p4)]) hx hb dX9_alone_7 hl (by decide) rfl (fun ls hl => ?_)
  refine lv_aload hx hb dX9_alone_9 (lv_at hl 0 rfl) ?_
  refine lv_iload_n hx hb dX9_alone_11 rfl (lv_at hl 2 rfl) ?_
  refine lv_iload_n hx hb dX9_alone_12 rfl (lv_at hl 3 rfl) ?_
  refine lv_iload_n hx hb dX9_alone_13 rfl (lv_at hl 4 rfl) ?_
  have hPc := hP.sub (ws' := [(tn, .inr (7, [.int 0, .int 0, .int 0, .int 0, .int 0, .int 0, .int 0, .int 0, .ref ta0, .ref ta1, .ref ta2, .ref ta3, .ref ta4, .ref ta5, .ref ta6, .ref ta7, .ref ta8, .ref ta9]))]) [2] rfl
  have hDc := hD.sub (ws' := [(tn, .inr (7, [.int 0, .int 0, .int 0, .int 0, .int 0, .int 0, .int 0, .int 0, .ref ta0, .ref ta1, .ref ta2, .ref ta3, .ref ta4, .ref ta5, .ref ta6, .ref ta7, .ref ta8, .ref ta9]))]) [2] (by decide) rfl
  have hKc := hK.sub (tys' := []) [] rfl
  have hFc := va_free (wc := [(tn, .inr (7, [.int 0, .int 0, .int 0, .int 0, .int 0, .int 0, .int 0, .int 0, .ref ta0, .ref ta1, .ref ta2, .ref ta3, .ref ta4, .ref ta5, .ref ta6, .ref ta7, .ref ta8, .ref ta9]))]) hD hS hA [2] rfl
  refine va_calli (va_runV (As := [.int p1, .int p2, .int p3]) (rest := []) ⟨hx, hb, hml, hown, hts⟩ (k_X7_hasTrip l dC dI tn p1 p2 p3 ta0 ta1 ta2 ta3 ta4 ta5 ta6 ta7 ta8 ta9 s.heap.size) (cwV 3 hts (z_gV zw_t4_21 zw_t4_22 zw_t4_23 zw_t1_3 zw_t4_24) rfl rfl rfl (by decide +kernel) ⟨(Nat.le_of_ble_eq_true rfl), (Nat.le_of_ble_eq_true rfl)⟩) (z_preV hPc hKc hDc (ci := 7) (q0 := 0) rfl rfl) rfl rfl hl.1 rfl (lv_room (Nat.le_of_ble_eq_true rfl)) dX9_alone_14 ⟨(Nat.le_of_ble_eq_true rfl), (Nat.le_of_ble_eq_true rfl)⟩) hS (fun q _ h => hFc q h) hFc (fun r_1 u t H1 locs ht hvm hw hB hz1 hk1 hS => ?_)
  obtain ⟨hP, hD, hK⟩ := z_after [(h0, .inr (9, [.ref tp, .int 0, .int 0, .int (-1), .ref nw, .ref im, .ref sl, .ref rd, .ref wk, .ref fm, .ref mt, .ref ch, .ref dy])), (nw, .inr (3, [.int 0, .ref tn, .int 0, .int 0, .int 0, .int 0]))] hB ht hvm hP hD hK [2] [0, 1] rfl rfl (by decide) (by decide) hk1 hFc
  generalize H1 = H at hP hS ⊢
  have hP : va_P (dC, dI) vwCl [(h0, .inr (9, [.ref tp, .int 0, .int 0, .int (-1), .ref nw, .ref im, .ref sl, .ref rd, .ref wk, .ref fm, .ref mt, .ref ch, .ref dy])), (nw, .inr (3, [.int 0, .ref tn, .int 0, .int 0, .int 0, .int 0])), (tn, .inr (7, [.int 0, .int 0, .int 0, .int 0, .int 0, .int 0, .int 0, .int 0, .ref ta0, .ref ta1, .ref ta2, .ref ta3, .ref ta4, .ref ta5, .ref ta6, .ref ta7, .ref ta8, .ref ta9]))] H := hP
  have hD : va_D A [(h0, .inr (9, [.ref tp, .int 0, .int 0, .int (-1), .ref nw, .ref im, .ref sl, .ref rd, .ref wk, .ref fm, .ref mt, .ref ch, .ref dy])), (nw, .inr (3, [.int 0, .ref tn, .int 0, .int 0, .int 0, .int 0])), (tn, .inr (7, [.int 0, .int 0, .int 0, .int 0, .int 0, .int 0, .int 0, .int 0, .ref ta0, .ref ta1, .ref ta2, .ref ta3, .ref ta4, .ref ta5, .ref ta6, .ref ta7, .ref ta8, .ref ta9]))] := hD
  have hK : va_K (dC, dI) vwCl [] s := hK
  obtain rfl : r_1 = 0 := hw
  refine lv_if_eq (tgt := 30) hx hb dX9_alone_17 (by decide) (fun _ => ?_) (fun q => absurd q (by decide))
  refine lv_bipush (v := (-2)) hx hb dX9_alone_30 (by decide) ?_
  exact W.iret (v := (-2)) hx hb hr (fun t ht hW => ⟨⟨(-2), (), rfl, rfl, trivial⟩, hS.F ht⟩) hS.2.2 dX9_alone_32
set_option maxHeartbeats 4000000 in
set_option maxRecDepth 100000 in
theorem k_X9_both (l : Launch) (dC : Nat → ClassId) (dI : Nat → Nat → Nat) (h0 : Nat) (p1 : Int32) (p2 : Int32) (p3 : Int32) (p4 : Int32) (tp : Nat) (nw : Nat) (im : Nat) (sl : Nat) (rd : Nat) (wk : Nat) (fm : Nat) (mt : Nat) (ch : Nat) (dy : Nat) (tn : Nat) (ta0 : Nat) (ta1 : Nat) (ta2 : Nat) (ta3 : Nat) (ta4 : Nat) (ta5 : Nat) (ta6 : Nat) (ta7 : Nat) (ta8 : Nat) (ta9 : Nat)  (sz : Nat) : Met l yX9_both (.code yX9_both cX9_both 5 (some .int) :: zT) ({ frames := 2, cells := 0, slots := 0, locals := 44 }) (va_Pc [.ref h0, .int p1, .int p2, .int p3, .int p4] (zB dC dI [(h0, .inr (9, [.ref tp, .int 0, .int 0, .int (-1), .ref nw, .ref im, .ref sl, .ref rd, .ref wk, .ref fm, .ref mt, .ref ch, .ref dy])), (nw, .inr (3, [.int 0, .ref tn, .int 0, .int 0, .int 0, .int 0])), (tn, .inr (7, [.int 0, .int 0, .int 0, .int 0, .int 0, .int 0, .int 0, .int 0, .ref ta0, .ref ta1, .ref ta2, .ref ta3, .ref ta4, .ref ta5, .ref ta6, .ref ta7, .ref ta8, .ref ta9]))] [] sz)) (va_Qi (fun (r : Int32) (_ : Unit) => r = (-2)) (fun _ _ => True) (va_A [(h0, .inr (9, [.ref tp, .int 0, .int 0, .int (-1), .ref nw, .ref im, .ref sl, .ref rd, .ref wk, .ref fm, .ref mt, .ref ch, .ref dy])), (nw, .inr (3, [.int 0, .ref tn, .int 0, .int 0, .int 0, .int 0])), (tn, .inr (7, [.int 0, .int 0, .int 0, .int 0, .int 0, .int 0, .int 0, .int 0, .ref ta0, .ref ta1, .ref ta2, .ref ta3, .ref ta4, .ref ta5, .ref ta6, .ref ta7, .ref ta8, .ref ta9]))] sz)) 0 0 (va_A [(h0, .inr (9, [.ref tp, .int 0, .int 0, .int (-1), .ref nw, .ref im, .ref sl, .ref rd, .ref wk, .ref fm, .ref mt, .ref ch, .ref dy])), (nw, .inr (3, [.int 0, .ref tn, .int 0, .int 0, .int 0, .int 0])), (tn, .inr (7, [.int 0, .int 0, .int 0, .int 0, .int 0, .int 0, .int 0, .int 0, .ref ta0, .ref ta1, .ref ta2, .ref ta3, .ref ta4, .ref ta5, .ref ta6, .ref ta7, .ref ta8, .ref ta9]))] sz) := by
  refine Met.ofW (cc := cX9_both) (maxL := 5) (ret := (some .int)) (by decide) rfl ?_
  intro p e s m args below meth c s₁ B hml hv
  obtain ⟨rfl, hsz, hP, hK, hD0⟩ := hv
  have hx := B.exec
  have hb := B.bytes
  have hr := B.returns
  have hts := z_hts (atoms_spec (ws := .code yX9_both cX9_both 5 (some .int) :: zT) B.pre)
  have hown : s.vm.findClass RX9 = some m.cls := findClass_of_methodNamed B.named
  have hlocks := B.notSynchronized
  subst hsz
  have hD := hD0.self (sz := s.heap.size)
  generalize hAe : va_A [(h0, .inr (9, [.ref tp, .int 0, .int 0, .int (-1), .ref nw, .ref im, .ref sl, .ref rd, .ref wk, .ref fm, .ref mt, .ref ch, .ref dy])), (nw, .inr (3, [.int 0, .ref tn, .int 0, .int 0, .int 0, .int 0])), (tn, .inr (7, [.int 0, .int 0, .int 0, .int 0, .int 0, .int 0, .int 0, .int 0, .ref ta0, .ref ta1, .ref ta2, .ref ta3, .ref ta4, .ref ta5, .ref ta6, .ref ta7, .ref ta8, .ref ta9]))] s.heap.size = A at hD ⊢
  have hA : ∀ q : Nat, s.heap.size ≤ q → A q := fun q h => by rw [← hAe]; exact Or.inr h
  have hS : va_S A s.heap s.heap [] := va_S.rf
  have hP : va_P (dC, dI) vwCl [(h0, .inr (9, [.ref tp, .int 0, .int 0, .int (-1), .ref nw, .ref im, .ref sl, .ref rd, .ref wk, .ref fm, .ref mt, .ref ch, .ref dy])), (nw, .inr (3, [.int 0, .ref tn, .int 0, .int 0, .int 0, .int 0])), (tn, .inr (7, [.int 0, .int 0, .int 0, .int 0, .int 0, .int 0, .int 0, .int 0, .ref ta0, .ref ta1, .ref ta2, .ref ta3, .ref ta4, .ref ta5, .ref ta6, .ref ta7, .ref ta8, .ref ta9]))] s.heap := hP
  have hl := lv_entry ([.ref h0, .int p1, .int p2, .int p3, .int p4]) (n := 5) (Nat.le_of_ble_eq_true rfl)
  rw [lg_entry_eq]
  generalize (lg_sl ([.ref h0, .int p1, .int p2, .int p3, .int p4]) ++ List.replicate (5 - (lg_sl ([.ref h0, .int p1, .int p2, .int p3, .int p4])).length) Slot.unset).toArray = ls at hl ⊢
  have hl : lv_has ls 5 [(0, .ref h0), (1, .int p1), (2, .int p2), (3, .int p3), (4, .int p4)] := hl
  refine lv_aload_n hx hb dX9_both_0 rfl (lv_at hl 0 rfl) ?_
  refine va_get (D := (dC, dI)) (ci := 9) (v := .ref nw) (C := RX9) (T := TX9) (N := 13) hx hb hts zl_X9 hown hK hP 0 rfl rfl 4 (by decide) (hts _ zw_t2_193) (fun _ h9 => h9) rfl dX9_both_1 ?_
  refine va_get (D := (dC, dI)) (ci := 3) (v := .ref tn) (C := RX3) (T := TX3) (N := 6) hx hb hts zl_X3 hown hK hP 1 rfl rfl 1 (by decide) (hts _ zw_t1_156) (fun _ h9 => h9) rfl dX9_both_4 ?_
  refine lv_iload_n hx hb dX9_both_7 rfl (lv_at hl 1 rfl) ?_
  refine lv_iload_n hx hb dX9_both_8 rfl (lv_at hl 3 rfl) ?_
  refine lv_iload hx hb dX9_both_9 (lv_at hl 4 rfl) ?_
  have hPc := hP.sub (ws' := [(tn, .inr (7, [.int 0, .int 0, .int 0, .int 0, .int 0, .int 0, .int 0, .int 0, .ref ta0, .ref ta1, .ref ta2, .ref ta3, .ref ta4, .ref ta5, .ref ta6, .ref ta7, .ref ta8, .ref ta9]))]) [2] rfl
  have hDc := hD.sub (ws' := [(tn, .inr (7, [.int 0, .int 0, .int 0, .int 0, .int 0, .int 0, .int 0, .int 0, .ref ta0, .ref ta1, .ref ta2, .ref ta3, .ref ta4, .ref ta5, .ref ta6, .ref ta7, .ref ta8, .ref ta9]))]) [2] (by decide) rfl
  have hKc := hK.sub (tys' := []) [] rfl
  have hFc := va_free (wc := [(tn, .inr (7, [.int 0, .int 0, .int 0, .int 0, .int 0, .int 0, .int 0, .int 0, .ref ta0, .ref ta1, .ref ta2, .ref ta3, .ref ta4, .ref ta5, .ref ta6, .ref ta7, .ref ta8, .ref ta9]))]) hD hS hA [2] rfl
  refine va_calli (va_runV (As := [.int p1, .int p3, .int p4]) (rest := []) ⟨hx, hb, hml, hown, hts⟩ (k_X7_hasTrip l dC dI tn p1 p3 p4 ta0 ta1 ta2 ta3 ta4 ta5 ta6 ta7 ta8 ta9 s.heap.size) (cwV 3 hts (z_gV zw_t4_21 zw_t4_22 zw_t4_23 zw_t1_3 zw_t4_24) rfl rfl rfl (by decide +kernel) ⟨(Nat.le_of_ble_eq_true rfl), (Nat.le_of_ble_eq_true rfl)⟩) (z_preV hPc hKc hDc (ci := 7) (q0 := 0) rfl rfl) rfl rfl hl.1 rfl (lv_room (Nat.le_of_ble_eq_true rfl)) dX9_both_11 ⟨(Nat.le_of_ble_eq_true rfl), (Nat.le_of_ble_eq_true rfl)⟩) hS (fun q _ h => hFc q h) hFc (fun r_1 u t H1 locs ht hvm hw hB hz1 hk1 hS => ?_)
  obtain ⟨hP, hD, hK⟩ := z_after [(h0, .inr (9, [.ref tp, .int 0, .int 0, .int (-1), .ref nw, .ref im, .ref sl, .ref rd, .ref wk, .ref fm, .ref mt, .ref ch, .ref dy])), (nw, .inr (3, [.int 0, .ref tn, .int 0, .int 0, .int 0, .int 0]))] hB ht hvm hP hD hK [2] [0, 1] rfl rfl (by decide) (by decide) hk1 hFc
  generalize H1 = H at hP hS ⊢
  have hP : va_P (dC, dI) vwCl [(h0, .inr (9, [.ref tp, .int 0, .int 0, .int (-1), .ref nw, .ref im, .ref sl, .ref rd, .ref wk, .ref fm, .ref mt, .ref ch, .ref dy])), (nw, .inr (3, [.int 0, .ref tn, .int 0, .int 0, .int 0, .int 0])), (tn, .inr (7, [.int 0, .int 0, .int 0, .int 0, .int 0, .int 0, .int 0, .int 0, .ref ta0, .ref ta1, .ref ta2, .ref ta3, .ref ta4, .ref ta5, .ref ta6, .ref ta7, .ref ta8, .ref ta9]))] H := hP
  have hD : va_D A [(h0, .inr (9, [.ref tp, .int 0, .int 0, .int (-1), .ref nw, .ref im, .ref sl, .ref rd, .ref wk, .ref fm, .ref mt, .ref ch, .ref dy])), (nw, .inr (3, [.int 0, .ref tn, .int 0, .int 0, .int 0, .int 0])), (tn, .inr (7, [.int 0, .int 0, .int 0, .int 0, .int 0, .int 0, .int 0, .int 0, .ref ta0, .ref ta1, .ref ta2, .ref ta3, .ref ta4, .ref ta5, .ref ta6, .ref ta7, .ref ta8, .ref ta9]))] := hD
  have hK : va_K (dC, dI) vwCl [] s := hK
  obtain rfl : r_1 = 0 := hw
  refine lv_if_eq (tgt := 31) hx hb dX9_both_14 (by decide) (fun _ => ?_) (fun q => absurd q (by decide))
  refine lv_bipush (v := (-2)) hx hb dX9_both_31 (by decide) ?_
  exact W.iret (v := (-2)) hx hb hr (fun t ht hW => ⟨⟨(-2), (), rfl, rfl, trivial⟩, hS.F ht⟩) hS.2.2 dX9_both_33
set_option maxHeartbeats 4000000 in
set_option maxRecDepth 100000 in
theorem k_X9_friend (l : Launch) (dC : Nat → ClassId) (dI : Nat → Nat → Nat) (h0 : Nat) (p1 : Int32) (p2 : Int32) (p3 : Int32) (p4 : Int32) (tp : Nat) (nw : Nat) (im : Nat) (sl : Nat) (rd : Nat) (wk : Nat) (fm : Nat) (mt : Nat) (ch : Nat) (dy : Nat) (tn : Nat) (ta0 : Nat) (ta1 : Nat) (ta2 : Nat) (ta3 : Nat) (ta4 : Nat) (ta5 : Nat) (ta6 : Nat) (ta7 : Nat) (ta8 : Nat) (ta9 : Nat)  (sz : Nat) : Met l yX9_friend (.code yX9_friend cX9_friend 8 (some .int) :: zT) ({ frames := 3, cells := 0, slots := 0, locals := 68 }) (va_Pc [.ref h0, .int p1, .int p2, .int p3, .int p4] (zB dC dI [(h0, .inr (9, [.ref tp, .int 0, .int 0, .int (-1), .ref nw, .ref im, .ref sl, .ref rd, .ref wk, .ref fm, .ref mt, .ref ch, .ref dy])), (nw, .inr (3, [.int 0, .ref tn, .int 0, .int 0, .int 0, .int 0])), (tn, .inr (7, [.int 0, .int 0, .int 0, .int 0, .int 0, .int 0, .int 0, .int 0, .ref ta0, .ref ta1, .ref ta2, .ref ta3, .ref ta4, .ref ta5, .ref ta6, .ref ta7, .ref ta8, .ref ta9]))] [] sz)) (va_Qi (fun (r : Int32) (_ : Unit) => r = (-2)) (fun _ _ => True) (va_A [(h0, .inr (9, [.ref tp, .int 0, .int 0, .int (-1), .ref nw, .ref im, .ref sl, .ref rd, .ref wk, .ref fm, .ref mt, .ref ch, .ref dy])), (nw, .inr (3, [.int 0, .ref tn, .int 0, .int 0, .int 0, .int 0])), (tn, .inr (7, [.int 0, .int 0, .int 0, .int 0, .int 0, .int 0, .int 0, .int 0, .ref ta0, .ref ta1, .ref ta2, .ref ta3, .ref ta4, .ref ta5, .ref ta6, .ref ta7, .ref ta8, .ref ta9]))] sz)) 0 0 (va_A [(h0, .inr (9, [.ref tp, .int 0, .int 0, .int (-1), .ref nw, .ref im, .ref sl, .ref rd, .ref wk, .ref fm, .ref mt, .ref ch, .ref dy])), (nw, .inr (3, [.int 0, .ref tn, .int 0, .int 0, .int 0, .int 0])), (tn, .inr (7, [.int 0, .int 0, .int 0, .int 0, .int 0, .int 0, .int 0, .int 0, .ref ta0, .ref ta1, .ref ta2, .ref ta3, .ref ta4, .ref ta5, .ref ta6, .ref ta7, .ref ta8, .ref ta9]))] sz) := by
  refine Met.ofW (cc := cX9_friend) (maxL := 8) (ret := (some .int)) (by decide) rfl ?_
  intro p e s m args below meth c s₁ B hml hv
  obtain ⟨rfl, hsz, hP, hK, hD0⟩ := hv
  have hx := B.exec
  have hb := B.bytes
  have hr := B.returns
  have hts := z_hts (atoms_spec (ws := .code yX9_friend cX9_friend 8 (some .int) :: zT) B.pre)
  have hown : s.vm.findClass RX9 = some m.cls := findClass_of_methodNamed B.named
  have hlocks := B.notSynchronized
  subst hsz
  have hD := hD0.self (sz := s.heap.size)
  generalize hAe : va_A [(h0, .inr (9, [.ref tp, .int 0, .int 0, .int (-1), .ref nw, .ref im, .ref sl, .ref rd, .ref wk, .ref fm, .ref mt, .ref ch, .ref dy])), (nw, .inr (3, [.int 0, .ref tn, .int 0, .int 0, .int 0, .int 0])), (tn, .inr (7, [.int 0, .int 0, .int 0, .int 0, .int 0, .int 0, .int 0, .int 0, .ref ta0, .ref ta1, .ref ta2, .ref ta3, .ref ta4, .ref ta5, .ref ta6, .ref ta7, .ref ta8, .ref ta9]))] s.heap.size = A at hD ⊢
  have hA : ∀ q : Nat, s.heap.size ≤ q → A q := fun q h => by rw [← hAe]; exact Or.inr h
  have hS : va_S A s.heap s.heap [] := va_S.rf
  have hP : va_P (dC, dI) vwCl [(h0, .inr (9, [.ref tp, .int 0, .int 0, .int (-1), .ref nw, .ref im, .ref sl, .ref rd, .ref wk, .ref fm, .ref mt, .ref ch, .ref dy])), (nw, .inr (3, [.int 0, .ref tn, .int 0, .int 0, .int 0, .int 0])), (tn, .inr (7, [.int 0, .int 0, .int 0, .int 0, .int 0, .int 0, .int 0, .int 0, .ref ta0, .ref ta1, .ref ta2, .ref ta3, .ref ta4, .ref ta5, .ref ta6, .ref ta7, .ref ta8, .ref ta9]))] s.heap := hP
  have hl := lv_entry ([.ref h0, .int p1, .int p2, .int p3, .int p4]) (n := 8) (Nat.le_of_ble_eq_true rfl)
  rw [lg_entry_eq]
  generalize (lg_sl ([.ref h0, .int p1, .int p2, .int p3, .int p4]) ++ List.replicate (8 - (lg_sl ([.ref h0, .int p1, .int p2, .int p3, .int p4])).length) Slot.unset).toArray = ls at hl ⊢
  have hl : lv_has ls 8 [(0, .ref h0), (1, .int p1), (2, .int p2), (3, .int p3), (4, .int p4)] := hl
  refine lv_aload_n hx hb dX9_friend_0 rfl (lv_at hl 0 rfl) ?_
  refine lv_iload_n hx hb dX9_friend_1 rfl (lv_at hl 1 rfl) ?_
  refine lv_iload_n hx hb dX9_friend_2 rfl (lv_at hl 2 rfl) ?_
  refine lv_iload_n hx hb dX9_friend_3 rfl (lv_at hl 3 rfl) ?_
  refine lv_iload hx hb dX9_friend_4 (lv_at hl 4 rfl) ?_
  have hPc := hP.sub (ws' := [(h0, .inr (9, [.ref tp, .int 0, .int 0, .int (-1), .ref nw, .ref im, .ref sl, .ref rd, .ref wk, .ref fm, .ref mt, .ref ch, .ref dy])), (nw, .inr (3, [.int 0, .ref tn, .int 0, .int 0, .int 0, .int 0])), (tn, .inr (7, [.int 0, .int 0, .int 0, .int 0, .int 0, .int 0, .int 0, .int 0, .ref ta0, .ref ta1, .ref ta2, .ref ta3, .ref ta4, .ref ta5, .ref ta6, .ref ta7, .ref ta8, .ref ta9]))]) [0, 1, 2] rfl
  have hDc := hD.sub (ws' := [(h0, .inr (9, [.ref tp, .int 0, .int 0, .int (-1), .ref nw, .ref im, .ref sl, .ref rd, .ref wk, .ref fm, .ref mt, .ref ch, .ref dy])), (nw, .inr (3, [.int 0, .ref tn, .int 0, .int 0, .int 0, .int 0])), (tn, .inr (7, [.int 0, .int 0, .int 0, .int 0, .int 0, .int 0, .int 0, .int 0, .ref ta0, .ref ta1, .ref ta2, .ref ta3, .ref ta4, .ref ta5, .ref ta6, .ref ta7, .ref ta8, .ref ta9]))]) [0, 1, 2] (by decide) rfl
  have hKc := hK.sub (tys' := []) [] rfl
  have hFc := va_free (wc := [(h0, .inr (9, [.ref tp, .int 0, .int 0, .int (-1), .ref nw, .ref im, .ref sl, .ref rd, .ref wk, .ref fm, .ref mt, .ref ch, .ref dy])), (nw, .inr (3, [.int 0, .ref tn, .int 0, .int 0, .int 0, .int 0])), (tn, .inr (7, [.int 0, .int 0, .int 0, .int 0, .int 0, .int 0, .int 0, .int 0, .ref ta0, .ref ta1, .ref ta2, .ref ta3, .ref ta4, .ref ta5, .ref ta6, .ref ta7, .ref ta8, .ref ta9]))]) hD hS hA [0, 1, 2] rfl
  refine va_calli (va_runV (As := [.int p1, .int p2, .int p3, .int p4]) (rest := []) ⟨hx, hb, hml, hown, hts⟩ (k_X9_both l dC dI h0 p1 p2 p3 p4 tp nw im sl rd wk fm mt ch dy tn ta0 ta1 ta2 ta3 ta4 ta5 ta6 ta7 ta8 ta9 s.heap.size) (cwV 4 hts (z_gV zw_t4_232 zw_t4_206 zw_t4_207 zw_t1_1 zw_t4_208) rfl rfl rfl (by decide +kernel) ⟨(Nat.le_of_ble_eq_true rfl), (Nat.le_of_ble_eq_true rfl)⟩) (z_preV hPc hKc hDc (ci := 9) (q0 := 0) rfl rfl) rfl rfl hl.1 rfl (lv_room (Nat.le_of_ble_eq_true rfl)) dX9_friend_6 ⟨(Nat.le_of_ble_eq_true rfl), (Nat.le_of_ble_eq_true rfl)⟩) hS (fun q _ h => hFc q h) hFc (fun r_1 u t H1 locs ht hvm hw hB hz1 hk1 hS => ?_)
  have hB : zW dC dI [] [] (va_A [(h0, .inr (9, [.ref tp, .int 0, .int 0, .int (-1), .ref nw, .ref im, .ref sl, .ref rd, .ref wk, .ref fm, .ref mt, .ref ch, .ref dy])), (nw, .inr (3, [.int 0, .ref tn, .int 0, .int 0, .int 0, .int 0])), (tn, .inr (7, [.int 0, .int 0, .int 0, .int 0, .int 0, .int 0, .int 0, .int 0, .ref ta0, .ref ta1, .ref ta2, .ref ta3, .ref ta4, .ref ta5, .ref ta6, .ref ta7, .ref ta8, .ref ta9]))] s.heap.size) t := z_none (va_K.moved hvm hK)
  obtain ⟨hP, hD, hK⟩ := z_after [] hB ht hvm hP hD hK [0, 1, 2] [] rfl rfl (by decide) (by decide) hk1 hFc
  generalize H1 = H at hP hS ⊢
  have hP : va_P (dC, dI) vwCl [] H := hP
  have hD : va_D A [] := hD
  have hK : va_K (dC, dI) vwCl [] s := hK
  obtain rfl : r_1 = (-2) := hw
  refine lv_istore (lv' := [(5, .int (-2)), (0, .ref h0), (1, .int p1), (2, .int p2), (3, .int p3), (4, .int p4)]) hx hb dX9_friend_9 hl (by decide) rfl (fun ls hl => ?_)
  refine lv_iload hx hb dX9_friend_11 (lv_at hl 0 rfl) ?_
  refine lv_if_ge (tgt := 19) hx hb dX9_friend_13 (by decide) (fun q => absurd q (by decide)) (fun _ => ?_)
  refine lv_iload hx hb dX9_friend_16 (lv_at hl 0 rfl) ?_
  exact W.iret (v := (-2)) hx hb hr (fun t ht hW => ⟨⟨(-2), (), rfl, rfl, trivial⟩, hS.F ht⟩) hS.2.2 dX9_friend_18
set_option maxHeartbeats 4000000 in
set_option maxRecDepth 100000 in
theorem k_X9_teach (l : Launch) (dC : Nat → ClassId) (dI : Nat → Nat → Nat) (h0 : Nat) (p1 : Int32) (p2 : Int32) (p3 : Int32) (p4 : Int32) (tp : Nat) (nw : Nat) (im : Nat) (sl : Nat) (rd : Nat) (wk : Nat) (fm : Nat) (mt : Nat) (ch : Nat) (dy : Nat) (tn : Nat) (ta0 : Nat) (ta1 : Nat) (ta2 : Nat) (ta3 : Nat) (ta4 : Nat) (ta5 : Nat) (ta6 : Nat) (ta7 : Nat) (ta8 : Nat) (ta9 : Nat)  (sz : Nat) : Met l yX9_teach (.code yX9_teach cX9_teach 11 (some .int) :: zT) ({ frames := 2, cells := 0, slots := 0, locals := 44 }) (va_Pc [.ref h0, .int p1, .int p2, .int p3, .int p4] (zB dC dI [(h0, .inr (9, [.ref tp, .int 0, .int 0, .int (-1), .ref nw, .ref im, .ref sl, .ref rd, .ref wk, .ref fm, .ref mt, .ref ch, .ref dy])), (nw, .inr (3, [.int 0, .ref tn, .int 0, .int 0, .int 0, .int 0])), (tn, .inr (7, [.int 0, .int 0, .int 0, .int 0, .int 0, .int 0, .int 0, .int 0, .ref ta0, .ref ta1, .ref ta2, .ref ta3, .ref ta4, .ref ta5, .ref ta6, .ref ta7, .ref ta8, .ref ta9]))] [] sz)) (va_Qi (fun (r : Int32) (_ : Unit) => r = (-2)) (fun _ _ => True) (va_A [(h0, .inr (9, [.ref tp, .int 0, .int 0, .int (-1), .ref nw, .ref im, .ref sl, .ref rd, .ref wk, .ref fm, .ref mt, .ref ch, .ref dy])), (nw, .inr (3, [.int 0, .ref tn, .int 0, .int 0, .int 0, .int 0])), (tn, .inr (7, [.int 0, .int 0, .int 0, .int 0, .int 0, .int 0, .int 0, .int 0, .ref ta0, .ref ta1, .ref ta2, .ref ta3, .ref ta4, .ref ta5, .ref ta6, .ref ta7, .ref ta8, .ref ta9]))] sz)) 0 0 (va_A [(h0, .inr (9, [.ref tp, .int 0, .int 0, .int (-1), .ref nw, .ref im, .ref sl, .ref rd, .ref wk, .ref fm, .ref mt, .ref ch, .ref dy])), (nw, .inr (3, [.int 0, .ref tn, .int 0, .int 0, .int 0, .int 0])), (tn, .inr (7, [.int 0, .int 0, .int 0, .int 0, .int 0, .int 0, .int 0, .int 0, .ref ta0, .ref ta1, .ref ta2, .ref ta3, .ref ta4, .ref ta5, .ref ta6, .ref ta7, .ref ta8, .ref ta9]))] sz) := by
  refine Met.ofW (cc := cX9_teach) (maxL := 11) (ret := (some .int)) (by decide) rfl ?_
  intro p e s m args below meth c s₁ B hml hv
  obtain ⟨rfl, hsz, hP, hK, hD0⟩ := hv
  have hx := B.exec
  have hb := B.bytes
  have hr := B.returns
  have hts := z_hts (atoms_spec (ws := .code yX9_teach cX9_teach 11 (some .int) :: zT) B.pre)
  have hown : s.vm.findClass RX9 = some m.cls := findClass_of_methodNamed B.named
  have hlocks := B.notSynchronized
  subst hsz
  have hD := hD0.self (sz := s.heap.size)
  generalize hAe : va_A [(h0, .inr (9, [.ref tp, .int 0, .int 0, .int (-1), .ref nw, .ref im, .ref sl, .ref rd, .ref wk, .ref fm, .ref mt, .ref ch, .ref dy])), (nw, .inr (3, [.int 0, .ref tn, .int 0, .int 0, .int 0, .int 0])), (tn, .inr (7, [.int 0, .int 0, .int 0, .int 0, .int 0, .int 0, .int 0, .int 0, .ref ta0, .ref ta1, .ref ta2, .ref ta3, .ref ta4, .ref ta5, .ref ta6, .ref ta7, .ref ta8, .ref ta9]))] s.heap.size = A at hD ⊢
  have hA : ∀ q : Nat, s.heap.size ≤ q → A q := fun q h => by rw [← hAe]; exact Or.inr h
  have hS : va_S A s.heap s.heap [] := va_S.rf
  have hP : va_P (dC, dI) vwCl [(h0, .inr (9, [.ref tp, .int 0, .int 0, .int (-1), .ref nw, .ref im, .ref sl, .ref rd, .ref wk, .ref fm, .ref mt, .ref ch, .ref dy])), (nw, .inr (3, [.int 0, .ref tn, .int 0, .int 0, .int 0, .int 0])), (tn, .inr (7, [.int 0, .int 0, .int 0, .int 0, .int 0, .int 0, .int 0, .int 0, .ref ta0, .ref ta1, .ref ta2, .ref ta3, .ref ta4, .ref ta5, .ref ta6, .ref ta7, .ref ta8, .ref ta9]))] s.heap := hP
  have hl := lv_entry ([.ref h0, .int p1, .int p2, .int p3, .int p4]) (n := 11) (Nat.le_of_ble_eq_true rfl)
  rw [lg_entry_eq]
  generalize (lg_sl ([.ref h0, .int p1, .int p2, .int p3, .int p4]) ++ List.replicate (11 - (lg_sl ([.ref h0, .int p1, .int p2, .int p3, .int p4])).length) Slot.unset).toArray = ls at hl ⊢
  have hl : lv_has ls 11 [(0, .ref h0), (1, .int p1), (2, .int p2), (3, .int p3), (4, .int p4)] := hl
  refine lv_aload_n hx hb dX9_teach_0 rfl (lv_at hl 0 rfl) ?_
  refine va_get (D := (dC, dI)) (ci := 9) (v := .ref nw) (C := RX9) (T := TX9) (N := 13) hx hb hts zl_X9 hown hK hP 0 rfl rfl 4 (by decide) (hts _ zw_t2_193) (fun _ h9 => h9) rfl dX9_teach_1 ?_
  refine va_get (D := (dC, dI)) (ci := 3) (v := .ref tn) (C := RX3) (T := TX3) (N := 6) hx hb hts zl_X3 hown hK hP 1 rfl rfl 1 (by decide) (hts _ zw_t1_156) (fun _ h9 => h9) rfl dX9_teach_4 ?_
  refine lv_astore (lv' := [(5, .ref tn), (0, .ref h0), (1, .int p1), (2, .int p2), (3, .int p3), (4, .int p4)]) hx hb dX9_teach_7 hl (by decide) rfl (fun ls hl => ?_)
  refine lv_aload hx hb dX9_teach_9 (lv_at hl 0 rfl) ?_
  refine lv_iload_n hx hb dX9_teach_11 rfl (lv_at hl 2 rfl) ?_
  refine lv_iload_n hx hb dX9_teach_12 rfl (lv_at hl 3 rfl) ?_
  refine lv_iload_n hx hb dX9_teach_13 rfl (lv_at hl 4 rfl) ?_
  have hPc := hP.sub (ws' := [(tn, .inr (7, [.int 0, .int 0, .int 0, .int 0, .int 0, .int 0, .int 0, .int 0, .ref ta0, .ref ta1, .ref ta2, .ref ta3, .ref ta4, .ref ta5, .ref ta6, .ref ta7, .ref ta8, .ref ta9]))]) [2] rfl
  have hDc := hD.sub (ws' := [(tn, .inr (7, [.int 0, .int 0, .int 0, .int 0, .int 0, .int 0, .int 0, .int 0, .ref ta0, .ref ta1, .ref ta2, .ref ta3, .ref ta4, .ref ta5, .ref ta6, .ref ta7, .ref ta8, .ref ta9]))]) [2] (by decide) rfl
  have hKc := hK.sub (tys' := []) [] rfl
  have hFc := va_free (wc := [(tn, .inr (7, [.int 0, .int 0, .int 0, .int 0, .int 0, .int 0, .int 0, .int 0, .ref ta0, .ref ta1, .ref ta2, .ref ta3, .ref ta4, .ref ta5, .ref ta6, .ref ta7, .ref ta8, .ref ta9]))]) hD hS hA [2] rfl
  refine va_calli (va_runV (As := [.int p1, .int p2, .int p3]) (rest := []) ⟨hx, hb, hml, hown, hts⟩ (k_X7_hasTrip l dC dI tn p1 p2 p3 ta0 ta1 ta2 ta3 ta4 ta5 ta6 ta7 ta8 ta9 s.heap.size) (cwV 3 hts (z_gV zw_t4_21 zw_t4_22 zw_t4_23 zw_t1_3 zw_t4_24) rfl rfl rfl (by decide +kernel) ⟨(Nat.le_of_ble_eq_true rfl), (Nat.le_of_ble_eq_true rfl)⟩) (z_preV hPc hKc hDc (ci := 7) (q0 := 0) rfl rfl) rfl rfl hl.1 rfl (lv_room (Nat.le_of_ble_eq_true rfl)) dX9_teach_14 ⟨(Nat.le_of_ble_eq_true rfl), (Nat.le_of_ble_eq_true rfl)⟩) hS (fun q _ h => hFc q h) hFc (fun r_1 u t H1 locs ht hvm hw hB hz1 hk1 hS => ?_)
  obtain ⟨hP, hD, hK⟩ := z_after [(h0, .inr (9, [.ref tp, .int 0, .int 0, .int (-1), .ref nw, .ref im, .ref sl, .ref rd, .ref wk, .ref fm, .ref mt, .ref ch, .ref dy])), (nw, .inr (3, [.int 0, .ref tn, .int 0, .int 0, .int 0, .int 0]))] hB ht hvm hP hD hK [2] [0, 1] rfl rfl (by decide) (by decide) hk1 hFc
  generalize H1 = H at hP hS ⊢
  have hP : va_P (dC, dI) vwCl [(h0, .inr (9, [.ref tp, .int 0, .int 0, .int (-1), .ref nw, .ref im, .ref sl, .ref rd, .ref wk, .ref fm, .ref mt, .ref ch, .ref dy])), (nw, .inr (3, [.int 0, .ref tn, .int 0, .int 0, .int 0, .int 0])), (tn, .inr (7, [.int 0, .int 0, .int 0, .int 0, .int 0, .int 0, .int 0, .int 0, .ref ta0, .ref ta1, .ref ta2, .ref ta3, .ref ta4, .ref ta5, .ref ta6, .ref ta7, .ref ta8, .ref ta9]))] H := hP
  have hD : va_D A [(h0, .inr (9, [.ref tp, .int 0, .int 0, .int (-1), .ref nw, .ref im, .ref sl, .ref rd, .ref wk, .ref fm, .ref mt, .ref ch, .ref dy])), (nw, .inr (3, [.int 0, .ref tn, .int 0, .int 0, .int 0, .int 0])), (tn, .inr (7, [.int 0, .int 0, .int 0, .int 0, .int 0, .int 0, .int 0, .int 0, .ref ta0, .ref ta1, .ref ta2, .ref ta3, .ref ta4, .ref ta5, .ref ta6, .ref ta7, .ref ta8, .ref ta9]))] := hD
  have hK : va_K (dC, dI) vwCl [] s := hK
  obtain rfl : r_1 = 0 := hw
  refine lv_if_eq (tgt := 31) hx hb dX9_teach_17 (by decide) (fun _ => ?_) (fun q => absurd q (by decide))
  refine lv_bipush (v := (-2)) hx hb dX9_teach_31 (by decide) ?_
  exact W.iret (v := (-2)) hx hb hr (fun t ht hW => ⟨⟨(-2), (), rfl, rfl, trivial⟩, hS.F ht⟩) hS.2.2 dX9_teach_33
set_option maxHeartbeats 4000000 in
set_option maxRecDepth 100000 in
theorem k_X9_host (l : Launch) (dC : Nat → ClassId) (dI : Nat → Nat → Nat) (h0 : Nat) (p1 : Int32) (p2 : Int32) (p3 : Int32) (p4 : Int32) (p5 : Int32) (tp : Nat) (nw : Nat) (im : Nat) (sl : Nat) (rd : Nat) (wk : Nat) (fm : Nat) (mt : Nat) (ch : Nat) (dy : Nat) (tn : Nat) (ta0 : Nat) (ta1 : Nat) (ta2 : Nat) (ta3 : Nat) (ta4 : Nat) (ta5 : Nat) (ta6 : Nat) (ta7 : Nat) (ta8 : Nat) (ta9 : Nat)  (sz : Nat) : Met l yX9_host (.code yX9_host cX9_host 12 (some .int) :: zT) ({ frames := 2, cells := 0, slots := 0, locals := 44 }) (va_Pc [.ref h0, .int p1, .int p2, .int p3, .int p4, .int p5] (zB dC dI [(h0, .inr (9, [.ref tp, .int 0, .int 0, .int (-1), .ref nw, .ref im, .ref sl, .ref rd, .ref wk, .ref fm, .ref mt, .ref ch, .ref dy])), (nw, .inr (3, [.int 0, .ref tn, .int 0, .int 0, .int 0, .int 0])), (tn, .inr (7, [.int 0, .int 0, .int 0, .int 0, .int 0, .int 0, .int 0, .int 0, .ref ta0, .ref ta1, .ref ta2, .ref ta3, .ref ta4, .ref ta5, .ref ta6, .ref ta7, .ref ta8, .ref ta9]))] [] sz)) (va_Qi (fun (r : Int32) (_ : Unit) => r = (-2)) (fun _ _ => True) (va_A [(h0, .inr (9, [.ref tp, .int 0, .int 0, .int (-1), .ref nw, .ref im, .ref sl, .ref rd, .ref wk, .ref fm, .ref mt, .ref ch, .ref dy])), (nw, .inr (3, [.int 0, .ref tn, .int 0, .int 0, .int 0, .int 0])), (tn, .inr (7, [.int 0, .int 0, .int 0, .int 0, .int 0, .int 0, .int 0, .int 0, .ref ta0, .ref ta1, .ref ta2, .ref ta3, .ref ta4, .ref ta5, .ref ta6, .ref ta7, .ref ta8, .ref ta9]))] sz)) 0 0 (va_A [(h0, .inr (9, [.ref tp, .int 0, .int 0, .int (-1), .ref nw, .ref im, .ref sl, .ref rd, .ref wk, .ref fm, .ref mt, .ref ch, .ref dy])), (nw, .inr (3, [.int 0, .ref tn, .int 0, .int 0, .int 0, .int 0])), (tn, .inr (7, [.int 0, .int 0, .int 0, .int 0, .int 0, .int 0, .int 0, .int 0, .ref ta0, .ref ta1, .ref ta2, .ref ta3, .ref ta4, .ref ta5, .ref ta6, .ref ta7, .ref ta8, .ref ta9]))] sz) := by
  refine Met.ofW (cc := cX9_host) (maxL := 12) (ret := (some .int)) (by decide) rfl ?_
  intro p e s m args below meth c s₁ B hml hv
  obtain ⟨rfl, hsz, hP, hK, hD0⟩ := hv
  have hx := B.exec
  have hb := B.bytes
  have hr := B.returns
  have hts := z_hts (atoms_spec (ws := .code yX9_host cX9_host 12 (some .int) :: zT) B.pre)
  have hown : s.vm.findClass RX9 = some m.cls := findClass_of_methodNamed B.named
  have hlocks := B.notSynchronized
  subst hsz
  have hD := hD0.self (sz := s.heap.size)
  generalize hAe : va_A [(h0, .inr (9, [.ref tp, .int 0, .int 0, .int (-1), .ref nw, .ref im, .ref sl, .ref rd, .ref wk, .ref fm, .ref mt, .ref ch, .ref dy])), (nw, .inr (3, [.int 0, .ref tn, .int 0, .int 0, .int 0, .int 0])), (tn, .inr (7, [.int 0, .int 0, .int 0, .int 0, .int 0, .int 0, .int 0, .int 0, .ref ta0, .ref ta1, .ref ta2, .ref ta3, .ref ta4, .ref ta5, .ref ta6, .ref ta7, .ref ta8, .ref ta9]))] s.heap.size = A at hD ⊢
  have hA : ∀ q : Nat, s.heap.size ≤ q → A q := fun q h => by rw [← hAe]; exact Or.inr h
  have hS : va_S A s.heap s.heap [] := va_S.rf
  have hP : va_P (dC, dI) vwCl [(h0, .inr (9, [.ref tp, .int 0, .int 0, .int (-1), .ref nw, .ref im, .ref sl, .ref rd, .ref wk, .ref fm, .ref mt, .ref ch, .ref dy])), (nw, .inr (3, [.int 0, .ref tn, .int 0, .int 0, .int 0, .int 0])), (tn, .inr (7, [.int 0, .int 0, .int 0, .int 0, .int 0, .int 0, .int 0, .int 0, .ref ta0, .ref ta1, .ref ta2, .ref ta3, .ref ta4, .ref ta5, .ref ta6, .ref ta7, .ref ta8, .ref ta9]))] s.heap := hP
  have hl := lv_entry ([.ref h0, .int p1, .int p2, .int p3, .int p4, .int p5]) (n := 12) (Nat.le_of_ble_eq_true rfl)
  rw [lg_entry_eq]
  generalize (lg_sl ([.ref h0, .int p1, .int p2, .int p3, .int p4, .int p5]) ++ List.replicate (12 - (lg_sl ([.ref h0, .int p1, .int p2, .int p3, .int p4, .int p5])).length) Slot.unset).toArray = ls at hl ⊢
  have hl : lv_has ls 12 [(0, .ref h0), (1, .int p1), (2, .int p2), (3, .int p3), (4, .int p4), (5, .int p5)] := hl
  refine lv_aload_n hx hb dX9_host_0 rfl (lv_at hl 0 rfl) ?_
  refine va_get (D := (dC, dI)) (ci := 9) (v := .ref nw) (C := RX9) (T := TX9) (N := 13) hx hb hts zl_X9 hown hK hP 0 rfl rfl 4 (by decide) (hts _ zw_t2_193) (fun _ h9 => h9) rfl dX9_host_1 ?_
  refine va_get (D := (dC, dI)) (ci := 3) (v := .ref tn) (C := RX3) (T := TX3) (N := 6) hx hb hts zl_X3 hown hK hP 1 rfl rfl 1 (by decide) (hts _ zw_t1_156) (fun _ h9 => h9) rfl dX9_host_4 ?_
  refine lv_astore (lv' := [(6, .ref tn), (0, .ref h0), (1, .int p1), (2, .int p2), (3, .int p3), (4, .int p4), (5, .int p5)]) hx hb dX9_host_7 hl (by decide) rfl (fun ls hl => ?_)
  refine lv_aload hx hb dX9_host_9 (lv_at hl 0 rfl) ?_
  refine lv_iload_n hx hb dX9_host_11 rfl (lv_at hl 3 rfl) ?_
  refine lv_iload_n hx hb dX9_host_12 rfl (lv_at hl 4 rfl) ?_
  refine lv_iload hx hb dX9_host_13 (lv_at hl 5 rfl) ?_
  have hPc := hP.sub (ws' := [(tn, .inr (7, [.int 0, .int 0, .int 0, .int 0, .int 0, .int 0, .int 0, .int 0, .ref ta0, .ref ta1, .ref ta2, .ref ta3, .ref ta4, .ref ta5, .ref ta6, .ref ta7, .ref ta8, .ref ta9]))]) [2] rfl
  have hDc := hD.sub (ws' := [(tn, .inr (7, [.int 0, .int 0, .int 0, .int 0, .int 0, .int 0, .int 0, .int 0, .ref ta0, .ref ta1, .ref ta2, .ref ta3, .ref ta4, .ref ta5, .ref ta6, .ref ta7, .ref ta8, .ref ta9]))]) [2] (by decide) rfl
  have hKc := hK.sub (tys' := []) [] rfl
  have hFc := va_free (wc := [(tn, .inr (7, [.int 0, .int 0, .int 0, .int 0, .int 0, .int 0, .int 0, .int 0, .ref ta0, .ref ta1, .ref ta2, .ref ta3, .ref ta4, .ref ta5, .ref ta6, .ref ta7, .ref ta8, .ref ta9]))]) hD hS hA [2] rfl
  refine va_calli (va_runV (As := [.int p2, .int p3, .int p4]) (rest := []) ⟨hx, hb, hml, hown, hts⟩ (k_X7_hasTrip l dC dI tn p2 p3 p4 ta0 ta1 ta2 ta3 ta4 ta5 ta6 ta7 ta8 ta9 s.heap.size) (cwV 3 hts (z_gV zw_t4_21 zw_t4_22 zw_t4_23 zw_t1_3 zw_t4_24) rfl rfl rfl (by decide +kernel) ⟨(Nat.le_of_ble_eq_true rfl), (Nat.le_of_ble_eq_true rfl)⟩) (z_preV hPc hKc hDc (ci := 7) (q0 := 0) rfl rfl) rfl rfl hl.1 rfl (lv_room (Nat.le_of_ble_eq_true rfl)) dX9_host_15 ⟨(Nat.le_of_ble_eq_true rfl), (Nat.le_of_ble_eq_true rfl)⟩) hS (fun q _ h => hFc q h) hFc (fun r_1 u t H1 locs ht hvm hw hB hz1 hk1 hS => ?_)
  obtain ⟨hP, hD, hK⟩ := z_after [(h0, .inr (9, [.ref tp, .int 0, .int 0, .int (-1), .ref nw, .ref im, .ref sl, .ref rd, .ref wk, .ref fm, .ref mt, .ref ch, .ref dy])), (nw, .inr (3, [.int 0, .ref tn, .int 0, .int 0, .int 0, .int 0]))] hB ht hvm hP hD hK [2] [0, 1] rfl rfl (by decide) (by decide) hk1 hFc
  generalize H1 = H at hP hS ⊢
  have hP : va_P (dC, dI) vwCl [(h0, .inr (9, [.ref tp, .int 0, .int 0, .int (-1), .ref nw, .ref im, .ref sl, .ref rd, .ref wk, .ref fm, .ref mt, .ref ch, .ref dy])), (nw, .inr (3, [.int 0, .ref tn, .int 0, .int 0, .int 0, .int 0])), (tn, .inr (7, [.int 0, .int 0, .int 0, .int 0, .int 0, .int 0, .int 0, .int 0, .ref ta0, .ref ta1, .ref ta2, .ref ta3, .ref ta4, .ref ta5, .ref ta6, .ref ta7, .ref ta8, .ref ta9]))] H := hP
  have hD : va_D A [(h0, .inr (9, [.ref tp, .int 0, .int 0, .int (-1), .ref nw, .ref im, .ref sl, .ref rd, .ref wk, .ref fm, .ref mt, .ref ch, .ref dy])), (nw, .inr (3, [.int 0, .ref tn, .int 0, .int 0, .int 0, .int 0])), (tn, .inr (7, [.int 0, .int 0, .int 0, .int 0, .int 0, .int 0, .int 0, .int 0, .ref ta0, .ref ta1, .ref ta2, .ref ta3, .ref ta4, .ref ta5, .ref ta6, .ref ta7, .ref ta8, .ref ta9]))] := hD
  have hK : va_K (dC, dI) vwCl [] s := hK
  obtain rfl : r_1 = 0 := hw
  refine lv_if_eq (tgt := 41) hx hb dX9_host_18 (by decide) (fun _ => ?_) (fun q => absurd q (by decide))
  refine lv_bipush (v := (-2)) hx hb dX9_host_41 (by decide) ?_
  exact W.iret (v := (-2)) hx hb hr (fun t ht hW => ⟨⟨(-2), (), rfl, rfl, trivial⟩, hS.F ht⟩) hS.2.2 dX9_host_43
set_option maxHeartbeats 4000000 in
set_option maxRecDepth 100000 in
theorem k_X9_three (l : Launch) (dC : Nat → ClassId) (dI : Nat → Nat → Nat) (h0 : Nat) (p1 : Int32) (p2 : Int32) (p3 : Int32) (p4 : Int32) (p5 : Int32) (tp : Nat) (nw : Nat) (im : Nat) (sl : Nat) (rd : Nat) (wk : Nat) (fm : Nat) (mt : Nat) (ch : Nat) (dy : Nat) (tn : Nat) (ta0 : Nat) (ta1 : Nat) (ta2 : Nat) (ta3 : Nat) (ta4 : Nat) (ta5 : Nat) (ta6 : Nat) (ta7 : Nat) (ta8 : Nat) (ta9 : Nat)  (sz : Nat) : Met l yX9_three (.code yX9_three cX9_three 7 (some .int) :: zT) ({ frames := 2, cells := 0, slots := 0, locals := 44 }) (va_Pc [.ref h0, .int p1, .int p2, .int p3, .int p4, .int p5] (zB dC dI [(h0, .inr (9, [.ref tp, .int 0, .int 0, .int (-1), .ref nw, .ref im, .ref sl, .ref rd, .ref wk, .ref fm, .ref mt, .ref ch, .ref dy])), (nw, .inr (3, [.int 0, .ref tn, .int 0, .int 0, .int 0, .int 0])), (tn, .inr (7, [.int 0, .int 0, .int 0, .int 0, .int 0, .int 0, .int 0, .int 0, .ref ta0, .ref ta1, .ref ta2, .ref ta3, .ref ta4, .ref ta5, .ref ta6, .ref ta7, .ref ta8, .ref ta9]))] [] sz)) (va_Qi (fun (r : Int32) (_ : Unit) => r = (-2)) (fun _ _ => True) (va_A [(h0, .inr (9, [.ref tp, .int 0, .int 0, .int (-1), .ref nw, .ref im, .ref sl, .ref rd, .ref wk, .ref fm, .ref mt, .ref ch, .ref dy])), (nw, .inr (3, [.int 0, .ref tn, .int 0, .int 0, .int 0, .int 0])), (tn, .inr (7, [.int 0, .int 0, .int 0, .int 0, .int 0, .int 0, .int 0, .int 0, .ref ta0, .ref ta1, .ref ta2, .ref ta3, .ref ta4, .ref ta5, .ref ta6, .ref ta7, .ref ta8, .ref ta9]))] sz)) 0 0 (va_A [(h0, .inr (9, [.ref tp, .int 0, .int 0, .int (-1), .ref nw, .ref im, .ref sl, .ref rd, .ref wk, .ref fm, .ref mt, .ref ch, .ref dy])), (nw, .inr (3, [.int 0, .ref tn, .int 0, .int 0, .int 0, .int 0])), (tn, .inr (7, [.int 0, .int 0, .int 0, .int 0, .int 0, .int 0, .int 0, .int 0, .ref ta0, .ref ta1, .ref ta2, .ref ta3, .ref ta4, .ref ta5, .ref ta6, .ref ta7, .ref ta8, .ref ta9]))] sz) := by
  refine Met.ofW (cc := cX9_three) (maxL := 7) (ret := (some .int)) (by decide) rfl ?_
  intro p e s m args below meth c s₁ B hml hv
  obtain ⟨rfl, hsz, hP, hK, hD0⟩ := hv
  have hx := B.exec
  have hb := B.bytes
  have hr := B.returns
  have hts := z_hts (atoms_spec (ws := .code yX9_three cX9_three 7 (some .int) :: zT) B.pre)
  have hown : s.vm.findClass RX9 = some m.cls := findClass_of_methodNamed B.named
  have hlocks := B.notSynchronized
  subst hsz
  have hD := hD0.self (sz := s.heap.size)
  generalize hAe : va_A [(h0, .inr (9, [.ref tp, .int 0, .int 0, .int (-1), .ref nw, .ref im, .ref sl, .ref rd, .ref wk, .ref fm, .ref mt, .ref ch, .ref dy])), (nw, .inr (3, [.int 0, .ref tn, .int 0, .int 0, .int 0, .int 0])), (tn, .inr (7, [.int 0, .int 0, .int 0, .int 0, .int 0, .int 0, .int 0, .int 0, .ref ta0, .ref ta1, .ref ta2, .ref ta3, .ref ta4, .ref ta5, .ref ta6, .ref ta7, .ref ta8, .ref ta9]))] s.heap.size = A at hD ⊢
  have hA : ∀ q : Nat, s.heap.size ≤ q → A q := fun q h => by rw [← hAe]; exact Or.inr h
  have hS : va_S A s.heap s.heap [] := va_S.rf
  have hP : va_P (dC, dI) vwCl [(h0, .inr (9, [.ref tp, .int 0, .int 0, .int (-1), .ref nw, .ref im, .ref sl, .ref rd, .ref wk, .ref fm, .ref mt, .ref ch, .ref dy])), (nw, .inr (3, [.int 0, .ref tn, .int 0, .int 0, .int 0, .int 0])), (tn, .inr (7, [.int 0, .int 0, .int 0, .int 0, .int 0, .int 0, .int 0, .int 0, .ref ta0, .ref ta1, .ref ta2, .ref ta3, .ref ta4, .ref ta5, .ref ta6, .ref ta7, .ref ta8, .ref ta9]))] s.heap := hP
  have hl := lv_entry ([.ref h0, .int p1, .int p2, .int p3, .int p4, .int p5]) (n := 7) (Nat.le_of_ble_eq_true rfl)
  rw [lg_entry_eq]
  generalize (lg_sl ([.ref h0, .int p1, .int p2, .int p3, .int p4, .int p5]) ++ List.replicate (7 - (lg_sl ([.ref h0, .int p1, .int p2, .int p3, .int p4, .int p5])).length) Slot.unset).toArray = ls at hl ⊢
  have hl : lv_has ls 7 [(0, .ref h0), (1, .int p1), (2, .int p2), (3, .int p3), (4, .int p4), (5, .int p5)] := hl
  refine lv_aload_n hx hb dX9_three_0 rfl (lv_at hl 0 rfl) ?_
  refine va_get (D := (dC, dI)) (ci := 9) (v := .ref nw) (C := RX9) (T := TX9) (N := 13) hx hb hts zl_X9 hown hK hP 0 rfl rfl 4 (by decide) (hts _ zw_t2_193) (fun _ h9 => h9) rfl dX9_three_1 ?_
  refine va_get (D := (dC, dI)) (ci := 3) (v := .ref tn) (C := RX3) (T := TX3) (N := 6) hx hb hts zl_X3 hown hK hP 1 rfl rfl 1 (by decide) (hts _ zw_t1_156) (fun _ h9 => h9) rfl dX9_three_4 ?_
  refine lv_astore (lv' := [(6, .ref tn), (0, .ref h0), (1, .int p1), (2, .int p2), (3, .int p3), (4, .int p4), (5, .int p5)]) hx hb dX9_three_7 hl (by decide) rfl (fun ls hl => ?_)
  refine lv_aload hx hb dX9_three_9 (lv_at hl 0 rfl) ?_
  refine lv_iload_n hx hb dX9_three_11 rfl (lv_at hl 2 rfl) ?_
  refine lv_iload hx hb dX9_three_12 (lv_at hl 5 rfl) ?_
  refine lv_iload hx hb dX9_three_14 (lv_at hl 6 rfl) ?_
  have hPc := hP.sub (ws' := [(tn, .inr (7, [.int 0, .int 0, .int 0, .int 0, .int 0, .int 0, .int 0, .int 0, .ref ta0, .ref ta1, .ref ta2, .ref ta3, .ref ta4, .ref ta5, .ref ta6, .ref ta7, .ref ta8, .ref ta9]))]) [2] rfl
  have hDc := hD.sub (ws' := [(tn, .inr (7, [.int 0, .int 0, .int 0, .int 0, .int 0, .int 0, .int 0, .int 0, .ref ta0, .ref ta1, .ref ta2, .ref ta3, .ref ta4, .ref ta5, .ref ta6, .ref ta7, .ref ta8, .ref ta9]))]) [2] (by decide) rfl
  have hKc := hK.sub (tys' := []) [] rfl
  have hFc := va_free (wc := [(tn, .inr (7, [.int 0, .int 0, .int 0, .int 0, .int 0, .int 0, .int 0, .int 0, .ref ta0, .ref ta1, .ref ta2, .ref ta3, .ref ta4, .ref ta5, .ref ta6, .ref ta7, .ref ta8, .ref ta9]))]) hD hS hA [2] rfl
  refine va_calli (va_runV (As := [.int p1, .int p4, .int p5]) (rest := []) ⟨hx, hb, hml, hown, hts⟩ (k_X7_hasTrip l dC dI tn p1 p4 p5 ta0 ta1 ta2 ta3 ta4 ta5 ta6 ta7 ta8 ta9 s.heap.size) (cwV 3 hts (z_gV zw_t4_21 zw_t4_22 zw_t4_23 zw_t1_3 zw_t4_24) rfl rfl rfl (by decide +kernel) ⟨(Nat.le_of_ble_eq_true rfl), (Nat.le_of_ble_eq_true rfl)⟩) (z_preV hPc hKc hDc (ci := 7) (q0 := 0) rfl rfl) rfl rfl hl.1 rfl (lv_room (Nat.le_of_ble_eq_true rfl)) dX9_three_16 ⟨(Nat.le_of_ble_eq_true rfl), (Nat.le_of_ble_eq_true rfl)⟩) hS (fun q _ h => hFc q h) hFc (fun r_1 u t H1 locs ht hvm hw hB hz1 hk1 hS => ?_)
  obtain ⟨hP, hD, hK⟩ := z_after [(h0, .inr (9, [.ref tp, .int 0, .int 0, .int (-1), .ref nw, .ref im, .ref sl, .ref rd, .ref wk, .ref fm, .ref mt, .ref ch, .ref dy])), (nw, .inr (3, [.int 0, .ref tn, .int 0, .int 0, .int 0, .int 0]))] hB ht hvm hP hD hK [2] [0, 1] rfl rfl (by decide) (by decide) hk1 hFc
  generalize H1 = H at hP hS ⊢
  have hP : va_P (dC, dI) vwCl [(h0, .inr (9, [.ref tp, .int 0, .int 0, .int (-1), .ref nw, .ref im, .ref sl, .ref rd, .ref wk, .ref fm, .ref mt, .ref ch, .ref dy])), (nw, .inr (3, [.int 0, .ref tn, .int 0, .int 0, .int 0, .int 0])), (tn, .inr (7, [.int 0, .int 0, .int 0, .int 0, .int 0, .int 0, .int 0, .int 0, .ref ta0, .ref ta1, .ref ta2, .ref ta3, .ref ta4, .ref ta5, .ref ta6, .ref ta7, .ref ta8, .ref ta9]))] H := hP
  have hD : va_D A [(h0, .inr (9, [.ref tp, .int 0, .int 0, .int (-1), .ref nw, .ref im, .ref sl, .ref rd, .ref wk, .ref fm, .ref mt, .ref ch, .ref dy])), (nw, .inr (3, [.int 0, .ref tn, .int 0, .int 0, .int 0, .int 0])), (tn, .inr (7, [.int 0, .int 0, .int 0, .int 0, .int 0, .int 0, .int 0, .int 0, .ref ta0, .ref ta1, .ref ta2, .ref ta3, .ref ta4, .ref ta5, .ref ta6, .ref ta7, .ref ta8, .ref ta9]))] := hD
  have hK : va_K (dC, dI) vwCl [] s := hK
  obtain rfl : r_1 = 0 := hw
  refine lv_if_eq (tgt := 40) hx hb dX9_three_19 (by decide) (fun _ => ?_) (fun q => absurd q (by decide))
  refine lv_bipush (v := (-2)) hx hb dX9_three_40 (by decide) ?_
  exact W.iret (v := (-2)) hx hb hr (fun t ht hW => ⟨⟨(-2), (), rfl, rfl, trivial⟩, hS.F ht⟩) hS.2.2 dX9_three_42
set_option maxHeartbeats 4000000 in
set_option maxRecDepth 100000 in
theorem k_X9_vital (l : Launch) (dC : Nat → ClassId) (dI : Nat → Nat → Nat) (h0 : Nat) (p1 : Int32) (p2 : Int32) (p3 : Int32) (tp : Nat) (nw : Nat) (im : Nat) (sl : Nat) (rd : Nat) (wk : Nat) (fm : Nat) (mt : Nat) (ch : Nat) (dy : Nat) (tn : Nat) (ta0 : Nat) (ta1 : Nat) (ta2 : Nat) (ta3 : Nat) (ta4 : Nat) (ta5 : Nat) (ta6 : Nat) (ta7 : Nat) (ta8 : Nat) (ta9 : Nat)  (sz : Nat) : Met l yX9_vital (.code yX9_vital cX9_vital 4 (some .int) :: zT) ({ frames := 2, cells := 0, slots := 0, locals := 44 }) (va_Pc [.ref h0, .int p1, .int p2, .int p3] (zB dC dI [(h0, .inr (9, [.ref tp, .int 0, .int 0, .int (-1), .ref nw, .ref im, .ref sl, .ref rd, .ref wk, .ref fm, .ref mt, .ref ch, .ref dy])), (nw, .inr (3, [.int 0, .ref tn, .int 0, .int 0, .int 0, .int 0])), (tn, .inr (7, [.int 0, .int 0, .int 0, .int 0, .int 0, .int 0, .int 0, .int 0, .ref ta0, .ref ta1, .ref ta2, .ref ta3, .ref ta4, .ref ta5, .ref ta6, .ref ta7, .ref ta8, .ref ta9]))] [] sz)) (va_Qi (fun (r : Int32) (_ : Unit) => r = (-2)) (fun _ _ => True) (va_A [(h0, .inr (9, [.ref tp, .int 0, .int 0, .int (-1), .ref nw, .ref im, .ref sl, .ref rd, .ref wk, .ref fm, .ref mt, .ref ch, .ref dy])), (nw, .inr (3, [.int 0, .ref tn, .int 0, .int 0, .int 0, .int 0])), (tn, .inr (7, [.int 0, .int 0, .int 0, .int 0, .int 0, .int 0, .int 0, .int 0, .ref ta0, .ref ta1, .ref ta2, .ref ta3, .ref ta4, .ref ta5, .ref ta6, .ref ta7, .ref ta8, .ref ta9]))] sz)) 0 0 (va_A [(h0, .inr (9, [.ref tp, .int 0, .int 0, .int (-1), .ref nw, .ref im, .ref sl, .ref rd, .ref wk, .ref fm, .ref mt, .ref ch, .ref dy])), (nw, .inr (3, [.int 0, .ref tn, .int 0, .int 0, .int 0, .int 0])), (tn, .inr (7, [.int 0, .int 0, .int 0, .int 0, .int 0, .int 0, .int 0, .int 0, .ref ta0, .ref ta1, .ref ta2, .ref ta3, .ref ta4, .ref ta5, .ref ta6, .ref ta7, .ref ta8, .ref ta9]))] sz) := by
  refine Met.ofW (cc := cX9_vital) (maxL := 4) (ret := (some .int)) (by decide) rfl ?_
  intro p e s m args below meth c s₁ B hml hv
  obtain ⟨rfl, hsz, hP, hK, hD0⟩ := hv
  have hx := B.exec
  have hb := B.bytes
  have hr := B.returns
  have hts := z_hts (atoms_spec (ws := .code yX9_vital cX9_vital 4 (some .int) :: zT) B.pre)
  have hown : s.vm.findClass RX9 = some m.cls := findClass_of_methodNamed B.named
  have hlocks := B.notSynchronized
  subst hsz
  have hD := hD0.self (sz := s.heap.size)
  generalize hAe : va_A [(h0, .inr (9, [.ref tp, .int 0, .int 0, .int (-1), .ref nw, .ref im, .ref sl, .ref rd, .ref wk, .ref fm, .ref mt, .ref ch, .ref dy])), (nw, .inr (3, [.int 0, .ref tn, .int 0, .int 0, .int 0, .int 0])), (tn, .inr (7, [.int 0, .int 0, .int 0, .int 0, .int 0, .int 0, .int 0, .int 0, .ref ta0, .ref ta1, .ref ta2, .ref ta3, .ref ta4, .ref ta5, .ref ta6, .ref ta7, .ref ta8, .ref ta9]))] s.heap.size = A at hD ⊢
  have hA : ∀ q : Nat, s.heap.size ≤ q → A q := fun q h => by rw [← hAe]; exact Or.inr h
  have hS : va_S A s.heap s.heap [] := va_S.rf
  have hP : va_P (dC, dI) vwCl [(h0, .inr (9, [.ref tp, .int 0, .int 0, .int (-1), .ref nw, .ref im, .ref sl, .ref rd, .ref wk, .ref fm, .ref mt, .ref ch, .ref dy])), (nw, .inr (3, [.int 0, .ref tn, .int 0, .int 0, .int 0, .int 0])), (tn, .inr (7, [.int 0, .int 0, .int 0, .int 0, .int 0, .int 0, .int 0, .int 0, .ref ta0, .ref ta1, .ref ta2, .ref ta3, .ref ta4, .ref ta5, .ref ta6, .ref ta7, .ref ta8, .ref ta9]))] s.heap := hP
  have hl := lv_entry ([.ref h0, .int p1, .int p2, .int p3]) (n := 4) (Nat.le_of_ble_eq_true rfl)
  rw [lg_entry_eq]
  generalize (lg_sl ([.ref h0, .int p1, .int p2, .int p3]) ++ List.replicate (4 - (lg_sl ([.ref h0, .int p1, .int p2, .int p3])).length) Slot.unset).toArray = ls at hl ⊢
  have hl : lv_has ls 4 [(0, .ref h0), (1, .int p1), (2, .int p2), (3, .int p3)] := hl
  refine lv_aload_n hx hb dX9_vital_0 rfl (lv_at hl 0 rfl) ?_
  refine va_get (D := (dC, dI)) (ci := 9) (v := .ref nw) (C := RX9) (T := TX9) (N := 13) hx hb hts zl_X9 hown hK hP 0 rfl rfl 4 (by decide) (hts _ zw_t2_193) (fun _ h9 => h9) rfl dX9_vital_1 ?_
  refine va_get (D := (dC, dI)) (ci := 3) (v := .ref tn) (C := RX3) (T := TX3) (N := 6) hx hb hts zl_X3 hown hK hP 1 rfl rfl 1 (by decide) (hts _ zw_t1_156) (fun _ h9 => h9) rfl dX9_vital_4 ?_
  refine lv_iload_n hx hb dX9_vital_7 rfl (lv_at hl 1 rfl) ?_
  refine lv_iload_n hx hb dX9_vital_8 rfl (lv_at hl 2 rfl) ?_
  refine lv_iload_n hx hb dX9_vital_9 rfl (lv_at hl 3 rfl) ?_
  have hPc := hP.sub (ws' := [(tn, .inr (7, [.int 0, .int 0, .int 0, .int 0, .int 0, .int 0, .int 0, .int 0, .ref ta0, .ref ta1, .ref ta2, .ref ta3, .ref ta4, .ref ta5, .ref ta6, .ref ta7, .ref ta8, .ref ta9]))]) [2] rfl
  have hDc := hD.sub (ws' := [(tn, .inr (7, [.int 0, .int 0, .int 0, .int 0, .int 0, .int 0, .int 0, .int 0, .ref ta0, .ref ta1, .ref ta2, .ref ta3, .ref ta4, .ref ta5, .ref ta6, .ref ta7, .ref ta8, .ref ta9]))]) [2] (by decide) rfl
  have hKc := hK.sub (tys' := []) [] rfl
  have hFc := va_free (wc := [(tn, .inr (7, [.int 0, .int 0, .int 0, .int 0, .int 0, .int 0, .int 0, .int 0, .ref ta0, .ref ta1, .ref ta2, .ref ta3, .ref ta4, .ref ta5, .ref ta6, .ref ta7, .ref ta8, .ref ta9]))]) hD hS hA [2] rfl
  refine va_calli (va_runV (As := [.int p1, .int p2, .int p3]) (rest := []) ⟨hx, hb, hml, hown, hts⟩ (k_X7_hasTrip l dC dI tn p1 p2 p3 ta0 ta1 ta2 ta3 ta4 ta5 ta6 ta7 ta8 ta9 s.heap.size) (cwV 3 hts (z_gV zw_t4_21 zw_t4_22 zw_t4_23 zw_t1_3 zw_t4_24) rfl rfl rfl (by decide +kernel) ⟨(Nat.le_of_ble_eq_true rfl), (Nat.le_of_ble_eq_true rfl)⟩) (z_preV hPc hKc hDc (ci := 7) (q0 := 0) rfl rfl) rfl rfl hl.1 rfl (lv_room (Nat.le_of_ble_eq_true rfl)) dX9_vital_10 ⟨(Nat.le_of_ble_eq_true rfl), (Nat.le_of_ble_eq_true rfl)⟩) hS (fun q _ h => hFc q h) hFc (fun r_1 u t H1 locs ht hvm hw hB hz1 hk1 hS => ?_)
  obtain ⟨hP, hD, hK⟩ := z_after [(h0, .inr (9, [.ref tp, .int 0, .int 0, .int (-1), .ref nw, .ref im, .ref sl, .ref rd, .ref wk, .ref fm, .ref mt, .ref ch, .ref dy])), (nw, .inr (3, [.int 0, .ref tn, .int 0, .int 0, .int 0, .int 0]))] hB ht hvm hP hD hK [2] [0, 1] rfl rfl (by decide) (by decide) hk1 hFc
  generalize H1 = H at hP hS ⊢
  have hP : va_P (dC, dI) vwCl [(h0, .inr (9, [.ref tp, .int 0, .int 0, .int (-1), .ref nw, .ref im, .ref sl, .ref rd, .ref wk, .ref fm, .ref mt, .ref ch, .ref dy])), (nw, .inr (3, [.int 0, .ref tn, .int 0, .int 0, .int 0, .int 0])), (tn, .inr (7, [.int 0, .int 0, .int 0, .int 0, .int 0, .int 0, .int 0, .int 0, .ref ta0, .ref ta1, .ref ta2, .ref ta3, .ref ta4, .ref ta5, .ref ta6, .ref ta7, .ref ta8, .ref ta9]))] H := hP
  have hD : va_D A [(h0, .inr (9, [.ref tp, .int 0, .int 0, .int (-1), .ref nw, .ref im, .ref sl, .ref rd, .ref wk, .ref fm, .ref mt, .ref ch, .ref dy])), (nw, .inr (3, [.int 0, .ref tn, .int 0, .int 0, .int 0, .int 0])), (tn, .inr (7, [.int 0, .int 0, .int 0, .int 0, .int 0, .int 0, .int 0, .int 0, .ref ta0, .ref ta1, .ref ta2, .ref ta3, .ref ta4, .ref ta5, .ref ta6, .ref ta7, .ref ta8, .ref ta9]))] := hD
  have hK : va_K (dC, dI) vwCl [] s := hK
  obtain rfl : r_1 = 0 := hw
  refine lv_if_ne (tgt := 19) hx hb dX9_vital_13 (by decide) (fun q => absurd q (by decide)) (fun _ => ?_)
  refine lv_bipush (v := (-2)) hx hb dX9_vital_16 (by decide) ?_
  exact W.iret (v := (-2)) hx hb hr (fun t ht hW => ⟨⟨(-2), (), rfl, rfl, trivial⟩, hS.F ht⟩) hS.2.2 dX9_vital_18
set_option maxHeartbeats 4000000 in
set_option maxRecDepth 100000 in
theorem k_X9_tell (l : Launch) (dC : Nat → ClassId) (dI : Nat → Nat → Nat) (h0 : Nat) (p1 : Int32) (p2 : Int32) (p3 : Int32) (p4 : Int32) (p5 : Int32) (tp : Nat) (nw : Nat) (im : Nat) (sl : Nat) (rd : Nat) (wk : Nat) (fm : Nat) (mt : Nat) (ch : Nat) (dy : Nat) (tn : Nat) (ta0 : Nat) (ta1 : Nat) (ta2 : Nat) (ta3 : Nat) (ta4 : Nat) (ta5 : Nat) (ta6 : Nat) (ta7 : Nat) (ta8 : Nat) (ta9 : Nat)  (sz : Nat) : Met l yX9_tell (.code yX9_tell cX9_tell 6 (some .long) :: zT) ({ frames := 3, cells := 0, slots := 0, locals := 68 }) (va_Pc [.ref h0, .int p1, .int p2, .int p3, .int p4, .int p5] (zB dC dI [(h0, .inr (9, [.ref tp, .int 0, .int 0, .int (-1), .ref nw, .ref im, .ref sl, .ref rd, .ref wk, .ref fm, .ref mt, .ref ch, .ref dy])), (nw, .inr (3, [.int 0, .ref tn, .int 0, .int 0, .int 0, .int 0])), (tn, .inr (7, [.int 0, .int 0, .int 0, .int 0, .int 0, .int 0, .int 0, .int 0, .ref ta0, .ref ta1, .ref ta2, .ref ta3, .ref ta4, .ref ta5, .ref ta6, .ref ta7, .ref ta8, .ref ta9]))] [] sz)) (va_Ql (fun (r : Int64) (_ : Unit) => r = (-2)) (fun _ _ => True) (va_A [(h0, .inr (9, [.ref tp, .int 0, .int 0, .int (-1), .ref nw, .ref im, .ref sl, .ref rd, .ref wk, .ref fm, .ref mt, .ref ch, .ref dy])), (nw, .inr (3, [.int 0, .ref tn, .int 0, .int 0, .int 0, .int 0])), (tn, .inr (7, [.int 0, .int 0, .int 0, .int 0, .int 0, .int 0, .int 0, .int 0, .ref ta0, .ref ta1, .ref ta2, .ref ta3, .ref ta4, .ref ta5, .ref ta6, .ref ta7, .ref ta8, .ref ta9]))] sz)) 0 0 (va_A [(h0, .inr (9, [.ref tp, .int 0, .int 0, .int (-1), .ref nw, .ref im, .ref sl, .ref rd, .ref wk, .ref fm, .ref mt, .ref ch, .ref dy])), (nw, .inr (3, [.int 0, .ref tn, .int 0, .int 0, .int 0, .int 0])), (tn, .inr (7, [.int 0, .int 0, .int 0, .int 0, .int 0, .int 0, .int 0, .int 0, .ref ta0, .ref ta1, .ref ta2, .ref ta3, .ref ta4, .ref ta5, .ref ta6, .ref ta7, .ref ta8, .ref ta9]))] sz) := by
  refine Met.ofW (cc := cX9_tell) (maxL := 6) (ret := (some .long)) (by decide) rfl ?_
  intro p e s m args below meth c s₁ B hml hv
  obtain ⟨rfl, hsz, hP, hK, hD0⟩ := hv
  have hx := B.exec
  have hb := B.bytes
  have hr := B.returns
  have hts := z_hts (atoms_spec (ws := .code yX9_tell cX9_tell 6 (some .long) :: zT) B.pre)
  have hown : s.vm.findClass RX9 = some m.cls := findClass_of_methodNamed B.named
  have hlocks := B.notSynchronized
  subst hsz
  have hD := hD0.self (sz := s.heap.size)
  generalize hAe : va_A [(h0, .inr (9, [.ref tp, .int 0, .int 0, .int (-1), .ref nw, .ref im, .ref sl, .ref rd, .ref wk, .ref fm, .ref mt, .ref ch, .ref dy])), (nw, .inr (3, [.int 0, .ref tn, .int 0, .int 0, .int 0, .int 0])), (tn, .inr (7, [.int 0, .int 0, .int 0, .int 0, .int 0, .int 0, .int 0, .int 0, .ref ta0, .ref ta1, .ref ta2, .ref ta3, .ref ta4, .ref ta5, .ref ta6, .ref ta7, .ref ta8, .ref ta9]))] s.heap.size = A at hD ⊢
  have hA : ∀ q : Nat, s.heap.size ≤ q → A q := fun q h => by rw [← hAe]; exact Or.inr h
  have hS : va_S A s.heap s.heap [] := va_S.rf
  have hP : va_P (dC, dI) vwCl [(h0, .inr (9, [.ref tp, .int 0, .int 0, .int (-1), .ref nw, .ref im, .ref sl, .ref rd, .ref wk, .ref fm, .ref mt, .ref ch, .ref dy])), (nw, .inr (3, [.int 0, .ref tn, .int 0, .int 0, .int 0, .int 0])), (tn, .inr (7, [.int 0, .int 0, .int 0, .int 0, .int 0, .int 0, .int 0, .int 0, .ref ta0, .ref ta1, .ref ta2, .ref ta3, .ref ta4, .ref ta5, .ref ta6, .ref ta7, .ref ta8, .ref ta9]))] s.heap := hP
  have hl := lv_entry ([.ref h0, .int p1, .int p2, .int p3, .int p4, .int p5]) (n := 6) (Nat.le_of_ble_eq_true rfl)
  rw [lg_entry_eq]
  generalize (lg_sl ([.ref h0, .int p1, .int p2, .int p3, .int p4, .int p5]) ++ List.replicate (6 - (lg_sl ([.ref h0, .int p1, .int p2, .int p3, .int p4, .int p5])).length) Slot.unset).toArray = ls at hl ⊢
  have hl : lv_has ls 6 [(0, .ref h0), (1, .int p1), (2, .int p2), (3, .int p3), (4, .int p4), (5, .int p5)] := hl
  refine lv_aload_n hx hb dX9_tell_0 rfl (lv_at hl 0 rfl) ?_
  refine va_get (D := (dC, dI)) (ci := 9) (v := .ref nw) (C := RX9) (T := TX9) (N := 13) hx hb hts zl_X9 hown hK hP 0 rfl rfl 4 (by decide) (hts _ zw_t2_193) (fun _ h9 => h9) rfl dX9_tell_1 ?_
  refine va_get (D := (dC, dI)) (ci := 3) (v := .ref tn) (C := RX3) (T := TX3) (N := 6) hx hb hts zl_X3 hown hK hP 1 rfl rfl 1 (by decide) (hts _ zw_t1_156) (fun _ h9 => h9) rfl dX9_tell_4 ?_
  refine lv_iload_n hx hb dX9_tell_7 rfl (lv_at hl 2 rfl) ?_
  refine lv_iload_n hx hb dX9_tell_8 rfl (lv_at hl 3 rfl) ?_
  refine lv_iload hx hb dX9_tell_9 (lv_at hl 4 rfl) ?_
  refine lv_iload hx hb dX9_tell_11 (lv_at hl 5 rfl) ?_
  have hPc := hP.sub (ws' := [(tn, .inr (7, [.int 0, .int 0, .int 0, .int 0, .int 0, .int 0, .int 0, .int 0, .ref ta0, .ref ta1, .ref ta2, .ref ta3, .ref ta4, .ref ta5, .ref ta6, .ref ta7, .ref ta8, .ref ta9]))]) [2] rfl
  have hDc := hD.sub (ws' := [(tn, .inr (7, [.int 0, .int 0, .int 0, .int 0, .int 0, .int 0, .int 0, .int 0, .ref ta0, .ref ta1, .ref ta2, .ref ta3, .ref ta4, .ref ta5, .ref ta6, .ref ta7, .ref ta8, .ref ta9]))]) [2] (by decide) rfl
  have hKc := hK.sub (tys' := []) [] rfl
  have hFc := va_free (wc := [(tn, .inr (7, [.int 0, .int 0, .int 0, .int 0, .int 0, .int 0, .int 0, .int 0, .ref ta0, .ref ta1, .ref ta2, .ref ta3, .ref ta4, .ref ta5, .ref ta6, .ref ta7, .ref ta8, .ref ta9]))]) hD hS hA [2] rfl
  refine va_calli (va_runV (As := [.int p2, .int p3, .int p4, .int p5]) (rest := []) ⟨hx, hb, hml, hown, hts⟩ (k_X7_hasTripBy l dC dI tn p2 p3 p4 p5 ta0 ta1 ta2 ta3 ta4 ta5 ta6 ta7 ta8 ta9 s.heap.size) (cwV 4 hts (z_gV zw_t4_115 zw_t4_116 zw_t4_117 zw_t1_3 zw_t4_118) rfl rfl rfl (by decide +kernel) ⟨(Nat.le_of_ble_eq_true rfl), (Nat.le_of_ble_eq_true rfl)⟩) (z_preV hPc hKc hDc (ci := 7) (q0 := 0) rfl rfl) rfl rfl hl.1 rfl (lv_room (Nat.le_of_ble_eq_true rfl)) dX9_tell_13 ⟨(Nat.le_of_ble_eq_true rfl), (Nat.le_of_ble_eq_true rfl)⟩) hS (fun q _ h => hFc q h) hFc (fun r_1 u t H1 locs ht hvm hw hB hz1 hk1 hS => ?_)
  obtain ⟨hP, hD, hK⟩ := z_after [(h0, .inr (9, [.ref tp, .int 0, .int 0, .int (-1), .ref nw, .ref im, .ref sl, .ref rd, .ref wk, .ref fm, .ref mt, .ref ch, .ref dy])), (nw, .inr (3, [.int 0, .ref tn, .int 0, .int 0, .int 0, .int 0]))] hB ht hvm hP hD hK [2] [0, 1] rfl rfl (by decide) (by decide) hk1 hFc
  generalize H1 = H at hP hS ⊢
  have hP : va_P (dC, dI) vwCl [(h0, .inr (9, [.ref tp, .int 0, .int 0, .int (-1), .ref nw, .ref im, .ref sl, .ref rd, .ref wk, .ref fm, .ref mt, .ref ch, .ref dy])), (nw, .inr (3, [.int 0, .ref tn, .int 0, .int 0, .int 0, .int 0])), (tn, .inr (7, [.int 0, .int 0, .int 0, .int 0, .int 0, .int 0, .int 0, .int 0, .ref ta0, .ref ta1, .ref ta2, .ref ta3, .ref ta4, .ref ta5, .ref ta6, .ref ta7, .ref ta8, .ref ta9]))] H := hP
  have hD : va_D A [(h0, .inr (9, [.ref tp, .int 0, .int 0, .int (-1), .ref nw, .ref im, .ref sl, .ref rd, .ref wk, .ref fm, .ref mt, .ref ch, .ref dy])), (nw, .inr (3, [.int 0, .ref tn, .int 0, .int 0, .int 0, .int 0])), (tn, .inr (7, [.int 0, .int 0, .int 0, .int 0, .int 0, .int 0, .int 0, .int 0, .ref ta0, .ref ta1, .ref ta2, .ref ta3, .ref ta4, .ref ta5, .ref ta6, .ref ta7, .ref ta8, .ref ta9]))] := hD
  have hK : va_K (dC, dI) vwCl [] s := hK
  obtain rfl : r_1 = 0 := hw
  refine lv_if_eq (tgt := 33) hx hb dX9_tell_16 (by decide) (fun _ => ?_) (fun q => absurd q (by decide))
  refine lv_ldc2 (v := (-2)) hx hb hown (hts _ zw_t5_45) dX9_tell_33 ?_
  exact W.lret (v := (-2)) hx hb hr (fun t ht hW => ⟨⟨(-2), (), rfl, rfl, trivial⟩, hS.F ht⟩) hS.2.2 dX9_tell_36
set_option maxHeartbeats 4000000 in
set_option maxRecDepth 100000 in
theorem k_X9_tells (l : Launch) (dC : Nat → ClassId) (dI : Nat → Nat → Nat) (h0 : Nat) (p1 : Int32) (p2 : Int32) (p3 : Int32) (p4 : Int32) (tp : Nat) (nw : Nat) (im : Nat) (sl : Nat) (rd : Nat) (wk : Nat) (fm : Nat) (mt : Nat) (ch : Nat) (dy : Nat) (tn : Nat) (ta0 : Nat) (ta1 : Nat) (ta2 : Nat) (ta3 : Nat) (ta4 : Nat) (ta5 : Nat) (ta6 : Nat) (ta7 : Nat) (ta8 : Nat) (ta9 : Nat)  (sz : Nat) : Met l yX9_tells (.code yX9_tells cX9_tells 11 (some .int) :: zT) ({ frames := 3, cells := 0, slots := 0, locals := 68 }) (va_Pc [.ref h0, .int p1, .int p2, .int p3, .int p4] (zB dC dI [(h0, .inr (9, [.ref tp, .int 0, .int 0, .int (-1), .ref nw, .ref im, .ref sl, .ref rd, .ref wk, .ref fm, .ref mt, .ref ch, .ref dy])), (nw, .inr (3, [.int 0, .ref tn, .int 0, .int 0, .int 0, .int 0])), (tn, .inr (7, [.int 0, .int 0, .int 0, .int 0, .int 0, .int 0, .int 0, .int 0, .ref ta0, .ref ta1, .ref ta2, .ref ta3, .ref ta4, .ref ta5, .ref ta6, .ref ta7, .ref ta8, .ref ta9]))] [] sz)) (va_Qi (fun (r : Int32) (_ : Unit) => r = (-2)) (fun _ _ => True) (va_A [(h0, .inr (9, [.ref tp, .int 0, .int 0, .int (-1), .ref nw, .ref im, .ref sl, .ref rd, .ref wk, .ref fm, .ref mt, .ref ch, .ref dy])), (nw, .inr (3, [.int 0, .ref tn, .int 0, .int 0, .int 0, .int 0])), (tn, .inr (7, [.int 0, .int 0, .int 0, .int 0, .int 0, .int 0, .int 0, .int 0, .ref ta0, .ref ta1, .ref ta2, .ref ta3, .ref ta4, .ref ta5, .ref ta6, .ref ta7, .ref ta8, .ref ta9]))] sz)) 0 0 (va_A [(h0, .inr (9, [.ref tp, .int 0, .int 0, .int (-1), .ref nw, .ref im, .ref sl, .ref rd, .ref wk, .ref fm, .ref mt, .ref ch, .ref dy])), (nw, .inr (3, [.int 0, .ref tn, .int 0, .int 0, .int 0, .int 0])), (tn, .inr (7, [.int 0, .int 0, .int 0, .int 0, .int 0, .int 0, .int 0, .int 0, .ref ta0, .ref ta1, .ref ta2, .ref ta3, .ref ta4, .ref ta5, .ref ta6, .ref ta7, .ref ta8, .ref ta9]))] sz) := by
  refine Met.ofW (cc := cX9_tells) (maxL := 11) (ret := (some .int)) (by decide) rfl ?_
  intro p e s m args below meth c s₁ B hml hv
  obtain ⟨rfl, hsz, hP, hK, hD0⟩ := hv
  have hx := B.exec
  have hb := B.bytes
  have hr := B.returns
  have hts := z_hts (atoms_spec (ws := .code yX9_tells cX9_tells 11 (some .int) :: zT) B.pre)
  have hown : s.vm.findClass RX9 = some m.cls := findClass_of_methodNamed B.named
  have hlocks := B.notSynchronized
  subst hsz
  have hD := hD0.self (sz := s.heap.size)
  generalize hAe : va_A [(h0, .inr (9, [.ref tp, .int 0, .int 0, .int (-1), .ref nw, .ref im, .ref sl, .ref rd, .ref wk, .ref fm, .ref mt, .ref ch, .ref dy])), (nw, .inr (3, [.int 0, .ref tn, .int 0, .int 0, .int 0, .int 0])), (tn, .inr (7, [.int 0, .int 0, .int 0, .int 0, .int 0, .int 0, .int 0, .int 0, .ref ta0, .ref ta1, .ref ta2, .ref ta3, .ref ta4, .ref ta5, .ref ta6, .ref ta7, .ref ta8, .ref ta9]))] s.heap.size = A at hD ⊢
  have hA : ∀ q : Nat, s.heap.size ≤ q → A q := fun q h => by rw [← hAe]; exact Or.inr h
  have hS : va_S A s.heap s.heap [] := va_S.rf
  have hP : va_P (dC, dI) vwCl [(h0, .inr (9, [.ref tp, .int 0, .int 0, .int (-1), .ref nw, .ref im, .ref sl, .ref rd, .ref wk, .ref fm, .ref mt, .ref ch, .ref dy])), (nw, .inr (3, [.int 0, .ref tn, .int 0, .int 0, .int 0, .int 0])), (tn, .inr (7, [.int 0, .int 0, .int 0, .int 0, .int 0, .int 0, .int 0, .int 0, .ref ta0, .ref ta1, .ref ta2, .ref ta3, .ref ta4, .ref ta5, .ref ta6, .ref ta7, .ref ta8, .ref ta9]))] s.heap := hP
  have hl := lv_entry ([.ref h0, .int p1, .int p2, .int p3, .int p4]) (n := 11) (Nat.le_of_ble_eq_true rfl)
  rw [lg_entry_eq]
  generalize (lg_sl ([.ref h0, .int p1, .int p2, .int p3, .int p4]) ++ List.replicate (11 - (lg_sl ([.ref h0, .int p1, .int p2, .int p3, .int p4])).length) Slot.unset).toArray = ls at hl ⊢
  have hl : lv_has ls 11 [(0, .ref h0), (1, .int p1), (2, .int p2), (3, .int p3), (4, .int p4)] := hl
  refine lv_aload_n hx hb dX9_tells_0 rfl (lv_at hl 0 rfl) ?_
  refine va_get (D := (dC, dI)) (ci := 9) (v := .ref nw) (C := RX9) (T := TX9) (N := 13) hx hb hts zl_X9 hown hK hP 0 rfl rfl 4 (by decide) (hts _ zw_t2_193) (fun _ h9 => h9) rfl dX9_tells_1 ?_
  refine va_get (D := (dC, dI)) (ci := 3) (v := .ref tn) (C := RX3) (T := TX3) (N := 6) hx hb hts zl_X3 hown hK hP 1 rfl rfl 1 (by decide) (hts _ zw_t1_156) (fun _ h9 => h9) rfl dX9_tells_4 ?_
  refine lv_iload_n hx hb dX9_tells_7 rfl (lv_at hl 1 rfl) ?_
  refine lv_iload_n hx hb dX9_tells_8 rfl (lv_at hl 2 rfl) ?_
  refine lv_iload_n hx hb dX9_tells_9 rfl (lv_at hl 3 rfl) ?_
  refine lv_iload hx hb dX9_tells_10 (lv_at hl 4 rfl) ?_
  have hPc := hP.sub (ws' := [(tn, .inr (7, [.int 0, .int 0, .int 0, .int 0, .int 0, .int 0, .int 0, .int 0, .ref ta0, .ref ta1, .ref ta2, .ref ta3, .ref ta4, .ref ta5, .ref ta6, .ref ta7, .ref ta8, .ref ta9]))]) [2] rfl
  have hDc := hD.sub (ws' := [(tn, .inr (7, [.int 0, .int 0, .int 0, .int 0, .int 0, .int 0, .int 0, .int 0, .ref ta0, .ref ta1, .ref ta2, .ref ta3, .ref ta4, .ref ta5, .ref ta6, .ref ta7, .ref ta8, .ref ta9]))]) [2] (by decide) rfl
  have hKc := hK.sub (tys' := []) [] rfl
  have hFc := va_free (wc := [(tn, .inr (7, [.int 0, .int 0, .int 0, .int 0, .int 0, .int 0, .int 0, .int 0, .ref ta0, .ref ta1, .ref ta2, .ref ta3, .ref ta4, .ref ta5, .ref ta6, .ref ta7, .ref ta8, .ref ta9]))]) hD hS hA [2] rfl
  refine va_calli (va_runV (As := [.int p1, .int p2, .int p3, .int p4]) (rest := []) ⟨hx, hb, hml, hown, hts⟩ (k_X7_hasTripBy l dC dI tn p1 p2 p3 p4 ta0 ta1 ta2 ta3 ta4 ta5 ta6 ta7 ta8 ta9 s.heap.size) (cwV 4 hts (z_gV zw_t4_115 zw_t4_116 zw_t4_117 zw_t1_3 zw_t4_118) rfl rfl rfl (by decide +kernel) ⟨(Nat.le_of_ble_eq_true rfl), (Nat.le_of_ble_eq_true rfl)⟩) (z_preV hPc hKc hDc (ci := 7) (q0 := 0) rfl rfl) rfl rfl hl.1 rfl (lv_room (Nat.le_of_ble_eq_true rfl)) dX9_tells_12 ⟨(Nat.le_of_ble_eq_true rfl), (Nat.le_of_ble_eq_true rfl)⟩) hS (fun q _ h => hFc q h) hFc (fun r_1 u t H1 locs ht hvm hw hB hz1 hk1 hS => ?_)
  obtain ⟨hP, hD, hK⟩ := z_after [(h0, .inr (9, [.ref tp, .int 0, .int 0, .int (-1), .ref nw, .ref im, .ref sl, .ref rd, .ref wk, .ref fm, .ref mt, .ref ch, .ref dy])), (nw, .inr (3, [.int 0, .ref tn, .int 0, .int 0, .int 0, .int 0]))] hB ht hvm hP hD hK [2] [0, 1] rfl rfl (by decide) (by decide) hk1 hFc
  generalize H1 = H at hP hS ⊢
  have hP : va_P (dC, dI) vwCl [(h0, .inr (9, [.ref tp, .int 0, .int 0, .int (-1), .ref nw, .ref im, .ref sl, .ref rd, .ref wk, .ref fm, .ref mt, .ref ch, .ref dy])), (nw, .inr (3, [.int 0, .ref tn, .int 0, .int 0, .int 0, .int 0])), (tn, .inr (7, [.int 0, .int 0, .int 0, .int 0, .int 0, .int 0, .int 0, .int 0, .ref ta0, .ref ta1, .ref ta2, .ref ta3, .ref ta4, .ref ta5, .ref ta6, .ref ta7, .ref ta8, .ref ta9]))] H := hP
  have hD : va_D A [(h0, .inr (9, [.ref tp, .int 0, .int 0, .int (-1), .ref nw, .ref im, .ref sl, .ref rd, .ref wk, .ref fm, .ref mt, .ref ch, .ref dy])), (nw, .inr (3, [.int 0, .ref tn, .int 0, .int 0, .int 0, .int 0])), (tn, .inr (7, [.int 0, .int 0, .int 0, .int 0, .int 0, .int 0, .int 0, .int 0, .ref ta0, .ref ta1, .ref ta2, .ref ta3, .ref ta4, .ref ta5, .ref ta6, .ref ta7, .ref ta8, .ref ta9]))] := hD
  have hK : va_K (dC, dI) vwCl [] s := hK
  obtain rfl : r_1 = 0 := hw
  refine lv_if_ne (tgt := 21) hx hb dX9_tells_15 (by decide) (fun q => absurd q (by decide)) (fun _ => ?_)
  refine lv_bipush (v := (-2)) hx hb dX9_tells_18 (by decide) ?_
  exact W.iret (v := (-2)) hx hb hr (fun t ht hW => ⟨⟨(-2), (), rfl, rfl, trivial⟩, hS.F ht⟩) hS.2.2 dX9_tells_20
set_option maxHeartbeats 4000000 in
set_option maxRecDepth 100000 in
theorem k_X9_until (l : Launch) (dC : Nat → ClassId) (dI : Nat → Nat → Nat) (h0 : Nat) (p1 : Int32) (p2 : Int32) (p3 : Int32) (p4 : Int32) (tp : Nat) (nw : Nat) (im : Nat) (sl : Nat) (rd : Nat) (wk : Nat) (fm : Nat) (mt : Nat) (ch : Nat) (dy : Nat) (tn : Nat) (ta0 : Nat) (ta1 : Nat) (ta2 : Nat) (ta3 : Nat) (ta4 : Nat) (ta5 : Nat) (ta6 : Nat) (ta7 : Nat) (ta8 : Nat) (ta9 : Nat)  (sz : Nat) : Met l yX9_until (.code yX9_until cX9_until 12 (some .int) :: zT) ({ frames := 2, cells := 0, slots := 0, locals := 44 }) (va_Pc [.ref h0, .int p1, .int p2, .int p3, .int p4] (zB dC dI [(h0, .inr (9, [.ref tp, .int 0, .int 0, .int (-1), .ref nw, .ref im, .ref sl, .ref rd, .ref wk, .ref fm, .ref mt, .ref ch, .ref dy])), (nw, .inr (3, [.int 0, .ref tn, .int 0, .int 0, .int 0, .int 0])), (tn, .inr (7, [.int 0, .int 0, .int 0, .int 0, .int 0, .int 0, .int 0, .int 0, .ref ta0, .ref ta1, .ref ta2, .ref ta3, .ref ta4, .ref ta5, .ref ta6, .ref ta7, .ref ta8, .ref ta9]))] [] sz)) (va_Qi (fun (r : Int32) (_ : Unit) => r = (-2)) (fun _ _ => True) (va_A [(h0, .inr (9, [.ref tp, .int 0, .int 0, .int (-1), .ref nw, .ref im, .ref sl, .ref rd, .ref wk, .ref fm, .ref mt, .ref ch, .ref dy])), (nw, .inr (3, [.int 0, .ref tn, .int 0, .int 0, .int 0, .int 0])), (tn, .inr (7, [.int 0, .int 0, .int 0, .int 0, .int 0, .int 0, .int 0, .int 0, .ref ta0, .ref ta1, .ref ta2, .ref ta3, .ref ta4, .ref ta5, .ref ta6, .ref ta7, .ref ta8, .ref ta9]))] sz)) 0 0 (va_A [(h0, .inr (9, [.ref tp, .int 0, .int 0, .int (-1), .ref nw, .ref im, .ref sl, .ref rd, .ref wk, .ref fm, .ref mt, .ref ch, .ref dy])), (nw, .inr (3, [.int 0, .ref tn, .int 0, .int 0, .int 0, .int 0])), (tn, .inr (7, [.int 0, .int 0, .int 0, .int 0, .int 0, .int 0, .int 0, .int 0, .ref ta0, .ref ta1, .ref ta2, .ref ta3, .ref ta4, .ref ta5, .ref ta6, .ref ta7, .ref ta8, .ref ta9]))] sz) := by
  refine Met.ofW (cc := cX9_until) (maxL := 12) (ret := (some .int)) (by decide) rfl ?_
  intro p e s m args below meth c s₁ B hml hv
  obtain ⟨rfl, hsz, hP, hK, hD0⟩ := hv
  have hx := B.exec
  have hb := B.bytes
  have hr := B.returns
  have hts := z_hts (atoms_spec (ws := .code yX9_until cX9_until 12 (some .int) :: zT) B.pre)
  have hown : s.vm.findClass RX9 = some m.cls := findClass_of_methodNamed B.named
  have hlocks := B.notSynchronized
  subst hsz
  have hD := hD0.self (sz := s.heap.size)
  generalize hAe : va_A [(h0, .inr (9, [.ref tp, .int 0, .int 0, .int (-1), .ref nw, .ref im, .ref sl, .ref rd, .ref wk, .ref fm, .ref mt, .ref ch, .ref dy])), (nw, .inr (3, [.int 0, .ref tn, .int 0, .int 0, .int 0, .int 0])), (tn, .inr (7, [.int 0, .int 0, .int 0, .int 0, .int 0, .int 0, .int 0, .int 0, .ref ta0, .ref ta1, .ref ta2, .ref ta3, .ref ta4, .ref ta5, .ref ta6, .ref ta7, .ref ta8, .ref ta9]))] s.heap.size = A at hD ⊢
  have hA : ∀ q : Nat, s.heap.size ≤ q → A q := fun q h => by rw [← hAe]; exact Or.inr h
  have hS : va_S A s.heap s.heap [] := va_S.rf
  have hP : va_P (dC, dI) vwCl [(h0, .inr (9, [.ref tp, .int 0, .int 0, .int (-1), .ref nw, .ref im, .ref sl, .ref rd, .ref wk, .ref fm, .ref mt, .ref ch, .ref dy])), (nw, .inr (3, [.int 0, .ref tn, .int 0, .int 0, .int 0, .int 0])), (tn, .inr (7, [.int 0, .int 0, .int 0, .int 0, .int 0, .int 0, .int 0, .int 0, .ref ta0, .ref ta1, .ref ta2, .ref ta3, .ref ta4, .ref ta5, .ref ta6, .ref ta7, .ref ta8, .ref ta9]))] s.heap := hP
  have hl := lv_entry ([.ref h0, .int p1, .int p2, .int p3, .int p4]) (n := 12) (Nat.le_of_ble_eq_true rfl)
  rw [lg_entry_eq]
  generalize (lg_sl ([.ref h0, .int p1, .int p2, .int p3, .int p4]) ++ List.replicate (12 - (lg_sl ([.ref h0, .int p1, .int p2, .int p3, .int p4])).length) Slot.unset).toArray = ls at hl ⊢
  have hl : lv_has ls 12 [(0, .ref h0), (1, .int p1), (2, .int p2), (3, .int p3), (4, .int p4)] := hl
  refine lv_aload_n hx hb dX9_until_0 rfl (lv_at hl 0 rfl) ?_
  refine va_get (D := (dC, dI)) (ci := 9) (v := .ref nw) (C := RX9) (T := TX9) (N := 13) hx hb hts zl_X9 hown hK hP 0 rfl rfl 4 (by decide) (hts _ zw_t2_193) (fun _ h9 => h9) rfl dX9_until_1 ?_
  refine va_get (D := (dC, dI)) (ci := 3) (v := .ref tn) (C := RX3) (T := TX3) (N := 6) hx hb hts zl_X3 hown hK hP 1 rfl rfl 1 (by decide) (hts _ zw_t1_156) (fun _ h9 => h9) rfl dX9_until_4 ?_
  refine lv_astore (lv' := [(5, .ref tn), (0, .ref h0), (1, .int p1), (2, .int p2), (3, .int p3), (4, .int p4)]) hx hb dX9_until_7 hl (by decide) rfl (fun ls hl => ?_)
  refine lv_aload hx hb dX9_until_9 (lv_at hl 0 rfl) ?_
  refine lv_iload_n hx hb dX9_until_11 rfl (lv_at hl 2 rfl) ?_
  refine lv_iload_n hx hb dX9_until_12 rfl (lv_at hl 3 rfl) ?_
  refine lv_iload_n hx hb dX9_until_13 rfl (lv_at hl 4 rfl) ?_
  have hPc := hP.sub (ws' := [(tn, .inr (7, [.int 0, .int 0, .int 0, .int 0, .int 0, .int 0, .int 0, .int 0, .ref ta0, .ref ta1, .ref ta2, .ref ta3, .ref ta4, .ref ta5, .ref ta6, .ref ta7, .ref ta8, .ref ta9]))]) [2] rfl
  have hDc := hD.sub (ws' := [(tn, .inr (7, [.int 0, .int 0, .int 0, .int 0, .int 0, .int 0, .int 0, .int 0, .ref ta0, .ref ta1, .ref ta2, .ref ta3, .ref ta4, .ref ta5, .ref ta6, .ref ta7, .ref ta8, .ref ta9]))]) [2] (by decide) rfl
  have hKc := hK.sub (tys' := []) [] rfl
  have hFc := va_free (wc := [(tn, .inr (7, [.int 0, .int 0, .int 0, .int 0, .int 0, .int 0, .int 0, .int 0, .ref ta0, .ref ta1, .ref ta2, .ref ta3, .ref ta4, .ref ta5, .ref ta6, .ref ta7, .ref ta8, .ref ta9]))]) hD hS hA [2] rfl
  refine va_calli (va_runV (As := [.int p1, .int p2, .int p3]) (rest := []) ⟨hx, hb, hml, hown, hts⟩ (k_X7_hasTrip l dC dI tn p1 p2 p3 ta0 ta1 ta2 ta3 ta4 ta5 ta6 ta7 ta8 ta9 s.heap.size) (cwV 3 hts (z_gV zw_t4_21 zw_t4_22 zw_t4_23 zw_t1_3 zw_t4_24) rfl rfl rfl (by decide +kernel) ⟨(Nat.le_of_ble_eq_true rfl), (Nat.le_of_ble_eq_true rfl)⟩) (z_preV hPc hKc hDc (ci := 7) (q0 := 0) rfl rfl) rfl rfl hl.1 rfl (lv_room (Nat.le_of_ble_eq_true rfl)) dX9_until_14 ⟨(Nat.le_of_ble_eq_true rfl), (Nat.le_of_ble_eq_true rfl)⟩) hS (fun q _ h => hFc q h) hFc (fun r_1 u t H1 locs ht hvm hw hB hz1 hk1 hS => ?_)
  obtain ⟨hP, hD, hK⟩ := z_after [(h0, .inr (9, [.ref tp, .int 0, .int 0, .int (-1), .ref nw, .ref im, .ref sl, .ref rd, .ref wk, .ref fm, .ref mt, .ref ch, .ref dy])), (nw, .inr (3, [.int 0, .ref tn, .int 0, .int 0, .int 0, .int 0]))] hB ht hvm hP hD hK [2] [0, 1] rfl rfl (by decide) (by decide) hk1 hFc
  generalize H1 = H at hP hS ⊢
  have hP : va_P (dC, dI) vwCl [(h0, .inr (9, [.ref tp, .int 0, .int 0, .int (-1), .ref nw, .ref im, .ref sl, .ref rd, .ref wk, .ref fm, .ref mt, .ref ch, .ref dy])), (nw, .inr (3, [.int 0, .ref tn, .int 0, .int 0, .int 0, .int 0])), (tn, .inr (7, [.int 0, .int 0, .int 0, .int 0, .int 0, .int 0, .int 0, .int 0, .ref ta0, .ref ta1, .ref ta2, .ref ta3, .ref ta4, .ref ta5, .ref ta6, .ref ta7, .ref ta8, .ref ta9]))] H := hP
  have hD : va_D A [(h0, .inr (9, [.ref tp, .int 0, .int 0, .int (-1), .ref nw, .ref im, .ref sl, .ref rd, .ref wk, .ref fm, .ref mt, .ref ch, .ref dy])), (nw, .inr (3, [.int 0, .ref tn, .int 0, .int 0, .int 0, .int 0])), (tn, .inr (7, [.int 0, .int 0, .int 0, .int 0, .int 0, .int 0, .int 0, .int 0, .ref ta0, .ref ta1, .ref ta2, .ref ta3, .ref ta4, .ref ta5, .ref ta6, .ref ta7, .ref ta8, .ref ta9]))] := hD
  have hK : va_K (dC, dI) vwCl [] s := hK
  obtain rfl : r_1 = 0 := hw
  refine lv_if_eq (tgt := 33) hx hb dX9_until_17 (by decide) (fun _ => ?_) (fun q => absurd q (by decide))
  refine lv_bipush (v := (-2)) hx hb dX9_until_33 (by decide) ?_
  exact W.iret (v := (-2)) hx hb hr (fun t ht hW => ⟨⟨(-2), (), rfl, rfl, trivial⟩, hS.F ht⟩) hS.2.2 dX9_until_35
set_option maxHeartbeats 4000000 in
set_option maxRecDepth 100000 in
theorem k_X9_empty (l : Launch) (dC : Nat → ClassId) (dI : Nat → Nat → Nat) (h0 : Nat) (p1 : Int32) (tp : Nat) (nw : Nat) (im : Nat) (sl : Nat) (rd : Nat) (wk : Nat) (fm : Nat) (mt : Nat) (ch : Nat) (dy : Nat) (tn : Nat) (ta0 : Nat) (ta1 : Nat) (ta2 : Nat) (ta3 : Nat) (ta4 : Nat) (ta5 : Nat) (ta6 : Nat) (ta7 : Nat) (ta8 : Nat) (ta9 : Nat)  (sz : Nat) : Met l yX9_empty (.code yX9_empty cX9_empty 5 (some .int) :: zT) ({ frames := 1, cells := 0, slots := 0, locals := 21 }) (va_Pc [.ref h0, .int p1] (zB dC dI [(h0, .inr (9, [.ref tp, .int 0, .int 0, .int (-1), .ref nw, .ref im, .ref sl, .ref rd, .ref wk, .ref fm, .ref mt, .ref ch, .ref dy])), (nw, .inr (3, [.int 0, .ref tn, .int 0, .int 0, .int 0, .int 0])), (tn, .inr (7, [.int 0, .int 0, .int 0, .int 0, .int 0, .int 0, .int 0, .int 0, .ref ta0, .ref ta1, .ref ta2, .ref ta3, .ref ta4, .ref ta5, .ref ta6, .ref ta7, .ref ta8, .ref ta9]))] [] sz)) (va_Qi (fun (r : Int32) (_ : Unit) => r = (-2)) (fun _ _ => True) (va_A [(h0, .inr (9, [.ref tp, .int 0, .int 0, .int (-1), .ref nw, .ref im, .ref sl, .ref rd, .ref wk, .ref fm, .ref mt, .ref ch, .ref dy])), (nw, .inr (3, [.int 0, .ref tn, .int 0, .int 0, .int 0, .int 0])), (tn, .inr (7, [.int 0, .int 0, .int 0, .int 0, .int 0, .int 0, .int 0, .int 0, .ref ta0, .ref ta1, .ref ta2, .ref ta3, .ref ta4, .ref ta5, .ref ta6, .ref ta7, .ref ta8, .ref ta9]))] sz)) 0 0 (va_A [(h0, .inr (9, [.ref tp, .int 0, .int 0, .int (-1), .ref nw, .ref im, .ref sl, .ref rd, .ref wk, .ref fm, .ref mt, .ref ch, .ref dy])), (nw, .inr (3, [.int 0, .ref tn, .int 0, .int 0, .int 0, .int 0])), (tn, .inr (7, [.int 0, .int 0, .int 0, .int 0, .int 0, .int 0, .int 0, .int 0, .ref ta0, .ref ta1, .ref ta2, .ref ta3, .ref ta4, .ref ta5, .ref ta6, .ref ta7, .ref ta8, .ref ta9]))] sz) := by
  refine Met.ofW (cc := cX9_empty) (maxL := 5) (ret := (some .int)) (by decide) rfl ?_
  intro p e s m args below meth c s₁ B hml hv
  obtain ⟨rfl, hsz, hP, hK, hD0⟩ := hv
  have hx := B.exec
  have hb := B.bytes
  have hr := B.returns
  have hts := z_hts (atoms_spec (ws := .code yX9_empty cX9_empty 5 (some .int) :: zT) B.pre)
  have hown : s.vm.findClass RX9 = some m.cls := findClass_of_methodNamed B.named
  have hlocks := B.notSynchronized
  subst hsz
  have hD := hD0.self (sz := s.heap.size)
  generalize hAe : va_A [(h0, .inr (9, [.ref tp, .int 0, .int 0, .int (-1), .ref nw, .ref im, .ref sl, .ref rd, .ref wk, .ref fm, .ref mt, .ref ch, .ref dy])), (nw, .inr (3, [.int 0, .ref tn, .int 0, .int 0, .int 0, .int 0])), (tn, .inr (7, [.int 0, .int 0, .int 0, .int 0, .int 0, .int 0, .int 0, .int 0, .ref ta0, .ref ta1, .ref ta2, .ref ta3, .ref ta4, .ref ta5, .ref ta6, .ref ta7, .ref ta8, .ref ta9]))] s.heap.size = A at hD ⊢
  have hA : ∀ q : Nat, s.heap.size ≤ q → A q := fun q h => by rw [← hAe]; exact Or.inr h
  have hS : va_S A s.heap s.heap [] := va_S.rf
  have hP : va_P (dC, dI) vwCl [(h0, .inr (9, [.ref tp, .int 0, .int 0, .int (-1), .ref nw, .ref im, .ref sl, .ref rd, .ref wk, .ref fm, .ref mt, .ref ch, .ref dy])), (nw, .inr (3, [.int 0, .ref tn, .int 0, .int 0, .int 0, .int 0])), (tn, .inr (7, [.int 0, .int 0, .int 0, .int 0, .int 0, .int 0, .int 0, .int 0, .ref ta0, .ref ta1, .ref ta2, .ref ta3, .ref ta4, .ref ta5, .ref ta6, .ref ta7, .ref ta8, .ref ta9]))] s.heap := hP
  have hl := lv_entry ([.ref h0, .int p1]) (n := 5) (Nat.le_of_ble_eq_true rfl)
  rw [lg_entry_eq]
  generalize (lg_sl ([.ref h0, .int p1]) ++ List.replicate (5 - (lg_sl ([.ref h0, .int p1])).length) Slot.unset).toArray = ls at hl ⊢
  have hl : lv_has ls 5 [(0, .ref h0), (1, .int p1)] := hl
  refine lv_aload_n hx hb dX9_empty_0 rfl (lv_at hl 0 rfl) ?_
  refine va_get (D := (dC, dI)) (ci := 9) (v := .ref nw) (C := RX9) (T := TX9) (N := 13) hx hb hts zl_X9 hown hK hP 0 rfl rfl 4 (by decide) (hts _ zw_t2_193) (fun _ h9 => h9) rfl dX9_empty_1 ?_
  refine va_get (D := (dC, dI)) (ci := 3) (v := .ref tn) (C := RX3) (T := TX3) (N := 6) hx hb hts zl_X3 hown hK hP 1 rfl rfl 1 (by decide) (hts _ zw_t1_156) (fun _ h9 => h9) rfl dX9_empty_4 ?_
  refine lv_astore_n (lv' := [(2, .ref tn), (0, .ref h0), (1, .int p1)]) hx hb dX9_empty_7 rfl hl (by decide) rfl (fun ls hl => ?_)
  refine lv_aload_n hx hb dX9_empty_8 rfl (lv_at hl 0 rfl) ?_
  refine lv_iload_n hx hb dX9_empty_9 rfl (lv_at hl 2 rfl) ?_
  have hPc := hP.sub (ws' := [(tn, .inr (7, [.int 0, .int 0, .int 0, .int 0, .int 0, .int 0, .int 0, .int 0, .ref ta0, .ref ta1, .ref ta2, .ref ta3, .ref ta4, .ref ta5, .ref ta6, .ref ta7, .ref ta8, .ref ta9]))]) [2] rfl
  have hDc := hD.sub (ws' := [(tn, .inr (7, [.int 0, .int 0, .int 0, .int 0, .int 0, .int 0, .int 0, .int 0, .ref ta0, .ref ta1, .ref ta2, .ref ta3, .ref ta4, .ref ta5, .ref ta6, .ref ta7, .ref ta8, .ref ta9]))]) [2] (by decide) rfl
  have hKc := hK.sub (tys' := []) [] rfl
  have hFc := va_free (wc := [(tn, .inr (7, [.int 0, .int 0, .int 0, .int 0, .int 0, .int 0, .int 0, .int 0, .ref ta0, .ref ta1, .ref ta2, .ref ta3, .ref ta4, .ref ta5, .ref ta6, .ref ta7, .ref ta8, .ref ta9]))]) hD hS hA [2] rfl
  refine va_calli (va_runV (As := [.int p1]) (rest := []) ⟨hx, hb, hml, hown, hts⟩ (k_X7_hasCourt l dC dI tn p1 ta0 ta1 ta2 ta3 ta4 ta5 ta6 ta7 ta8 ta9 s.heap.size) (cwV 1 hts (z_gV zw_t3_197 zw_t3_198 zw_t3_199 zw_t1_3 zw_t3_200) rfl rfl rfl (by decide +kernel) ⟨(Nat.le_of_ble_eq_true rfl), (Nat.le_of_ble_eq_true rfl)⟩) (z_preV hPc hKc hDc (ci := 7) (q0 := 0) rfl rfl) rfl rfl hl.1 rfl (lv_room (Nat.le_of_ble_eq_true rfl)) dX9_empty_10 ⟨(Nat.le_of_ble_eq_true rfl), (Nat.le_of_ble_eq_true rfl)⟩) hS (fun q _ h => hFc q h) hFc (fun r_1 u t H1 locs ht hvm hw hB hz1 hk1 hS => ?_)
  obtain ⟨hP, hD, hK⟩ := z_after [(h0, .inr (9, [.ref tp, .int 0, .int 0, .int (-1), .ref nw, .ref im, .ref sl, .ref rd, .ref wk, .ref fm, .ref mt, .ref ch, .ref dy])), (nw, .inr (3, [.int 0, .ref tn, .int 0, .int 0, .int 0, .int 0]))] hB ht hvm hP hD hK [2] [0, 1] rfl rfl (by decide) (by decide) hk1 hFc
  generalize H1 = H at hP hS ⊢
  have hP : va_P (dC, dI) vwCl [(h0, .inr (9, [.ref tp, .int 0, .int 0, .int (-1), .ref nw, .ref im, .ref sl, .ref rd, .ref wk, .ref fm, .ref mt, .ref ch, .ref dy])), (nw, .inr (3, [.int 0, .ref tn, .int 0, .int 0, .int 0, .int 0])), (tn, .inr (7, [.int 0, .int 0, .int 0, .int 0, .int 0, .int 0, .int 0, .int 0, .ref ta0, .ref ta1, .ref ta2, .ref ta3, .ref ta4, .ref ta5, .ref ta6, .ref ta7, .ref ta8, .ref ta9]))] H := hP
  have hD : va_D A [(h0, .inr (9, [.ref tp, .int 0, .int 0, .int (-1), .ref nw, .ref im, .ref sl, .ref rd, .ref wk, .ref fm, .ref mt, .ref ch, .ref dy])), (nw, .inr (3, [.int 0, .ref tn, .int 0, .int 0, .int 0, .int 0])), (tn, .inr (7, [.int 0, .int 0, .int 0, .int 0, .int 0, .int 0, .int 0, .int 0, .ref ta0, .ref ta1, .ref ta2, .ref ta3, .ref ta4, .ref ta5, .ref ta6, .ref ta7, .ref ta8, .ref ta9]))] := hD
  have hK : va_K (dC, dI) vwCl [] s := hK
  obtain rfl : r_1 = 0 := hw
  refine lv_if_ne (tgt := 19) hx hb dX9_empty_13 (by decide) (fun q => absurd q (by decide)) (fun _ => ?_)
  refine lv_bipush (v := (-2)) hx hb dX9_empty_16 (by decide) ?_
  exact W.iret (v := (-2)) hx hb hr (fun t ht hW => ⟨⟨(-2), (), rfl, rfl, trivial⟩, hS.F ht⟩) hS.2.2 dX9_empty_18
set_option maxHeartbeats 4000000 in
set_option maxRecDepth 100000 in
theorem k_X9_hollow (l : Launch) (dC : Nat → ClassId) (dI : Nat → Nat → Nat) (h0 : Nat) (p1 : Int32) (tp : Nat) (nw : Nat) (im : Nat) (sl : Nat) (rd : Nat) (wk : Nat) (fm : Nat) (mt : Nat) (ch : Nat) (dy : Nat) (tn : Nat) (ta0 : Nat) (ta1 : Nat) (ta2 : Nat) (ta3 : Nat) (ta4 : Nat) (ta5 : Nat) (ta6 : Nat) (ta7 : Nat) (ta8 : Nat) (ta9 : Nat)  (sz : Nat) : Met l yX9_hollow (.code yX9_hollow cX9_hollow 5 (some .int) :: zT) ({ frames := 1, cells := 0, slots := 0, locals := 21 }) (va_Pc [.ref h0, .int p1] (zB dC dI [(h0, .inr (9, [.ref tp, .int 0, .int 0, .int (-1), .ref nw, .ref im, .ref sl, .ref rd, .ref wk, .ref fm, .ref mt, .ref ch, .ref dy])), (nw, .inr (3, [.int 0, .ref tn, .int 0, .int 0, .int 0, .int 0])), (tn, .inr (7, [.int 0, .int 0, .int 0, .int 0, .int 0, .int 0, .int 0, .int 0, .ref ta0, .ref ta1, .ref ta2, .ref ta3, .ref ta4, .ref ta5, .ref ta6, .ref ta7, .ref ta8, .ref ta9]))] [] sz)) (va_Qi (fun (r : Int32) (_ : Unit) => r = (-2)) (fun _ _ => True) (va_A [(h0, .inr (9, [.ref tp, .int 0, .int 0, .int (-1), .ref nw, .ref im, .ref sl, .ref rd, .ref wk, .ref fm, .ref mt, .ref ch, .ref dy])), (nw, .inr (3, [.int 0, .ref tn, .int 0, .int 0, .int 0, .int 0])), (tn, .inr (7, [.int 0, .int 0, .int 0, .int 0, .int 0, .int 0, .int 0, .int 0, .ref ta0, .ref ta1, .ref ta2, .ref ta3, .ref ta4, .ref ta5, .ref ta6, .ref ta7, .ref ta8, .ref ta9]))] sz)) 0 0 (va_A [(h0, .inr (9, [.ref tp, .int 0, .int 0, .int (-1), .ref nw, .ref im, .ref sl, .ref rd, .ref wk, .ref fm, .ref mt, .ref ch, .ref dy])), (nw, .inr (3, [.int 0, .ref tn, .int 0, .int 0, .int 0, .int 0])), (tn, .inr (7, [.int 0, .int 0, .int 0, .int 0, .int 0, .int 0, .int 0, .int 0, .ref ta0, .ref ta1, .ref ta2, .ref ta3, .ref ta4, .ref ta5, .ref ta6, .ref ta7, .ref ta8, .ref ta9]))] sz) := by
  refine Met.ofW (cc := cX9_hollow) (maxL := 5) (ret := (some .int)) (by decide) rfl ?_
  intro p e s m args below meth c s₁ B hml hv
  obtain ⟨rfl, hsz, hP, hK, hD0⟩ := hv
  have hx := B.exec
  have hb := B.bytes
  have hr := B.returns
  have hts := z_hts (atoms_spec (ws := .code yX9_hollow cX9_hollow 5 (some .int) :: zT) B.pre)
  have hown : s.vm.findClass RX9 = some m.cls := findClass_of_methodNamed B.named
  have hlocks := B.notSynchronized
  subst hsz
  have hD := hD0.self (sz := s.heap.size)
  generalize hAe : va_A [(h0, .inr (9, [.ref tp, .int 0, .int 0, .int (-1), .ref nw, .ref im, .ref sl, .ref rd, .ref wk, .ref fm, .ref mt, .ref ch, .ref dy])), (nw, .inr (3, [.int 0, .ref tn, .int 0, .int 0, .int 0, .int 0])), (tn, .inr (7, [.int 0, .int 0, .int 0, .int 0, .int 0, .int 0, .int 0, .int 0, .ref ta0, .ref ta1, .ref ta2, .ref ta3, .ref ta4, .ref ta5, .ref ta6, .ref ta7, .ref ta8, .ref ta9]))] s.heap.size = A at hD ⊢
  have hA : ∀ q : Nat, s.heap.size ≤ q → A q := fun q h => by rw [← hAe]; exact Or.inr h
  have hS : va_S A s.heap s.heap [] := va_S.rf
  have hP : va_P (dC, dI) vwCl [(h0, .inr (9, [.ref tp, .int 0, .int 0, .int (-1), .ref nw, .ref im, .ref sl, .ref rd, .ref wk, .ref fm, .ref mt, .ref ch, .ref dy])), (nw, .inr (3, [.int 0, .ref tn, .int 0, .int 0, .int 0, .int 0])), (tn, .inr (7, [.int 0, .int 0, .int 0, .int 0, .int 0, .int 0, .int 0, .int 0, .ref ta0, .ref ta1, .ref ta2, .ref ta3, .ref ta4, .ref ta5, .ref ta6, .ref ta7, .ref ta8, .ref ta9]))] s.heap := hP
  have hl := lv_entry ([.ref h0, .int p1]) (n := 5) (Nat.le_of_ble_eq_true rfl)
  rw [lg_entry_eq]
  generalize (lg_sl ([.ref h0, .int p1]) ++ List.replicate (5 - (lg_sl ([.ref h0, .int p1])).length) Slot.unset).toArray = ls at hl ⊢
  have hl : lv_has ls 5 [(0, .ref h0), (1, .int p1)] := hl
  refine lv_aload_n hx hb dX9_hollow_0 rfl (lv_at hl 0 rfl) ?_
  refine va_get (D := (dC, dI)) (ci := 9) (v := .ref nw) (C := RX9) (T := TX9) (N := 13) hx hb hts zl_X9 hown hK hP 0 rfl rfl 4 (by decide) (hts _ zw_t2_193) (fun _ h9 => h9) rfl dX9_hollow_1 ?_
  refine va_get (D := (dC, dI)) (ci := 3) (v := .ref tn) (C := RX3) (T := TX3) (N := 6) hx hb hts zl_X3 hown hK hP 1 rfl rfl 1 (by decide) (hts _ zw_t1_156) (fun _ h9 => h9) rfl dX9_hollow_4 ?_
  refine lv_astore_n (lv' := [(2, .ref tn), (0, .ref h0), (1, .int p1)]) hx hb dX9_hollow_7 rfl hl (by decide) rfl (fun ls hl => ?_)
  refine lv_aload_n hx hb dX9_hollow_8 rfl (lv_at hl 0 rfl) ?_
  refine lv_iload_n hx hb dX9_hollow_9 rfl (lv_at hl 2 rfl) ?_
  have hPc := hP.sub (ws' := [(tn, .inr (7, [.int 0, .int 0, .int 0, .int 0, .int 0, .int 0, .int 0, .int 0, .ref ta0, .ref ta1, .ref ta2, .ref ta3, .ref ta4, .ref ta5, .ref ta6, .ref ta7, .ref ta8, .ref ta9]))]) [2] rfl
  have hDc := hD.sub (ws' := [(tn, .inr (7, [.int 0, .int 0, .int 0, .int 0, .int 0, .int 0, .int 0, .int 0, .ref ta0, .ref ta1, .ref ta2, .ref ta3, .ref ta4, .ref ta5, .ref ta6, .ref ta7, .ref ta8, .ref ta9]))]) [2] (by decide) rfl
  have hKc := hK.sub (tys' := []) [] rfl
  have hFc := va_free (wc := [(tn, .inr (7, [.int 0, .int 0, .int 0, .int 0, .int 0, .int 0, .int 0, .int 0, .ref ta0, .ref ta1, .ref ta2, .ref ta3, .ref ta4, .ref ta5, .ref ta6, .ref ta7, .ref ta8, .ref ta9]))]) hD hS hA [2] rfl
  refine va_calli (va_runV (As := [.int p1]) (rest := []) ⟨hx, hb, hml, hown, hts⟩ (k_X7_hasCourt l dC dI tn p1 ta0 ta1 ta2 ta3 ta4 ta5 ta6 ta7 ta8 ta9 s.heap.size) (cwV 1 hts (z_gV zw_t3_197 zw_t3_198 zw_t3_199 zw_t1_3 zw_t3_200) rfl rfl rfl (by decide +kernel) ⟨(Nat.le_of_ble_eq_true rfl), (Nat.le_of_ble_eq_true rfl)⟩) (z_preV hPc hKc hDc (ci := 7) (q0 := 0) rfl rfl) rfl rfl hl.1 rfl (lv_room (Nat.le_of_ble_eq_true rfl)) dX9_hollow_10 ⟨(Nat.le_of_ble_eq_true rfl), (Nat.le_of_ble_eq_true rfl)⟩) hS (fun q _ h => hFc q h) hFc (fun r_1 u t H1 locs ht hvm hw hB hz1 hk1 hS => ?_)
  obtain ⟨hP, hD, hK⟩ := z_after [(h0, .inr (9, [.ref tp, .int 0, .int 0, .int (-1), .ref nw, .ref im, .ref sl, .ref rd, .ref wk, .ref fm, .ref mt, .ref ch, .ref dy])), (nw, .inr (3, [.int 0, .ref tn, .int 0, .int 0, .int 0, .int 0]))] hB ht hvm hP hD hK [2] [0, 1] rfl rfl (by decide) (by decide) hk1 hFc
  generalize H1 = H at hP hS ⊢
  have hP : va_P (dC, dI) vwCl [(h0, .inr (9, [.ref tp, .int 0, .int 0, .int (-1), .ref nw, .ref im, .ref sl, .ref rd, .ref wk, .ref fm, .ref mt, .ref ch, .ref dy])), (nw, .inr (3, [.int 0, .ref tn, .int 0, .int 0, .int 0, .int 0])), (tn, .inr (7, [.int 0, .int 0, .int 0, .int 0, .int 0, .int 0, .int 0, .int 0, .ref ta0, .ref ta1, .ref ta2, .ref ta3, .ref ta4, .ref ta5, .ref ta6, .ref ta7, .ref ta8, .ref ta9]))] H := hP
  have hD : va_D A [(h0, .inr (9, [.ref tp, .int 0, .int 0, .int (-1), .ref nw, .ref im, .ref sl, .ref rd, .ref wk, .ref fm, .ref mt, .ref ch, .ref dy])), (nw, .inr (3, [.int 0, .ref tn, .int 0, .int 0, .int 0, .int 0])), (tn, .inr (7, [.int 0, .int 0, .int 0, .int 0, .int 0, .int 0, .int 0, .int 0, .ref ta0, .ref ta1, .ref ta2, .ref ta3, .ref ta4, .ref ta5, .ref ta6, .ref ta7, .ref ta8, .ref ta9]))] := hD
  have hK : va_K (dC, dI) vwCl [] s := hK
  obtain rfl : r_1 = 0 := hw
  refine lv_if_ne (tgt := 19) hx hb dX9_hollow_13 (by decide) (fun q => absurd q (by decide)) (fun _ => ?_)
  refine lv_bipush (v := (-2)) hx hb dX9_hollow_16 (by decide) ?_
  exact W.iret (v := (-2)) hx hb hr (fun t ht hW => ⟨⟨(-2), (), rfl, rfl, trivial⟩, hS.F ht⟩) hS.2.2 dX9_hollow_18
set_option maxHeartbeats 4000000 in
set_option maxRecDepth 100000 in
theorem k_X9_keeper (l : Launch) (dC : Nat → ClassId) (dI : Nat → Nat → Nat) (h0 : Nat) (p1 : Int32) (tp : Nat) (nw : Nat) (im : Nat) (sl : Nat) (rd : Nat) (wk : Nat) (fm : Nat) (mt : Nat) (ch : Nat) (dy : Nat) (tn : Nat) (ta0 : Nat) (ta1 : Nat) (ta2 : Nat) (ta3 : Nat) (ta4 : Nat) (ta5 : Nat) (ta6 : Nat) (ta7 : Nat) (ta8 : Nat) (ta9 : Nat)  (sz : Nat) : Met l yX9_keeper (.code yX9_keeper cX9_keeper 8 (some .int) :: zT) ({ frames := 1, cells := 0, slots := 0, locals := 21 }) (va_Pc [.ref h0, .int p1] (zB dC dI [(h0, .inr (9, [.ref tp, .int 0, .int 0, .int (-1), .ref nw, .ref im, .ref sl, .ref rd, .ref wk, .ref fm, .ref mt, .ref ch, .ref dy])), (nw, .inr (3, [.int 0, .ref tn, .int 0, .int 0, .int 0, .int 0])), (tn, .inr (7, [.int 0, .int 0, .int 0, .int 0, .int 0, .int 0, .int 0, .int 0, .ref ta0, .ref ta1, .ref ta2, .ref ta3, .ref ta4, .ref ta5, .ref ta6, .ref ta7, .ref ta8, .ref ta9]))] [] sz)) (va_Qi (fun (r : Int32) (_ : Unit) => r = (-2)) (fun _ _ => True) (va_A [(h0, .inr (9, [.ref tp, .int 0, .int 0, .int (-1), .ref nw, .ref im, .ref sl, .ref rd, .ref wk, .ref fm, .ref mt, .ref ch, .ref dy])), (nw, .inr (3, [.int 0, .ref tn, .int 0, .int 0, .int 0, .int 0])), (tn, .inr (7, [.int 0, .int 0, .int 0, .int 0, .int 0, .int 0, .int 0, .int 0, .ref ta0, .ref ta1, .ref ta2, .ref ta3, .ref ta4, .ref ta5, .ref ta6, .ref ta7, .ref ta8, .ref ta9]))] sz)) 0 0 (va_A [(h0, .inr (9, [.ref tp, .int 0, .int 0, .int (-1), .ref nw, .ref im, .ref sl, .ref rd, .ref wk, .ref fm, .ref mt, .ref ch, .ref dy])), (nw, .inr (3, [.int 0, .ref tn, .int 0, .int 0, .int 0, .int 0])), (tn, .inr (7, [.int 0, .int 0, .int 0, .int 0, .int 0, .int 0, .int 0, .int 0, .ref ta0, .ref ta1, .ref ta2, .ref ta3, .ref ta4, .ref ta5, .ref ta6, .ref ta7, .ref ta8, .ref ta9]))] sz) := by
  refine Met.ofW (cc := cX9_keeper) (maxL := 8) (ret := (some .int)) (by decide) rfl ?_
  intro p e s m args below meth c s₁ B hml hv
  obtain ⟨rfl, hsz, hP, hK, hD0⟩ := hv
  have hx := B.exec
  have hb := B.bytes
  have hr := B.returns
  have hts := z_hts (atoms_spec (ws := .code yX9_keeper cX9_keeper 8 (some .int) :: zT) B.pre)
  have hown : s.vm.findClass RX9 = some m.cls := findClass_of_methodNamed B.named
  have hlocks := B.notSynchronized
  subst hsz
  have hD := hD0.self (sz := s.heap.size)
  generalize hAe : va_A [(h0, .inr (9, [.ref tp, .int 0, .int 0, .int (-1), .ref nw, .ref im, .ref sl, .ref rd, .ref wk, .ref fm, .ref mt, .ref ch, .ref dy])), (nw, .inr (3, [.int 0, .ref tn, .int 0, .int 0, .int 0, .int 0])), (tn, .inr (7, [.int 0, .int 0, .int 0, .int 0, .int 0, .int 0, .int 0, .int 0, .ref ta0, .ref ta1, .ref ta2, .ref ta3, .ref ta4, .ref ta5, .ref ta6, .ref ta7, .ref ta8, .ref ta9]))] s.heap.size = A at hD ⊢
  have hA : ∀ q : Nat, s.heap.size ≤ q → A q := fun q h => by rw [← hAe]; exact Or.inr h
  have hS : va_S A s.heap s.heap [] := va_S.rf
  have hP : va_P (dC, dI) vwCl [(h0, .inr (9, [.ref tp, .int 0, .int 0, .int (-1), .ref nw, .ref im, .ref sl, .ref rd, .ref wk, .ref fm, .ref mt, .ref ch, .ref dy])), (nw, .inr (3, [.int 0, .ref tn, .int 0, .int 0, .int 0, .int 0])), (tn, .inr (7, [.int 0, .int 0, .int 0, .int 0, .int 0, .int 0, .int 0, .int 0, .ref ta0, .ref ta1, .ref ta2, .ref ta3, .ref ta4, .ref ta5, .ref ta6, .ref ta7, .ref ta8, .ref ta9]))] s.heap := hP
  have hl := lv_entry ([.ref h0, .int p1]) (n := 8) (Nat.le_of_ble_eq_true rfl)
  rw [lg_entry_eq]
  generalize (lg_sl ([.ref h0, .int p1]) ++ List.replicate (8 - (lg_sl ([.ref h0, .int p1])).length) Slot.unset).toArray = ls at hl ⊢
  have hl : lv_has ls 8 [(0, .ref h0), (1, .int p1)] := hl
  refine lv_aload_n hx hb dX9_keeper_0 rfl (lv_at hl 0 rfl) ?_
  refine va_get (D := (dC, dI)) (ci := 9) (v := .ref nw) (C := RX9) (T := TX9) (N := 13) hx hb hts zl_X9 hown hK hP 0 rfl rfl 4 (by decide) (hts _ zw_t2_193) (fun _ h9 => h9) rfl dX9_keeper_1 ?_
  refine va_get (D := (dC, dI)) (ci := 3) (v := .ref tn) (C := RX3) (T := TX3) (N := 6) hx hb hts zl_X3 hown hK hP 1 rfl rfl 1 (by decide) (hts _ zw_t1_156) (fun _ h9 => h9) rfl dX9_keeper_4 ?_
  refine lv_astore_n (lv' := [(2, .ref tn), (0, .ref h0), (1, .int p1)]) hx hb dX9_keeper_7 rfl hl (by decide) rfl (fun ls hl => ?_)
  refine lv_aload_n hx hb dX9_keeper_8 rfl (lv_at hl 0 rfl) ?_
  refine lv_iload_n hx hb dX9_keeper_9 rfl (lv_at hl 2 rfl) ?_
  have hPc := hP.sub (ws' := [(tn, .inr (7, [.int 0, .int 0, .int 0, .int 0, .int 0, .int 0, .int 0, .int 0, .ref ta0, .ref ta1, .ref ta2, .ref ta3, .ref ta4, .ref ta5, .ref ta6, .ref ta7, .ref ta8, .ref ta9]))]) [2] rfl
  have hDc := hD.sub (ws' := [(tn, .inr (7, [.int 0, .int 0, .int 0, .int 0, .int 0, .int 0, .int 0, .int 0, .ref ta0, .ref ta1, .ref ta2, .ref ta3, .ref ta4, .ref ta5, .ref ta6, .ref ta7, .ref ta8, .ref ta9]))]) [2] (by decide) rfl
  have hKc := hK.sub (tys' := []) [] rfl
  have hFc := va_free (wc := [(tn, .inr (7, [.int 0, .int 0, .int 0, .int 0, .int 0, .int 0, .int 0, .int 0, .ref ta0, .ref ta1, .ref ta2, .ref ta3, .ref ta4, .ref ta5, .ref ta6, .ref ta7, .ref ta8, .ref ta9]))]) hD hS hA [2] rfl
  refine va_calli (va_runV (As := [.int p1]) (rest := []) ⟨hx, hb, hml, hown, hts⟩ (k_X7_hasCourt l dC dI tn p1 ta0 ta1 ta2 ta3 ta4 ta5 ta6 ta7 ta8 ta9 s.heap.size) (cwV 1 hts (z_gV zw_t3_197 zw_t3_198 zw_t3_199 zw_t1_3 zw_t3_200) rfl rfl rfl (by decide +kernel) ⟨(Nat.le_of_ble_eq_true rfl), (Nat.le_of_ble_eq_true rfl)⟩) (z_preV hPc hKc hDc (ci := 7) (q0 := 0) rfl rfl) rfl rfl hl.1 rfl (lv_room (Nat.le_of_ble_eq_true rfl)) dX9_keeper_10 ⟨(Nat.le_of_ble_eq_true rfl), (Nat.le_of_ble_eq_true rfl)⟩) hS (fun q _ h => hFc q h) hFc (fun r_1 u t H1 locs ht hvm hw hB hz1 hk1 hS => ?_)
  obtain ⟨hP, hD, hK⟩ := z_after [(h0, .inr (9, [.ref tp, .int 0, .int 0, .int (-1), .ref nw, .ref im, .ref sl, .ref rd, .ref wk, .ref fm, .ref mt, .ref ch, .ref dy])), (nw, .inr (3, [.int 0, .ref tn, .int 0, .int 0, .int 0, .int 0]))] hB ht hvm hP hD hK [2] [0, 1] rfl rfl (by decide) (by decide) hk1 hFc
  generalize H1 = H at hP hS ⊢
  have hP : va_P (dC, dI) vwCl [(h0, .inr (9, [.ref tp, .int 0, .int 0, .int (-1), .ref nw, .ref im, .ref sl, .ref rd, .ref wk, .ref fm, .ref mt, .ref ch, .ref dy])), (nw, .inr (3, [.int 0, .ref tn, .int 0, .int 0, .int 0, .int 0])), (tn, .inr (7, [.int 0, .int 0, .int 0, .int 0, .int 0, .int 0, .int 0, .int 0, .ref ta0, .ref ta1, .ref ta2, .ref ta3, .ref ta4, .ref ta5, .ref ta6, .ref ta7, .ref ta8, .ref ta9]))] H := hP
  have hD : va_D A [(h0, .inr (9, [.ref tp, .int 0, .int 0, .int (-1), .ref nw, .ref im, .ref sl, .ref rd, .ref wk, .ref fm, .ref mt, .ref ch, .ref dy])), (nw, .inr (3, [.int 0, .ref tn, .int 0, .int 0, .int 0, .int 0])), (tn, .inr (7, [.int 0, .int 0, .int 0, .int 0, .int 0, .int 0, .int 0, .int 0, .ref ta0, .ref ta1, .ref ta2, .ref ta3, .ref ta4, .ref ta5, .ref ta6, .ref ta7, .ref ta8, .ref ta9]))] := hD
  have hK : va_K (dC, dI) vwCl [] s := hK
  obtain rfl : r_1 = 0 := hw
  refine lv_if_ne (tgt := 19) hx hb dX9_keeper_13 (by decide) (fun q => absurd q (by decide)) (fun _ => ?_)
  refine lv_bipush (v := (-2)) hx hb dX9_keeper_16 (by decide) ?_
  exact W.iret (v := (-2)) hx hb hr (fun t ht hW => ⟨⟨(-2), (), rfl, rfl, trivial⟩, hS.F ht⟩) hS.2.2 dX9_keeper_18
set_option maxHeartbeats 4000000 in
set_option maxRecDepth 100000 in
theorem k_X9_hear (l : Launch) (dC : Nat → ClassId) (dI : Nat → Nat → Nat) (h0 : Nat) (p1 : Int32) (p2 : Int32) (p3 : Int32) (p4 : Int32) (tp : Nat) (nw : Nat) (im : Nat) (sl : Nat) (rd : Nat) (wk : Nat) (fm : Nat) (mt : Nat) (ch : Nat) (dy : Nat) (tn : Nat) (ta0 : Nat) (ta1 : Nat) (ta2 : Nat) (ta3 : Nat) (ta4 : Nat) (ta5 : Nat) (ta6 : Nat) (ta7 : Nat) (ta8 : Nat) (ta9 : Nat)  (sz : Nat) : Met l yX9_hear (.code yX9_hear cX9_hear 11 (some .int) :: zT) ({ frames := 1, cells := 0, slots := 0, locals := 21 }) (va_Pc [.ref h0, .int p1, .int p2, .int p3, .int p4] (zB dC dI [(h0, .inr (9, [.ref tp, .int 0, .int 0, .int (-1), .ref nw, .ref im, .ref sl, .ref rd, .ref wk, .ref fm, .ref mt, .ref ch, .ref dy])), (nw, .inr (3, [.int 0, .ref tn, .int 0, .int 0, .int 0, .int 0])), (tn, .inr (7, [.int 0, .int 0, .int 0, .int 0, .int 0, .int 0, .int 0, .int 0, .ref ta0, .ref ta1, .ref ta2, .ref ta3, .ref ta4, .ref ta5, .ref ta6, .ref ta7, .ref ta8, .ref ta9]))] [] sz)) (va_Qi (fun (r : Int32) (_ : Unit) => r = (-2)) (fun _ _ => True) (va_A [(h0, .inr (9, [.ref tp, .int 0, .int 0, .int (-1), .ref nw, .ref im, .ref sl, .ref rd, .ref wk, .ref fm, .ref mt, .ref ch, .ref dy])), (nw, .inr (3, [.int 0, .ref tn, .int 0, .int 0, .int 0, .int 0])), (tn, .inr (7, [.int 0, .int 0, .int 0, .int 0, .int 0, .int 0, .int 0, .int 0, .ref ta0, .ref ta1, .ref ta2, .ref ta3, .ref ta4, .ref ta5, .ref ta6, .ref ta7, .ref ta8, .ref ta9]))] sz)) 0 0 (va_A [(h0, .inr (9, [.ref tp, .int 0, .int 0, .int (-1), .ref nw, .ref im, .ref sl, .ref rd, .ref wk, .ref fm, .ref mt, .ref ch, .ref dy])), (nw, .inr (3, [.int 0, .ref tn, .int 0, .int 0, .int 0, .int 0])), (tn, .inr (7, [.int 0, .int 0, .int 0, .int 0, .int 0, .int 0, .int 0, .int 0, .ref ta0, .ref ta1, .ref ta2, .ref ta3, .ref ta4, .ref ta5, .ref ta6, .ref ta7, .ref ta8, .ref ta9]))] sz) := by
  refine Met.ofW (cc := cX9_hear) (maxL := 11) (ret := (some .int)) (by decide) rfl ?_
  intro p e s m args below meth c s₁ B hml hv
  obtain ⟨rfl, hsz, hP, hK, hD0⟩ := hv
  have hx := B.exec
  have hb := B.bytes
  have hr := B.returns
  have hts := z_hts (atoms_spec (ws := .code yX9_hear cX9_hear 11 (some .int) :: zT) B.pre)
  have hown : s.vm.findClass RX9 = some m.cls := findClass_of_methodNamed B.named
  have hlocks := B.notSynchronized
  subst hsz
  have hD := hD0.self (sz := s.heap.size)
  generalize hAe : va_A [(h0, .inr (9, [.ref tp, .int 0, .int 0, .int (-1), .ref nw, .ref im, .ref sl, .ref rd, .ref wk, .ref fm, .ref mt, .ref ch, .ref dy])), (nw, .inr (3, [.int 0, .ref tn, .int 0, .int 0, .int 0, .int 0])), (tn, .inr (7, [.int 0, .int 0, .int 0, .int 0, .int 0, .int 0, .int 0, .int 0, .ref ta0, .ref ta1, .ref ta2, .ref ta3, .ref ta4, .ref ta5, .ref ta6, .ref ta7, .ref ta8, .ref ta9]))] s.heap.size = A at hD ⊢
  have hA : ∀ q : Nat, s.heap.size ≤ q → A q := fun q h => by rw [← hAe]; exact Or.inr h
  have hS : va_S A s.heap s.heap [] := va_S.rf
  have hP : va_P (dC, dI) vwCl [(h0, .inr (9, [.ref tp, .int 0, .int 0, .int (-1), .ref nw, .ref im, .ref sl, .ref rd, .ref wk, .ref fm, .ref mt, .ref ch, .ref dy])), (nw, .inr (3, [.int 0, .ref tn, .int 0, .int 0, .int 0, .int 0])), (tn, .inr (7, [.int 0, .int 0, .int 0, .int 0, .int 0, .int 0, .int 0, .int 0, .ref ta0, .ref ta1, .ref ta2, .ref ta3, .ref ta4, .ref ta5, .ref ta6, .ref ta7, .ref ta8, .ref ta9]))] s.heap := hP
  have hl := lv_entry ([.ref h0, .int p1, .int p2, .int p3, .int p4]) (n := 11) (Nat.le_of_ble_eq_true rfl)
  rw [lg_entry_eq]
  generalize (lg_sl ([.ref h0, .int p1, .int p2, .int p3, .int p4]) ++ List.replicate (11 - (lg_sl ([.ref h0, .int p1, .int p2, .int p3, .int p4])).length) Slot.unset).toArray = ls at hl ⊢
  have hl : lv_has ls 11 [(0, .ref h0), (1, .int p1), (2, .int p2), (3, .int p3), (4, .int p4)] := hl
  refine lv_aload_n hx hb dX9_hear_0 rfl (lv_at hl 0 rfl) ?_
  refine va_get (D := (dC, dI)) (ci := 9) (v := .ref nw) (C := RX9) (T := TX9) (N := 13) hx hb hts zl_X9 hown hK hP 0 rfl rfl 4 (by decide) (hts _ zw_t2_193) (fun _ h9 => h9) rfl dX9_hear_1 ?_
  refine va_get (D := (dC, dI)) (ci := 3) (v := .ref tn) (C := RX3) (T := TX3) (N := 6) hx hb hts zl_X3 hown hK hP 1 rfl rfl 1 (by decide) (hts _ zw_t1_156) (fun _ h9 => h9) rfl dX9_hear_4 ?_
  refine lv_astore (lv' := [(5, .ref tn), (0, .ref h0), (1, .int p1), (2, .int p2), (3, .int p3), (4, .int p4)]) hx hb dX9_hear_7 hl (by decide) rfl (fun ls hl => ?_)
  refine lv_aload hx hb dX9_hear_9 (lv_at hl 0 rfl) ?_
  refine lv_iload_n hx hb dX9_hear_11 rfl (lv_at hl 2 rfl) ?_
  have hPc := hP.sub (ws' := [(tn, .inr (7, [.int 0, .int 0, .int 0, .int 0, .int 0, .int 0, .int 0, .int 0, .ref ta0, .ref ta1, .ref ta2, .ref ta3, .ref ta4, .ref ta5, .ref ta6, .ref ta7, .ref ta8, .ref ta9]))]) [2] rfl
  have hDc := hD.sub (ws' := [(tn, .inr (7, [.int 0, .int 0, .int 0, .int 0, .int 0, .int 0, .int 0, .int 0, .ref ta0, .ref ta1, .ref ta2, .ref ta3, .ref ta4, .ref ta5, .ref ta6, .ref ta7, .ref ta8, .ref ta9]))]) [2] (by decide) rfl
  have hKc := hK.sub (tys' := []) [] rfl
  have hFc := va_free (wc := [(tn, .inr (7, [.int 0, .int 0, .int 0, .int 0, .int 0, .int 0, .int 0, .int 0, .ref ta0, .ref ta1, .ref ta2, .ref ta3, .ref ta4, .ref ta5, .ref ta6, .ref ta7, .ref ta8, .ref ta9]))]) hD hS hA [2] rfl
  refine va_calli (va_runV (As := [.int p1]) (rest := []) ⟨hx, hb, hml, hown, hts⟩ (k_X7_hasPerson l dC dI tn p1 ta0 ta1 ta2 ta3 ta4 ta5 ta6 ta7 ta8 ta9 s.heap.size) (cwV 1 hts (z_gV zw_t3_181 zw_t3_182 zw_t3_183 zw_t1_3 zw_t3_184) rfl rfl rfl (by decide +kernel) ⟨(Nat.le_of_ble_eq_true rfl), (Nat.le_of_ble_eq_true rfl)⟩) (z_preV hPc hKc hDc (ci := 7) (q0 := 0) rfl rfl) rfl rfl hl.1 rfl (lv_room (Nat.le_of_ble_eq_true rfl)) dX9_hear_12 ⟨(Nat.le_of_ble_eq_true rfl), (Nat.le_of_ble_eq_true rfl)⟩) hS (fun q _ h => hFc q h) hFc (fun r_1 u t H1 locs ht hvm hw hB hz1 hk1 hS => ?_)
  obtain ⟨hP, hD, hK⟩ := z_after [(h0, .inr (9, [.ref tp, .int 0, .int 0, .int (-1), .ref nw, .ref im, .ref sl, .ref rd, .ref wk, .ref fm, .ref mt, .ref ch, .ref dy])), (nw, .inr (3, [.int 0, .ref tn, .int 0, .int 0, .int 0, .int 0]))] hB ht hvm hP hD hK [2] [0, 1] rfl rfl (by decide) (by decide) hk1 hFc
  generalize H1 = H at hP hS ⊢
  have hP : va_P (dC, dI) vwCl [(h0, .inr (9, [.ref tp, .int 0, .int 0, .int (-1), .ref nw, .ref im, .ref sl, .ref rd, .ref wk, .ref fm, .ref mt, .ref ch, .ref dy])), (nw, .inr (3, [.int 0, .ref tn, .int 0, .int 0, .int 0, .int 0])), (tn, .inr (7, [.int 0, .int 0, .int 0, .int 0, .int 0, .int 0, .int 0, .int 0, .ref ta0, .ref ta1, .ref ta2, .ref ta3, .ref ta4, .ref ta5, .ref ta6, .ref ta7, .ref ta8, .ref ta9]))] H := hP
  have hD : va_D A [(h0, .inr (9, [.ref tp, .int 0, .int 0, .int (-1), .ref nw, .ref im, .ref sl, .ref rd, .ref wk, .ref fm, .ref mt, .ref ch, .ref dy])), (nw, .inr (3, [.int 0, .ref tn, .int 0, .int 0, .int 0, .int 0])), (tn, .inr (7, [.int 0, .int 0, .int 0, .int 0, .int 0, .int 0, .int 0, .int 0, .ref ta0, .ref ta1, .ref ta2, .ref ta3, .ref ta4, .ref ta5, .ref ta6, .ref ta7, .ref ta8, .ref ta9]))] := hD
  have hK : va_K (dC, dI) vwCl [] s := hK
  obtain rfl : r_1 = 0 := hw
  refine lv_if_eq (tgt := 36) hx hb dX9_hear_15 (by decide) (fun _ => ?_) (fun q => absurd q (by decide))
  refine lv_bipush (v := (-2)) hx hb dX9_hear_36 (by decide) ?_
  exact W.iret (v := (-2)) hx hb hr (fun t ht hW => ⟨⟨(-2), (), rfl, rfl, trivial⟩, hS.F ht⟩) hS.2.2 dX9_hear_38
set_option maxHeartbeats 4000000 in
set_option maxRecDepth 100000 in
theorem k_X9_think (l : Launch) (dC : Nat → ClassId) (dI : Nat → Nat → Nat) (h0 : Nat) (p1 : Int32) (p2 : Int32) (p3 : Int32) (tp : Nat) (nw : Nat) (im : Nat) (sl : Nat) (rd : Nat) (wk : Nat) (fm : Nat) (mt : Nat) (ch : Nat) (dy : Nat) (tn : Nat) (ta0 : Nat) (ta1 : Nat) (ta2 : Nat) (ta3 : Nat) (ta4 : Nat) (ta5 : Nat) (ta6 : Nat) (ta7 : Nat) (ta8 : Nat) (ta9 : Nat)  (sz : Nat) : Met l yX9_think (.code yX9_think cX9_think 5 (some .int) :: zT) ({ frames := 1, cells := 0, slots := 0, locals := 21 }) (va_Pc [.ref h0, .int p1, .int p2, .int p3] (zB dC dI [(h0, .inr (9, [.ref tp, .int 0, .int 0, .int (-1), .ref nw, .ref im, .ref sl, .ref rd, .ref wk, .ref fm, .ref mt, .ref ch, .ref dy])), (nw, .inr (3, [.int 0, .ref tn, .int 0, .int 0, .int 0, .int 0])), (tn, .inr (7, [.int 0, .int 0, .int 0, .int 0, .int 0, .int 0, .int 0, .int 0, .ref ta0, .ref ta1, .ref ta2, .ref ta3, .ref ta4, .ref ta5, .ref ta6, .ref ta7, .ref ta8, .ref ta9]))] [] sz)) (va_Qi (fun (r : Int32) (_ : Unit) => r = (-2)) (fun _ _ => True) (va_A [(h0, .inr (9, [.ref tp, .int 0, .int 0, .int (-1), .ref nw, .ref im, .ref sl, .ref rd, .ref wk, .ref fm, .ref mt, .ref ch, .ref dy])), (nw, .inr (3, [.int 0, .ref tn, .int 0, .int 0, .int 0, .int 0])), (tn, .inr (7, [.int 0, .int 0, .int 0, .int 0, .int 0, .int 0, .int 0, .int 0, .ref ta0, .ref ta1, .ref ta2, .ref ta3, .ref ta4, .ref ta5, .ref ta6, .ref ta7, .ref ta8, .ref ta9]))] sz)) 0 0 (va_A [(h0, .inr (9, [.ref tp, .int 0, .int 0, .int (-1), .ref nw, .ref im, .ref sl, .ref rd, .ref wk, .ref fm, .ref mt, .ref ch, .ref dy])), (nw, .inr (3, [.int 0, .ref tn, .int 0, .int 0, .int 0, .int 0])), (tn, .inr (7, [.int 0, .int 0, .int 0, .int 0, .int 0, .int 0, .int 0, .int 0, .ref ta0, .ref ta1, .ref ta2, .ref ta3, .ref ta4, .ref ta5, .ref ta6, .ref ta7, .ref ta8, .ref ta9]))] sz) := by
  refine Met.ofW (cc := cX9_think) (maxL := 5) (ret := (some .int)) (by decide) rfl ?_
  intro p e s m args below meth c s₁ B hml hv
  obtain ⟨rfl, hsz, hP, hK, hD0⟩ := hv
  have hx := B.exec
  have hb := B.bytes
  have hr := B.returns
  have hts := z_hts (atoms_spec (ws := .code yX9_think cX9_think 5 (some .int) :: zT) B.pre)
  have hown : s.vm.findClass RX9 = some m.cls := findClass_of_methodNamed B.named
  have hlocks := B.notSynchronized
  subst hsz
  have hD := hD0.self (sz := s.heap.size)
  generalize hAe : va_A [(h0, .inr (9, [.ref tp, .int 0, .int 0, .int (-1), .ref nw, .ref im, .ref sl, .ref rd, .ref wk, .ref fm, .ref mt, .ref ch, .ref dy])), (nw, .inr (3, [.int 0, .ref tn, .int 0, .int 0, .int 0, .int 0])), (tn, .inr (7, [.int 0, .int 0, .int 0, .int 0, .int 0, .int 0, .int 0, .int 0, .ref ta0, .ref ta1, .ref ta2, .ref ta3, .ref ta4, .ref ta5, .ref ta6, .ref ta7, .ref ta8, .ref ta9]))] s.heap.size = A at hD ⊢
  have hA : ∀ q : Nat, s.heap.size ≤ q → A q := fun q h => by rw [← hAe]; exact Or.inr h
  have hS : va_S A s.heap s.heap [] := va_S.rf
  have hP : va_P (dC, dI) vwCl [(h0, .inr (9, [.ref tp, .int 0, .int 0, .int (-1), .ref nw, .ref im, .ref sl, .ref rd, .ref wk, .ref fm, .ref mt, .ref ch, .ref dy])), (nw, .inr (3, [.int 0, .ref tn, .int 0, .int 0, .int 0, .int 0])), (tn, .inr (7, [.int 0, .int 0, .int 0, .int 0, .int 0, .int 0, .int 0, .int 0, .ref ta0, .ref ta1, .ref ta2, .ref ta3, .ref ta4, .ref ta5, .ref ta6, .ref ta7, .ref ta8, .ref ta9]))] s.heap := hP
  have hl := lv_entry ([.ref h0, .int p1, .int p2, .int p3]) (n := 5) (Nat.le_of_ble_eq_true rfl)
  rw [lg_entry_eq]
  generalize (lg_sl ([.ref h0, .int p1, .int p2, .int p3]) ++ List.replicate (5 - (lg_sl ([.ref h0, .int p1, .int p2, .int p3])).length) Slot.unset).toArray = ls at hl ⊢
  have hl : lv_has ls 5 [(0, .ref h0), (1, .int p1), (2, .int p2), (3, .int p3)] := hl
  refine lv_aload_n hx hb dX9_think_0 rfl (lv_at hl 0 rfl) ?_
  refine va_get (D := (dC, dI)) (ci := 9) (v := .ref nw) (C := RX9) (T := TX9) (N := 13) hx hb hts zl_X9 hown hK hP 0 rfl rfl 4 (by decide) (hts _ zw_t2_193) (fun _ h9 => h9) rfl dX9_think_1 ?_
  refine va_get (D := (dC, dI)) (ci := 3) (v := .ref tn) (C := RX3) (T := TX3) (N := 6) hx hb hts zl_X3 hown hK hP 1 rfl rfl 1 (by decide) (hts _ zw_t1_156) (fun _ h9 => h9) rfl dX9_think_4 ?_
  refine lv_astore (lv' := [(4, .ref tn), (0, .ref h0), (1, .int p1), (2, .int p2), (3, .int p3)]) hx hb dX9_think_7 hl (by decide) rfl (fun ls hl => ?_)
  refine lv_aload hx hb dX9_think_9 (lv_at hl 0 rfl) ?_
  refine lv_iload_n hx hb dX9_think_11 rfl (lv_at hl 2 rfl) ?_
  have hPc := hP.sub (ws' := [(tn, .inr (7, [.int 0, .int 0, .int 0, .int 0, .int 0, .int 0, .int 0, .int 0, .ref ta0, .ref ta1, .ref ta2, .ref ta3, .ref ta4, .ref ta5, .ref ta6, .ref ta7, .ref ta8, .ref ta9]))]) [2] rfl
  have hDc := hD.sub (ws' := [(tn, .inr (7, [.int 0, .int 0, .int 0, .int 0, .int 0, .int 0, .int 0, .int 0, .ref ta0, .ref ta1, .ref ta2, .ref ta3, .ref ta4, .ref ta5, .ref ta6, .ref ta7, .ref ta8, .ref ta9]))]) [2] (by decide) rfl
  have hKc := hK.sub (tys' := []) [] rfl
  have hFc := va_free (wc := [(tn, .inr (7, [.int 0, .int 0, .int 0, .int 0, .int 0, .int 0, .int 0, .int 0, .ref ta0, .ref ta1, .ref ta2, .ref ta3, .ref ta4, .ref ta5, .ref ta6, .ref ta7, .ref ta8, .ref ta9]))]) hD hS hA [2] rfl
  refine va_calli (va_runV (As := [.int p1]) (rest := []) ⟨hx, hb, hml, hown, hts⟩ (k_X7_hasPerson l dC dI tn p1 ta0 ta1 ta2 ta3 ta4 ta5 ta6 ta7 ta8 ta9 s.heap.size) (cwV 1 hts (z_gV zw_t3_181 zw_t3_182 zw_t3_183 zw_t1_3 zw_t3_184) rfl rfl rfl (by decide +kernel) ⟨(Nat.le_of_ble_eq_true rfl), (Nat.le_of_ble_eq_true rfl)⟩) (z_preV hPc hKc hDc (ci := 7) (q0 := 0) rfl rfl) rfl rfl hl.1 rfl (lv_room (Nat.le_of_ble_eq_true rfl)) dX9_think_12 ⟨(Nat.le_of_ble_eq_true rfl), (Nat.le_of_ble_eq_true rfl)⟩) hS (fun q _ h => hFc q h) hFc (fun r_1 u t H1 locs ht hvm hw hB hz1 hk1 hS => ?_)
  obtain ⟨hP, hD, hK⟩ := z_after [(h0, .inr (9, [.ref tp, .int 0, .int 0, .int (-1), .ref nw, .ref im, .ref sl, .ref rd, .ref wk, .ref fm, .ref mt, .ref ch, .ref dy])), (nw, .inr (3, [.int 0, .ref tn, .int 0, .int 0, .int 0, .int 0]))] hB ht hvm hP hD hK [2] [0, 1] rfl rfl (by decide) (by decide) hk1 hFc
  generalize H1 = H at hP hS ⊢
  have hP : va_P (dC, dI) vwCl [(h0, .inr (9, [.ref tp, .int 0, .int 0, .int (-1), .ref nw, .ref im, .ref sl, .ref rd, .ref wk, .ref fm, .ref mt, .ref ch, .ref dy])), (nw, .inr (3, [.int 0, .ref tn, .int 0, .int 0, .int 0, .int 0])), (tn, .inr (7, [.int 0, .int 0, .int 0, .int 0, .int 0, .int 0, .int 0, .int 0, .ref ta0, .ref ta1, .ref ta2, .ref ta3, .ref ta4, .ref ta5, .ref ta6, .ref ta7, .ref ta8, .ref ta9]))] H := hP
  have hD : va_D A [(h0, .inr (9, [.ref tp, .int 0, .int 0, .int (-1), .ref nw, .ref im, .ref sl, .ref rd, .ref wk, .ref fm, .ref mt, .ref ch, .ref dy])), (nw, .inr (3, [.int 0, .ref tn, .int 0, .int 0, .int 0, .int 0])), (tn, .inr (7, [.int 0, .int 0, .int 0, .int 0, .int 0, .int 0, .int 0, .int 0, .ref ta0, .ref ta1, .ref ta2, .ref ta3, .ref ta4, .ref ta5, .ref ta6, .ref ta7, .ref ta8, .ref ta9]))] := hD
  have hK : va_K (dC, dI) vwCl [] s := hK
  obtain rfl : r_1 = 0 := hw
  refine lv_if_eq (tgt := 36) hx hb dX9_think_15 (by decide) (fun _ => ?_) (fun q => absurd q (by decide))
  refine lv_bipush (v := (-2)) hx hb dX9_think_36 (by decide) ?_
  exact W.iret (v := (-2)) hx hb hr (fun t ht hW => ⟨⟨(-2), (), rfl, rfl, trivial⟩, hS.F ht⟩) hS.2.2 dX9_think_38
set_option maxHeartbeats 4000000 in
set_option maxRecDepth 100000 in
theorem k_X9_likely (l : Launch) (dC : Nat → ClassId) (dI : Nat → Nat → Nat) (h0 : Nat) (p1 : Int32) (p2 : Int32) (p3 : Int32) (p4 : Int32) (tp : Nat) (nw : Nat) (im : Nat) (sl : Nat) (rd : Nat) (wk : Nat) (fm : Nat) (mt : Nat) (ch : Nat) (dy : Nat) (tn : Nat) (ta0 : Nat) (ta1 : Nat) (ta2 : Nat) (ta3 : Nat) (ta4 : Nat) (ta5 : Nat) (ta6 : Nat) (ta7 : Nat) (ta8 : Nat) (ta9 : Nat)  (sz : Nat) : Met l yX9_likely (.code yX9_likely cX9_likely 10 (some .int) :: zT) ({ frames := 2, cells := 0, slots := 0, locals := 44 }) (va_Pc [.ref h0, .int p1, .int p2, .int p3, .int p4] (zB dC dI [(h0, .inr (9, [.ref tp, .int 0, .int 0, .int (-1), .ref nw, .ref im, .ref sl, .ref rd, .ref wk, .ref fm, .ref mt, .ref ch, .ref dy])), (nw, .inr (3, [.int 0, .ref tn, .int 0, .int 0, .int 0, .int 0])), (tn, .inr (7, [.int 0, .int 0, .int 0, .int 0, .int 0, .int 0, .int 0, .int 0, .ref ta0, .ref ta1, .ref ta2, .ref ta3, .ref ta4, .ref ta5, .ref ta6, .ref ta7, .ref ta8, .ref ta9]))] [] sz)) (va_Qi (fun (r : Int32) (_ : Unit) => r = (-2)) (fun _ _ => True) (va_A [(h0, .inr (9, [.ref tp, .int 0, .int 0, .int (-1), .ref nw, .ref im, .ref sl, .ref rd, .ref wk, .ref fm, .ref mt, .ref ch, .ref dy])), (nw, .inr (3, [.int 0, .ref tn, .int 0, .int 0, .int 0, .int 0])), (tn, .inr (7, [.int 0, .int 0, .int 0, .int 0, .int 0, .int 0, .int 0, .int 0, .ref ta0, .ref ta1, .ref ta2, .ref ta3, .ref ta4, .ref ta5, .ref ta6, .ref ta7, .ref ta8, .ref ta9]))] sz)) 0 0 (va_A [(h0, .inr (9, [.ref tp, .int 0, .int 0, .int (-1), .ref nw, .ref im, .ref sl, .ref rd, .ref wk, .ref fm, .ref mt, .ref ch, .ref dy])), (nw, .inr (3, [.int 0, .ref tn, .int 0, .int 0, .int 0, .int 0])), (tn, .inr (7, [.int 0, .int 0, .int 0, .int 0, .int 0, .int 0, .int 0, .int 0, .ref ta0, .ref ta1, .ref ta2, .ref ta3, .ref ta4, .ref ta5, .ref ta6, .ref ta7, .ref ta8, .ref ta9]))] sz) := by
  refine Met.ofW (cc := cX9_likely) (maxL := 10) (ret := (some .int)) (by decide) rfl ?_
  intro p e s m args below meth c s₁ B hml hv
  obtain ⟨rfl, hsz, hP, hK, hD0⟩ := hv
  have hx := B.exec
  have hb := B.bytes
  have hr := B.returns
  have hts := z_hts (atoms_spec (ws := .code yX9_likely cX9_likely 10 (some .int) :: zT) B.pre)
  have hown : s.vm.findClass RX9 = some m.cls := findClass_of_methodNamed B.named
  have hlocks := B.notSynchronized
  subst hsz
  have hD := hD0.self (sz := s.heap.size)
  generalize hAe : va_A [(h0, .inr (9, [.ref tp, .int 0, .int 0, .int (-1), .ref nw, .ref im, .ref sl, .ref rd, .ref wk, .ref fm, .ref mt, .ref ch, .ref dy])), (nw, .inr (3, [.int 0, .ref tn, .int 0, .int 0, .int 0, .int 0])), (tn, .inr (7, [.int 0, .int 0, .int 0, .int 0, .int 0, .int 0, .int 0, .int 0, .ref ta0, .ref ta1, .ref ta2, .ref ta3, .ref ta4, .ref ta5, .ref ta6, .ref ta7, .ref ta8, .ref ta9]))] s.heap.size = A at hD ⊢
  have hA : ∀ q : Nat, s.heap.size ≤ q → A q := fun q h => by rw [← hAe]; exact Or.inr h
  have hS : va_S A s.heap s.heap [] := va_S.rf
  have hP : va_P (dC, dI) vwCl [(h0, .inr (9, [.ref tp, .int 0, .int 0, .int (-1), .ref nw, .ref im, .ref sl, .ref rd, .ref wk, .ref fm, .ref mt, .ref ch, .ref dy])), (nw, .inr (3, [.int 0, .ref tn, .int 0, .int 0, .int 0, .int 0])), (tn, .inr (7, [.int 0, .int 0, .int 0, .int 0, .int 0, .int 0, .int 0, .int 0, .ref ta0, .ref ta1, .ref ta2, .ref ta3, .ref ta4, .ref ta5, .ref ta6, .ref ta7, .ref ta8, .ref ta9]))] s.heap := hP
  have hl := lv_entry ([.ref h0, .int p1, .int p2, .int p3, .int p4]) (n := 10) (Nat.le_of_ble_eq_true rfl)
  rw [lg_entry_eq]
  generalize (lg_sl ([.ref h0, .int p1, .int p2, .int p3, .int p4]) ++ List.replicate (10 - (lg_sl ([.ref h0, .int p1, .int p2, .int p3, .int p4])).length) Slot.unset).toArray = ls at hl ⊢
  have hl : lv_has ls 10 [(0, .ref h0), (1, .int p1), (2, .int p2), (3, .int p3), (4, .int p4)] := hl
  refine lv_aload_n hx hb dX9_likely_0 rfl (lv_at hl 0 rfl) ?_
  refine va_get (D := (dC, dI)) (ci := 9) (v := .ref nw) (C := RX9) (T := TX9) (N := 13) hx hb hts zl_X9 hown hK hP 0 rfl rfl 4 (by decide) (hts _ zw_t2_193) (fun _ h9 => h9) rfl dX9_likely_1 ?_
  refine va_get (D := (dC, dI)) (ci := 3) (v := .ref tn) (C := RX3) (T := TX3) (N := 6) hx hb hts zl_X3 hown hK hP 1 rfl rfl 1 (by decide) (hts _ zw_t1_156) (fun _ h9 => h9) rfl dX9_likely_4 ?_
  refine lv_astore (lv' := [(5, .ref tn), (0, .ref h0), (1, .int p1), (2, .int p2), (3, .int p3), (4, .int p4)]) hx hb dX9_likely_7 hl (by decide) rfl (fun ls hl => ?_)
  refine lv_aload hx hb dX9_likely_9 (lv_at hl 0 rfl) ?_
  refine lv_iload_n hx hb dX9_likely_11 rfl (lv_at hl 2 rfl) ?_
  refine lv_iload_n hx hb dX9_likely_12 rfl (lv_at hl 3 rfl) ?_
  refine lv_iload_n hx hb dX9_likely_13 rfl (lv_at hl 4 rfl) ?_
  have hPc := hP.sub (ws' := [(tn, .inr (7, [.int 0, .int 0, .int 0, .int 0, .int 0, .int 0, .int 0, .int 0, .ref ta0, .ref ta1, .ref ta2, .ref ta3, .ref ta4, .ref ta5, .ref ta6, .ref ta7, .ref ta8, .ref ta9]))]) [2] rfl
  have hDc := hD.sub (ws' := [(tn, .inr (7, [.int 0, .int 0, .int 0, .int 0, .int 0, .int 0, .int 0, .int 0, .ref ta0, .ref ta1, .ref ta2, .ref ta3, .ref ta4, .ref ta5, .ref ta6, .ref ta7, .ref ta8, .ref ta9]))]) [2] (by decide) rfl
  have hKc := hK.sub (tys' := []) [] rfl
  have hFc := va_free (wc := [(tn, .inr (7, [.int 0, .int 0, .int 0, .int 0, .int 0, .int 0, .int 0, .int 0, .ref ta0, .ref ta1, .ref ta2, .ref ta3, .ref ta4, .ref ta5, .ref ta6, .ref ta7, .ref ta8, .ref ta9]))]) hD hS hA [2] rfl
  refine va_calli (va_runV (As := [.int p1, .int p2, .int p3]) (rest := []) ⟨hx, hb, hml, hown, hts⟩ (k_X7_hasPassage l dC dI tn p1 p2 p3 ta0 ta1 ta2 ta3 ta4 ta5 ta6 ta7 ta8 ta9 s.heap.size) (cwV 3 hts (z_gV zw_t4_5 zw_t4_6 zw_t4_7 zw_t1_3 zw_t4_8) rfl rfl rfl (by decide +kernel) ⟨(Nat.le_of_ble_eq_true rfl), (Nat.le_of_ble_eq_true rfl)⟩) (z_preV hPc hKc hDc (ci := 7) (q0 := 0) rfl rfl) rfl rfl hl.1 rfl (lv_room (Nat.le_of_ble_eq_true rfl)) dX9_likely_14 ⟨(Nat.le_of_ble_eq_true rfl), (Nat.le_of_ble_eq_true rfl)⟩) hS (fun q _ h => hFc q h) hFc (fun r_1 u t H1 locs ht hvm hw hB hz1 hk1 hS => ?_)
  obtain ⟨hP, hD, hK⟩ := z_after [(h0, .inr (9, [.ref tp, .int 0, .int 0, .int (-1), .ref nw, .ref im, .ref sl, .ref rd, .ref wk, .ref fm, .ref mt, .ref ch, .ref dy])), (nw, .inr (3, [.int 0, .ref tn, .int 0, .int 0, .int 0, .int 0]))] hB ht hvm hP hD hK [2] [0, 1] rfl rfl (by decide) (by decide) hk1 hFc
  generalize H1 = H at hP hS ⊢
  have hP : va_P (dC, dI) vwCl [(h0, .inr (9, [.ref tp, .int 0, .int 0, .int (-1), .ref nw, .ref im, .ref sl, .ref rd, .ref wk, .ref fm, .ref mt, .ref ch, .ref dy])), (nw, .inr (3, [.int 0, .ref tn, .int 0, .int 0, .int 0, .int 0])), (tn, .inr (7, [.int 0, .int 0, .int 0, .int 0, .int 0, .int 0, .int 0, .int 0, .ref ta0, .ref ta1, .ref ta2, .ref ta3, .ref ta4, .ref ta5, .ref ta6, .ref ta7, .ref ta8, .ref ta9]))] H := hP
  have hD : va_D A [(h0, .inr (9, [.ref tp, .int 0, .int 0, .int (-1), .ref nw, .ref im, .ref sl, .ref rd, .ref wk, .ref fm, .ref mt, .ref ch, .ref dy])), (nw, .inr (3, [.int 0, .ref tn, .int 0, .int 0, .int 0, .int 0])), (tn, .inr (7, [.int 0, .int 0, .int 0, .int 0, .int 0, .int 0, .int 0, .int 0, .ref ta0, .ref ta1, .ref ta2, .ref ta3, .ref ta4, .ref ta5, .ref ta6, .ref ta7, .ref ta8, .ref ta9]))] := hD
  have hK : va_K (dC, dI) vwCl [] s := hK
  obtain rfl : r_1 = 0 := hw
  refine lv_if_eq (tgt := 31) hx hb dX9_likely_17 (by decide) (fun _ => ?_) (fun q => absurd q (by decide))
  refine lv_bipush (v := (-2)) hx hb dX9_likely_31 (by decide) ?_
  exact W.iret (v := (-2)) hx hb hr (fun t ht hW => ⟨⟨(-2), (), rfl, rfl, trivial⟩, hS.F ht⟩) hS.2.2 dX9_likely_33
set_option maxHeartbeats 4000000 in
set_option maxRecDepth 100000 in
theorem k_X9_odds (l : Launch) (dC : Nat → ClassId) (dI : Nat → Nat → Nat) (h0 : Nat) (p1 : Int32) (p2 : Int32) (p3 : Int32) (p4 : Int32) (tp : Nat) (nw : Nat) (im : Nat) (sl : Nat) (rd : Nat) (wk : Nat) (fm : Nat) (mt : Nat) (ch : Nat) (dy : Nat) (tn : Nat) (ta0 : Nat) (ta1 : Nat) (ta2 : Nat) (ta3 : Nat) (ta4 : Nat) (ta5 : Nat) (ta6 : Nat) (ta7 : Nat) (ta8 : Nat) (ta9 : Nat)  (sz : Nat) : Met l yX9_odds (.code yX9_odds cX9_odds 5 (some .long) :: zT) ({ frames := 3, cells := 0, slots := 0, locals := 68 }) (va_Pc [.ref h0, .int p1, .int p2, .int p3, .int p4] (zB dC dI [(h0, .inr (9, [.ref tp, .int 0, .int 0, .int (-1), .ref nw, .ref im, .ref sl, .ref rd, .ref wk, .ref fm, .ref mt, .ref ch, .ref dy])), (nw, .inr (3, [.int 0, .ref tn, .int 0, .int 0, .int 0, .int 0])), (tn, .inr (7, [.int 0, .int 0, .int 0, .int 0, .int 0, .int 0, .int 0, .int 0, .ref ta0, .ref ta1, .ref ta2, .ref ta3, .ref ta4, .ref ta5, .ref ta6, .ref ta7, .ref ta8, .ref ta9]))] [] sz)) (va_Ql (fun (r : Int64) (_ : Unit) => r = (-2)) (fun _ _ => True) (va_A [(h0, .inr (9, [.ref tp, .int 0, .int 0, .int (-1), .ref nw, .ref im, .ref sl, .ref rd, .ref wk, .ref fm, .ref mt, .ref ch, .ref dy])), (nw, .inr (3, [.int 0, .ref tn, .int 0, .int 0, .int 0, .int 0])), (tn, .inr (7, [.int 0, .int 0, .int 0, .int 0, .int 0, .int 0, .int 0, .int 0, .ref ta0, .ref ta1, .ref ta2, .ref ta3, .ref ta4, .ref ta5, .ref ta6, .ref ta7, .ref ta8, .ref ta9]))] sz)) 0 0 (va_A [(h0, .inr (9, [.ref tp, .int 0, .int 0, .int (-1), .ref nw, .ref im, .ref sl, .ref rd, .ref wk, .ref fm, .ref mt, .ref ch, .ref dy])), (nw, .inr (3, [.int 0, .ref tn, .int 0, .int 0, .int 0, .int 0])), (tn, .inr (7, [.int 0, .int 0, .int 0, .int 0, .int 0, .int 0, .int 0, .int 0, .ref ta0, .ref ta1, .ref ta2, .ref ta3, .ref ta4, .ref ta5, .ref ta6, .ref ta7, .ref ta8, .ref ta9]))] sz) := by
  refine Met.ofW (cc := cX9_odds) (maxL := 5) (ret := (some .long)) (by decide) rfl ?_
  intro p e s m args below meth c s₁ B hml hv
  obtain ⟨rfl, hsz, hP, hK, hD0⟩ := hv
  have hx := B.exec
  have hb := B.bytes
  have hr := B.returns
  have hts := z_hts (atoms_spec (ws := .code yX9_odds cX9_odds 5 (some .long) :: zT) B.pre)
  have hown : s.vm.findClass RX9 = some m.cls := findClass_of_methodNamed B.named
  have hlocks := B.notSynchronized
  subst hsz
  have hD := hD0.self (sz := s.heap.size)
  generalize hAe : va_A [(h0, .inr (9, [.ref tp, .int 0, .int 0, .int (-1), .ref nw, .ref im, .ref sl, .ref rd, .ref wk, .ref fm, .ref mt, .ref ch, .ref dy])), (nw, .inr (3, [.int 0, .ref tn, .int 0, .int 0, .int 0, .int 0])), (tn, .inr (7, [.int 0, .int 0, .int 0, .int 0, .int 0, .int 0, .int 0, .int 0, .ref ta0, .ref ta1, .ref ta2, .ref ta3, .ref ta4, .ref ta5, .ref ta6, .ref ta7, .ref ta8, .ref ta9]))] s.heap.size = A at hD ⊢
  have hA : ∀ q : Nat, s.heap.size ≤ q → A q := fun q h => by rw [← hAe]; exact Or.inr h
  have hS : va_S A s.heap s.heap [] := va_S.rf
  have hP : va_P (dC, dI) vwCl [(h0, .inr (9, [.ref tp, .int 0, .int 0, .int (-1), .ref nw, .ref im, .ref sl, .ref rd, .ref wk, .ref fm, .ref mt, .ref ch, .ref dy])), (nw, .inr (3, [.int 0, .ref tn, .int 0, .int 0, .int 0, .int 0])), (tn, .inr (7, [.int 0, .int 0, .int 0, .int 0, .int 0, .int 0, .int 0, .int 0, .ref ta0, .ref ta1, .ref ta2, .ref ta3, .ref ta4, .ref ta5, .ref ta6, .ref ta7, .ref ta8, .ref ta9]))] s.heap := hP
  have hl := lv_entry ([.ref h0, .int p1, .int p2, .int p3, .int p4]) (n := 5) (Nat.le_of_ble_eq_true rfl)
  rw [lg_entry_eq]
  generalize (lg_sl ([.ref h0, .int p1, .int p2, .int p3, .int p4]) ++ List.replicate (5 - (lg_sl ([.ref h0, .int p1, .int p2, .int p3, .int p4])).length) Slot.unset).toArray = ls at hl ⊢
  have hl : lv_has ls 5 [(0, .ref h0), (1, .int p1), (2, .int p2), (3, .int p3), (4, .int p4)] := hl
  refine lv_aload_n hx hb dX9_odds_0 rfl (lv_at hl 0 rfl) ?_
  refine va_get (D := (dC, dI)) (ci := 9) (v := .ref nw) (C := RX9) (T := TX9) (N := 13) hx hb hts zl_X9 hown hK hP 0 rfl rfl 4 (by decide) (hts _ zw_t2_193) (fun _ h9 => h9) rfl dX9_odds_1 ?_
  refine va_get (D := (dC, dI)) (ci := 3) (v := .ref tn) (C := RX3) (T := TX3) (N := 6) hx hb hts zl_X3 hown hK hP 1 rfl rfl 1 (by decide) (hts _ zw_t1_156) (fun _ h9 => h9) rfl dX9_odds_4 ?_
  refine lv_iload_n hx hb dX9_odds_7 rfl (lv_at hl 1 rfl) ?_
  refine lv_iload_n hx hb dX9_odds_8 rfl (lv_at hl 2 rfl) ?_
  refine lv_iload_n hx hb dX9_odds_9 rfl (lv_at hl 3 rfl) ?_
  refine lv_iload hx hb dX9_odds_10 (lv_at hl 4 rfl) ?_
  have hPc := hP.sub (ws' := [(tn, .inr (7, [.int 0, .int 0, .int 0, .int 0, .int 0, .int 0, .int 0, .int 0, .ref ta0, .ref ta1, .ref ta2, .ref ta3, .ref ta4, .ref ta5, .ref ta6, .ref ta7, .ref ta8, .ref ta9]))]) [2] rfl
  have hDc := hD.sub (ws' := [(tn, .inr (7, [.int 0, .int 0, .int 0, .int 0, .int 0, .int 0, .int 0, .int 0, .ref ta0, .ref ta1, .ref ta2, .ref ta3, .ref ta4, .ref ta5, .ref ta6, .ref ta7, .ref ta8, .ref ta9]))]) [2] (by decide) rfl
  have hKc := hK.sub (tys' := []) [] rfl
  have hFc := va_free (wc := [(tn, .inr (7, [.int 0, .int 0, .int 0, .int 0, .int 0, .int 0, .int 0, .int 0, .ref ta0, .ref ta1, .ref ta2, .ref ta3, .ref ta4, .ref ta5, .ref ta6, .ref ta7, .ref ta8, .ref ta9]))]) hD hS hA [2] rfl
  refine va_calli (va_runV (As := [.int p1, .int p2, .int p3, .int p4]) (rest := []) ⟨hx, hb, hml, hown, hts⟩ (k_X7_hasTripBy l dC dI tn p1 p2 p3 p4 ta0 ta1 ta2 ta3 ta4 ta5 ta6 ta7 ta8 ta9 s.heap.size) (cwV 4 hts (z_gV zw_t4_115 zw_t4_116 zw_t4_117 zw_t1_3 zw_t4_118) rfl rfl rfl (by decide +kernel) ⟨(Nat.le_of_ble_eq_true rfl), (Nat.le_of_ble_eq_true rfl)⟩) (z_preV hPc hKc hDc (ci := 7) (q0 := 0) rfl rfl) rfl rfl hl.1 rfl (lv_room (Nat.le_of_ble_eq_true rfl)) dX9_odds_12 ⟨(Nat.le_of_ble_eq_true rfl), (Nat.le_of_ble_eq_true rfl)⟩) hS (fun q _ h => hFc q h) hFc (fun r_1 u t H1 locs ht hvm hw hB hz1 hk1 hS => ?_)
  obtain ⟨hP, hD, hK⟩ := z_after [(h0, .inr (9, [.ref tp, .int 0, .int 0, .int (-1), .ref nw, .ref im, .ref sl, .ref rd, .ref wk, .ref fm, .ref mt, .ref ch, .ref dy])), (nw, .inr (3, [.int 0, .ref tn, .int 0, .int 0, .int 0, .int 0]))] hB ht hvm hP hD hK [2] [0, 1] rfl rfl (by decide) (by decide) hk1 hFc
  generalize H1 = H at hP hS ⊢
  have hP : va_P (dC, dI) vwCl [(h0, .inr (9, [.ref tp, .int 0, .int 0, .int (-1), .ref nw, .ref im, .ref sl, .ref rd, .ref wk, .ref fm, .ref mt, .ref ch, .ref dy])), (nw, .inr (3, [.int 0, .ref tn, .int 0, .int 0, .int 0, .int 0])), (tn, .inr (7, [.int 0, .int 0, .int 0, .int 0, .int 0, .int 0, .int 0, .int 0, .ref ta0, .ref ta1, .ref ta2, .ref ta3, .ref ta4, .ref ta5, .ref ta6, .ref ta7, .ref ta8, .ref ta9]))] H := hP
  have hD : va_D A [(h0, .inr (9, [.ref tp, .int 0, .int 0, .int (-1), .ref nw, .ref im, .ref sl, .ref rd, .ref wk, .ref fm, .ref mt, .ref ch, .ref dy])), (nw, .inr (3, [.int 0, .ref tn, .int 0, .int 0, .int 0, .int 0])), (tn, .inr (7, [.int 0, .int 0, .int 0, .int 0, .int 0, .int 0, .int 0, .int 0, .ref ta0, .ref ta1, .ref ta2, .ref ta3, .ref ta4, .ref ta5, .ref ta6, .ref ta7, .ref ta8, .ref ta9]))] := hD
  have hK : va_K (dC, dI) vwCl [] s := hK
  obtain rfl : r_1 = 0 := hw
  refine lv_if_ne (tgt := 22) hx hb dX9_odds_15 (by decide) (fun q => absurd q (by decide)) (fun _ => ?_)
  refine lv_ldc2 (v := (-2)) hx hb hown (hts _ zw_t5_45) dX9_odds_18 ?_
  exact W.lret (v := (-2)) hx hb hr (fun t ht hW => ⟨⟨(-2), (), rfl, rfl, trivial⟩, hS.F ht⟩) hS.2.2 dX9_odds_21
set_option maxHeartbeats 4000000 in
set_option maxRecDepth 100000 in
theorem k_X9_best (l : Launch) (dC : Nat → ClassId) (dI : Nat → Nat → Nat) (h0 : Nat) (p1 : Int32) (p2 : Int32) (p3 : Int32) (p4 : Int32) (tp : Nat) (nw : Nat) (im : Nat) (sl : Nat) (rd : Nat) (wk : Nat) (fm : Nat) (mt : Nat) (ch : Nat) (dy : Nat) (tn : Nat) (ta0 : Nat) (ta1 : Nat) (ta2 : Nat) (ta3 : Nat) (ta4 : Nat) (ta5 : Nat) (ta6 : Nat) (ta7 : Nat) (ta8 : Nat) (ta9 : Nat)  (sz : Nat) : Met l yX9_best (.code yX9_best cX9_best 5 (some .int) :: zT) ({ frames := 3, cells := 0, slots := 0, locals := 68 }) (va_Pc [.ref h0, .int p1, .int p2, .int p3, .int p4] (zB dC dI [(h0, .inr (9, [.ref tp, .int 0, .int 0, .int (-1), .ref nw, .ref im, .ref sl, .ref rd, .ref wk, .ref fm, .ref mt, .ref ch, .ref dy])), (nw, .inr (3, [.int 0, .ref tn, .int 0, .int 0, .int 0, .int 0])), (tn, .inr (7, [.int 0, .int 0, .int 0, .int 0, .int 0, .int 0, .int 0, .int 0, .ref ta0, .ref ta1, .ref ta2, .ref ta3, .ref ta4, .ref ta5, .ref ta6, .ref ta7, .ref ta8, .ref ta9]))] [] sz)) (va_Qi (fun (r : Int32) (_ : Unit) => r = (-2)) (fun _ _ => True) (va_A [(h0, .inr (9, [.ref tp, .int 0, .int 0, .int (-1), .ref nw, .ref im, .ref sl, .ref rd, .ref wk, .ref fm, .ref mt, .ref ch, .ref dy])), (nw, .inr (3, [.int 0, .ref tn, .int 0, .int 0, .int 0, .int 0])), (tn, .inr (7, [.int 0, .int 0, .int 0, .int 0, .int 0, .int 0, .int 0, .int 0, .ref ta0, .ref ta1, .ref ta2, .ref ta3, .ref ta4, .ref ta5, .ref ta6, .ref ta7, .ref ta8, .ref ta9]))] sz)) 0 0 (va_A [(h0, .inr (9, [.ref tp, .int 0, .int 0, .int (-1), .ref nw, .ref im, .ref sl, .ref rd, .ref wk, .ref fm, .ref mt, .ref ch, .ref dy])), (nw, .inr (3, [.int 0, .ref tn, .int 0, .int 0, .int 0, .int 0])), (tn, .inr (7, [.int 0, .int 0, .int 0, .int 0, .int 0, .int 0, .int 0, .int 0, .ref ta0, .ref ta1, .ref ta2, .ref ta3, .ref ta4, .ref ta5, .ref ta6, .ref ta7, .ref ta8, .ref ta9]))] sz) := by
  refine Met.ofW (cc := cX9_best) (maxL := 5) (ret := (some .int)) (by decide) rfl ?_
  intro p e s m args below meth c s₁ B hml hv
  obtain ⟨rfl, hsz, hP, hK, hD0⟩ := hv
  have hx := B.exec
  have hb := B.bytes
  have hr := B.returns
  have hts := z_hts (atoms_spec (ws := .code yX9_best cX9_best 5 (some .int) :: zT) B.pre)
  have hown : s.vm.findClass RX9 = some m.cls := findClass_of_methodNamed B.named
  have hlocks := B.notSynchronized
  subst hsz
  have hD := hD0.self (sz := s.heap.size)
  generalize hAe : va_A [(h0, .inr (9, [.ref tp, .int 0, .int 0, .int (-1), .ref nw, .ref im, .ref sl, .ref rd, .ref wk, .ref fm, .ref mt, .ref ch, .ref dy])), (nw, .inr (3, [.int 0, .ref tn, .int 0, .int 0, .int 0, .int 0])), (tn, .inr (7, [.int 0, .int 0, .int 0, .int 0, .int 0, .int 0, .int 0, .int 0, .ref ta0, .ref ta1, .ref ta2, .ref ta3, .ref ta4, .ref ta5, .ref ta6, .ref ta7, .ref ta8, .ref ta9]))] s.heap.size = A at hD ⊢
  have hA : ∀ q : Nat, s.heap.size ≤ q → A q := fun q h => by rw [← hAe]; exact Or.inr h
  have hS : va_S A s.heap s.heap [] := va_S.rf
  have hP : va_P (dC, dI) vwCl [(h0, .inr (9, [.ref tp, .int 0, .int 0, .int (-1), .ref nw, .ref im, .ref sl, .ref rd, .ref wk, .ref fm, .ref mt, .ref ch, .ref dy])), (nw, .inr (3, [.int 0, .ref tn, .int 0, .int 0, .int 0, .int 0])), (tn, .inr (7, [.int 0, .int 0, .int 0, .int 0, .int 0, .int 0, .int 0, .int 0, .ref ta0, .ref ta1, .ref ta2, .ref ta3, .ref ta4, .ref ta5, .ref ta6, .ref ta7, .ref ta8, .ref ta9]))] s.heap := hP
  have hl := lv_entry ([.ref h0, .int p1, .int p2, .int p3, .int p4]) (n := 5) (Nat.le_of_ble_eq_true rfl)
  rw [lg_entry_eq]
  generalize (lg_sl ([.ref h0, .int p1, .int p2, .int p3, .int p4]) ++ List.replicate (5 - (lg_sl ([.ref h0, .int p1, .int p2, .int p3, .int p4])).length) Slot.unset).toArray = ls at hl ⊢
  have hl : lv_has ls 5 [(0, .ref h0), (1, .int p1), (2, .int p2), (3, .int p3), (4, .int p4)] := hl
  refine lv_aload_n hx hb dX9_best_0 rfl (lv_at hl 0 rfl) ?_
  refine va_get (D := (dC, dI)) (ci := 9) (v := .ref nw) (C := RX9) (T := TX9) (N := 13) hx hb hts zl_X9 hown hK hP 0 rfl rfl 4 (by decide) (hts _ zw_t2_193) (fun _ h9 => h9) rfl dX9_best_1 ?_
  refine va_get (D := (dC, dI)) (ci := 3) (v := .ref tn) (C := RX3) (T := TX3) (N := 6) hx hb hts zl_X3 hown hK hP 1 rfl rfl 1 (by decide) (hts _ zw_t1_156) (fun _ h9 => h9) rfl dX9_best_4 ?_
  refine lv_iload_n hx hb dX9_best_7 rfl (lv_at hl 1 rfl) ?_
  refine lv_iload_n hx hb dX9_best_8 rfl (lv_at hl 2 rfl) ?_
  refine lv_iload_n hx hb dX9_best_9 rfl (lv_at hl 3 rfl) ?_
  refine lv_iload hx hb dX9_best_10 (lv_at hl 4 rfl) ?_
  have hPc := hP.sub (ws' := [(tn, .inr (7, [.int 0, .int 0, .int 0, .int 0, .int 0, .int 0, .int 0, .int 0, .ref ta0, .ref ta1, .ref ta2, .ref ta3, .ref ta4, .ref ta5, .ref ta6, .ref ta7, .ref ta8, .ref ta9]))]) [2] rfl
  have hDc := hD.sub (ws' := [(tn, .inr (7, [.int 0, .int 0, .int 0, .int 0, .int 0, .int 0, .int 0, .int 0, .ref ta0, .ref ta1, .ref ta2, .ref ta3, .ref ta4, .ref ta5, .ref ta6, .ref ta7, .ref ta8, .ref ta9]))]) [2] (by decide) rfl
  have hKc := hK.sub (tys' := []) [] rfl
  have hFc := va_free (wc := [(tn, .inr (7, [.int 0, .int 0, .int 0, .int 0, .int 0, .int 0, .int 0, .int 0, .ref ta0, .ref ta1, .ref ta2, .ref ta3, .ref ta4, .ref ta5, .ref ta6, .ref ta7, .ref ta8, .ref ta9]))]) hD hS hA [2] rfl
  refine va_calli (va_runV (As := [.int p1, .int p2, .int p3, .int p4]) (rest := []) ⟨hx, hb, hml, hown, hts⟩ (k_X7_hasTripBy l dC dI tn p1 p2 p3 p4 ta0 ta1 ta2 ta3 ta4 ta5 ta6 ta7 ta8 ta9 s.heap.size) (cwV 4 hts (z_gV zw_t4_115 zw_t4_116 zw_t4_117 zw_t1_3 zw_t4_118) rfl rfl rfl (by decide +kernel) ⟨(Nat.le_of_ble_eq_true rfl), (Nat.le_of_ble_eq_true rfl)⟩) (z_preV hPc hKc hDc (ci := 7) (q0 := 0) rfl rfl) rfl rfl hl.1 rfl (lv_room (Nat.le_of_ble_eq_true rfl)) dX9_best_12 ⟨(Nat.le_of_ble_eq_true rfl), (Nat.le_of_ble_eq_true rfl)⟩) hS (fun q _ h => hFc q h) hFc (fun r_1 u t H1 locs ht hvm hw hB hz1 hk1 hS => ?_)
  obtain ⟨hP, hD, hK⟩ := z_after [(h0, .inr (9, [.ref tp, .int 0, .int 0, .int (-1), .ref nw, .ref im, .ref sl, .ref rd, .ref wk, .ref fm, .ref mt, .ref ch, .ref dy])), (nw, .inr (3, [.int 0, .ref tn, .int 0, .int 0, .int 0, .int 0]))] hB ht hvm hP hD hK [2] [0, 1] rfl rfl (by decide) (by decide) hk1 hFc
  generalize H1 = H at hP hS ⊢
  have hP : va_P (dC, dI) vwCl [(h0, .inr (9, [.ref tp, .int 0, .int 0, .int (-1), .ref nw, .ref im, .ref sl, .ref rd, .ref wk, .ref fm, .ref mt, .ref ch, .ref dy])), (nw, .inr (3, [.int 0, .ref tn, .int 0, .int 0, .int 0, .int 0])), (tn, .inr (7, [.int 0, .int 0, .int 0, .int 0, .int 0, .int 0, .int 0, .int 0, .ref ta0, .ref ta1, .ref ta2, .ref ta3, .ref ta4, .ref ta5, .ref ta6, .ref ta7, .ref ta8, .ref ta9]))] H := hP
  have hD : va_D A [(h0, .inr (9, [.ref tp, .int 0, .int 0, .int (-1), .ref nw, .ref im, .ref sl, .ref rd, .ref wk, .ref fm, .ref mt, .ref ch, .ref dy])), (nw, .inr (3, [.int 0, .ref tn, .int 0, .int 0, .int 0, .int 0])), (tn, .inr (7, [.int 0, .int 0, .int 0, .int 0, .int 0, .int 0, .int 0, .int 0, .ref ta0, .ref ta1, .ref ta2, .ref ta3, .ref ta4, .ref ta5, .ref ta6, .ref ta7, .ref ta8, .ref ta9]))] := hD
  have hK : va_K (dC, dI) vwCl [] s := hK
  obtain rfl : r_1 = 0 := hw
  refine lv_if_ne (tgt := 21) hx hb dX9_best_15 (by decide) (fun q => absurd q (by decide)) (fun _ => ?_)
  refine lv_bipush (v := (-2)) hx hb dX9_best_18 (by decide) ?_
  exact W.iret (v := (-2)) hx hb hr (fun t ht hW => ⟨⟨(-2), (), rfl, rfl, trivial⟩, hS.F ht⟩) hS.2.2 dX9_best_20
set_option maxHeartbeats 4000000 in
set_option maxRecDepth 100000 in
theorem k_X9_sure (l : Launch) (dC : Nat → ClassId) (dI : Nat → Nat → Nat) (h0 : Nat) (p1 : Int32) (p2 : Int32) (p3 : Int32) (p4 : Int32) (tp : Nat) (nw : Nat) (im : Nat) (sl : Nat) (rd : Nat) (wk : Nat) (fm : Nat) (mt : Nat) (ch : Nat) (dy : Nat) (tn : Nat) (ta0 : Nat) (ta1 : Nat) (ta2 : Nat) (ta3 : Nat) (ta4 : Nat) (ta5 : Nat) (ta6 : Nat) (ta7 : Nat) (ta8 : Nat) (ta9 : Nat)  (sz : Nat) : Met l yX9_sure (.code yX9_sure cX9_sure 5 (some .long) :: zT) ({ frames := 3, cells := 0, slots := 0, locals := 68 }) (va_Pc [.ref h0, .int p1, .int p2, .int p3, .int p4] (zB dC dI [(h0, .inr (9, [.ref tp, .int 0, .int 0, .int (-1), .ref nw, .ref im, .ref sl, .ref rd, .ref wk, .ref fm, .ref mt, .ref ch, .ref dy])), (nw, .inr (3, [.int 0, .ref tn, .int 0, .int 0, .int 0, .int 0])), (tn, .inr (7, [.int 0, .int 0, .int 0, .int 0, .int 0, .int 0, .int 0, .int 0, .ref ta0, .ref ta1, .ref ta2, .ref ta3, .ref ta4, .ref ta5, .ref ta6, .ref ta7, .ref ta8, .ref ta9]))] [] sz)) (va_Ql (fun (r : Int64) (_ : Unit) => r = (-2)) (fun _ _ => True) (va_A [(h0, .inr (9, [.ref tp, .int 0, .int 0, .int (-1), .ref nw, .ref im, .ref sl, .ref rd, .ref wk, .ref fm, .ref mt, .ref ch, .ref dy])), (nw, .inr (3, [.int 0, .ref tn, .int 0, .int 0, .int 0, .int 0])), (tn, .inr (7, [.int 0, .int 0, .int 0, .int 0, .int 0, .int 0, .int 0, .int 0, .ref ta0, .ref ta1, .ref ta2, .ref ta3, .ref ta4, .ref ta5, .ref ta6, .ref ta7, .ref ta8, .ref ta9]))] sz)) 0 0 (va_A [(h0, .inr (9, [.ref tp, .int 0, .int 0, .int (-1), .ref nw, .ref im, .ref sl, .ref rd, .ref wk, .ref fm, .ref mt, .ref ch, .ref dy])), (nw, .inr (3, [.int 0, .ref tn, .int 0, .int 0, .int 0, .int 0])), (tn, .inr (7, [.int 0, .int 0, .int 0, .int 0, .int 0, .int 0, .int 0, .int 0, .ref ta0, .ref ta1, .ref ta2, .ref ta3, .ref ta4, .ref ta5, .ref ta6, .ref ta7, .ref ta8, .ref ta9]))] sz) := by
  refine Met.ofW (cc := cX9_sure) (maxL := 5) (ret := (some .long)) (by decide) rfl ?_
  intro p e s m args below meth c s₁ B hml hv
  obtain ⟨rfl, hsz, hP, hK, hD0⟩ := hv
  have hx := B.exec
  have hb := B.bytes
  have hr := B.returns
  have hts := z_hts (atoms_spec (ws := .code yX9_sure cX9_sure 5 (some .long) :: zT) B.pre)
  have hown : s.vm.findClass RX9 = some m.cls := findClass_of_methodNamed B.named
  have hlocks := B.notSynchronized
  subst hsz
  have hD := hD0.self (sz := s.heap.size)
  generalize hAe : va_A [(h0, .inr (9, [.ref tp, .int 0, .int 0, .int (-1), .ref nw, .ref im, .ref sl, .ref rd, .ref wk, .ref fm, .ref mt, .ref ch, .ref dy])), (nw, .inr (3, [.int 0, .ref tn, .int 0, .int 0, .int 0, .int 0])), (tn, .inr (7, [.int 0, .int 0, .int 0, .int 0, .int 0, .int 0, .int 0, .int 0, .ref ta0, .ref ta1, .ref ta2, .ref ta3, .ref ta4, .ref ta5, .ref ta6, .ref ta7, .ref ta8, .ref ta9]))] s.heap.size = A at hD ⊢
  have hA : ∀ q : Nat, s.heap.size ≤ q → A q := fun q h => by rw [← hAe]; exact Or.inr h
  have hS : va_S A s.heap s.heap [] := va_S.rf
  have hP : va_P (dC, dI) vwCl [(h0, .inr (9, [.ref tp, .int 0, .int 0, .int (-1), .ref nw, .ref im, .ref sl, .ref rd, .ref wk, .ref fm, .ref mt, .ref ch, .ref dy])), (nw, .inr (3, [.int 0, .ref tn, .int 0, .int 0, .int 0, .int 0])), (tn, .inr (7, [.int 0, .int 0, .int 0, .int 0, .int 0, .int 0, .int 0, .int 0, .ref ta0, .ref ta1, .ref ta2, .ref ta3, .ref ta4, .ref ta5, .ref ta6, .ref ta7, .ref ta8, .ref ta9]))] s.heap := hP
  have hl := lv_entry ([.ref h0, .int p1, .int p2, .int p3, .int p4]) (n := 5) (Nat.le_of_ble_eq_true rfl)
  rw [lg_entry_eq]
  generalize (lg_sl ([.ref h0, .int p1, .int p2, .int p3, .int p4]) ++ List.replicate (5 - (lg_sl ([.ref h0, .int p1, .int p2, .int p3, .int p4])).length) Slot.unset).toArray = ls at hl ⊢
  have hl : lv_has ls 5 [(0, .ref h0), (1, .int p1), (2, .int p2), (3, .int p3), (4, .int p4)] := hl
  refine lv_aload_n hx hb dX9_sure_0 rfl (lv_at hl 0 rfl) ?_
  refine va_get (D := (dC, dI)) (ci := 9) (v := .ref nw) (C := RX9) (T := TX9) (N := 13) hx hb hts zl_X9 hown hK hP 0 rfl rfl 4 (by decide) (hts _ zw_t2_193) (fun _ h9 => h9) rfl dX9_sure_1 ?_
  refine va_get (D := (dC, dI)) (ci := 3) (v := .ref tn) (C := RX3) (T := TX3) (N := 6) hx hb hts zl_X3 hown hK hP 1 rfl rfl 1 (by decide) (hts _ zw_t1_156) (fun _ h9 => h9) rfl dX9_sure_4 ?_
  refine lv_iload_n hx hb dX9_sure_7 rfl (lv_at hl 1 rfl) ?_
  refine lv_iload_n hx hb dX9_sure_8 rfl (lv_at hl 2 rfl) ?_
  refine lv_iload_n hx hb dX9_sure_9 rfl (lv_at hl 3 rfl) ?_
  refine lv_iload hx hb dX9_sure_10 (lv_at hl 4 rfl) ?_
  have hPc := hP.sub (ws' := [(tn, .inr (7, [.int 0, .int 0, .int 0, .int 0, .int 0, .int 0, .int 0, .int 0, .ref ta0, .ref ta1, .ref ta2, .ref ta3, .ref ta4, .ref ta5, .ref ta6, .ref ta7, .ref ta8, .ref ta9]))]) [2] rfl
  have hDc := hD.sub (ws' := [(tn, .inr (7, [.int 0, .int 0, .int 0, .int 0, .int 0, .int 0, .int 0, .int 0, .ref ta0, .ref ta1, .ref ta2, .ref ta3, .ref ta4, .ref ta5, .ref ta6, .ref ta7, .ref ta8, .ref ta9]))]) [2] (by decide) rfl
  have hKc := hK.sub (tys' := []) [] rfl
  have hFc := va_free (wc := [(tn, .inr (7, [.int 0, .int 0, .int 0, .int 0, .int 0, .int 0, .int 0, .int 0, .ref ta0, .ref ta1, .ref ta2, .ref ta3, .ref ta4, .ref ta5, .ref ta6, .ref ta7, .ref ta8, .ref ta9]))]) hD hS hA [2] rfl
  refine va_calli (va_runV (As := [.int p1, .int p2, .int p3, .int p4]) (rest := []) ⟨hx, hb, hml, hown, hts⟩ (k_X7_hasTripBy l dC dI tn p1 p2 p3 p4 ta0 ta1 ta2 ta3 ta4 ta5 ta6 ta7 ta8 ta9 s.heap.size) (cwV 4 hts (z_gV zw_t4_115 zw_t4_116 zw_t4_117 zw_t1_3 zw_t4_118) rfl rfl rfl (by decide +kernel) ⟨(Nat.le_of_ble_eq_true rfl), (Nat.le_of_ble_eq_true rfl)⟩) (z_preV hPc hKc hDc (ci := 7) (q0 := 0) rfl rfl) rfl rfl hl.1 rfl (lv_room (Nat.le_of_ble_eq_true rfl)) dX9_sure_12 ⟨(Nat.le_of_ble_eq_true rfl), (Nat.le_of_ble_eq_true rfl)⟩) hS (fun q _ h => hFc q h) hFc (fun r_1 u t H1 locs ht hvm hw hB hz1 hk1 hS => ?_)
  obtain ⟨hP, hD, hK⟩ := z_after [(h0, .inr (9, [.ref tp, .int 0, .int 0, .int (-1), .ref nw, .ref im, .ref sl, .ref rd, .ref wk, .ref fm, .ref mt, .ref ch, .ref dy])), (nw, .inr (3, [.int 0, .ref tn, .int 0, .int 0, .int 0, .int 0]))] hB ht hvm hP hD hK [2] [0, 1] rfl rfl (by decide) (by decide) hk1 hFc
  generalize H1 = H at hP hS ⊢
  have hP : va_P (dC, dI) vwCl [(h0, .inr (9, [.ref tp, .int 0, .int 0, .int (-1), .ref nw, .ref im, .ref sl, .ref rd, .ref wk, .ref fm, .ref mt, .ref ch, .ref dy])), (nw, .inr (3, [.int 0, .ref tn, .int 0, .int 0, .int 0, .int 0])), (tn, .inr (7, [.int 0, .int 0, .int 0, .int 0, .int 0, .int 0, .int 0, .int 0, .ref ta0, .ref ta1, .ref ta2, .ref ta3, .ref ta4, .ref ta5, .ref ta6, .ref ta7, .ref ta8, .ref ta9]))] H := hP
  have hD : va_D A [(h0, .inr (9, [.ref tp, .int 0, .int 0, .int (-1), .ref nw, .ref im, .ref sl, .ref rd, .ref wk, .ref fm, .ref mt, .ref ch, .ref dy])), (nw, .inr (3, [.int 0, .ref tn, .int 0, .int 0, .int 0, .int 0])), (tn, .inr (7, [.int 0, .int 0, .int 0, .int 0, .int 0, .int 0, .int 0, .int 0, .ref ta0, .ref ta1, .ref ta2, .ref ta3, .ref ta4, .ref ta5, .ref ta6, .ref ta7, .ref ta8, .ref ta9]))] := hD
  have hK : va_K (dC, dI) vwCl [] s := hK
  obtain rfl : r_1 = 0 := hw
  refine lv_if_ne (tgt := 22) hx hb dX9_sure_15 (by decide) (fun q => absurd q (by decide)) (fun _ => ?_)
  refine lv_ldc2 (v := (-2)) hx hb hown (hts _ zw_t5_45) dX9_sure_18 ?_
  exact W.lret (v := (-2)) hx hb hr (fun t ht hW => ⟨⟨(-2), (), rfl, rfl, trivial⟩, hS.F ht⟩) hS.2.2 dX9_sure_21
set_option maxHeartbeats 4000000 in
set_option maxRecDepth 100000 in
theorem k_X9_list (l : Launch) (dC : Nat → ClassId) (dI : Nat → Nat → Nat) (h0 : Nat) (p1 : Int32) (p2 : Int32) (p3 : Int32) (p4 : Int32) (tp : Nat) (nw : Nat) (im : Nat) (sl : Nat) (rd : Nat) (wk : Nat) (fm : Nat) (mt : Nat) (ch : Nat) (dy : Nat) (tn : Nat) (ta0 : Nat) (ta1 : Nat) (ta2 : Nat) (ta3 : Nat) (ta4 : Nat) (ta5 : Nat) (ta6 : Nat) (ta7 : Nat) (ta8 : Nat) (ta9 : Nat)  (sz : Nat) : Met l yX9_list (.code yX9_list cX9_list 10 (some .long) :: zT) ({ frames := 3, cells := 0, slots := 0, locals := 68 }) (va_Pc [.ref h0, .int p1, .int p2, .int p3, .int p4] (zB dC dI [(h0, .inr (9, [.ref tp, .int 0, .int 0, .int (-1), .ref nw, .ref im, .ref sl, .ref rd, .ref wk, .ref fm, .ref mt, .ref ch, .ref dy])), (nw, .inr (3, [.int 0, .ref tn, .int 0, .int 0, .int 0, .int 0])), (tn, .inr (7, [.int 0, .int 0, .int 0, .int 0, .int 0, .int 0, .int 0, .int 0, .ref ta0, .ref ta1, .ref ta2, .ref ta3, .ref ta4, .ref ta5, .ref ta6, .ref ta7, .ref ta8, .ref ta9]))] [] sz)) (va_Ql (fun (r : Int64) (_ : Unit) => r = (-2)) (fun _ _ => True) (va_A [(h0, .inr (9, [.ref tp, .int 0, .int 0, .int (-1), .ref nw, .ref im, .ref sl, .ref rd, .ref wk, .ref fm, .ref mt, .ref ch, .ref dy])), (nw, .inr (3, [.int 0, .ref tn, .int 0, .int 0, .int 0, .int 0])), (tn, .inr (7, [.int 0, .int 0, .int 0, .int 0, .int 0, .int 0, .int 0, .int 0, .ref ta0, .ref ta1, .ref ta2, .ref ta3, .ref ta4, .ref ta5, .ref ta6, .ref ta7, .ref ta8, .ref ta9]))] sz)) 0 0 (va_A [(h0, .inr (9, [.ref tp, .int 0, .int 0, .int (-1), .ref nw, .ref im, .ref sl, .ref rd, .ref wk, .ref fm, .ref mt, .ref ch, .ref dy])), (nw, .inr (3, [.int 0, .ref tn, .int 0, .int 0, .int 0, .int 0])), (tn, .inr (7, [.int 0, .int 0, .int 0, .int 0, .int 0, .int 0, .int 0, .int 0, .ref ta0, .ref ta1, .ref ta2, .ref ta3, .ref ta4, .ref ta5, .ref ta6, .ref ta7, .ref ta8, .ref ta9]))] sz) := by
  refine Met.ofW (cc := cX9_list) (maxL := 10) (ret := (some .long)) (by decide) rfl ?_
  intro p e s m args below meth c s₁ B hml hv
  obtain ⟨rfl, hsz, hP, hK, hD0⟩ := hv
  have hx := B.exec
  have hb := B.bytes
  have hr := B.returns
  have hts := z_hts (atoms_spec (ws := .code yX9_list cX9_list 10 (some .long) :: zT) B.pre)
  have hown : s.vm.findClass RX9 = some m.cls := findClass_of_methodNamed B.named
  have hlocks := B.notSynchronized
  subst hsz
  have hD := hD0.self (sz := s.heap.size)
  generalize hAe : va_A [(h0, .inr (9, [.ref tp, .int 0, .int 0, .int (-1), .ref nw, .ref im, .ref sl, .ref rd, .ref wk, .ref fm, .ref mt, .ref ch, .ref dy])), (nw, .inr (3, [.int 0, .ref tn, .int 0, .int 0, .int 0, .int 0])), (tn, .inr (7, [.int 0, .int 0, .int 0, .int 0, .int 0, .int 0, .int 0, .int 0, .ref ta0, .ref ta1, .ref ta2, .ref ta3, .ref ta4, .ref ta5, .ref ta6, .ref ta7, .ref ta8, .ref ta9]))] s.heap.size = A at hD ⊢
  have hA : ∀ q : Nat, s.heap.size ≤ q → A q := fun q h => by rw [← hAe]; exact Or.inr h
  have hS : va_S A s.heap s.heap [] := va_S.rf
  have hP : va_P (dC, dI) vwCl [(h0, .inr (9, [.ref tp, .int 0, .int 0, .int (-1), .ref nw, .ref im, .ref sl, .ref rd, .ref wk, .ref fm, .ref mt, .ref ch, .ref dy])), (nw, .inr (3, [.int 0, .ref tn, .int 0, .int 0, .int 0, .int 0])), (tn, .inr (7, [.int 0, .int 0, .int 0, .int 0, .int 0, .int 0, .int 0, .int 0, .ref ta0, .ref ta1, .ref ta2, .ref ta3, .ref ta4, .ref ta5, .ref ta6, .ref ta7, .ref ta8, .ref ta9]))] s.heap := hP
  have hl := lv_entry ([.ref h0, .int p1, .int p2, .int p3, .int p4]) (n := 10) (Nat.le_of_ble_eq_true rfl)
  rw [lg_entry_eq]
  generalize (lg_sl ([.ref h0, .int p1, .int p2, .int p3, .int p4]) ++ List.replicate (10 - (lg_sl ([.ref h0, .int p1, .int p2, .int p3, .int p4])).length) Slot.unset).toArray = ls at hl ⊢
  have hl : lv_has ls 10 [(0, .ref h0), (1, .int p1), (2, .int p2), (3, .int p3), (4, .int p4)] := hl
  refine lv_aload_n hx hb dX9_list_0 rfl (lv_at hl 0 rfl) ?_
  refine va_get (D := (dC, dI)) (ci := 9) (v := .ref nw) (C := RX9) (T := TX9) (N := 13) hx hb hts zl_X9 hown hK hP 0 rfl rfl 4 (by decide) (hts _ zw_t2_193) (fun _ h9 => h9) rfl dX9_list_1 ?_
  refine va_get (D := (dC, dI)) (ci := 3) (v := .ref tn) (C := RX3) (T := TX3) (N := 6) hx hb hts zl_X3 hown hK hP 1 rfl rfl 1 (by decide) (hts _ zw_t1_156) (fun _ h9 => h9) rfl dX9_list_4 ?_
  refine lv_astore (lv' := [(5, .ref tn), (0, .ref h0), (1, .int p1), (2, .int p2), (3, .int p3), (4, .int p4)]) hx hb dX9_list_7 hl (by decide) rfl (fun ls hl => ?_)
  refine lv_aload hx hb dX9_list_9 (lv_at hl 0 rfl) ?_
  refine lv_iload_n hx hb dX9_list_11 rfl (lv_at hl 2 rfl) ?_
  refine lv_iload_n hx hb dX9_list_12 rfl (lv_at hl 3 rfl) ?_
  refine lv_iload_n hx hb dX9_list_13 rfl (lv_at hl 4 rfl) ?_
  refine lv_iload hx hb dX9_list_14 (lv_at hl 5 rfl) ?_
  have hPc := hP.sub (ws' := [(tn, .inr (7, [.int 0, .int 0, .int 0, .int 0, .int 0, .int 0, .int 0, .int 0, .ref ta0, .ref ta1, .ref ta2, .ref ta3, .ref ta4, .ref ta5, .ref ta6, .ref ta7, .ref ta8, .ref ta9]))]) [2] rfl
  have hDc := hD.sub (ws' := [(tn, .inr (7, [.int 0, .int 0, .int 0, .int 0, .int 0, .int 0, .int 0, .int 0, .ref ta0, .ref ta1, .ref ta2, .ref ta3, .ref ta4, .ref ta5, .ref ta6, .ref ta7, .ref ta8, .ref ta9]))]) [2] (by decide) rfl
  have hKc := hK.sub (tys' := []) [] rfl
  have hFc := va_free (wc := [(tn, .inr (7, [.int 0, .int 0, .int 0, .int 0, .int 0, .int 0, .int 0, .int 0, .ref ta0, .ref ta1, .ref ta2, .ref ta3, .ref ta4, .ref ta5, .ref ta6, .ref ta7, .ref ta8, .ref ta9]))]) hD hS hA [2] rfl
  refine va_calli (va_runV (As := [.int p1, .int p2, .int p3, .int p4]) (rest := []) ⟨hx, hb, hml, hown, hts⟩ (k_X7_hasTripBy l dC dI tn p1 p2 p3 p4 ta0 ta1 ta2 ta3 ta4 ta5 ta6 ta7 ta8 ta9 s.heap.size) (cwV 4 hts (z_gV zw_t4_115 zw_t4_116 zw_t4_117 zw_t1_3 zw_t4_118) rfl rfl rfl (by decide +kernel) ⟨(Nat.le_of_ble_eq_true rfl), (Nat.le_of_ble_eq_true rfl)⟩) (z_preV hPc hKc hDc (ci := 7) (q0 := 0) rfl rfl) rfl rfl hl.1 rfl (lv_room (Nat.le_of_ble_eq_true rfl)) dX9_list_16 ⟨(Nat.le_of_ble_eq_true rfl), (Nat.le_of_ble_eq_true rfl)⟩) hS (fun q _ h => hFc q h) hFc (fun r_1 u t H1 locs ht hvm hw hB hz1 hk1 hS => ?_)
  obtain ⟨hP, hD, hK⟩ := z_after [(h0, .inr (9, [.ref tp, .int 0, .int 0, .int (-1), .ref nw, .ref im, .ref sl, .ref rd, .ref wk, .ref fm, .ref mt, .ref ch, .ref dy])), (nw, .inr (3, [.int 0, .ref tn, .int 0, .int 0, .int 0, .int 0]))] hB ht hvm hP hD hK [2] [0, 1] rfl rfl (by decide) (by decide) hk1 hFc
  generalize H1 = H at hP hS ⊢
  have hP : va_P (dC, dI) vwCl [(h0, .inr (9, [.ref tp, .int 0, .int 0, .int (-1), .ref nw, .ref im, .ref sl, .ref rd, .ref wk, .ref fm, .ref mt, .ref ch, .ref dy])), (nw, .inr (3, [.int 0, .ref tn, .int 0, .int 0, .int 0, .int 0])), (tn, .inr (7, [.int 0, .int 0, .int 0, .int 0, .int 0, .int 0, .int 0, .int 0, .ref ta0, .ref ta1, .ref ta2, .ref ta3, .ref ta4, .ref ta5, .ref ta6, .ref ta7, .ref ta8, .ref ta9]))] H := hP
  have hD : va_D A [(h0, .inr (9, [.ref tp, .int 0, .int 0, .int (-1), .ref nw, .ref im, .ref sl, .ref rd, .ref wk, .ref fm, .ref mt, .ref ch, .ref dy])), (nw, .inr (3, [.int 0, .ref tn, .int 0, .int 0, .int 0, .int 0])), (tn, .inr (7, [.int 0, .int 0, .int 0, .int 0, .int 0, .int 0, .int 0, .int 0, .ref ta0, .ref ta1, .ref ta2, .ref ta3, .ref ta4, .ref ta5, .ref ta6, .ref ta7, .ref ta8, .ref ta9]))] := hD
  have hK : va_K (dC, dI) vwCl [] s := hK
  obtain rfl : r_1 = 0 := hw
  refine lv_if_ne (tgt := 26) hx hb dX9_list_19 (by decide) (fun q => absurd q (by decide)) (fun _ => ?_)
  refine lv_ldc2 (v := (-2)) hx hb hown (hts _ zw_t5_45) dX9_list_22 ?_
  exact W.lret (v := (-2)) hx hb hr (fun t ht hW => ⟨⟨(-2), (), rfl, rfl, trivial⟩, hS.F ht⟩) hS.2.2 dX9_list_25
set_option maxHeartbeats 4000000 in
set_option maxRecDepth 100000 in
theorem k_X9_price (l : Launch) (dC : Nat → ClassId) (dI : Nat → Nat → Nat) (h0 : Nat) (p1 : Int32) (p2 : Int32) (p3 : Int32) (p4 : Int32) (tp : Nat) (nw : Nat) (im : Nat) (sl : Nat) (rd : Nat) (wk : Nat) (fm : Nat) (mt : Nat) (ch : Nat) (dy : Nat) (tn : Nat) (ta0 : Nat) (ta1 : Nat) (ta2 : Nat) (ta3 : Nat) (ta4 : Nat) (ta5 : Nat) (ta6 : Nat) (ta7 : Nat) (ta8 : Nat) (ta9 : Nat)  (sz : Nat) : Met l yX9_price (.code yX9_price cX9_price 7 (some .long) :: zT) ({ frames := 4, cells := 0, slots := 0, locals := 97 }) (va_Pc [.ref h0, .int p1, .int p2, .int p3, .int p4] (zB dC dI [(h0, .inr (9, [.ref tp, .int 0, .int 0, .int (-1), .ref nw, .ref im, .ref sl, .ref rd, .ref wk, .ref fm, .ref mt, .ref ch, .ref dy])), (nw, .inr (3, [.int 0, .ref tn, .int 0, .int 0, .int 0, .int 0])), (tn, .inr (7, [.int 0, .int 0, .int 0, .int 0, .int 0, .int 0, .int 0, .int 0, .ref ta0, .ref ta1, .ref ta2, .ref ta3, .ref ta4, .ref ta5, .ref ta6, .ref ta7, .ref ta8, .ref ta9]))] [] sz)) (va_Ql (fun (r : Int64) (_ : Unit) => r = (-2)) (fun _ _ => True) (va_A [(h0, .inr (9, [.ref tp, .int 0, .int 0, .int (-1), .ref nw, .ref im, .ref sl, .ref rd, .ref wk, .ref fm, .ref mt, .ref ch, .ref dy])), (nw, .inr (3, [.int 0, .ref tn, .int 0, .int 0, .int 0, .int 0])), (tn, .inr (7, [.int 0, .int 0, .int 0, .int 0, .int 0, .int 0, .int 0, .int 0, .ref ta0, .ref ta1, .ref ta2, .ref ta3, .ref ta4, .ref ta5, .ref ta6, .ref ta7, .ref ta8, .ref ta9]))] sz)) 0 0 (va_A [(h0, .inr (9, [.ref tp, .int 0, .int 0, .int (-1), .ref nw, .ref im, .ref sl, .ref rd, .ref wk, .ref fm, .ref mt, .ref ch, .ref dy])), (nw, .inr (3, [.int 0, .ref tn, .int 0, .int 0, .int 0, .int 0])), (tn, .inr (7, [.int 0, .int 0, .int 0, .int 0, .int 0, .int 0, .int 0, .int 0, .ref ta0, .ref ta1, .ref ta2, .ref ta3, .ref ta4, .ref ta5, .ref ta6, .ref ta7, .ref ta8, .ref ta9]))] sz) := by
  refine Met.ofW (cc := cX9_price) (maxL := 7) (ret := (some .long)) (by decide) rfl ?_
  intro p e s m args below meth c s₁ B hml hv
  obtain ⟨rfl, hsz, hP, hK, hD0⟩ := hv
  have hx := B.exec
  have hb := B.bytes
  have hr := B.returns
  have hts := z_hts (atoms_spec (ws := .code yX9_price cX9_price 7 (some .long) :: zT) B.pre)
  have hown : s.vm.findClass RX9 = some m.cls := findClass_of_methodNamed B.named
  have hlocks := B.notSynchronized
  subst hsz
  have hD := hD0.self (sz := s.heap.size)
  generalize hAe : va_A [(h0, .inr (9, [.ref tp, .int 0, .int 0, .int (-1), .ref nw, .ref im, .ref sl, .ref rd, .ref wk, .ref fm, .ref mt, .ref ch, .ref dy])), (nw, .inr (3, [.int 0, .ref tn, .int 0, .int 0, .int 0, .int 0])), (tn, .inr (7, [.int 0, .int 0, .int 0, .int 0, .int 0, .int 0, .int 0, .int 0, .ref ta0, .ref ta1, .ref ta2, .ref ta3, .ref ta4, .ref ta5, .ref ta6, .ref ta7, .ref ta8, .ref ta9]))] s.heap.size = A at hD ⊢
  have hA : ∀ q : Nat, s.heap.size ≤ q → A q := fun q h => by rw [← hAe]; exact Or.inr h
  have hS : va_S A s.heap s.heap [] := va_S.rf
  have hP : va_P (dC, dI) vwCl [(h0, .inr (9, [.ref tp, .int 0, .int 0, .int (-1), .ref nw, .ref im, .ref sl, .ref rd, .ref wk, .ref fm, .ref mt, .ref ch, .ref dy])), (nw, .inr (3, [.int 0, .ref tn, .int 0, .int 0, .int 0, .int 0])), (tn, .inr (7, [.int 0, .int 0, .int 0, .int 0, .int 0, .int 0, .int 0, .int 0, .ref ta0, .ref ta1, .ref ta2, .ref ta3, .ref ta4, .ref ta5, .ref ta6, .ref ta7, .ref ta8, .ref ta9]))] s.heap := hP
  have hl := lv_entry ([.ref h0, .int p1, .int p2, .int p3, .int p4]) (n := 7) (Nat.le_of_ble_eq_true rfl)
  rw [lg_entry_eq]
  generalize (lg_sl ([.ref h0, .int p1, .int p2, .int p3, .int p4]) ++ List.replicate (7 - (lg_sl ([.ref h0, .int p1, .int p2, .int p3, .int p4])).length) Slot.unset).toArray = ls at hl ⊢
  have hl : lv_has ls 7 [(0, .ref h0), (1, .int p1), (2, .int p2), (3, .int p3), (4, .int p4)] := hl
  refine lv_aload_n hx hb dX9_price_0 rfl (lv_at hl 0 rfl) ?_
  refine lv_iload_n hx hb dX9_price_1 rfl (lv_at hl 1 rfl) ?_
  refine lv_iload_n hx hb dX9_price_2 rfl (lv_at hl 2 rfl) ?_
  refine lv_iload_n hx hb dX9_price_3 rfl (lv_at hl 3 rfl) ?_
  refine lv_iload hx hb dX9_price_4 (lv_at hl 4 rfl) ?_
  have hPc := hP.sub (ws' := [(h0, .inr (9, [.ref tp, .int 0, .int 0, .int (-1), .ref nw, .ref im, .ref sl, .ref rd, .ref wk, .ref fm, .ref mt, .ref ch, .ref dy])), (nw, .inr (3, [.int 0, .ref tn, .int 0, .int 0, .int 0, .int 0])), (tn, .inr (7, [.int 0, .int 0, .int 0, .int 0, .int 0, .int 0, .int 0, .int 0, .ref ta0, .ref ta1, .ref ta2, .ref ta3, .ref ta4, .ref ta5, .ref ta6, .ref ta7, .ref ta8, .ref ta9]))]) [0, 1, 2] rfl
  have hDc := hD.sub (ws' := [(h0, .inr (9, [.ref tp, .int 0, .int 0, .int (-1), .ref nw, .ref im, .ref sl, .ref rd, .ref wk, .ref fm, .ref mt, .ref ch, .ref dy])), (nw, .inr (3, [.int 0, .ref tn, .int 0, .int 0, .int 0, .int 0])), (tn, .inr (7, [.int 0, .int 0, .int 0, .int 0, .int 0, .int 0, .int 0, .int 0, .ref ta0, .ref ta1, .ref ta2, .ref ta3, .ref ta4, .ref ta5, .ref ta6, .ref ta7, .ref ta8, .ref ta9]))]) [0, 1, 2] (by decide) rfl
  have hKc := hK.sub (tys' := []) [] rfl
  have hFc := va_free (wc := [(h0, .inr (9, [.ref tp, .int 0, .int 0, .int (-1), .ref nw, .ref im, .ref sl, .ref rd, .ref wk, .ref fm, .ref mt, .ref ch, .ref dy])), (nw, .inr (3, [.int 0, .ref tn, .int 0, .int 0, .int 0, .int 0])), (tn, .inr (7, [.int 0, .int 0, .int 0, .int 0, .int 0, .int 0, .int 0, .int 0, .ref ta0, .ref ta1, .ref ta2, .ref ta3, .ref ta4, .ref ta5, .ref ta6, .ref ta7, .ref ta8, .ref ta9]))]) hD hS hA [0, 1, 2] rfl
  refine va_calll (va_runV (As := [.int p1, .int p2, .int p3, .int p4]) (rest := []) ⟨hx, hb, hml, hown, hts⟩ (k_X9_list l dC dI h0 p1 p2 p3 p4 tp nw im sl rd wk fm mt ch dy tn ta0 ta1 ta2 ta3 ta4 ta5 ta6 ta7 ta8 ta9 s.heap.size) (cwV 4 hts (z_gV zw_t5_206 zw_t5_193 zw_t5_194 zw_t1_1 zw_t5_195) rfl rfl rfl (by decide +kernel) ⟨(Nat.le_of_ble_eq_true rfl), (Nat.le_of_ble_eq_true rfl)⟩) (z_preV hPc hKc hDc (ci := 9) (q0 := 0) rfl rfl) rfl rfl hl.1 rfl (lv_room (Nat.le_of_ble_eq_true rfl)) dX9_price_6 ⟨(Nat.le_of_ble_eq_true rfl), (Nat.le_of_ble_eq_true rfl)⟩) hS (fun q _ h => hFc q h) hFc (fun r_1 u t H1 locs ht hvm hw hB hz1 hk1 hS => ?_)
  have hB : zW dC dI [] [] (va_A [(h0, .inr (9, [.ref tp, .int 0, .int 0, .int (-1), .ref nw, .ref im, .ref sl, .ref rd, .ref wk, .ref fm, .ref mt, .ref ch, .ref dy])), (nw, .inr (3, [.int 0, .ref tn, .int 0, .int 0, .int 0, .int 0])), (tn, .inr (7, [.int 0, .int 0, .int 0, .int 0, .int 0, .int 0, .int 0, .int 0, .ref ta0, .ref ta1, .ref ta2, .ref ta3, .ref ta4, .ref ta5, .ref ta6, .ref ta7, .ref ta8, .ref ta9]))] s.heap.size) t := z_none (va_K.moved hvm hK)
  obtain ⟨hP, hD, hK⟩ := z_after [] hB ht hvm hP hD hK [0, 1, 2] [] rfl rfl (by decide) (by decide) hk1 hFc
  generalize H1 = H at hP hS ⊢
  have hP : va_P (dC, dI) vwCl [] H := hP
  have hD : va_D A [] := hD
  have hK : va_K (dC, dI) vwCl [] s := hK
  obtain rfl : r_1 = (-2) := hw
  refine lv_lstore (lv' := [(5, .long (-2)), (0, .ref h0), (1, .int p1), (2, .int p2), (3, .int p3), (4, .int p4)]) hx hb dX9_price_9 hl (by decide) rfl (fun ls hl => ?_)
  refine lv_lload hx hb dX9_price_11 (lv_at hl 0 rfl) ?_
  refine lv_lconst (v := 0) hx hb dX9_price_13 (by decide) ?_
  refine W.lcmp hx hb dX9_price_14 ?_
  refine lv_topi (fun x_2 ex_2 => ?_)
  obtain rfl : x_2 = (-1) := ex_2.trans (by decide)
  refine lv_if_ge (tgt := 23) hx hb dX9_price_15 (by decide) (fun q => absurd q (by decide)) (fun _ => ?_)
  refine lv_lload hx hb dX9_price_18 (lv_at hl 0 rfl) ?_
  refine lv_goto (tgt := 35) hx hb dX9_price_20 (by decide) ?_
  exact W.lret (v := (-2)) hx hb hr (fun t ht hW => ⟨⟨(-2), (), rfl, rfl, trivial⟩, hS.F ht⟩) hS.2.2 dX9_price_35
set_option maxHeartbeats 4000000 in
set_option maxRecDepth 100000 in
theorem k_X9_begin (l : Launch) (dC : Nat → ClassId) (dI : Nat → Nat → Nat) (h0 : Nat) (p1 : Int32) (p2 : Int32) (p3 : Int32) (p4 : Int32) (tp : Nat) (nw : Nat) (im : Nat) (sl : Nat) (rd : Nat) (wk : Nat) (fm : Nat) (mt : Nat) (ch : Nat) (dy : Nat) (tn : Nat) (ta0 : Nat) (ta1 : Nat) (ta2 : Nat) (ta3 : Nat) (ta4 : Nat) (ta5 : Nat) (ta6 : Nat) (ta7 : Nat) (ta8 : Nat) (ta9 : Nat)  (sz : Nat) : Met l yX9_begin (.code yX9_begin cX9_begin 6 (some .int) :: zT) ({ frames := 2, cells := 0, slots := 0, locals := 44 }) (va_Pc [.ref h0, .int p1, .int p2, .int p3, .int p4] (zB dC dI [(h0, .inr (9, [.ref tp, .int 0, .int 0, .int (-1), .ref nw, .ref im, .ref sl, .ref rd, .ref wk, .ref fm, .ref mt, .ref ch, .ref dy])), (nw, .inr (3, [.int 0, .ref tn, .int 0, .int 0, .int 0, .int 0])), (tn, .inr (7, [.int 0, .int 0, .int 0, .int 0, .int 0, .int 0, .int 0, .int 0, .ref ta0, .ref ta1, .ref ta2, .ref ta3, .ref ta4, .ref ta5, .ref ta6, .ref ta7, .ref ta8, .ref ta9]))] [] sz)) (va_Qi (fun (r : Int32) (_ : Unit) => r = (-2)) (fun _ _ => True) (va_A [(h0, .inr (9, [.ref tp, .int 0, .int 0, .int (-1), .ref nw, .ref im, .ref sl, .ref rd, .ref wk, .ref fm, .ref mt, .ref ch, .ref dy])), (nw, .inr (3, [.int 0, .ref tn, .int 0, .int 0, .int 0, .int 0])), (tn, .inr (7, [.int 0, .int 0, .int 0, .int 0, .int 0, .int 0, .int 0, .int 0, .ref ta0, .ref ta1, .ref ta2, .ref ta3, .ref ta4, .ref ta5, .ref ta6, .ref ta7, .ref ta8, .ref ta9]))] sz)) 0 0 (va_A [(h0, .inr (9, [.ref tp, .int 0, .int 0, .int (-1), .ref nw, .ref im, .ref sl, .ref rd, .ref wk, .ref fm, .ref mt, .ref ch, .ref dy])), (nw, .inr (3, [.int 0, .ref tn, .int 0, .int 0, .int 0, .int 0])), (tn, .inr (7, [.int 0, .int 0, .int 0, .int 0, .int 0, .int 0, .int 0, .int 0, .ref ta0, .ref ta1, .ref ta2, .ref ta3, .ref ta4, .ref ta5, .ref ta6, .ref ta7, .ref ta8, .ref ta9]))] sz) := by
  refine Met.ofW (cc := cX9_begin) (maxL := 6) (ret := (some .int)) (by decide) rfl ?_
  intro p e s m args below meth c s₁ B hml hv
  obtain ⟨rfl, hsz, hP, hK, hD0⟩ := hv
  have hx := B.exec
  have hb := B.bytes
  have hr := B.returns
  have hts := z_hts (atoms_spec (ws := .code yX9_begin cX9_begin 6 (some .int) :: zT) B.pre)
  have hown : s.vm.findClass RX9 = some m.cls := findClass_of_methodNamed B.named
  have hlocks := B.notSynchronized
  subst hsz
  have hD := hD0.self (sz := s.heap.size)
  generalize hAe : va_A [(h0, .inr (9, [.ref tp, .int 0, .int 0, .int (-1), .ref nw, .ref im, .ref sl, .ref rd, .ref wk, .ref fm, .ref mt, .ref ch, .ref dy])), (nw, .inr (3, [.int 0, .ref tn, .int 0, .int 0, .int 0, .int 0])), (tn, .inr (7, [.int 0, .int 0, .int 0, .int 0, .int 0, .int 0, .int 0, .int 0, .ref ta0, .ref ta1, .ref ta2, .ref ta3, .ref ta4, .ref ta5, .ref ta6, .ref ta7, .ref ta8, .ref ta9]))] s.heap.size = A at hD ⊢
  have hA : ∀ q : Nat, s.heap.size ≤ q → A q := fun q h => by rw [← hAe]; exact Or.inr h
  have hS : va_S A s.heap s.heap [] := va_S.rf
  have hP : va_P (dC, dI) vwCl [(h0, .inr (9, [.ref tp, .int 0, .int 0, .int (-1), .ref nw, .ref im, .ref sl, .ref rd, .ref wk, .ref fm, .ref mt, .ref ch, .ref dy])), (nw, .inr (3, [.int 0, .ref tn, .int 0, .int 0, .int 0, .int 0])), (tn, .inr (7, [.int 0, .int 0, .int 0, .int 0, .int 0, .int 0, .int 0, .int 0, .ref ta0, .ref ta1, .ref ta2, .ref ta3, .ref ta4, .ref ta5, .ref ta6, .ref ta7, .ref ta8, .ref ta9]))] s.heap := hP
  have hl := lv_entry ([.ref h0, .int p1, .int p2, .int p3, .int p4]) (n := 6) (Nat.le_of_ble_eq_true rfl)
  rw [lg_entry_eq]
  generalize (lg_sl ([.ref h0, .int p1, .int p2, .int p3, .int p4]) ++ List.replicate (6 - (lg_sl ([.ref h0, .int p1, .int p2, .int p3, .int p4])).length) Slot.unset).toArray = ls at hl ⊢
  have hl : lv_has ls 6 [(0, .ref h0), (1, .int p1), (2, .int p2), (3, .int p3), (4, .int p4)] := hl
  refine lv_aload_n hx hb dX9_begin_0 rfl (lv_at hl 0 rfl) ?_
  refine va_get (D := (dC, dI)) (ci := 9) (v := .ref nw) (C := RX9) (T := TX9) (N := 13) hx hb hts zl_X9 hown hK hP 0 rfl rfl 4 (by decide) (hts _ zw_t2_193) (fun _ h9 => h9) rfl dX9_begin_1 ?_
  refine va_get (D := (dC, dI)) (ci := 3) (v := .ref tn) (C := RX3) (T := TX3) (N := 6) hx hb hts zl_X3 hown hK hP 1 rfl rfl 1 (by decide) (hts _ zw_t1_156) (fun _ h9 => h9) rfl dX9_begin_4 ?_
  refine lv_astore (lv' := [(5, .ref tn), (0, .ref h0), (1, .int p1), (2, .int p2), (3, .int p3), (4, .int p4)]) hx hb dX9_begin_7 hl (by decide) rfl (fun ls hl => ?_)
  refine lv_aload hx hb dX9_begin_9 (lv_at hl 0 rfl) ?_
  refine lv_iload_n hx hb dX9_begin_11 rfl (lv_at hl 2 rfl) ?_
  refine lv_iload_n hx hb dX9_begin_12 rfl (lv_at hl 4 rfl) ?_
  refine lv_iload_n hx hb dX9_begin_13 rfl (lv_at hl 3 rfl) ?_
  have hPc := hP.sub (ws' := [(tn, .inr (7, [.int 0, .int 0, .int 0, .int 0, .int 0, .int 0, .int 0, .int 0, .ref ta0, .ref ta1, .ref ta2, .ref ta3, .ref ta4, .ref ta5, .ref ta6, .ref ta7, .ref ta8, .ref ta9]))]) [2] rfl
  have hDc := hD.sub (ws' := [(tn, .inr (7, [.int 0, .int 0, .int 0, .int 0, .int 0, .int 0, .int 0, .int 0, .ref ta0, .ref ta1, .ref ta2, .ref ta3, .ref ta4, .ref ta5, .ref ta6, .ref ta7, .ref ta8, .ref ta9]))]) [2] (by decide) rfl
  have hKc := hK.sub (tys' := []) [] rfl
  have hFc := va_free (wc := [(tn, .inr (7, [.int 0, .int 0, .int 0, .int 0, .int 0, .int 0, .int 0, .int 0, .ref ta0, .ref ta1, .ref ta2, .ref ta3, .ref ta4, .ref ta5, .ref ta6, .ref ta7, .ref ta8, .ref ta9]))]) hD hS hA [2] rfl
  refine va_calli (va_runV (As := [.int p1, .int p3, .int p2]) (rest := []) ⟨hx, hb, hml, hown, hts⟩ (k_X7_hasTrip l dC dI tn p1 p3 p2 ta0 ta1 ta2 ta3 ta4 ta5 ta6 ta7 ta8 ta9 s.heap.size) (cwV 3 hts (z_gV zw_t4_21 zw_t4_22 zw_t4_23 zw_t1_3 zw_t4_24) rfl rfl rfl (by decide +kernel) ⟨(Nat.le_of_ble_eq_true rfl), (Nat.le_of_ble_eq_true rfl)⟩) (z_preV hPc hKc hDc (ci := 7) (q0 := 0) rfl rfl) rfl rfl hl.1 rfl (lv_room (Nat.le_of_ble_eq_true rfl)) dX9_begin_14 ⟨(Nat.le_of_ble_eq_true rfl), (Nat.le_of_ble_eq_true rfl)⟩) hS (fun q _ h => hFc q h) hFc (fun r_1 u t H1 locs ht hvm hw hB hz1 hk1 hS => ?_)
  obtain ⟨hP, hD, hK⟩ := z_after [(h0, .inr (9, [.ref tp, .int 0, .int 0, .int (-1), .ref nw, .ref im, .ref sl, .ref rd, .ref wk, .ref fm, .ref mt, .ref ch, .ref dy])), (nw, .inr (3, [.int 0, .ref tn, .int 0, .int 0, .int 0, .int 0]))] hB ht hvm hP hD hK [2] [0, 1] rfl rfl (by decide) (by decide) hk1 hFc
  generalize H1 = H at hP hS ⊢
  have hP : va_P (dC, dI) vwCl [(h0, .inr (9, [.ref tp, .int 0, .int 0, .int (-1), .ref nw, .ref im, .ref sl, .ref rd, .ref wk, .ref fm, .ref mt, .ref ch, .ref dy])), (nw, .inr (3, [.int 0, .ref tn, .int 0, .int 0, .int 0, .int 0])), (tn, .inr (7, [.int 0, .int 0, .int 0, .int 0, .int 0, .int 0, .int 0, .int 0, .ref ta0, .ref ta1, .ref ta2, .ref ta3, .ref ta4, .ref ta5, .ref ta6, .ref ta7, .ref ta8, .ref ta9]))] H := hP
  have hD : va_D A [(h0, .inr (9, [.ref tp, .int 0, .int 0, .int (-1), .ref nw, .ref im, .ref sl, .ref rd, .ref wk, .ref fm, .ref mt, .ref ch, .ref dy])), (nw, .inr (3, [.int 0, .ref tn, .int 0, .int 0, .int 0, .int 0])), (tn, .inr (7, [.int 0, .int 0, .int 0, .int 0, .int 0, .int 0, .int 0, .int 0, .ref ta0, .ref ta1, .ref ta2, .ref ta3, .ref ta4, .ref ta5, .ref ta6, .ref ta7, .ref ta8, .ref ta9]))] := hD
  have hK : va_K (dC, dI) vwCl [] s := hK
  obtain rfl : r_1 = 0 := hw
  refine lv_if_eq (tgt := 36) hx hb dX9_begin_17 (by decide) (fun _ => ?_) (fun q => absurd q (by decide))
  refine lv_bipush (v := (-2)) hx hb dX9_begin_36 (by decide) ?_
  exact W.iret (v := (-2)) hx hb hr (fun t ht hW => ⟨⟨(-2), (), rfl, rfl, trivial⟩, hS.F ht⟩) hS.2.2 dX9_begin_38
set_option maxHeartbeats 4000000 in
set_option maxRecDepth 100000 in
theorem k_X9_isSlot (l : Launch) (dC : Nat → ClassId) (dI : Nat → Nat → Nat) (p0 : Int32) (hi_p0 : p0.toInt ≤ -1) (sz : Nat) : Met l yX9_isSlot (.code yX9_isSlot cX9_isSlot 1 (some .boolean) :: zT) ({ frames := 0, cells := 0, slots := 0, locals := 0 }) (va_Pc [.int p0] (zB dC dI [] [] sz)) (va_Qi (fun (r : Int32) (_ : Unit) => r = 0) (fun _ t => zW dC dI [] [] (va_A [] sz) t) (va_A [] sz)) 0 0 (va_A [] sz) := by
  refine Met.ofW (cc := cX9_isSlot) (maxL := 1) (ret := (some .boolean)) (by decide) rfl ?_
  intro p e s m args below meth c s₁ B hml hv
  obtain ⟨rfl, hsz, hP, hK, hD0⟩ := hv
  have hx := B.exec
  have hb := B.bytes
  have hr := B.returns
  have hts := z_hts (atoms_spec (ws := .code yX9_isSlot cX9_isSlot 1 (some .boolean) :: zT) B.pre)
  have hown : s.vm.findClass RX9 = some m.cls := findClass_of_methodNamed B.named
  have hlocks := B.notSynchronized
  subst hsz
  have hD := hD0.self (sz := s.heap.size)
  generalize hAe : va_A [] s.heap.size = A at hD ⊢
  have hA : ∀ q : Nat, s.heap.size ≤ q → A q := fun q h => by rw [← hAe]; exact Or.inr h
  have hS : va_S A s.heap s.heap [] := va_S.rf
  have hP : va_P (dC, dI) vwCl [] s.heap := hP
  have hl := lv_entry ([.int p0]) (n := 1) (Nat.le_of_ble_eq_true rfl)
  rw [lg_entry_eq]
  generalize (lg_sl ([.int p0]) ++ List.replicate (1 - (lg_sl ([.int p0])).length) Slot.unset).toArray = ls at hl ⊢
  have hl : lv_has ls 1 [(0, .int p0)] := hl
  refine lv_iload_n hx hb dX9_isSlot_0 rfl (lv_at hl 0 rfl) ?_
  refine lv_if_lt (tgt := 13) hx hb dX9_isSlot_1 (by decide) (fun c_1 => ?_) (fun q => absurd (z_nlt (k := 0) (by decide) q) (by omega))
  have ic_1 := z_lt (k := 0) (by decide) c_1
  refine lv_iconst (v := 0) hx hb dX9_isSlot_13 (by decide) ?_
  exact W.zret (v := 0) hx hb hr (by decide) (fun t ht hW => ⟨⟨0, (), rfl, rfl, z_ret hP hK hD ht hW [] [] rfl (by decide) rfl⟩, hS.F ht⟩) hS.2.2 dX9_isSlot_14
set_option maxHeartbeats 4000000 in
set_option maxRecDepth 100000 in
theorem k_X9_liveBy (l : Launch) (dC : Nat → ClassId) (dI : Nat → Nat → Nat) (h0 : Nat) (p1 : Int32) (tp : Nat) (nw : Nat) (im : Nat) (sl : Nat) (rd : Nat) (wk : Nat) (fm : Nat) (mt : Nat) (ch : Nat) (dy : Nat) (hi_p1 : p1.toInt ≤ -1) (sz : Nat) : Met l yX9_liveBy (.code yX9_liveBy cX9_liveBy 2 (some .int) :: zT) ({ frames := 1, cells := 0, slots := 0, locals := 20 }) (va_Pc [.ref h0, .int p1] (zB dC dI [(h0, .inr (9, [.ref tp, .int 0, .int 0, .int (-1), .ref nw, .ref im, .ref sl, .ref rd, .ref wk, .ref fm, .ref mt, .ref ch, .ref dy]))] [] sz)) (va_Qi (fun (r : Int32) (_ : Unit) => r = (-2)) (fun _ t => zW dC dI [(h0, .inr (9, [.ref tp, .int 0, .int 0, .int (-1), .ref nw, .ref im, .ref sl, .ref rd, .ref wk, .ref fm, .ref mt, .ref ch, .ref dy]))] [] (va_A [(h0, .inr (9, [.ref tp, .int 0, .int 0, .int (-1), .ref nw, .ref im, .ref sl, .ref rd, .ref wk, .ref fm, .ref mt, .ref ch, .ref dy]))] sz) t) (va_A [(h0, .inr (9, [.ref tp, .int 0, .int 0, .int (-1), .ref nw, .ref im, .ref sl, .ref rd, .ref wk, .ref fm, .ref mt, .ref ch, .ref dy]))] sz)) 0 0 (va_A [(h0, .inr (9, [.ref tp, .int 0, .int 0, .int (-1), .ref nw, .ref im, .ref sl, .ref rd, .ref wk, .ref fm, .ref mt, .ref ch, .ref dy]))] sz) := by
  refine Met.ofW (cc := cX9_liveBy) (maxL := 2) (ret := (some .int)) (by decide) rfl ?_
  intro p e s m args below meth c s₁ B hml hv
  obtain ⟨rfl, hsz, hP, hK, hD0⟩ := hv
  have hx := B.exec
  have hb := B.bytes
  have hr := B.returns
  have hts := z_hts (atoms_spec (ws := .code yX9_liveBy cX9_liveBy 2 (some .int) :: zT) B.pre)
  have hown : s.vm.findClass RX9 = some m.cls := findClass_of_methodNamed B.named
  have hlocks := B.notSynchronized
  subst hsz
  have hD := hD0.self (sz := s.heap.size)
  generalize hAe : va_A [(h0, .inr (9, [.ref tp, .int 0, .int 0, .int (-1), .ref nw, .ref im, .ref sl, .ref rd, .ref wk, .ref fm, .ref mt, .ref ch, .ref dy]))] s.heap.size = A at hD ⊢
  have hA : ∀ q : Nat, s.heap.size ≤ q → A q := fun q h => by rw [← hAe]; exact Or.inr h
  have hS : va_S A s.heap s.heap [] := va_S.rf
  have hP : va_P (dC, dI) vwCl [(h0, .inr (9, [.ref tp, .int 0, .int 0, .int (-1), .ref nw, .ref im, .ref sl, .ref rd, .ref wk, .ref fm, .ref mt, .ref ch, .ref dy]))] s.heap := hP
  have hl := lv_entry ([.ref h0, .int p1]) (n := 2) (Nat.le_of_ble_eq_true rfl)
  rw [lg_entry_eq]
  generalize (lg_sl ([.ref h0, .int p1]) ++ List.replicate (2 - (lg_sl ([.ref h0, .int p1])).length) Slot.unset).toArray = ls at hl ⊢
  have hl : lv_has ls 2 [(0, .ref h0), (1, .int p1)] := hl
  refine lv_iload_n hx hb dX9_liveBy_0 rfl (lv_at hl 1 rfl) ?_
  have hPc := hP.sub (ws' := []) [] rfl
  have hDc := hD.sub (ws' := []) [] (by decide) rfl
  have hKc := hK.sub (tys' := []) [] rfl
  have hFc := va_free (wc := []) hD hS hA [] rfl
  refine va_calli (va_runS (As := [.int p1]) (rest := []) ⟨hx, hb, hml, hown, hts⟩ (k_X9_isSlot l dC dI p1 (by omega) s.heap.size) (va_cwS 1 hts (z_gS zw_t5_219 zw_t5_220 zw_t1_1 zw_t5_221) rfl rfl rfl (by decide +kernel) ⟨(Nat.le_of_ble_eq_true rfl), (Nat.le_of_ble_eq_true rfl)⟩) (z_preS hPc hKc hDc) rfl rfl hl.1 rfl (lv_room (Nat.le_of_ble_eq_true rfl)) dX9_liveBy_1 ⟨(Nat.le_of_ble_eq_true rfl), (Nat.le_of_ble_eq_true rfl)⟩) hS (fun q _ h => hFc q h) hFc (fun r_1 u t H1 locs ht hvm hw hB hz1 hk1 hS => ?_)
  obtain ⟨hP, hD, hK⟩ := z_after [(h0, .inr (9, [.ref tp, .int 0, .int 0, .int (-1), .ref nw, .ref im, .ref sl, .ref rd, .ref wk, .ref fm, .ref mt, .ref ch, .ref dy]))] hB ht hvm hP hD hK [] [0] rfl rfl (by decide) (by decide) hk1 hFc
  generalize H1 = H at hP hS ⊢
  have hP : va_P (dC, dI) vwCl [(h0, .inr (9, [.ref tp, .int 0, .int 0, .int (-1), .ref nw, .ref im, .ref sl, .ref rd, .ref wk, .ref fm, .ref mt, .ref ch, .ref dy]))] H := hP
  have hD : va_D A [(h0, .inr (9, [.ref tp, .int 0, .int 0, .int (-1), .ref nw, .ref im, .ref sl, .ref rd, .ref wk, .ref fm, .ref mt, .ref ch, .ref dy]))] := hD
  have hK : va_K (dC, dI) vwCl [] s := hK
  obtain rfl : r_1 = 0 := hw
  refine lv_if_eq (tgt := 20) hx hb dX9_liveBy_4 (by decide) (fun _ => ?_) (fun q => absurd q (by decide))
  refine lv_bipush (v := (-2)) hx hb dX9_liveBy_20 (by decide) ?_
  exact W.iret (v := (-2)) hx hb hr (fun t ht hW => ⟨⟨(-2), (), rfl, rfl, z_ret hP hK hD ht hW [0] [] rfl (by decide) rfl⟩, hS.F ht⟩) hS.2.2 dX9_liveBy_22
set_option maxHeartbeats 4000000 in
set_option maxRecDepth 100000 in
theorem k_X9_isSlot_v1 (l : Launch) (dC : Nat → ClassId) (dI : Nat → Nat → Nat) (p0 : Int32) (lo_p0 : (0 : Int) ≤ p0.toInt) (hi_p0 : p0.toInt ≤ 3) (sz : Nat) : Met l yX9_isSlot (.code yX9_isSlot cX9_isSlot 1 (some .boolean) :: zT) ({ frames := 0, cells := 0, slots := 0, locals := 0 }) (va_Pc [.int p0] (zB dC dI [] [] sz)) (va_Qi (fun (r : Int32) (_ : Unit) => r = 1) (fun _ t => zW dC dI [] [] (va_A [] sz) t) (va_A [] sz)) 0 0 (va_A [] sz) := by
  refine Met.ofW (cc := cX9_isSlot) (maxL := 1) (ret := (some .boolean)) (by decide) rfl ?_
  intro p e s m args below meth c s₁ B hml hv
  obtain ⟨rfl, hsz, hP, hK, hD0⟩ := hv
  have hx := B.exec
  have hb := B.bytes
  have hr := B.returns
  have hts := z_hts (atoms_spec (ws := .code yX9_isSlot cX9_isSlot 1 (some .boolean) :: zT) B.pre)
  have hown : s.vm.findClass RX9 = some m.cls := findClass_of_methodNamed B.named
  have hlocks := B.notSynchronized
  subst hsz
  have hD := hD0.self (sz := s.heap.size)
  generalize hAe : va_A [] s.heap.size = A at hD ⊢
  have hA : ∀ q : Nat, s.heap.size ≤ q → A q := fun q h => by rw [← hAe]; exact Or.inr h
  have hS : va_S A s.heap s.heap [] := va_S.rf
  have hP : va_P (dC, dI) vwCl [] s.heap := hP
  have hl := lv_entry ([.int p0]) (n := 1) (Nat.le_of_ble_eq_true rfl)
  rw [lg_entry_eq]
  generalize (lg_sl ([.int p0]) ++ List.replicate (1 - (lg_sl ([.int p0])).length) Slot.unset).toArray = ls at hl ⊢
  have hl : lv_has ls 1 [(0, .int p0)] := hl
  refine lv_iload_n hx hb dX9_isSlot_0 rfl (lv_at hl 0 rfl) ?_
  refine lv_if_lt (tgt := 13) hx hb dX9_isSlot_1 (by decide) (fun q => absurd (z_lt (k := 0) (by decide) q) (by omega)) (fun c_1 => ?_)
  have ic_1 := z_nlt (k := 0) (by decide) c_1
  refine lv_iload_n hx hb dX9_isSlot_4 rfl (lv_at hl 0 rfl) ?_
  refine lv_iconst (v := 4) hx hb dX9_isSlot_5 (by decide) ?_
  refine lv_icmp_ge (tgt := 13) hx hb dX9_isSlot_6 (by decide) (fun q => absurd (z_ge (k := 4) (by decide) q) (by omega)) (fun c_2 => ?_)
  have ic_2 := z_nge (k := 4) (by decide) c_2
  refine lv_iconst (v := 1) hx hb dX9_isSlot_9 (by decide) ?_
  refine lv_goto (tgt := 14) hx hb dX9_isSlot_10 (by decide) ?_
  exact W.zret (v := 1) hx hb hr (by decide) (fun t ht hW => ⟨⟨1, (), rfl, rfl, z_ret hP hK hD ht hW [] [] rfl (by decide) rfl⟩, hS.F ht⟩) hS.2.2 dX9_isSlot_14
set_option maxHeartbeats 4000000 in
set_option maxRecDepth 100000 in
theorem k_X9_liveBy_v1 (l : Launch) (dC : Nat → ClassId) (dI : Nat → Nat → Nat) (h0 : Nat) (p1 : Int32) (tp : Nat) (nw : Nat) (im : Nat) (sl : Nat) (rd : Nat) (wk : Nat) (fm : Nat) (mt : Nat) (ch : Nat) (dy : Nat) (tn : Nat) (ta0 : Nat) (ta1 : Nat) (ta2 : Nat) (ta3 : Nat) (ta4 : Nat) (ta5 : Nat) (ta6 : Nat) (ta7 : Nat) (ta8 : Nat) (ta9 : Nat) (lo_p1 : (0 : Int) ≤ p1.toInt) (hi_p1 : p1.toInt ≤ 3) (sz : Nat) : Met l yX9_liveBy (.code yX9_liveBy cX9_liveBy 2 (some .int) :: zT) ({ frames := 1, cells := 0, slots := 0, locals := 20 }) (va_Pc [.ref h0, .int p1] (zB dC dI [(h0, .inr (9, [.ref tp, .int 0, .int 0, .int (-1), .ref nw, .ref im, .ref sl, .ref rd, .ref wk, .ref fm, .ref mt, .ref ch, .ref dy])), (nw, .inr (3, [.int 0, .ref tn, .int 0, .int 0, .int 0, .int 0])), (tn, .inr (7, [.int 0, .int 0, .int 0, .int 0, .int 0, .int 0, .int 0, .int 0, .ref ta0, .ref ta1, .ref ta2, .ref ta3, .ref ta4, .ref ta5, .ref ta6, .ref ta7, .ref ta8, .ref ta9]))] [] sz)) (va_Qi (fun (r : Int32) (_ : Unit) => r = (-2)) (fun _ t => zW dC dI [(h0, .inr (9, [.ref tp, .int 0, .int 0, .int (-1), .ref nw, .ref im, .ref sl, .ref rd, .ref wk, .ref fm, .ref mt, .ref ch, .ref dy])), (nw, .inr (3, [.int 0, .ref tn, .int 0, .int 0, .int 0, .int 0])), (tn, .inr (7, [.int 0, .int 0, .int 0, .int 0, .int 0, .int 0, .int 0, .int 0, .ref ta0, .ref ta1, .ref ta2, .ref ta3, .ref ta4, .ref ta5, .ref ta6, .ref ta7, .ref ta8, .ref ta9]))] [] (va_A [(h0, .inr (9, [.ref tp, .int 0, .int 0, .int (-1), .ref nw, .ref im, .ref sl, .ref rd, .ref wk, .ref fm, .ref mt, .ref ch, .ref dy])), (nw, .inr (3, [.int 0, .ref tn, .int 0, .int 0, .int 0, .int 0])), (tn, .inr (7, [.int 0, .int 0, .int 0, .int 0, .int 0, .int 0, .int 0, .int 0, .ref ta0, .ref ta1, .ref ta2, .ref ta3, .ref ta4, .ref ta5, .ref ta6, .ref ta7, .ref ta8, .ref ta9]))] sz) t) (va_A [(h0, .inr (9, [.ref tp, .int 0, .int 0, .int (-1), .ref nw, .ref im, .ref sl, .ref rd, .ref wk, .ref fm, .ref mt, .ref ch, .ref dy])), (nw, .inr (3, [.int 0, .ref tn, .int 0, .int 0, .int 0, .int 0])), (tn, .inr (7, [.int 0, .int 0, .int 0, .int 0, .int 0, .int 0, .int 0, .int 0, .ref ta0, .ref ta1, .ref ta2, .ref ta3, .ref ta4, .ref ta5, .ref ta6, .ref ta7, .ref ta8, .ref ta9]))] sz)) 0 0 (va_A [(h0, .inr (9, [.ref tp, .int 0, .int 0, .int (-1), .ref nw, .ref im, .ref sl, .ref rd, .ref wk, .ref fm, .ref mt, .ref ch, .ref dy])), (nw, .inr (3, [.int 0, .ref tn, .int 0, .int 0, .int 0, .int 0])), (tn, .inr (7, [.int 0, .int 0, .int 0, .int 0, .int 0, .int 0, .int 0, .int 0, .ref ta0, .ref ta1, .ref ta2, .ref ta3, .ref ta4, .ref ta5, .ref ta6, .ref ta7, .ref ta8, .ref ta9]))] sz) := by
  refine Met.ofW (cc := cX9_liveBy) (maxL := 2) (ret := (some .int)) (by decide) rfl ?_
  intro p e s m args below meth c s₁ B hml hv
  obtain ⟨rfl, hsz, hP, hK, hD0⟩ := hv
  have hx := B.exec
  have hb := B.bytes
  have hr := B.returns
  have hts := z_hts (atoms_spec (ws := .code yX9_liveBy cX9_liveBy 2 (some .int) :: zT) B.pre)
  have hown : s.vm.findClass RX9 = some m.cls := findClass_of_methodNamed B.named
  have hlocks := B.notSynchronized
  subst hsz
  have hD := hD0.self (sz := s.heap.size)
  generalize hAe : va_A [(h0, .inr (9, [.ref tp, .int 0, .int 0, .int (-1), .ref nw, .ref im, .ref sl, .ref rd, .ref wk, .ref fm, .ref mt, .ref ch, .ref dy])), (nw, .inr (3, [.int 0, .ref tn, .int 0, .int 0, .int 0, .int 0])), (tn, .inr (7, [.int 0, .int 0, .int 0, .int 0, .int 0, .int 0, .int 0, .int 0, .ref ta0, .ref ta1, .ref ta2, .ref ta3, .ref ta4, .ref ta5, .ref ta6, .ref ta7, .ref ta8, .ref ta9]))] s.heap.size = A at hD ⊢
  have hA : ∀ q : Nat, s.heap.size ≤ q → A q := fun q h => by rw [← hAe]; exact Or.inr h
  have hS : va_S A s.heap s.heap [] := va_S.rf
  have hP : va_P (dC, dI) vwCl [(h0, .inr (9, [.ref tp, .int 0, .int 0, .int (-1), .ref nw, .ref im, .ref sl, .ref rd, .ref wk, .ref fm, .ref mt, .ref ch, .ref dy])), (nw, .inr (3, [.int 0, .ref tn, .int 0, .int 0, .int 0, .int 0])), (tn, .inr (7, [.int 0, .int 0, .int 0, .int 0, .int 0, .int 0, .int 0, .int 0, .ref ta0, .ref ta1, .ref ta2, .ref ta3, .ref ta4, .ref ta5, .ref ta6, .ref ta7, .ref ta8, .ref ta9]))] s.heap := hP
  have hl := lv_entry ([.ref h0, .int p1]) (n := 2) (Nat.le_of_ble_eq_true rfl)
  rw [lg_entry_eq]
  generalize (lg_sl ([.ref h0, .int p1]) ++ List.replicate (2 - (lg_sl ([.ref h0, .int p1])).length) Slot.unset).toArray = ls at hl ⊢
  have hl : lv_has ls 2 [(0, .ref h0), (1, .int p1)] := hl
  refine lv_iload_n hx hb dX9_liveBy_0 rfl (lv_at hl 1 rfl) ?_
  have hPc := hP.sub (ws' := []) [] rfl
  have hDc := hD.sub (ws' := []) [] (by decide) rfl
  have hKc := hK.sub (tys' := []) [] rfl
  have hFc := va_free (wc := []) hD hS hA [] rfl
  refine va_calli (va_runS (As := [.int p1]) (rest := []) ⟨hx, hb, hml, hown, hts⟩ (k_X9_isSlot_v1 l dC dI p1 (by omega) (by omega) s.heap.size) (va_cwS 1 hts (z_gS zw_t5_219 zw_t5_220 zw_t1_1 zw_t5_221) rfl rfl rfl (by decide +kernel) ⟨(Nat.le_of_ble_eq_true rfl), (Nat.le_of_ble_eq_true rfl)⟩) (z_preS hPc hKc hDc) rfl rfl hl.1 rfl (lv_room (Nat.le_of_ble_eq_true rfl)) dX9_liveBy_1 ⟨(Nat.le_of_ble_eq_true rfl), (Nat.le_of_ble_eq_true rfl)⟩) hS (fun q _ h => hFc q h) hFc (fun r_1 u t H1 locs ht hvm hw hB hz1 hk1 hS => ?_)
  obtain ⟨hP, hD, hK⟩ := z_after [(h0, .inr (9, [.ref tp, .int 0, .int 0, .int (-1), .ref nw, .ref im, .ref sl, .ref rd, .ref wk, .ref fm, .ref mt, .ref ch, .ref dy])), (nw, .inr (3, [.int 0, .ref tn, .int 0, .int 0, .int 0, .int 0])), (tn, .inr (7, [.int 0, .int 0, .int 0, .int 0, .int 0, .int 0, .int 0, .int 0, .ref ta0, .ref ta1, .ref ta2, .ref ta3, .ref ta4, .ref ta5, .ref ta6, .ref ta7, .ref ta8, .ref ta9]))] hB ht hvm hP hD hK [] [0, 1, 2] rfl rfl (by decide) (by decide) hk1 hFc
  generalize H1 = H at hP hS ⊢
  have hP : va_P (dC, dI) vwCl [(h0, .inr (9, [.ref tp, .int 0, .int 0, .int (-1), .ref nw, .ref im, .ref sl, .ref rd, .ref wk, .ref fm, .ref mt, .ref ch, .ref dy])), (nw, .inr (3, [.int 0, .ref tn, .int 0, .int 0, .int 0, .int 0])), (tn, .inr (7, [.int 0, .int 0, .int 0, .int 0, .int 0, .int 0, .int 0, .int 0, .ref ta0, .ref ta1, .ref ta2, .ref ta3, .ref ta4, .ref ta5, .ref ta6, .ref ta7, .ref ta8, .ref ta9]))] H := hP
  have hD : va_D A [(h0, .inr (9, [.ref tp, .int 0, .int 0, .int (-1), .ref nw, .ref im, .ref sl, .ref rd, .ref wk, .ref fm, .ref mt, .ref ch, .ref dy])), (nw, .inr (3, [.int 0, .ref tn, .int 0, .int 0, .int 0, .int 0])), (tn, .inr (7, [.int 0, .int 0, .int 0, .int 0, .int 0, .int 0, .int 0, .int 0, .ref ta0, .ref ta1, .ref ta2, .ref ta3, .ref ta4, .ref ta5, .ref ta6, .ref ta7, .ref ta8, .ref ta9]))] := hD
  have hK : va_K (dC, dI) vwCl [] s := hK
  obtain rfl : r_1 = 1 := hw
  refine lv_if_eq (tgt := 20) hx hb dX9_liveBy_4 (by decide) (fun q => absurd q (by decide)) (fun _ => ?_)
  refine lv_aload_n hx hb dX9_liveBy_7 rfl (lv_at hl 0 rfl) ?_
  refine va_get (D := (dC, dI)) (ci := 9) (v := .ref nw) (C := RX9) (T := TX9) (N := 13) hx hb hts zl_X9 hown hK hP 0 rfl rfl 4 (by decide) (hts _ zw_t2_193) (fun _ h9 => h9) rfl dX9_liveBy_8 ?_
  refine va_get (D := (dC, dI)) (ci := 3) (v := .ref tn) (C := RX3) (T := TX3) (N := 6) hx hb hts zl_X3 hown hK hP 1 rfl rfl 1 (by decide) (hts _ zw_t1_156) (fun _ h9 => h9) rfl dX9_liveBy_11 ?_
  refine va_get (D := (dC, dI)) (ci := 7) (v := .int 0) (C := RX7) (T := TX7) (N := 18) hx hb hts zl_X7 hown hK hP 2 rfl rfl 0 (by decide) (hts _ zw_t1_46) (fun _ h9 => h9) rfl dX9_liveBy_14 ?_
  refine lv_if_ne (tgt := 23) hx hb dX9_liveBy_17 (by decide) (fun q => absurd q (by decide)) (fun _ => ?_)
  refine lv_bipush (v := (-2)) hx hb dX9_liveBy_20 (by decide) ?_
  exact W.iret (v := (-2)) hx hb hr (fun t ht hW => ⟨⟨(-2), (), rfl, rfl, z_ret hP hK hD ht hW [0, 1, 2] [] rfl (by decide) rfl⟩, hS.F ht⟩) hS.2.2 dX9_liveBy_22
set_option maxHeartbeats 4000000 in
set_option maxRecDepth 100000 in
theorem k_X9_isSlot_v2 (l : Launch) (dC : Nat → ClassId) (dI : Nat → Nat → Nat) (p0 : Int32) (lo_p0 : (4 : Int) ≤ p0.toInt) (sz : Nat) : Met l yX9_isSlot (.code yX9_isSlot cX9_isSlot 1 (some .boolean) :: zT) ({ frames := 0, cells := 0, slots := 0, locals := 0 }) (va_Pc [.int p0] (zB dC dI [] [] sz)) (va_Qi (fun (r : Int32) (_ : Unit) => r = 0) (fun _ t => zW dC dI [] [] (va_A [] sz) t) (va_A [] sz)) 0 0 (va_A [] sz) := by
  refine Met.ofW (cc := cX9_isSlot) (maxL := 1) (ret := (some .boolean)) (by decide) rfl ?_
  intro p e s m args below meth c s₁ B hml hv
  obtain ⟨rfl, hsz, hP, hK, hD0⟩ := hv
  have hx := B.exec
  have hb := B.bytes
  have hr := B.returns
  have hts := z_hts (atoms_spec (ws := .code yX9_isSlot cX9_isSlot 1 (some .boolean) :: zT) B.pre)
  have hown : s.vm.findClass RX9 = some m.cls := findClass_of_methodNamed B.named
  have hlocks := B.notSynchronized
  subst hsz
  have hD := hD0.self (sz := s.heap.size)
  generalize hAe : va_A [] s.heap.size = A at hD ⊢
  have hA : ∀ q : Nat, s.heap.size ≤ q → A q := fun q h => by rw [← hAe]; exact Or.inr h
  have hS : va_S A s.heap s.heap [] := va_S.rf
  have hP : va_P (dC, dI) vwCl [] s.heap := hP
  have hl := lv_entry ([.int p0]) (n := 1) (Nat.le_of_ble_eq_true rfl)
  rw [lg_entry_eq]
  generalize (lg_sl ([.int p0]) ++ List.replicate (1 - (lg_sl ([.int p0])).length) Slot.unset).toArray = ls at hl ⊢
  have hl : lv_has ls 1 [(0, .int p0)] := hl
  refine lv_iload_n hx hb dX9_isSlot_0 rfl (lv_at hl 0 rfl) ?_
  refine lv_if_lt (tgt := 13) hx hb dX9_isSlot_1 (by decide) (fun q => absurd (z_lt (k := 0) (by decide) q) (by omega)) (fun c_1 => ?_)
  have ic_1 := z_nlt (k := 0) (by decide) c_1
  refine lv_iload_n hx hb dX9_isSlot_4 rfl (lv_at hl 0 rfl) ?_
  refine lv_iconst (v := 4) hx hb dX9_isSlot_5 (by decide) ?_
  refine lv_icmp_ge (tgt := 13) hx hb dX9_isSlot_6 (by decide) (fun c_2 => ?_) (fun q => absurd (z_nge (k := 4) (by decide) q) (by omega))
  have ic_2 := z_ge (k := 4) (by decide) c_2
  refine lv_iconst (v := 0) hx hb dX9_isSlot_13 (by decide) ?_
  exact W.zret (v := 0) hx hb hr (by decide) (fun t ht hW => ⟨⟨0, (), rfl, rfl, z_ret hP hK hD ht hW [] [] rfl (by decide) rfl⟩, hS.F ht⟩) hS.2.2 dX9_isSlot_14
set_option maxHeartbeats 4000000 in
set_option maxRecDepth 100000 in
theorem k_X9_liveBy_v2 (l : Launch) (dC : Nat → ClassId) (dI : Nat → Nat → Nat) (h0 : Nat) (p1 : Int32) (tp : Nat) (nw : Nat) (im : Nat) (sl : Nat) (rd : Nat) (wk : Nat) (fm : Nat) (mt : Nat) (ch : Nat) (dy : Nat) (lo_p1 : (4 : Int) ≤ p1.toInt) (sz : Nat) : Met l yX9_liveBy (.code yX9_liveBy cX9_liveBy 2 (some .int) :: zT) ({ frames := 1, cells := 0, slots := 0, locals := 20 }) (va_Pc [.ref h0, .int p1] (zB dC dI [(h0, .inr (9, [.ref tp, .int 0, .int 0, .int (-1), .ref nw, .ref im, .ref sl, .ref rd, .ref wk, .ref fm, .ref mt, .ref ch, .ref dy]))] [] sz)) (va_Qi (fun (r : Int32) (_ : Unit) => r = (-2)) (fun _ t => zW dC dI [(h0, .inr (9, [.ref tp, .int 0, .int 0, .int (-1), .ref nw, .ref im, .ref sl, .ref rd, .ref wk, .ref fm, .ref mt, .ref ch, .ref dy]))] [] (va_A [(h0, .inr (9, [.ref tp, .int 0, .int 0, .int (-1), .ref nw, .ref im, .ref sl, .ref rd, .ref wk, .ref fm, .ref mt, .ref ch, .ref dy]))] sz) t) (va_A [(h0, .inr (9, [.ref tp, .int 0, .int 0, .int (-1), .ref nw, .ref im, .ref sl, .ref rd, .ref wk, .ref fm, .ref mt, .ref ch, .ref dy]))] sz)) 0 0 (va_A [(h0, .inr (9, [.ref tp, .int 0, .int 0, .int (-1), .ref nw, .ref im, .ref sl, .ref rd, .ref wk, .ref fm, .ref mt, .ref ch, .ref dy]))] sz) := by
  refine Met.ofW (cc := cX9_liveBy) (maxL := 2) (ret := (some .int)) (by decide) rfl ?_
  intro p e s m args below meth c s₁ B hml hv
  obtain ⟨rfl, hsz, hP, hK, hD0⟩ := hv
  have hx := B.exec
  have hb := B.bytes
  have hr := B.returns
  have hts := z_hts (atoms_spec (ws := .code yX9_liveBy cX9_liveBy 2 (some .int) :: zT) B.pre)
  have hown : s.vm.findClass RX9 = some m.cls := findClass_of_methodNamed B.named
  have hlocks := B.notSynchronized
  subst hsz
  have hD := hD0.self (sz := s.heap.size)
  generalize hAe : va_A [(h0, .inr (9, [.ref tp, .int 0, .int 0, .int (-1), .ref nw, .ref im, .ref sl, .ref rd, .ref wk, .ref fm, .ref mt, .ref ch, .ref dy]))] s.heap.size = A at hD ⊢
  have hA : ∀ q : Nat, s.heap.size ≤ q → A q := fun q h => by rw [← hAe]; exact Or.inr h
  have hS : va_S A s.heap s.heap [] := va_S.rf
  have hP : va_P (dC, dI) vwCl [(h0, .inr (9, [.ref tp, .int 0, .int 0, .int (-1), .ref nw, .ref im, .ref sl, .ref rd, .ref wk, .ref fm, .ref mt, .ref ch, .ref dy]))] s.heap := hP
  have hl := lv_entry ([.ref h0, .int p1]) (n := 2) (Nat.le_of_ble_eq_true rfl)
  rw [lg_entry_eq]
  generalize (lg_sl ([.ref h0, .int p1]) ++ List.replicate (2 - (lg_sl ([.ref h0, .int p1])).length) Slot.unset).toArray = ls at hl ⊢
  have hl : lv_has ls 2 [(0, .ref h0), (1, .int p1)] := hl
  refine lv_iload_n hx hb dX9_liveBy_0 rfl (lv_at hl 1 rfl) ?_
  have hPc := hP.sub (ws' := []) [] rfl
  have hDc := hD.sub (ws' := []) [] (by decide) rfl
  have hKc := hK.sub (tys' := []) [] rfl
  have hFc := va_free (wc := []) hD hS hA [] rfl
  refine va_calli (va_runS (As := [.int p1]) (rest := []) ⟨hx, hb, hml, hown, hts⟩ (k_X9_isSlot_v2 l dC dI p1 (by omega) s.heap.size) (va_cwS 1 hts (z_gS zw_t5_219 zw_t5_220 zw_t1_1 zw_t5_221) rfl rfl rfl (by decide +kernel) ⟨(Nat.le_of_ble_eq_true rfl), (Nat.le_of_ble_eq_true rfl)⟩) (z_preS hPc hKc hDc) rfl rfl hl.1 rfl (lv_room (Nat.le_of_ble_eq_true rfl)) dX9_liveBy_1 ⟨(Nat.le_of_ble_eq_true rfl), (Nat.le_of_ble_eq_true rfl)⟩) hS (fun q _ h => hFc q h) hFc (fun r_1 u t H1 locs ht hvm hw hB hz1 hk1 hS => ?_)
  obtain ⟨hP, hD, hK⟩ := z_after [(h0, .inr (9, [.ref tp, .int 0, .int 0, .int (-1), .ref nw, .ref im, .ref sl, .ref rd, .ref wk, .ref fm, .ref mt, .ref ch, .ref dy]))] hB ht hvm hP hD hK [] [0] rfl rfl (by decide) (by decide) hk1 hFc
  generalize H1 = H at hP hS ⊢
  have hP : va_P (dC, dI) vwCl [(h0, .inr (9, [.ref tp, .int 0, .int 0, .int (-1), .ref nw, .ref im, .ref sl, .ref rd, .ref wk, .ref fm, .ref mt, .ref ch, .ref dy]))] H := hP
  have hD : va_D A [(h0, .inr (9, [.ref tp, .int 0, .int 0, .int (-1), .ref nw, .ref im, .ref sl, .ref rd, .ref wk, .ref fm, .ref mt, .ref ch, .ref dy]))] := hD
  have hK : va_K (dC, dI) vwCl [] s := hK
  obtain rfl : r_1 = 0 := hw
  refine lv_if_eq (tgt := 20) hx hb dX9_liveBy_4 (by decide) (fun _ => ?_) (fun q => absurd q (by decide))
  refine lv_bipush (v := (-2)) hx hb dX9_liveBy_20 (by decide) ?_
  exact W.iret (v := (-2)) hx hb hr (fun t ht hW => ⟨⟨(-2), (), rfl, rfl, z_ret hP hK hD ht hW [0] [] rfl (by decide) rfl⟩, hS.F ht⟩) hS.2.2 dX9_liveBy_22
set_option maxHeartbeats 4000000 in
set_option maxRecDepth 100000 in
theorem k_X9_judge (l : Launch) (dC : Nat → ClassId) (dI : Nat → Nat → Nat) (h0 : Nat) (p1 : Int32) (tp : Nat) (nw : Nat) (im : Nat) (sl : Nat) (rd : Nat) (wk : Nat) (fm : Nat) (mt : Nat) (ch : Nat) (dy : Nat) (tn : Nat) (ta0 : Nat) (ta1 : Nat) (ta2 : Nat) (ta3 : Nat) (ta4 : Nat) (ta5 : Nat) (ta6 : Nat) (ta7 : Nat) (ta8 : Nat) (ta9 : Nat)  (sz : Nat) : Met l yX9_judge (.code yX9_judge cX9_judge 3 (some .int) :: zT) ({ frames := 2, cells := 0, slots := 0, locals := 41 }) (va_Pc [.ref h0, .int p1] (zB dC dI [(h0, .inr (9, [.ref tp, .int 0, .int 0, .int (-1), .ref nw, .ref im, .ref sl, .ref rd, .ref wk, .ref fm, .ref mt, .ref ch, .ref dy])), (nw, .inr (3, [.int 0, .ref tn, .int 0, .int 0, .int 0, .int 0])), (tn, .inr (7, [.int 0, .int 0, .int 0, .int 0, .int 0, .int 0, .int 0, .int 0, .ref ta0, .ref ta1, .ref ta2, .ref ta3, .ref ta4, .ref ta5, .ref ta6, .ref ta7, .ref ta8, .ref ta9]))] [] sz)) (va_Qi (fun (r : Int32) (_ : Unit) => r = (-2)) (fun _ _ => True) (va_A [(h0, .inr (9, [.ref tp, .int 0, .int 0, .int (-1), .ref nw, .ref im, .ref sl, .ref rd, .ref wk, .ref fm, .ref mt, .ref ch, .ref dy])), (nw, .inr (3, [.int 0, .ref tn, .int 0, .int 0, .int 0, .int 0])), (tn, .inr (7, [.int 0, .int 0, .int 0, .int 0, .int 0, .int 0, .int 0, .int 0, .ref ta0, .ref ta1, .ref ta2, .ref ta3, .ref ta4, .ref ta5, .ref ta6, .ref ta7, .ref ta8, .ref ta9]))] sz)) 0 0 (va_A [(h0, .inr (9, [.ref tp, .int 0, .int 0, .int (-1), .ref nw, .ref im, .ref sl, .ref rd, .ref wk, .ref fm, .ref mt, .ref ch, .ref dy])), (nw, .inr (3, [.int 0, .ref tn, .int 0, .int 0, .int 0, .int 0])), (tn, .inr (7, [.int 0, .int 0, .int 0, .int 0, .int 0, .int 0, .int 0, .int 0, .ref ta0, .ref ta1, .ref ta2, .ref ta3, .ref ta4, .ref ta5, .ref ta6, .ref ta7, .ref ta8, .ref ta9]))] sz) := by
  rcases z_sr p1 (0) (3) with h_p1 | h_p1 | h_p1
  · refine Met.ofW (cc := cX9_judge) (maxL := 3) (ret := (some .int)) (by decide) rfl ?_
    intro p e s m args below meth c s₁ B hml hv
    obtain ⟨rfl, hsz, hP, hK, hD0⟩ := hv
    have hx := B.exec
    have hb := B.bytes
    have hr := B.returns
    have hts := z_hts (atoms_spec (ws := .code yX9_judge cX9_judge 3 (some .int) :: zT) B.pre)
    have hown : s.vm.findClass RX9 = some m.cls := findClass_of_methodNamed B.named
    have hlocks := B.notSynchronized
    subst hsz
    have hD := hD0.self (sz := s.heap.size)
    generalize hAe : va_A [(h0, .inr (9, [.ref tp, .int 0, .int 0, .int (-1), .ref nw, .ref im, .ref sl, .ref rd, .ref wk, .ref fm, .ref mt, .ref ch, .ref dy])), (nw, .inr (3, [.int 0, .ref tn, .int 0, .int 0, .int 0, .int 0])), (tn, .inr (7, [.int 0, .int 0, .int 0, .int 0, .int 0, .int 0, .int 0, .int 0, .ref ta0, .ref ta1, .ref ta2, .ref ta3, .ref ta4, .ref ta5, .ref ta6, .ref ta7, .ref ta8, .ref ta9]))] s.heap.size = A at hD ⊢
    have hA : ∀ q : Nat, s.heap.size ≤ q → A q := fun q h => by rw [← hAe]; exact Or.inr h
    have hS : va_S A s.heap s.heap [] := va_S.rf
    have hP : va_P (dC, dI) vwCl [(h0, .inr (9, [.ref tp, .int 0, .int 0, .int (-1), .ref nw, .ref im, .ref sl, .ref rd, .ref wk, .ref fm, .ref mt, .ref ch, .ref dy])), (nw, .inr (3, [.int 0, .ref tn, .int 0, .int 0, .int 0, .int 0])), (tn, .inr (7, [.int 0, .int 0, .int 0, .int 0, .int 0, .int 0, .int 0, .int 0, .ref ta0, .ref ta1, .ref ta2, .ref ta3, .ref ta4, .ref ta5, .ref ta6, .ref ta7, .ref ta8, .ref ta9]))] s.heap := hP
    have hl := lv_entry ([.ref h0, .int p1]) (n := 3) (Nat.le_of_ble_eq_true rfl)
    rw [lg_entry_eq]
    generalize (lg_sl ([.ref h0, .int p1]) ++ List.replicate (3 - (lg_sl ([.ref h0, .int p1])).length) Slot.unset).toArray = ls at hl ⊢
    have hl : lv_has ls 3 [(0, .ref h0), (1, .int p1)] := hl
    refine lv_aload_n hx hb dX9_judge_0 rfl (lv_at hl 0 rfl) ?_
    refine lv_iload_n hx hb dX9_judge_1 rfl (lv_at hl 1 rfl) ?_
    have hPc := hP.sub (ws' := [(h0, .inr (9, [.ref tp, .int 0, .int 0, .int (-1), .ref nw, .ref im, .ref sl, .ref rd, .ref wk, .ref fm, .ref mt, .ref ch, .ref dy]))]) [0] rfl
    have hDc := hD.sub (ws' := [(h0, .inr (9, [.ref tp, .int 0, .int 0, .int (-1), .ref nw, .ref im, .ref sl, .ref rd, .ref wk, .ref fm, .ref mt, .ref ch, .ref dy]))]) [0] (by decide) rfl
    have hKc := hK.sub (tys' := []) [] rfl
    have hFc := va_free (wc := [(h0, .inr (9, [.ref tp, .int 0, .int 0, .int (-1), .ref nw, .ref im, .ref sl, .ref rd, .ref wk, .ref fm, .ref mt, .ref ch, .ref dy]))]) hD hS hA [0] rfl
    refine va_calli (va_runV (As := [.int p1]) (rest := []) ⟨hx, hb, hml, hown, hts⟩ (k_X9_liveBy l dC dI h0 p1 tp nw im sl rd wk fm mt ch dy (by omega) s.heap.size) (cwV 1 hts (z_gV zw_t5_215 zw_t5_217 zw_s4_0 zw_t1_1 zw_t5_218) rfl rfl rfl (by decide +kernel) ⟨(Nat.le_of_ble_eq_true rfl), (Nat.le_of_ble_eq_true rfl)⟩) (z_preV hPc hKc hDc (ci := 9) (q0 := 0) rfl rfl) rfl rfl hl.1 rfl (lv_room (Nat.le_of_ble_eq_true rfl)) dX9_judge_2 ⟨(Nat.le_of_ble_eq_true rfl), (Nat.le_of_ble_eq_true rfl)⟩) hS (fun q _ h => hFc q h) hFc (fun r_1 u t H1 locs ht hvm hw hB hz1 hk1 hS => ?_)
    obtain ⟨hP, hD, hK⟩ := z_after [(nw, .inr (3, [.int 0, .ref tn, .int 0, .int 0, .int 0, .int 0])), (tn, .inr (7, [.int 0, .int 0, .int 0, .int 0, .int 0, .int 0, .int 0, .int 0, .ref ta0, .ref ta1, .ref ta2, .ref ta3, .ref ta4, .ref ta5, .ref ta6, .ref ta7, .ref ta8, .ref ta9]))] hB ht hvm hP hD hK [0] [1, 2] rfl rfl (by decide) (by decide) hk1 hFc
    generalize H1 = H at hP hS ⊢
    have hP : va_P (dC, dI) vwCl [(nw, .inr (3, [.int 0, .ref tn, .int 0, .int 0, .int 0, .int 0])), (tn, .inr (7, [.int 0, .int 0, .int 0, .int 0, .int 0, .int 0, .int 0, .int 0, .ref ta0, .ref ta1, .ref ta2, .ref ta3, .ref ta4, .ref ta5, .ref ta6, .ref ta7, .ref ta8, .ref ta9])), (h0, .inr (9, [.ref tp, .int 0, .int 0, .int (-1), .ref nw, .ref im, .ref sl, .ref rd, .ref wk, .ref fm, .ref mt, .ref ch, .ref dy]))] H := hP
    have hD : va_D A [(nw, .inr (3, [.int 0, .ref tn, .int 0, .int 0, .int 0, .int 0])), (tn, .inr (7, [.int 0, .int 0, .int 0, .int 0, .int 0, .int 0, .int 0, .int 0, .ref ta0, .ref ta1, .ref ta2, .ref ta3, .ref ta4, .ref ta5, .ref ta6, .ref ta7, .ref ta8, .ref ta9])), (h0, .inr (9, [.ref tp, .int 0, .int 0, .int (-1), .ref nw, .ref im, .ref sl, .ref rd, .ref wk, .ref fm, .ref mt, .ref ch, .ref dy]))] := hD
    have hK : va_K (dC, dI) vwCl [] s := hK
    obtain rfl : r_1 = (-2) := hw
    refine lv_istore_n (lv' := [(2, .int (-2)), (0, .ref h0), (1, .int p1)]) hx hb dX9_judge_5 rfl hl (by decide) rfl (fun ls hl => ?_)
    refine lv_iload_n hx hb dX9_judge_6 rfl (lv_at hl 0 rfl) ?_
    refine lv_if_ge (tgt := 14) hx hb dX9_judge_7 (by decide) (fun q => absurd q (by decide)) (fun _ => ?_)
    refine lv_iload_n hx hb dX9_judge_10 rfl (lv_at hl 0 rfl) ?_
    refine lv_goto (tgt := 21) hx hb dX9_judge_11 (by decide) ?_
    exact W.iret (v := (-2)) hx hb hr (fun t ht hW => ⟨⟨(-2), (), rfl, rfl, trivial⟩, hS.F ht⟩) hS.2.2 dX9_judge_21
  · refine Met.ofW (cc := cX9_judge) (maxL := 3) (ret := (some .int)) (by decide) rfl ?_
    intro p e s m args below meth c s₁ B hml hv
    obtain ⟨rfl, hsz, hP, hK, hD0⟩ := hv
    have hx := B.exec
    have hb := B.bytes
    have hr := B.returns
    have hts := z_hts (atoms_spec (ws := .code yX9_judge cX9_judge 3 (some .int) :: zT) B.pre)
    have hown : s.vm.findClass RX9 = some m.cls := findClass_of_methodNamed B.named
    have hlocks := B.notSynchronized
    subst hsz
    have hD := hD0.self (sz := s.heap.size)
    generalize hAe : va_A [(h0, .inr (9, [.ref tp, .int 0, .int 0, .int (-1), .ref nw, .ref im, .ref sl, .ref rd, .ref wk, .ref fm, .ref mt, .ref ch, .ref dy])), (nw, .inr (3, [.int 0, .ref tn, .int 0, .int 0, .int 0, .int 0])), (tn, .inr (7, [.int 0, .int 0, .int 0, .int 0, .int 0, .int 0, .int 0, .int 0, .ref ta0, .ref ta1, .ref ta2, .ref ta3, .ref ta4, .ref ta5, .ref ta6, .ref ta7, .ref ta8, .ref ta9]))] s.heap.size = A at hD ⊢
    have hA : ∀ q : Nat, s.heap.size ≤ q → A q := fun q h => by rw [← hAe]; exact Or.inr h
    have hS : va_S A s.heap s.heap [] := va_S.rf
    have hP : va_P (dC, dI) vwCl [(h0, .inr (9, [.ref tp, .int 0, .int 0, .int (-1), .ref nw, .ref im, .ref sl, .ref rd, .ref wk, .ref fm, .ref mt, .ref ch, .ref dy])), (nw, .inr (3, [.int 0, .ref tn, .int 0, .int 0, .int 0, .int 0])), (tn, .inr (7, [.int 0, .int 0, .int 0, .int 0, .int 0, .int 0, .int 0, .int 0, .ref ta0, .ref ta1, .ref ta2, .ref ta3, .ref ta4, .ref ta5, .ref ta6, .ref ta7, .ref ta8, .ref ta9]))] s.heap := hP
    have hl := lv_entry ([.ref h0, .int p1]) (n := 3) (Nat.le_of_ble_eq_true rfl)
    rw [lg_entry_eq]
    generalize (lg_sl ([.ref h0, .int p1]) ++ List.replicate (3 - (lg_sl ([.ref h0, .int p1])).length) Slot.unset).toArray = ls at hl ⊢
    have hl : lv_has ls 3 [(0, .ref h0), (1, .int p1)] := hl
    refine lv_aload_n hx hb dX9_judge_0 rfl (lv_at hl 0 rfl) ?_
    refine lv_iload_n hx hb dX9_judge_1 rfl (lv_at hl 1 rfl) ?_
    have hPc := hP.sub (ws' := [(h0, .inr (9, [.ref tp, .int 0, .int 0, .int (-1), .ref nw, .ref im, .ref sl, .ref rd, .ref wk, .ref fm, .ref mt, .ref ch, .ref dy])), (nw, .inr (3, [.int 0, .ref tn, .int 0, .int 0, .int 0, .int 0])), (tn, .inr (7, [.int 0, .int 0, .int 0, .int 0, .int 0, .int 0, .int 0, .int 0, .ref ta0, .ref ta1, .ref ta2, .ref ta3, .ref ta4, .ref ta5, .ref ta6, .ref ta7, .ref ta8, .ref ta9]))]) [0, 1, 2] rfl
    have hDc := hD.sub (ws' := [(h0, .inr (9, [.ref tp, .int 0, .int 0, .int (-1), .ref nw, .ref im, .ref sl, .ref rd, .ref wk, .ref fm, .ref mt, .ref ch, .ref dy])), (nw, .inr (3, [.int 0, .ref tn, .int 0, .int 0, .int 0, .int 0])), (tn, .inr (7, [.int 0, .int 0, .int 0, .int 0, .int 0, .int 0, .int 0, .int 0, .ref ta0, .ref ta1, .ref ta2, .ref ta3, .ref ta4, .ref ta5, .ref ta6, .ref ta7, .ref ta8, .ref ta9]))]) [0, 1, 2] (by decide) rfl
    have hKc := hK.sub (tys' := []) [] rfl
    have hFc := va_free (wc := [(h0, .inr (9, [.ref tp, .int 0, .int 0, .int (-1), .ref nw, .ref im, .ref sl, .ref rd, .ref wk, .ref fm, .ref mt, .ref ch, .ref dy])), (nw, .inr (3, [.int 0, .ref tn, .int 0, .int 0, .int 0, .int 0])), (tn, .inr (7, [.int 0, .int 0, .int 0, .int 0, .int 0, .int 0, .int 0, .int 0, .ref ta0, .ref ta1, .ref ta2, .ref ta3, .ref ta4, .ref ta5, .ref ta6, .ref ta7, .ref ta8, .ref ta9]))]) hD hS hA [0, 1, 2] rfl
    refine va_calli (va_runV (As := [.int p1]) (rest := []) ⟨hx, hb, hml, hown, hts⟩ (k_X9_liveBy_v1 l dC dI h0 p1 tp nw im sl rd wk fm mt ch dy tn ta0 ta1 ta2 ta3 ta4 ta5 ta6 ta7 ta8 ta9 (by omega) (by omega) s.heap.size) (cwV 1 hts (z_gV zw_t5_215 zw_t5_217 zw_s4_0 zw_t1_1 zw_t5_218) rfl rfl rfl (by decide +kernel) ⟨(Nat.le_of_ble_eq_true rfl), (Nat.le_of_ble_eq_true rfl)⟩) (z_preV hPc hKc hDc (ci := 9) (q0 := 0) rfl rfl) rfl rfl hl.1 rfl (lv_room (Nat.le_of_ble_eq_true rfl)) dX9_judge_2 ⟨(Nat.le_of_ble_eq_true rfl), (Nat.le_of_ble_eq_true rfl)⟩) hS (fun q _ h => hFc q h) hFc (fun r_2 u t H1 locs ht hvm hw hB hz1 hk1 hS => ?_)
    obtain ⟨hP, hD, hK⟩ := z_after [] hB ht hvm hP hD hK [0, 1, 2] [] rfl rfl (by decide) (by decide) hk1 hFc
    generalize H1 = H at hP hS ⊢
    have hP : va_P (dC, dI) vwCl [(h0, .inr (9, [.ref tp, .int 0, .int 0, .int (-1), .ref nw, .ref im, .ref sl, .ref rd, .ref wk, .ref fm, .ref mt, .ref ch, .ref dy])), (nw, .inr (3, [.int 0, .ref tn, .int 0, .int 0, .int 0, .int 0])), (tn, .inr (7, [.int 0, .int 0, .int 0, .int 0, .int 0, .int 0, .int 0, .int 0, .ref ta0, .ref ta1, .ref ta2, .ref ta3, .ref ta4, .ref ta5, .ref ta6, .ref ta7, .ref ta8, .ref ta9]))] H := hP
    have hD : va_D A [(h0, .inr (9, [.ref tp, .int 0, .int 0, .int (-1), .ref nw, .ref im, .ref sl, .ref rd, .ref wk, .ref fm, .ref mt, .ref ch, .ref dy])), (nw, .inr (3, [.int 0, .ref tn, .int 0, .int 0, .int 0, .int 0])), (tn, .inr (7, [.int 0, .int 0, .int 0, .int 0, .int 0, .int 0, .int 0, .int 0, .ref ta0, .ref ta1, .ref ta2, .ref ta3, .ref ta4, .ref ta5, .ref ta6, .ref ta7, .ref ta8, .ref ta9]))] := hD
    have hK : va_K (dC, dI) vwCl [] s := hK
    obtain rfl : r_2 = (-2) := hw
    refine lv_istore_n (lv' := [(2, .int (-2)), (0, .ref h0), (1, .int p1)]) hx hb dX9_judge_5 rfl hl (by decide) rfl (fun ls hl => ?_)
    refine lv_iload_n hx hb dX9_judge_6 rfl (lv_at hl 0 rfl) ?_
    refine lv_if_ge (tgt := 14) hx hb dX9_judge_7 (by decide) (fun q => absurd q (by decide)) (fun _ => ?_)
    refine lv_iload_n hx hb dX9_judge_10 rfl (lv_at hl 0 rfl) ?_
    refine lv_goto (tgt := 21) hx hb dX9_judge_11 (by decide) ?_
    exact W.iret (v := (-2)) hx hb hr (fun t ht hW => ⟨⟨(-2), (), rfl, rfl, trivial⟩, hS.F ht⟩) hS.2.2 dX9_judge_21
  · refine Met.ofW (cc := cX9_judge) (maxL := 3) (ret := (some .int)) (by decide) rfl ?_
    intro p e s m args below meth c s₁ B hml hv
    obtain ⟨rfl, hsz, hP, hK, hD0⟩ := hv
    have hx := B.exec
    have hb := B.bytes
    have hr := B.returns
    have hts := z_hts (atoms_spec (ws := .code yX9_judge cX9_judge 3 (some .int) :: zT) B.pre)
    have hown : s.vm.findClass RX9 = some m.cls := findClass_of_methodNamed B.named
    have hlocks := B.notSynchronized
    subst hsz
    have hD := hD0.self (sz := s.heap.size)
    generalize hAe : va_A [(h0, .inr (9, [.ref tp, .int 0, .int 0, .int (-1), .ref nw, .ref im, .ref sl, .ref rd, .ref wk, .ref fm, .ref mt, .ref ch, .ref dy])), (nw, .inr (3, [.int 0, .ref tn, .int 0, .int 0, .int 0, .int 0])), (tn, .inr (7, [.int 0, .int 0, .int 0, .int 0, .int 0, .int 0, .int 0, .int 0, .ref ta0, .ref ta1, .ref ta2, .ref ta3, .ref ta4, .ref ta5, .ref ta6, .ref ta7, .ref ta8, .ref ta9]))] s.heap.size = A at hD ⊢
    have hA : ∀ q : Nat, s.heap.size ≤ q → A q := fun q h => by rw [← hAe]; exact Or.inr h
    have hS : va_S A s.heap s.heap [] := va_S.rf
    have hP : va_P (dC, dI) vwCl [(h0, .inr (9, [.ref tp, .int 0, .int 0, .int (-1), .ref nw, .ref im, .ref sl, .ref rd, .ref wk, .ref fm, .ref mt, .ref ch, .ref dy])), (nw, .inr (3, [.int 0, .ref tn, .int 0, .int 0, .int 0, .int 0])), (tn, .inr (7, [.int 0, .int 0, .int 0, .int 0, .int 0, .int 0, .int 0, .int 0, .ref ta0, .ref ta1, .ref ta2, .ref ta3, .ref ta4, .ref ta5, .ref ta6, .ref ta7, .ref ta8, .ref ta9]))] s.heap := hP
    have hl := lv_entry ([.ref h0, .int p1]) (n := 3) (Nat.le_of_ble_eq_true rfl)
    rw [lg_entry_eq]
    generalize (lg_sl ([.ref h0, .int p1]) ++ List.replicate (3 - (lg_sl ([.ref h0, .int p1])).length) Slot.unset).toArray = ls at hl ⊢
    have hl : lv_has ls 3 [(0, .ref h0), (1, .int p1)] := hl
    refine lv_aload_n hx hb dX9_judge_0 rfl (lv_at hl 0 rfl) ?_
    refine lv_iload_n hx hb dX9_judge_1 rfl (lv_at hl 1 rfl) ?_
    have hPc := hP.sub (ws' := [(h0, .inr (9, [.ref tp, .int 0, .int 0, .int (-1), .ref nw, .ref im, .ref sl, .ref rd, .ref wk, .ref fm, .ref mt, .ref ch, .ref dy]))]) [0] rfl
    have hDc := hD.sub (ws' := [(h0, .inr (9, [.ref tp, .int 0, .int 0, .int (-1), .ref nw, .ref im, .ref sl, .ref rd, .ref wk, .ref fm, .ref mt, .ref ch, .ref dy]))]) [0] (by decide) rfl
    have hKc := hK.sub (tys' := []) [] rfl
    have hFc := va_free (wc := [(h0, .inr (9, [.ref tp, .int 0, .int 0, .int (-1), .ref nw, .ref im, .ref sl, .ref rd, .ref wk, .ref fm, .ref mt, .ref ch, .ref dy]))]) hD hS hA [0] rfl
    refine va_calli (va_runV (As := [.int p1]) (rest := []) ⟨hx, hb, hml, hown, hts⟩ (k_X9_liveBy_v2 l dC dI h0 p1 tp nw im sl rd wk fm mt ch dy (by omega) s.heap.size) (cwV 1 hts (z_gV zw_t5_215 zw_t5_217 zw_s4_0 zw_t1_1 zw_t5_218) rfl rfl rfl (by decide +kernel) ⟨(Nat.le_of_ble_eq_true rfl), (Nat.le_of_ble_eq_true rfl)⟩) (z_preV hPc hKc hDc (ci := 9) (q0 := 0) rfl rfl) rfl rfl hl.1 rfl (lv_room (Nat.le_of_ble_eq_true rfl)) dX9_judge_2 ⟨(Nat.le_of_ble_eq_true rfl), (Nat.le_of_ble_eq_true rfl)⟩) hS (fun q _ h => hFc q h) hFc (fun r_3 u t H1 locs ht hvm hw hB hz1 hk1 hS => ?_)
    obtain ⟨hP, hD, hK⟩ := z_after [(nw, .inr (3, [.int 0, .ref tn, .int 0, .int 0, .int 0, .int 0])), (tn, .inr (7, [.int 0, .int 0, .int 0, .int 0, .int 0, .int 0, .int 0, .int 0, .ref ta0, .ref ta1, .ref ta2, .ref ta3, .ref ta4, .ref ta5, .ref ta6, .ref ta7, .ref ta8, .ref ta9]))] hB ht hvm hP hD hK [0] [1, 2] rfl rfl (by decide) (by decide) hk1 hFc
    generalize H1 = H at hP hS ⊢
    have hP : va_P (dC, dI) vwCl [(nw, .inr (3, [.int 0, .ref tn, .int 0, .int 0, .int 0, .int 0])), (tn, .inr (7, [.int 0, .int 0, .int 0, .int 0, .int 0, .int 0, .int 0, .int 0, .ref ta0, .ref ta1, .ref ta2, .ref ta3, .ref ta4, .ref ta5, .ref ta6, .ref ta7, .ref ta8, .ref ta9])), (h0, .inr (9, [.ref tp, .int 0, .int 0, .int (-1), .ref nw, .ref im, .ref sl, .ref rd, .ref wk, .ref fm, .ref mt, .ref ch, .ref dy]))] H := hP
    have hD : va_D A [(nw, .inr (3, [.int 0, .ref tn, .int 0, .int 0, .int 0, .int 0])), (tn, .inr (7, [.int 0, .int 0, .int 0, .int 0, .int 0, .int 0, .int 0, .int 0, .ref ta0, .ref ta1, .ref ta2, .ref ta3, .ref ta4, .ref ta5, .ref ta6, .ref ta7, .ref ta8, .ref ta9])), (h0, .inr (9, [.ref tp, .int 0, .int 0, .int (-1), .ref nw, .ref im, .ref sl, .ref rd, .ref wk, .ref fm, .ref mt, .ref ch, .ref dy]))] := hD
    have hK : va_K (dC, dI) vwCl [] s := hK
    obtain rfl : r_3 = (-2) := hw
    refine lv_istore_n (lv' := [(2, .int (-2)), (0, .ref h0), (1, .int p1)]) hx hb dX9_judge_5 rfl hl (by decide) rfl (fun ls hl => ?_)
    refine lv_iload_n hx hb dX9_judge_6 rfl (lv_at hl 0 rfl) ?_
    refine lv_if_ge (tgt := 14) hx hb dX9_judge_7 (by decide) (fun q => absurd q (by decide)) (fun _ => ?_)
    refine lv_iload_n hx hb dX9_judge_10 rfl (lv_at hl 0 rfl) ?_
    refine lv_goto (tgt := 21) hx hb dX9_judge_11 (by decide) ?_
    exact W.iret (v := (-2)) hx hb hr (fun t ht hW => ⟨⟨(-2), (), rfl, rfl, trivial⟩, hS.F ht⟩) hS.2.2 dX9_judge_21
set_option maxHeartbeats 4000000 in
set_option maxRecDepth 100000 in
theorem k_X9_ends (l : Launch) (dC : Nat → ClassId) (dI : Nat → Nat → Nat) (h0 : Nat) (p1 : Int32) (p2 : Int32) (tp : Nat) (nw : Nat) (im : Nat) (sl : Nat) (rd : Nat) (wk : Nat) (fm : Nat) (mt : Nat) (ch : Nat) (dy : Nat) (tn : Nat) (ta0 : Nat) (ta1 : Nat) (ta2 : Nat) (ta3 : Nat) (ta4 : Nat) (ta5 : Nat) (ta6 : Nat) (ta7 : Nat) (ta8 : Nat) (ta9 : Nat)  (sz : Nat) : Met l yX9_ends (.code yX9_ends cX9_ends 4 (some .int) :: zT) ({ frames := 2, cells := 0, slots := 0, locals := 41 }) (va_Pc [.ref h0, .int p1, .int p2] (zB dC dI [(h0, .inr (9, [.ref tp, .int 0, .int 0, .int (-1), .ref nw, .ref im, .ref sl, .ref rd, .ref wk, .ref fm, .ref mt, .ref ch, .ref dy])), (nw, .inr (3, [.int 0, .ref tn, .int 0, .int 0, .int 0, .int 0])), (tn, .inr (7, [.int 0, .int 0, .int 0, .int 0, .int 0, .int 0, .int 0, .int 0, .ref ta0, .ref ta1, .ref ta2, .ref ta3, .ref ta4, .ref ta5, .ref ta6, .ref ta7, .ref ta8, .ref ta9]))] [] sz)) (va_Qi (fun (r : Int32) (_ : Unit) => r = (-2)) (fun _ _ => True) (va_A [(h0, .inr (9, [.ref tp, .int 0, .int 0, .int (-1), .ref nw, .ref im, .ref sl, .ref rd, .ref wk, .ref fm, .ref mt, .ref ch, .ref dy])), (nw, .inr (3, [.int 0, .ref tn, .int 0, .int 0, .int 0, .int 0])), (tn, .inr (7, [.int 0, .int 0, .int 0, .int 0, .int 0, .int 0, .int 0, .int 0, .ref ta0, .ref ta1, .ref ta2, .ref ta3, .ref ta4, .ref ta5, .ref ta6, .ref ta7, .ref ta8, .ref ta9]))] sz)) 0 0 (va_A [(h0, .inr (9, [.ref tp, .int 0, .int 0, .int (-1), .ref nw, .ref im, .ref sl, .ref rd, .ref wk, .ref fm, .ref mt, .ref ch, .ref dy])), (nw, .inr (3, [.int 0, .ref tn, .int 0, .int 0, .int 0, .int 0])), (tn, .inr (7, [.int 0, .int 0, .int 0, .int 0, .int 0, .int 0, .int 0, .int 0, .ref ta0, .ref ta1, .ref ta2, .ref ta3, .ref ta4, .ref ta5, .ref ta6, .ref ta7, .ref ta8, .ref ta9]))] sz) := by
  rcases z_sr p1 (0) (3) with h_p1 | h_p1 | h_p1
  · refine Met.ofW (cc := cX9_ends) (maxL := 4) (ret := (some .int)) (by decide) rfl ?_
    intro p e s m args below meth c s₁ B hml hv
    obtain ⟨rfl, hsz, hP, hK, hD0⟩ := hv
    have hx := B.exec
    have hb := B.bytes
    have hr := B.returns
    have hts := z_hts (atoms_spec (ws := .code yX9_ends cX9_ends 4 (some .int) :: zT) B.pre)
    have hown : s.vm.findClass RX9 = some m.cls := findClass_of_methodNamed B.named
    have hlocks := B.notSynchronized
    subst hsz
    have hD := hD0.self (sz := s.heap.size)
    generalize hAe : va_A [(h0, .inr (9, [.ref tp, .int 0, .int 0, .int (-1), .ref nw, .ref im, .ref sl, .ref rd, .ref wk, .ref fm, .ref mt, .ref ch, .ref dy])), (nw, .inr (3, [.int 0, .ref tn, .int 0, .int 0, .int 0, .int 0])), (tn, .inr (7, [.int 0, .int 0, .int 0, .int 0, .int 0, .int 0, .int 0, .int 0, .ref ta0, .ref ta1, .ref ta2, .ref ta3, .ref ta4, .ref ta5, .ref ta6, .ref ta7, .ref ta8, .ref ta9]))] s.heap.size = A at hD ⊢
    have hA : ∀ q : Nat, s.heap.size ≤ q → A q := fun q h => by rw [← hAe]; exact Or.inr h
    have hS : va_S A s.heap s.heap [] := va_S.rf
    have hP : va_P (dC, dI) vwCl [(h0, .inr (9, [.ref tp, .int 0, .int 0, .int (-1), .ref nw, .ref im, .ref sl, .ref rd, .ref wk, .ref fm, .ref mt, .ref ch, .ref dy])), (nw, .inr (3, [.int 0, .ref tn, .int 0, .int 0, .int 0, .int 0])), (tn, .inr (7, [.int 0, .int 0, .int 0, .int 0, .int 0, .int 0, .int 0, .int 0, .ref ta0, .ref ta1, .ref ta2, .ref ta3, .ref ta4, .ref ta5, .ref ta6, .ref ta7, .ref ta8, .ref ta9]))] s.heap := hP
    have hl := lv_entry ([.ref h0, .int p1, .int p2]) (n := 4) (Nat.le_of_ble_eq_true rfl)
    rw [lg_entry_eq]
    generalize (lg_sl ([.ref h0, .int p1, .int p2]) ++ List.replicate (4 - (lg_sl ([.ref h0, .int p1, .int p2])).length) Slot.unset).toArray = ls at hl ⊢
    have hl : lv_has ls 4 [(0, .ref h0), (1, .int p1), (2, .int p2)] := hl
    refine lv_iload_n hx hb dX9_ends_0 rfl (lv_at hl 2 rfl) ?_
    refine lv_if_lt (tgt := 9) hx hb dX9_ends_1 (by decide) (fun c_1 => ?_) (fun c_1 => ?_)
    · have ic_1 := z_lt (k := 0) (by decide) c_1
      refine lv_bipush (v := (-2)) hx hb dX9_ends_9 (by decide) ?_
      exact W.iret (v := (-2)) hx hb hr (fun t ht hW => ⟨⟨(-2), (), rfl, rfl, trivial⟩, hS.F ht⟩) hS.2.2 dX9_ends_11
    · have ic_1 := z_nlt (k := 0) (by decide) c_1
      refine lv_iload_n hx hb dX9_ends_4 rfl (lv_at hl 2 rfl) ?_
      refine lv_iconst (v := 2) hx hb dX9_ends_5 (by decide) ?_
      refine lv_icmp_le (tgt := 12) hx hb dX9_ends_6 (by decide) (fun c_2 => ?_) (fun c_2 => ?_)
      · have ic_2 := z_le (k := 2) (by decide) c_2
        refine lv_aload_n hx hb dX9_ends_12 rfl (lv_at hl 0 rfl) ?_
        refine lv_iload_n hx hb dX9_ends_13 rfl (lv_at hl 1 rfl) ?_
        have hPc := hP.sub (ws' := [(h0, .inr (9, [.ref tp, .int 0, .int 0, .int (-1), .ref nw, .ref im, .ref sl, .ref rd, .ref wk, .ref fm, .ref mt, .ref ch, .ref dy]))]) [0] rfl
        have hDc := hD.sub (ws' := [(h0, .inr (9, [.ref tp, .int 0, .int 0, .int (-1), .ref nw, .ref im, .ref sl, .ref rd, .ref wk, .ref fm, .ref mt, .ref ch, .ref dy]))]) [0] (by decide) rfl
        have hKc := hK.sub (tys' := []) [] rfl
        have hFc := va_free (wc := [(h0, .inr (9, [.ref tp, .int 0, .int 0, .int (-1), .ref nw, .ref im, .ref sl, .ref rd, .ref wk, .ref fm, .ref mt, .ref ch, .ref dy]))]) hD hS hA [0] rfl
        refine va_calli (va_runV (As := [.int p1]) (rest := []) ⟨hx, hb, hml, hown, hts⟩ (k_X9_liveBy l dC dI h0 p1 tp nw im sl rd wk fm mt ch dy (by omega) s.heap.size) (cwV 1 hts (z_gV zw_t5_215 zw_t5_217 zw_s4_0 zw_t1_1 zw_t5_218) rfl rfl rfl (by decide +kernel) ⟨(Nat.le_of_ble_eq_true rfl), (Nat.le_of_ble_eq_true rfl)⟩) (z_preV hPc hKc hDc (ci := 9) (q0 := 0) rfl rfl) rfl rfl hl.1 rfl (lv_room (Nat.le_of_ble_eq_true rfl)) dX9_ends_14 ⟨(Nat.le_of_ble_eq_true rfl), (Nat.le_of_ble_eq_true rfl)⟩) hS (fun q _ h => hFc q h) hFc (fun r_3 u t H1 locs ht hvm hw hB hz1 hk1 hS => ?_)
        obtain ⟨hP, hD, hK⟩ := z_after [(nw, .inr (3, [.int 0, .ref tn, .int 0, .int 0, .int 0, .int 0])), (tn, .inr (7, [.int 0, .int 0, .int 0, .int 0, .int 0, .int 0, .int 0, .int 0, .ref ta0, .ref ta1, .ref ta2, .ref ta3, .ref ta4, .ref ta5, .ref ta6, .ref ta7, .ref ta8, .ref ta9]))] hB ht hvm hP hD hK [0] [1, 2] rfl rfl (by decide) (by decide) hk1 hFc
        generalize H1 = H at hP hS ⊢
        have hP : va_P (dC, dI) vwCl [(nw, .inr (3, [.int 0, .ref tn, .int 0, .int 0, .int 0, .int 0])), (tn, .inr (7, [.int 0, .int 0, .int 0, .int 0, .int 0, .int 0, .int 0, .int 0, .ref ta0, .ref ta1, .ref ta2, .ref ta3, .ref ta4, .ref ta5, .ref ta6, .ref ta7, .ref ta8, .ref ta9])), (h0, .inr (9, [.ref tp, .int 0, .int 0, .int (-1), .ref nw, .ref im, .ref sl, .ref rd, .ref wk, .ref fm, .ref mt, .ref ch, .ref dy]))] H := hP
        have hD : va_D A [(nw, .inr (3, [.int 0, .ref tn, .int 0, .int 0, .int 0, .int 0])), (tn, .inr (7, [.int 0, .int 0, .int 0, .int 0, .int 0, .int 0, .int 0, .int 0, .ref ta0, .ref ta1, .ref ta2, .ref ta3, .ref ta4, .ref ta5, .ref ta6, .ref ta7, .ref ta8, .ref ta9])), (h0, .inr (9, [.ref tp, .int 0, .int 0, .int (-1), .ref nw, .ref im, .ref sl, .ref rd, .ref wk, .ref fm, .ref mt, .ref ch, .ref dy]))] := hD
        have hK : va_K (dC, dI) vwCl [] s := hK
        obtain rfl : r_3 = (-2) := hw
        refine lv_istore_n (lv' := [(3, .int (-2)), (0, .ref h0), (1, .int p1), (2, .int p2)]) hx hb dX9_ends_17 rfl hl (by decide) rfl (fun ls hl => ?_)
        refine lv_iload_n hx hb dX9_ends_18 rfl (lv_at hl 0 rfl) ?_
        refine lv_if_ge (tgt := 24) hx hb dX9_ends_19 (by decide) (fun q => absurd q (by decide)) (fun _ => ?_)
        refine lv_iload_n hx hb dX9_ends_22 rfl (lv_at hl 0 rfl) ?_
        exact W.iret (v := (-2)) hx hb hr (fun t ht hW => ⟨⟨(-2), (), rfl, rfl, trivial⟩, hS.F ht⟩) hS.2.2 dX9_ends_23
      · have ic_2 := z_nle (k := 2) (by decide) c_2
        refine lv_bipush (v := (-2)) hx hb dX9_ends_9 (by decide) ?_
        exact W.iret (v := (-2)) hx hb hr (fun t ht hW => ⟨⟨(-2), (), rfl, rfl, trivial⟩, hS.F ht⟩) hS.2.2 dX9_ends_11
  · refine Met.ofW (cc := cX9_ends) (maxL := 4) (ret := (some .int)) (by decide) rfl ?_
    intro p e s m args below meth c s₁ B hml hv
    obtain ⟨rfl, hsz, hP, hK, hD0⟩ := hv
    have hx := B.exec
    have hb := B.bytes
    have hr := B.returns
    have hts := z_hts (atoms_spec (ws := .code yX9_ends cX9_ends 4 (some .int) :: zT) B.pre)
    have hown : s.vm.findClass RX9 = some m.cls := findClass_of_methodNamed B.named
    have hlocks := B.notSynchronized
    subst hsz
    have hD := hD0.self (sz := s.heap.size)
    generalize hAe : va_A [(h0, .inr (9, [.ref tp, .int 0, .int 0, .int (-1), .ref nw, .ref im, .ref sl, .ref rd, .ref wk, .ref fm, .ref mt, .ref ch, .ref dy])), (nw, .inr (3, [.int 0, .ref tn, .int 0, .int 0, .int 0, .int 0])), (tn, .inr (7, [.int 0, .int 0, .int 0, .int 0, .int 0, .int 0, .int 0, .int 0, .ref ta0, .ref ta1, .ref ta2, .ref ta3, .ref ta4, .ref ta5, .ref ta6, .ref ta7, .ref ta8, .ref ta9]))] s.heap.size = A at hD ⊢
    have hA : ∀ q : Nat, s.heap.size ≤ q → A q := fun q h => by rw [← hAe]; exact Or.inr h
    have hS : va_S A s.heap s.heap [] := va_S.rf
    have hP : va_P (dC, dI) vwCl [(h0, .inr (9, [.ref tp, .int 0, .int 0, .int (-1), .ref nw, .ref im, .ref sl, .ref rd, .ref wk, .ref fm, .ref mt, .ref ch, .ref dy])), (nw, .inr (3, [.int 0, .ref tn, .int 0, .int 0, .int 0, .int 0])), (tn, .inr (7, [.int 0, .int 0, .int 0, .int 0, .int 0, .int 0, .int 0, .int 0, .ref ta0, .ref ta1, .ref ta2, .ref ta3, .ref ta4, .ref ta5, .ref ta6, .ref ta7, .ref ta8, .ref ta9]))] s.heap := hP
    have hl := lv_entry ([.ref h0, .int p1, .int p2]) (n := 4) (Nat.le_of_ble_eq_true rfl)
    rw [lg_entry_eq]
    generalize (lg_sl ([.ref h0, .int p1, .int p2]) ++ List.replicate (4 - (lg_sl ([.ref h0, .int p1, .int p2])).length) Slot.unset).toArray = ls at hl ⊢
    have hl : lv_has ls 4 [(0, .ref h0), (1, .int p1), (2, .int p2)] := hl
    refine lv_iload_n hx hb dX9_ends_0 rfl (lv_at hl 2 rfl) ?_
    refine lv_if_lt (tgt := 9) hx hb dX9_ends_1 (by decide) (fun c_4 => ?_) (fun c_4 => ?_)
    · have ic_4 := z_lt (k := 0) (by decide) c_4
      refine lv_bipush (v := (-2)) hx hb dX9_ends_9 (by decide) ?_
      exact W.iret (v := (-2)) hx hb hr (fun t ht hW => ⟨⟨(-2), (), rfl, rfl, trivial⟩, hS.F ht⟩) hS.2.2 dX9_ends_11
    · have ic_4 := z_nlt (k := 0) (by decide) c_4
      refine lv_iload_n hx hb dX9_ends_4 rfl (lv_at hl 2 rfl) ?_
      refine lv_iconst (v := 2) hx hb dX9_ends_5 (by decide) ?_
      refine lv_icmp_le (tgt := 12) hx hb dX9_ends_6 (by decide) (fun c_5 => ?_) (fun c_5 => ?_)
      · have ic_5 := z_le (k := 2) (by decide) c_5
        refine lv_aload_n hx hb dX9_ends_12 rfl (lv_at hl 0 rfl) ?_
        refine lv_iload_n hx hb dX9_ends_13 rfl (lv_at hl 1 rfl) ?_
        have hPc := hP.sub (ws' := [(h0, .inr (9, [.ref tp, .int 0, .int 0, .int (-1), .ref nw, .ref im, .ref sl, .ref rd, .ref wk, .ref fm, .ref mt, .ref ch, .ref dy])), (nw, .inr (3, [.int 0, .ref tn, .int 0, .int 0, .int 0, .int 0])), (tn, .inr (7, [.int 0, .int 0, .int 0, .int 0, .int 0, .int 0, .int 0, .int 0, .ref ta0, .ref ta1, .ref ta2, .ref ta3, .ref ta4, .ref ta5, .ref ta6, .ref ta7, .ref ta8, .ref ta9]))]) [0, 1, 2] rfl
        have hDc := hD.sub (ws' := [(h0, .inr (9, [.ref tp, .int 0, .int 0, .int (-1), .ref nw, .ref im, .ref sl, .ref rd, .ref wk, .ref fm, .ref mt, .ref ch, .ref dy])), (nw, .inr (3, [.int 0, .ref tn, .int 0, .int 0, .int 0, .int 0])), (tn, .inr (7, [.int 0, .int 0, .int 0, .int 0, .int 0, .int 0, .int 0, .int 0, .ref ta0, .ref ta1, .ref ta2, .ref ta3, .ref ta4, .ref ta5, .ref ta6, .ref ta7, .ref ta8, .ref ta9]))]) [0, 1, 2] (by decide) rfl
        have hKc := hK.sub (tys' := []) [] rfl
        have hFc := va_free (wc := [(h0, .inr (9, [.ref tp, .int 0, .int 0, .int (-1), .ref nw, .ref im, .ref sl, .ref rd, .ref wk, .ref fm, .ref mt, .ref ch, .ref dy])), (nw, .inr (3, [.int 0, .ref tn, .int 0, .int 0, .int 0, .int 0])), (tn, .inr (7, [.int 0, .int 0, .int 0, .int 0, .int 0, .int 0, .int 0, .int 0, .ref ta0, .ref ta1, .ref ta2, .ref ta3, .ref ta4, .ref ta5, .ref ta6, .ref ta7, .ref ta8, .ref ta9]))]) hD hS hA [0, 1, 2] rfl
        refine va_calli (va_runV (As := [.int p1]) (rest := []) ⟨hx, hb, hml, hown, hts⟩ (k_X9_liveBy_v1 l dC dI h0 p1 tp nw im sl rd wk fm mt ch dy tn ta0 ta1 ta2 ta3 ta4 ta5 ta6 ta7 ta8 ta9 (by omega) (by omega) s.heap.size) (cwV 1 hts (z_gV zw_t5_215 zw_t5_217 zw_s4_0 zw_t1_1 zw_t5_218) rfl rfl rfl (by decide +kernel) ⟨(Nat.le_of_ble_eq_true rfl), (Nat.le_of_ble_eq_true rfl)⟩) (z_preV hPc hKc hDc (ci := 9) (q0 := 0) rfl rfl) rfl rfl hl.1 rfl (lv_room (Nat.le_of_ble_eq_true rfl)) dX9_ends_14 ⟨(Nat.le_of_ble_eq_true rfl), (Nat.le_of_ble_eq_true rfl)⟩) hS (fun q _ h => hFc q h) hFc (fun r_6 u t H1 locs ht hvm hw hB hz1 hk1 hS => ?_)
        obtain ⟨hP, hD, hK⟩ := z_after [] hB ht hvm hP hD hK [0, 1, 2] [] rfl rfl (by decide) (by decide) hk1 hFc
        generalize H1 = H at hP hS ⊢
        have hP : va_P (dC, dI) vwCl [(h0, .inr (9, [.ref tp, .int 0, .int 0, .int (-1), .ref nw, .ref im, .ref sl, .ref rd, .ref wk, .ref fm, .ref mt, .ref ch, .ref dy])), (nw, .inr (3, [.int 0, .ref tn, .int 0, .int 0, .int 0, .int 0])), (tn, .inr (7, [.int 0, .int 0, .int 0, .int 0, .int 0, .int 0, .int 0, .int 0, .ref ta0, .ref ta1, .ref ta2, .ref ta3, .ref ta4, .ref ta5, .ref ta6, .ref ta7, .ref ta8, .ref ta9]))] H := hP
        have hD : va_D A [(h0, .inr (9, [.ref tp, .int 0, .int 0, .int (-1), .ref nw, .ref im, .ref sl, .ref rd, .ref wk, .ref fm, .ref mt, .ref ch, .ref dy])), (nw, .inr (3, [.int 0, .ref tn, .int 0, .int 0, .int 0, .int 0])), (tn, .inr (7, [.int 0, .int 0, .int 0, .int 0, .int 0, .int 0, .int 0, .int 0, .ref ta0, .ref ta1, .ref ta2, .ref ta3, .ref ta4, .ref ta5, .ref ta6, .ref ta7, .ref ta8, .ref ta9]))] := hD
        have hK : va_K (dC, dI) vwCl [] s := hK
        obtain rfl : r_6 = (-2) := hw
        refine lv_istore_n (lv' := [(3, .int (-2)), (0, .ref h0), (1, .int p1), (2, .int p2)]) hx hb dX9_ends_17 rfl hl (by decide) rfl (fun ls hl => ?_)
        refine lv_iload_n hx hb dX9_ends_18 rfl (lv_at hl 0 rfl) ?_
        refine lv_if_ge (tgt := 24) hx hb dX9_ends_19 (by decide) (fun q => absurd q (by decide)) (fun _ => ?_)
        refine lv_iload_n hx hb dX9_ends_22 rfl (lv_at hl 0 rfl) ?_
        exact W.iret (v := (-2)) hx hb hr (fun t ht hW => ⟨⟨(-2), (), rfl, rfl, trivial⟩, hS.F ht⟩) hS.2.2 dX9_ends_23
      · have ic_5 := z_nle (k := 2) (by decide) c_5
        refine lv_bipush (v := (-2)) hx hb dX9_ends_9 (by decide) ?_
        exact W.iret (v := (-2)) hx hb hr (fun t ht hW => ⟨⟨(-2), (), rfl, rfl, trivial⟩, hS.F ht⟩) hS.2.2 dX9_ends_11
  · refine Met.ofW (cc := cX9_ends) (maxL := 4) (ret := (some .int)) (by decide) rfl ?_
    intro p e s m args below meth c s₁ B hml hv
    obtain ⟨rfl, hsz, hP, hK, hD0⟩ := hv
    have hx := B.exec
    have hb := B.bytes
    have hr := B.returns
    have hts := z_hts (atoms_spec (ws := .code yX9_ends cX9_ends 4 (some .int) :: zT) B.pre)
    have hown : s.vm.findClass RX9 = some m.cls := findClass_of_methodNamed B.named
    have hlocks := B.notSynchronized
    subst hsz
    have hD := hD0.self (sz := s.heap.size)
    generalize hAe : va_A [(h0, .inr (9, [.ref tp, .int 0, .int 0, .int (-1), .ref nw, .ref im, .ref sl, .ref rd, .ref wk, .ref fm, .ref mt, .ref ch, .ref dy])), (nw, .inr (3, [.int 0, .ref tn, .int 0, .int 0, .int 0, .int 0])), (tn, .inr (7, [.int 0, .int 0, .int 0, .int 0, .int 0, .int 0, .int 0, .int 0, .ref ta0, .ref ta1, .ref ta2, .ref ta3, .ref ta4, .ref ta5, .ref ta6, .ref ta7, .ref ta8, .ref ta9]))] s.heap.size = A at hD ⊢
    have hA : ∀ q : Nat, s.heap.size ≤ q → A q := fun q h => by rw [← hAe]; exact Or.inr h
    have hS : va_S A s.heap s.heap [] := va_S.rf
    have hP : va_P (dC, dI) vwCl [(h0, .inr (9, [.ref tp, .int 0, .int 0, .int (-1), .ref nw, .ref im, .ref sl, .ref rd, .ref wk, .ref fm, .ref mt, .ref ch, .ref dy])), (nw, .inr (3, [.int 0, .ref tn, .int 0, .int 0, .int 0, .int 0])), (tn, .inr (7, [.int 0, .int 0, .int 0, .int 0, .int 0, .int 0, .int 0, .int 0, .ref ta0, .ref ta1, .ref ta2, .ref ta3, .ref ta4, .ref ta5, .ref ta6, .ref ta7, .ref ta8, .ref ta9]))] s.heap := hP
    have hl := lv_entry ([.ref h0, .int p1, .int p2]) (n := 4) (Nat.le_of_ble_eq_true rfl)
    rw [lg_entry_eq]
    generalize (lg_sl ([.ref h0, .int p1, .int p2]) ++ List.replicate (4 - (lg_sl ([.ref h0, .int p1, .int p2])).length) Slot.unset).toArray = ls at hl ⊢
    have hl : lv_has ls 4 [(0, .ref h0), (1, .int p1), (2, .int p2)] := hl
    refine lv_iload_n hx hb dX9_ends_0 rfl (lv_at hl 2 rfl) ?_
    refine lv_if_lt (tgt := 9) hx hb dX9_ends_1 (by decide) (fun c_7 => ?_) (fun c_7 => ?_)
    · have ic_7 := z_lt (k := 0) (by decide) c_7
      refine lv_bipush (v := (-2)) hx hb dX9_ends_9 (by decide) ?_
      exact W.iret (v := (-2)) hx hb hr (fun t ht hW => ⟨⟨(-2), (), rfl, rfl, trivial⟩, hS.F ht⟩) hS.2.2 dX9_ends_11
    · have ic_7 := z_nlt (k := 0) (by decide) c_7
      refine lv_iload_n hx hb dX9_ends_4 rfl (lv_at hl 2 rfl) ?_
      refine lv_iconst (v := 2) hx hb dX9_ends_5 (by decide) ?_
      refine lv_icmp_le (tgt := 12) hx hb dX9_ends_6 (by decide) (fun c_8 => ?_) (fun c_8 => ?_)
      · have ic_8 := z_le (k := 2) (by decide) c_8
        refine lv_aload_n hx hb dX9_ends_12 rfl (lv_at hl 0 rfl) ?_
        refine lv_iload_n hx hb dX9_ends_13 rfl (lv_at hl 1 rfl) ?_
        have hPc := hP.sub (ws' := [(h0, .inr (9, [.ref tp, .int 0, .int 0, .int (-1), .ref nw, .ref im, .ref sl, .ref rd, .ref wk, .ref fm, .ref mt, .ref ch, .ref dy]))]) [0] rfl
        have hDc := hD.sub (ws' := [(h0, .inr (9, [.ref tp, .int 0, .int 0, .int (-1), .ref nw, .ref im, .ref sl, .ref rd, .ref wk, .ref fm, .ref mt, .ref ch, .ref dy]))]) [0] (by decide) rfl
        have hKc := hK.sub (tys' := []) [] rfl
        have hFc := va_free (wc := [(h0, .inr (9, [.ref tp, .int 0, .int 0, .int (-1), .ref nw, .ref im, .ref sl, .ref rd, .ref wk, .ref fm, .ref mt, .ref ch, .ref dy]))]) hD hS hA [0] rfl
        refine va_calli (va_runV (As := [.int p1]) (rest := []) ⟨hx, hb, hml, hown, hts⟩ (k_X9_liveBy_v2 l dC dI h0 p1 tp nw im sl rd wk fm mt ch dy (by omega) s.heap.size) (cwV 1 hts (z_gV zw_t5_215 zw_t5_217 zw_s4_0 zw_t1_1 zw_t5_218) rfl rfl rfl (by decide +kernel) ⟨(Nat.le_of_ble_eq_true rfl), (Nat.le_of_ble_eq_true rfl)⟩) (z_preV hPc hKc hDc (ci := 9) (q0 := 0) rfl rfl) rfl rfl hl.1 rfl (lv_room (Nat.le_of_ble_eq_true rfl)) dX9_ends_14 ⟨(Nat.le_of_ble_eq_true rfl), (Nat.le_of_ble_eq_true rfl)⟩) hS (fun q _ h => hFc q h) hFc (fun r_9 u t H1 locs ht hvm hw hB hz1 hk1 hS => ?_)
        obtain ⟨hP, hD, hK⟩ := z_after [(nw, .inr (3, [.int 0, .ref tn, .int 0, .int 0, .int 0, .int 0])), (tn, .inr (7, [.int 0, .int 0, .int 0, .int 0, .int 0, .int 0, .int 0, .int 0, .ref ta0, .ref ta1, .ref ta2, .ref ta3, .ref ta4, .ref ta5, .ref ta6, .ref ta7, .ref ta8, .ref ta9]))] hB ht hvm hP hD hK [0] [1, 2] rfl rfl (by decide) (by decide) hk1 hFc
        generalize H1 = H at hP hS ⊢
        have hP : va_P (dC, dI) vwCl [(nw, .inr (3, [.int 0, .ref tn, .int 0, .int 0, .int 0, .int 0])), (tn, .inr (7, [.int 0, .int 0, .int 0, .int 0, .int 0, .int 0, .int 0, .int 0, .ref ta0, .ref ta1, .ref ta2, .ref ta3, .ref ta4, .ref ta5, .ref ta6, .ref ta7, .ref ta8, .ref ta9])), (h0, .inr (9, [.ref tp, .int 0, .int 0, .int (-1), .ref nw, .ref im, .ref sl, .ref rd, .ref wk, .ref fm, .ref mt, .ref ch, .ref dy]))] H := hP
        have hD : va_D A [(nw, .inr (3, [.int 0, .ref tn, .int 0, .int 0, .int 0, .int 0])), (tn, .inr (7, [.int 0, .int 0, .int 0, .int 0, .int 0, .int 0, .int 0, .int 0, .ref ta0, .ref ta1, .ref ta2, .ref ta3, .ref ta4, .ref ta5, .ref ta6, .ref ta7, .ref ta8, .ref ta9])), (h0, .inr (9, [.ref tp, .int 0, .int 0, .int (-1), .ref nw, .ref im, .ref sl, .ref rd, .ref wk, .ref fm, .ref mt, .ref ch, .ref dy]))] := hD
        have hK : va_K (dC, dI) vwCl [] s := hK
        obtain rfl : r_9 = (-2) := hw
        refine lv_istore_n (lv' := [(3, .int (-2)), (0, .ref h0), (1, .int p1), (2, .int p2)]) hx hb dX9_ends_17 rfl hl (by decide) rfl (fun ls hl => ?_)
        refine lv_iload_n hx hb dX9_ends_18 rfl (lv_at hl 0 rfl) ?_
        refine lv_if_ge (tgt := 24) hx hb dX9_ends_19 (by decide) (fun q => absurd q (by decide)) (fun _ => ?_)
        refine lv_iload_n hx hb dX9_ends_22 rfl (lv_at hl 0 rfl) ?_
        exact W.iret (v := (-2)) hx hb hr (fun t ht hW => ⟨⟨(-2), (), rfl, rfl, trivial⟩, hS.F ht⟩) hS.2.2 dX9_ends_23
      · have ic_8 := z_nle (k := 2) (by decide) c_8
        refine lv_bipush (v := (-2)) hx hb dX9_ends_9 (by decide) ?_
        exact W.iret (v := (-2)) hx hb hr (fun t ht hW => ⟨⟨(-2), (), rfl, rfl, trivial⟩, hS.F ht⟩) hS.2.2 dX9_ends_11
set_option maxHeartbeats 4000000 in
set_option maxRecDepth 100000 in
theorem k_X9_draw (l : Launch) (dC : Nat → ClassId) (dI : Nat → Nat → Nat) (h0 : Nat) (p1 : Int32) (tp : Nat) (nw : Nat) (im : Nat) (sl : Nat) (rd : Nat) (wk : Nat) (fm : Nat) (mt : Nat) (ch : Nat) (dy : Nat) (tn : Nat) (ta0 : Nat) (ta1 : Nat) (ta2 : Nat) (ta3 : Nat) (ta4 : Nat) (ta5 : Nat) (ta6 : Nat) (ta7 : Nat) (ta8 : Nat) (ta9 : Nat)  (sz : Nat) : Met l yX9_draw (.code yX9_draw cX9_draw 2 (some .int) :: zT) ({ frames := 0, cells := 0, slots := 0, locals := 0 }) (va_Pc [.ref h0, .int p1] (zB dC dI [(h0, .inr (9, [.ref tp, .int 0, .int 0, .int (-1), .ref nw, .ref im, .ref sl, .ref rd, .ref wk, .ref fm, .ref mt, .ref ch, .ref dy])), (nw, .inr (3, [.int 0, .ref tn, .int 0, .int 0, .int 0, .int 0])), (tn, .inr (7, [.int 0, .int 0, .int 0, .int 0, .int 0, .int 0, .int 0, .int 0, .ref ta0, .ref ta1, .ref ta2, .ref ta3, .ref ta4, .ref ta5, .ref ta6, .ref ta7, .ref ta8, .ref ta9]))] [] sz)) (va_Qi (fun (r : Int32) (_ : Unit) => r = (-2)) (fun _ _ => True) (va_A [(h0, .inr (9, [.ref tp, .int 0, .int 0, .int (-1), .ref nw, .ref im, .ref sl, .ref rd, .ref wk, .ref fm, .ref mt, .ref ch, .ref dy])), (nw, .inr (3, [.int 0, .ref tn, .int 0, .int 0, .int 0, .int 0])), (tn, .inr (7, [.int 0, .int 0, .int 0, .int 0, .int 0, .int 0, .int 0, .int 0, .ref ta0, .ref ta1, .ref ta2, .ref ta3, .ref ta4, .ref ta5, .ref ta6, .ref ta7, .ref ta8, .ref ta9]))] sz)) 0 0 (va_A [(h0, .inr (9, [.ref tp, .int 0, .int 0, .int (-1), .ref nw, .ref im, .ref sl, .ref rd, .ref wk, .ref fm, .ref mt, .ref ch, .ref dy])), (nw, .inr (3, [.int 0, .ref tn, .int 0, .int 0, .int 0, .int 0])), (tn, .inr (7, [.int 0, .int 0, .int 0, .int 0, .int 0, .int 0, .int 0, .int 0, .ref ta0, .ref ta1, .ref ta2, .ref ta3, .ref ta4, .ref ta5, .ref ta6, .ref ta7, .ref ta8, .ref ta9]))] sz) := by
  refine Met.ofW (cc := cX9_draw) (maxL := 2) (ret := (some .int)) (by decide) rfl ?_
  intro p e s m args below meth c s₁ B hml hv
  obtain ⟨rfl, hsz, hP, hK, hD0⟩ := hv
  have hx := B.exec
  have hb := B.bytes
  have hr := B.returns
  have hts := z_hts (atoms_spec (ws := .code yX9_draw cX9_draw 2 (some .int) :: zT) B.pre)
  have hown : s.vm.findClass RX9 = some m.cls := findClass_of_methodNamed B.named
  have hlocks := B.notSynchronized
  subst hsz
  have hD := hD0.self (sz := s.heap.size)
  generalize hAe : va_A [(h0, .inr (9, [.ref tp, .int 0, .int 0, .int (-1), .ref nw, .ref im, .ref sl, .ref rd, .ref wk, .ref fm, .ref mt, .ref ch, .ref dy])), (nw, .inr (3, [.int 0, .ref tn, .int 0, .int 0, .int 0, .int 0])), (tn, .inr (7, [.int 0, .int 0, .int 0, .int 0, .int 0, .int 0, .int 0, .int 0, .ref ta0, .ref ta1, .ref ta2, .ref ta3, .ref ta4, .ref ta5, .ref ta6, .ref ta7, .ref ta8, .ref ta9]))] s.heap.size = A at hD ⊢
  have hA : ∀ q : Nat, s.heap.size ≤ q → A q := fun q h => by rw [← hAe]; exact Or.inr h
  have hS : va_S A s.heap s.heap [] := va_S.rf
  have hP : va_P (dC, dI) vwCl [(h0, .inr (9, [.ref tp, .int 0, .int 0, .int (-1), .ref nw, .ref im, .ref sl, .ref rd, .ref wk, .ref fm, .ref mt, .ref ch, .ref dy])), (nw, .inr (3, [.int 0, .ref tn, .int 0, .int 0, .int 0, .int 0])), (tn, .inr (7, [.int 0, .int 0, .int 0, .int 0, .int 0, .int 0, .int 0, .int 0, .ref ta0, .ref ta1, .ref ta2, .ref ta3, .ref ta4, .ref ta5, .ref ta6, .ref ta7, .ref ta8, .ref ta9]))] s.heap := hP
  have hl := lv_entry ([.ref h0, .int p1]) (n := 2) (Nat.le_of_ble_eq_true rfl)
  rw [lg_entry_eq]
  generalize (lg_sl ([.ref h0, .int p1]) ++ List.replicate (2 - (lg_sl ([.ref h0, .int p1])).length) Slot.unset).toArray = ls at hl ⊢
  have hl : lv_has ls 2 [(0, .ref h0), (1, .int p1)] := hl
  refine lv_iload_n hx hb dX9_draw_0 rfl (lv_at hl 1 rfl) ?_
  refine lv_if_lt (tgt := 24) hx hb dX9_draw_1 (by decide) (fun c_1 => ?_) (fun c_1 => ?_)
  · have ic_1 := z_lt (k := 0) (by decide) c_1
    refine lv_bipush (v := (-2)) hx hb dX9_draw_24 (by decide) ?_
    exact W.iret (v := (-2)) hx hb hr (fun t ht hW => ⟨⟨(-2), (), rfl, rfl, trivial⟩, hS.F ht⟩) hS.2.2 dX9_draw_26
  · have ic_1 := z_nlt (k := 0) (by decide) c_1
    refine lv_iload_n hx hb dX9_draw_4 rfl (lv_at hl 1 rfl) ?_
    refine lv_ldcw (v := 2000000000) hx hb hown (hts _ zw_t6_14) dX9_draw_5 ?_
    refine lv_icmp_gt (tgt := 24) hx hb dX9_draw_8 (by decide) (fun c_2 => ?_) (fun c_2 => ?_)
    · have ic_2 := z_gt (k := 2000000000) (by decide) c_2
      refine lv_bipush (v := (-2)) hx hb dX9_draw_24 (by decide) ?_
      exact W.iret (v := (-2)) hx hb hr (fun t ht hW => ⟨⟨(-2), (), rfl, rfl, trivial⟩, hS.F ht⟩) hS.2.2 dX9_draw_26
    · have ic_2 := z_ngt (k := 2000000000) (by decide) c_2
      refine lv_aload_n hx hb dX9_draw_11 rfl (lv_at hl 0 rfl) ?_
      refine va_get (D := (dC, dI)) (ci := 9) (v := .ref nw) (C := RX9) (T := TX9) (N := 13) hx hb hts zl_X9 hown hK hP 0 rfl rfl 4 (by decide) (hts _ zw_t2_193) (fun _ h9 => h9) rfl dX9_draw_12 ?_
      refine va_get (D := (dC, dI)) (ci := 3) (v := .ref tn) (C := RX3) (T := TX3) (N := 6) hx hb hts zl_X3 hown hK hP 1 rfl rfl 1 (by decide) (hts _ zw_t1_156) (fun _ h9 => h9) rfl dX9_draw_15 ?_
      refine va_get (D := (dC, dI)) (ci := 7) (v := .int 0) (C := RX7) (T := TX7) (N := 18) hx hb hts zl_X7 hown hK hP 2 rfl rfl 0 (by decide) (hts _ zw_t1_46) (fun _ h9 => h9) rfl dX9_draw_18 ?_
      refine lv_if_ne (tgt := 27) hx hb dX9_draw_21 (by decide) (fun q => absurd q (by decide)) (fun _ => ?_)
      refine lv_bipush (v := (-2)) hx hb dX9_draw_24 (by decide) ?_
      exact W.iret (v := (-2)) hx hb hr (fun t ht hW => ⟨⟨(-2), (), rfl, rfl, trivial⟩, hS.F ht⟩) hS.2.2 dX9_draw_26
set_option maxHeartbeats 4000000 in
set_option maxRecDepth 100000 in
theorem k_X9_days (l : Launch) (dC : Nat → ClassId) (dI : Nat → Nat → Nat) (h0 : Nat) (p1 : Int32) (p2 : Int32) (p3 : Int32) (p4 : Int32) (p5 : Int32) (tp : Nat) (nw : Nat) (im : Nat) (sl : Nat) (rd : Nat) (wk : Nat) (fm : Nat) (mt : Nat) (ch : Nat) (dy : Nat) (tn : Nat) (ta0 : Nat) (ta1 : Nat) (ta2 : Nat) (ta3 : Nat) (ta4 : Nat) (ta5 : Nat) (ta6 : Nat) (ta7 : Nat) (ta8 : Nat) (ta9 : Nat)  (sz : Nat) : Met l yX9_days (.code yX9_days cX9_days 9 (some .int) :: zT) ({ frames := 3, cells := 0, slots := 0, locals := 68 }) (va_Pc [.ref h0, .int p1, .int p2, .int p3, .int p4, .int p5] (zB dC dI [(h0, .inr (9, [.ref tp, .int 0, .int 0, .int (-1), .ref nw, .ref im, .ref sl, .ref rd, .ref wk, .ref fm, .ref mt, .ref ch, .ref dy])), (nw, .inr (3, [.int 0, .ref tn, .int 0, .int 0, .int 0, .int 0])), (tn, .inr (7, [.int 0, .int 0, .int 0, .int 0, .int 0, .int 0, .int 0, .int 0, .ref ta0, .ref ta1, .ref ta2, .ref ta3, .ref ta4, .ref ta5, .ref ta6, .ref ta7, .ref ta8, .ref ta9]))] [] sz)) (va_Qi (fun (r : Int32) (_ : Unit) => r = (-2)) (fun _ _ => True) (va_A [(h0, .inr (9, [.ref tp, .int 0, .int 0, .int (-1), .ref nw, .ref im, .ref sl, .ref rd, .ref wk, .ref fm, .ref mt, .ref ch, .ref dy])), (nw, .inr (3, [.int 0, .ref tn, .int 0, .int 0, .int 0, .int 0])), (tn, .inr (7, [.int 0, .int 0, .int 0, .int 0, .int 0, .int 0, .int 0, .int 0, .ref ta0, .ref ta1, .ref ta2, .ref ta3, .ref ta4, .ref ta5, .ref ta6, .ref ta7, .ref ta8, .ref ta9]))] sz)) 0 0 (va_A [(h0, .inr (9, [.ref tp, .int 0, .int 0, .int (-1), .ref nw, .ref im, .ref sl, .ref rd, .ref wk, .ref fm, .ref mt, .ref ch, .ref dy])), (nw, .inr (3, [.int 0, .ref tn, .int 0, .int 0, .int 0, .int 0])), (tn, .inr (7, [.int 0, .int 0, .int 0, .int 0, .int 0, .int 0, .int 0, .int 0, .ref ta0, .ref ta1, .ref ta2, .ref ta3, .ref ta4, .ref ta5, .ref ta6, .ref ta7, .ref ta8, .ref ta9]))] sz) := by
  refine Met.ofW (cc := cX9_days) (maxL := 9) (ret := (some .int)) (by decide) rfl ?_
  intro p e s m args below meth c s₁ B hml hv
  obtain ⟨rfl, hsz, hP, hK, hD0⟩ := hv
  have hx := B.exec
  have hb := B.bytes
  have hr := B.returns
  have hts := z_hts (atoms_spec (ws := .code yX9_days cX9_days 9 (some .int) :: zT) B.pre)
  have hown : s.vm.findClass RX9 = some m.cls := findClass_of_methodNamed B.named
  have hlocks := B.notSynchronized
  subst hsz
  have hD := hD0.self (sz := s.heap.size)
  generalize hAe : va_A [(h0, .inr (9, [.ref tp, .int 0, .int 0, .int (-1), .ref nw, .ref im, .ref sl, .ref rd, .ref wk, .ref fm, .ref mt, .ref ch, .ref dy])), (nw, .inr (3, [.int 0, .ref tn, .int 0, .int 0, .int 0, .int 0])), (tn, .inr (7, [.int 0, .int 0, .int 0, .int 0, .int 0, .int 0, .int 0, .int 0, .ref ta0, .ref ta1, .ref ta2, .ref ta3, .ref ta4, .ref ta5, .ref ta6, .ref ta7, .ref ta8, .ref ta9]))] s.heap.size = A at hD ⊢
  have hA : ∀ q : Nat, s.heap.size ≤ q → A q := fun q h => by rw [← hAe]; exact Or.inr h
  have hS : va_S A s.heap s.heap [] := va_S.rf
  have hP : va_P (dC, dI) vwCl [(h0, .inr (9, [.ref tp, .int 0, .int 0, .int (-1), .ref nw, .ref im, .ref sl, .ref rd, .ref wk, .ref fm, .ref mt, .ref ch, .ref dy])), (nw, .inr (3, [.int 0, .ref tn, .int 0, .int 0, .int 0, .int 0])), (tn, .inr (7, [.int 0, .int 0, .int 0, .int 0, .int 0, .int 0, .int 0, .int 0, .ref ta0, .ref ta1, .ref ta2, .ref ta3, .ref ta4, .ref ta5, .ref ta6, .ref ta7, .ref ta8, .ref ta9]))] s.heap := hP
  have hl := lv_entry ([.ref h0, .int p1, .int p2, .int p3, .int p4, .int p5]) (n := 9) (Nat.le_of_ble_eq_true rfl)
  rw [lg_entry_eq]
  generalize (lg_sl ([.ref h0, .int p1, .int p2, .int p3, .int p4, .int p5]) ++ List.replicate (9 - (lg_sl ([.ref h0, .int p1, .int p2, .int p3, .int p4, .int p5])).length) Slot.unset).toArray = ls at hl ⊢
  have hl : lv_has ls 9 [(0, .ref h0), (1, .int p1), (2, .int p2), (3, .int p3), (4, .int p4), (5, .int p5)] := hl
  refine lv_aload_n hx hb dX9_days_0 rfl (lv_at hl 0 rfl) ?_
  refine va_get (D := (dC, dI)) (ci := 9) (v := .ref nw) (C := RX9) (T := TX9) (N := 13) hx hb hts zl_X9 hown hK hP 0 rfl rfl 4 (by decide) (hts _ zw_t2_193) (fun _ h9 => h9) rfl dX9_days_1 ?_
  refine va_get (D := (dC, dI)) (ci := 3) (v := .ref tn) (C := RX3) (T := TX3) (N := 6) hx hb hts zl_X3 hown hK hP 1 rfl rfl 1 (by decide) (hts _ zw_t1_156) (fun _ h9 => h9) rfl dX9_days_4 ?_
  refine lv_astore (lv' := [(6, .ref tn), (0, .ref h0), (1, .int p1), (2, .int p2), (3, .int p3), (4, .int p4), (5, .int p5)]) hx hb dX9_days_7 hl (by decide) rfl (fun ls hl => ?_)
  refine lv_iload_n hx hb dX9_days_9 rfl (lv_at hl 2 rfl) ?_
  refine lv_if_lt (tgt := 45) hx hb dX9_days_10 (by decide) (fun c_1 => ?_) (fun c_1 => ?_)
  · have ic_1 := z_lt (k := 0) (by decide) c_1
    refine lv_bipush (v := (-2)) hx hb dX9_days_45 (by decide) ?_
    exact W.iret (v := (-2)) hx hb hr (fun t ht hW => ⟨⟨(-2), (), rfl, rfl, trivial⟩, hS.F ht⟩) hS.2.2 dX9_days_47
  · have ic_1 := z_nlt (k := 0) (by decide) c_1
    refine lv_iload_n hx hb dX9_days_13 rfl (lv_at hl 2 rfl) ?_
    refine lv_ldcw (v := 2000000000) hx hb hown (hts _ zw_t6_14) dX9_days_14 ?_
    refine lv_icmp_gt (tgt := 45) hx hb dX9_days_17 (by decide) (fun c_2 => ?_) (fun c_2 => ?_)
    · have ic_2 := z_gt (k := 2000000000) (by decide) c_2
      refine lv_bipush (v := (-2)) hx hb dX9_days_45 (by decide) ?_
      exact W.iret (v := (-2)) hx hb hr (fun t ht hW => ⟨⟨(-2), (), rfl, rfl, trivial⟩, hS.F ht⟩) hS.2.2 dX9_days_47
    · have ic_2 := z_ngt (k := 2000000000) (by decide) c_2
      refine lv_iload_n hx hb dX9_days_20 rfl (lv_at hl 3 rfl) ?_
      refine lv_iconst (v := 1) hx hb dX9_days_21 (by decide) ?_
      refine lv_icmp_lt (tgt := 45) hx hb dX9_days_22 (by decide) (fun c_3 => ?_) (fun c_3 => ?_)
      · have ic_3 := z_lt (k := 1) (by decide) c_3
        refine lv_bipush (v := (-2)) hx hb dX9_days_45 (by decide) ?_
        exact W.iret (v := (-2)) hx hb hr (fun t ht hW => ⟨⟨(-2), (), rfl, rfl, trivial⟩, hS.F ht⟩) hS.2.2 dX9_days_47
      · have ic_3 := z_nlt (k := 1) (by decide) c_3
        refine lv_iload_n hx hb dX9_days_25 rfl (lv_at hl 3 rfl) ?_
        refine lv_bipush (v := 100) hx hb dX9_days_26 (by decide) ?_
        refine lv_icmp_gt (tgt := 45) hx hb dX9_days_28 (by decide) (fun c_4 => ?_) (fun c_4 => ?_)
        · have ic_4 := z_gt (k := 100) (by decide) c_4
          refine lv_bipush (v := (-2)) hx hb dX9_days_45 (by decide) ?_
          exact W.iret (v := (-2)) hx hb hr (fun t ht hW => ⟨⟨(-2), (), rfl, rfl, trivial⟩, hS.F ht⟩) hS.2.2 dX9_days_47
        · have ic_4 := z_ngt (k := 100) (by decide) c_4
          refine lv_aload hx hb dX9_days_31 (lv_at hl 0 rfl) ?_
          refine lv_iload_n hx hb dX9_days_33 rfl (lv_at hl 4 rfl) ?_
          refine lv_iconst (v := 0) hx hb dX9_days_34 (by decide) ?_
          refine lv_iload hx hb dX9_days_35 (lv_at hl 5 rfl) ?_
          refine lv_iload hx hb dX9_days_37 (lv_at hl 6 rfl) ?_
          have hPc := hP.sub (ws' := [(tn, .inr (7, [.int 0, .int 0, .int 0, .int 0, .int 0, .int 0, .int 0, .int 0, .ref ta0, .ref ta1, .ref ta2, .ref ta3, .ref ta4, .ref ta5, .ref ta6, .ref ta7, .ref ta8, .ref ta9]))]) [2] rfl
          have hDc := hD.sub (ws' := [(tn, .inr (7, [.int 0, .int 0, .int 0, .int 0, .int 0, .int 0, .int 0, .int 0, .ref ta0, .ref ta1, .ref ta2, .ref ta3, .ref ta4, .ref ta5, .ref ta6, .ref ta7, .ref ta8, .ref ta9]))]) [2] (by decide) rfl
          have hKc := hK.sub (tys' := []) [] rfl
          have hFc := va_free (wc := [(tn, .inr (7, [.int 0, .int 0, .int 0, .int 0, .int 0, .int 0, .int 0, .int 0, .ref ta0, .ref ta1, .ref ta2, .ref ta3, .ref ta4, .ref ta5, .ref ta6, .ref ta7, .ref ta8, .ref ta9]))]) hD hS hA [2] rfl
          refine va_calli (va_runV (As := [.int p3, .int 0, .int p4, .int p5]) (rest := []) ⟨hx, hb, hml, hown, hts⟩ (k_X7_hasTripBy l dC dI tn p3 (0) p4 p5 ta0 ta1 ta2 ta3 ta4 ta5 ta6 ta7 ta8 ta9 s.heap.size) (cwV 4 hts (z_gV zw_t4_115 zw_t4_116 zw_t4_117 zw_t1_3 zw_t4_118) rfl rfl rfl (by decide +kernel) ⟨(Nat.le_of_ble_eq_true rfl), (Nat.le_of_ble_eq_true rfl)⟩) (z_preV hPc hKc hDc (ci := 7) (q0 := 0) rfl rfl) rfl rfl hl.1 rfl (lv_room (Nat.le_of_ble_eq_true rfl)) dX9_days_39 ⟨(Nat.le_of_ble_eq_true rfl), (Nat.le_of_ble_eq_true rfl)⟩) hS (fun q _ h => hFc q h) hFc (fun r_5 u t H1 locs ht hvm hw hB hz1 hk1 hS => ?_)
          obtain ⟨hP, hD, hK⟩ := z_after [(h0, .inr (9, [.ref tp, .int 0, .int 0, .int (-1), .ref nw, .ref im, .ref sl, .ref rd, .ref wk, .ref fm, .ref mt, .ref ch, .ref dy])), (nw, .inr (3, [.int 0, .ref tn, .int 0, .int 0, .int 0, .int 0]))] hB ht hvm hP hD hK [2] [0, 1] rfl rfl (by decide) (by decide) hk1 hFc
          generalize H1 = H at hP hS ⊢
          have hP : va_P (dC, dI) vwCl [(h0, .inr (9, [.ref tp, .int 0, .int 0, .int (-1), .ref nw, .ref im, .ref sl, .ref rd, .ref wk, .ref fm, .ref mt, .ref ch, .ref dy])), (nw, .inr (3, [.int 0, .ref tn, .int 0, .int 0, .int 0, .int 0])), (tn, .inr (7, [.int 0, .int 0, .int 0, .int 0, .int 0, .int 0, .int 0, .int 0, .ref ta0, .ref ta1, .ref ta2, .ref ta3, .ref ta4, .ref ta5, .ref ta6, .ref ta7, .ref ta8, .ref ta9]))] H := hP
          have hD : va_D A [(h0, .inr (9, [.ref tp, .int 0, .int 0, .int (-1), .ref nw, .ref im, .ref sl, .ref rd, .ref wk, .ref fm, .ref mt, .ref ch, .ref dy])), (nw, .inr (3, [.int 0, .ref tn, .int 0, .int 0, .int 0, .int 0])), (tn, .inr (7, [.int 0, .int 0, .int 0, .int 0, .int 0, .int 0, .int 0, .int 0, .ref ta0, .ref ta1, .ref ta2, .ref ta3, .ref ta4, .ref ta5, .ref ta6, .ref ta7, .ref ta8, .ref ta9]))] := hD
          have hK : va_K (dC, dI) vwCl [] s := hK
          obtain rfl : r_5 = 0 := hw
          refine lv_if_ne (tgt := 48) hx hb dX9_days_42 (by decide) (fun q => absurd q (by decide)) (fun _ => ?_)
          refine lv_bipush (v := (-2)) hx hb dX9_days_45 (by decide) ?_
          exact W.iret (v := (-2)) hx hb hr (fun t ht hW => ⟨⟨(-2), (), rfl, rfl, trivial⟩, hS.F ht⟩) hS.2.2 dX9_days_47
